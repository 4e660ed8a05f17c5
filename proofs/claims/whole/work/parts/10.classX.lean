/-! The class, methods that write or throw: c.. where it answers, e.. where it throws. Rows laid by our own program (wip/gen/gt.py). -/
set_option maxHeartbeats 4000000 in
set_option maxRecDepth 100000 in
theorem cX_requireTimerNumber (l : Launch) (j : Int32) (hj : vp_in j 100) : Met l yX_requireTimerNumber (Cond.code yX_requireTimerNumber bX_requireTimerNumber 1 (none) :: tw_T) { frames := 0, cells := 0, slots := 0, locals := 0 } (va_Pc [.int j] (fun _ => True)) (va_Sv (fun _ => True)) 0 0 (fun _ => False) := by
  refine Met.ofW (cc := bX_requireTimerNumber) (maxL := 1) (ret := none) (by decide) rfl ?_
  intro p e s m args below meth c s₁ B hml hv
  obtain ⟨rfl, -⟩ := hv
  have hx := B.exec
  have hb := B.bytes
  have hr := B.returns
  have hT := fun (w : Cond) (h : w ∈ tw_T) => atoms_spec (ws := Cond.code yX_requireTimerNumber bX_requireTimerNumber 1 (none) :: tw_T) B.pre w (List.mem_cons_of_mem _ h)
  have hown : s.vm.findClass RX = some m.cls := findClass_of_methodNamed B.named
  have hlocks := B.notSynchronized
  have hl := lv_entry ([.int j]) (n := 1) (Nat.le_of_ble_eq_true rfl)
  rw [lg_entry_eq]
  generalize (lg_sl ([.int j]) ++ List.replicate (1 - (lg_sl ([.int j])).length) Slot.unset).toArray = ls at hl ⊢
  have hl : lv_has ls 1 [(0, .int j)] := hl
  refine lv_iload_n hx hb dX_requireTimerNumber_0 rfl (lv_at hl 0 rfl) ?_
  refine lv_if_lt (tgt := 10) hx hb dX_requireTimerNumber_1 (by decide) (fun hc1 => absurd hc1 ((tw_vp.mp hj).1)) (fun hc1 => ?_)
  refine lv_iload_n hx hb dX_requireTimerNumber_4 rfl (lv_at hl 0 rfl) ?_
  refine lv_bipush (v := 100) hx hb dX_requireTimerNumber_5 (by decide) ?_
  refine lv_icmp_lt (tgt := 20) hx hb dX_requireTimerNumber_7 (by decide) (fun hc2 => ?_) (fun hc2 => absurd ((tw_vp.mp hj).2) hc2)
  exact W.vret hx hb hr (fun t ht hW => ⟨rfl, trivial, ht⟩) (fun q hq => by cases hq) dX_requireTimerNumber_20
set_option maxHeartbeats 4000000 in
set_option maxRecDepth 100000 in
theorem eX_requireTimerNumber (l : Launch) (hfl : l.flags = pinnedFlags ++ [noTraceFlag]) (j : Int32) (hj : ¬ vp_in j 100) : xt_Met l yX_requireTimerNumber (Cond.code yX_requireTimerNumber bX_requireTimerNumber 1 (none) :: tw_T) { frames := 6, cells := 1, slots := 6, locals := 90 } (va_Pc [.int j] (fun U => tw_Z U U.heap)) (tw_thr tw_iae) 1 6 (fun _ => False) := by
  refine xt_ofW (cc := bX_requireTimerNumber) (maxL := 1) (ret := none) (by decide) rfl ?_
  intro p e s m args below meth c s₁ B hml hout hadm hv
  obtain ⟨rfl, hZ⟩ := hv
  have hx := B.exec
  have hb := B.bytes
  have hr := B.returns
  have hT := fun (w : Cond) (h : w ∈ tw_T) => atoms_spec (ws := Cond.code yX_requireTimerNumber bX_requireTimerNumber 1 (none) :: tw_T) B.pre w (List.mem_cons_of_mem _ h)
  have hown : s.vm.findClass RX = some m.cls := findClass_of_methodNamed B.named
  have hlocks := B.notSynchronized
  have hl := lv_entry ([.int j]) (n := 1) (Nat.le_of_ble_eq_true rfl)
  rw [lg_entry_eq]
  generalize (lg_sl ([.int j]) ++ List.replicate (1 - (lg_sl ([.int j])).length) Slot.unset).toArray = ls at hl ⊢
  have hl : lv_has ls 1 [(0, .int j)] := hl
  have htr := Launch.traces_off hfl hadm
  refine lv_iload_n hx hb dX_requireTimerNumber_0 rfl (lv_at hl 0 rfl) ?_
  refine lv_if_lt (tgt := 10) hx hb dX_requireTimerNumber_1 (by decide) (fun hc1 => ?_) (fun hc1 => ?_)
  · -- taken at 1: j < 0
    obtain ⟨q9, hq9⟩ := hZ.1 (86, "a TIMER is 0 .. 99") (by decide)
    exact xt_throw (tx := "a TIMER is 0 .. 99") (names := tw_nm) (q0 := q9) (E := tw_iae) hx hb htr hown (by decide +kernel) (by decide +kernel) (hT _ tt_58) (hT _ tt_6) hq9 (tw_ownA hT hZ) (hl.1.trans hml.symm) dX_requireTimerNumber_10 dX_requireTimerNumber_13 dX_requireTimerNumber_14 dX_requireTimerNumber_16 dX_requireTimerNumber_19 (fun x hx9 => hout x hx9 _) (Nat.le_of_ble_eq_true rfl) (Nat.le_of_ble_eq_true rfl) (Nat.le_of_ble_eq_true rfl) (Nat.le_of_ble_eq_true rfl) hlocks (fun t hW hE => ⟨_, rfl, hE⟩)
  · -- not taken at 1: j < 0
    refine lv_iload_n hx hb dX_requireTimerNumber_4 rfl (lv_at hl 0 rfl) ?_
    refine lv_bipush (v := 100) hx hb dX_requireTimerNumber_5 (by decide) ?_
    refine lv_icmp_lt (tgt := 20) hx hb dX_requireTimerNumber_7 (by decide) (fun hc2 => absurd hc2 (fun z => hj (tw_vp.mpr ⟨hc1, z⟩))) (fun hc2 => ?_)
    obtain ⟨q9, hq9⟩ := hZ.1 (86, "a TIMER is 0 .. 99") (by decide)
    exact xt_throw (tx := "a TIMER is 0 .. 99") (names := tw_nm) (q0 := q9) (E := tw_iae) hx hb htr hown (by decide +kernel) (by decide +kernel) (hT _ tt_58) (hT _ tt_6) hq9 (tw_ownA hT hZ) (hl.1.trans hml.symm) dX_requireTimerNumber_10 dX_requireTimerNumber_13 dX_requireTimerNumber_14 dX_requireTimerNumber_16 dX_requireTimerNumber_19 (fun x hx9 => hout x hx9 _) (Nat.le_of_ble_eq_true rfl) (Nat.le_of_ble_eq_true rfl) (Nat.le_of_ble_eq_true rfl) (Nat.le_of_ble_eq_true rfl) hlocks (fun t hW hE => ⟨_, rfl, hE⟩)
set_option maxHeartbeats 4000000 in
set_option maxRecDepth 100000 in
theorem cX_set (l : Launch) (dC : Nat → ClassId) (dI : Nat → Nat → Nat) (h0 a0 a1 a2 a3 : Nat) (k0 k1 k2 k3 : ClassId) (th : Nat → Int32) (tm : Nat → Int64) (pr ag : Nat → Int32) (ck : Int64) (nx : Int32) (sz : Nat) (j : Int32) (hj : vp_in j 100) (t : Int64) (ht0 : 0 ≤ t) (ht1 : t ≤ 70368744177664) (q : Int32) : Met l yX_set (Cond.code yX_set bX_set 5 (some .int) :: tw_T) { frames := 2, cells := 0, slots := 0, locals := 80 } (va_Pc [.ref h0, .int j, .long t, .int q] (fun U => U.heap.size = sz ∧ va_P (dC, dI) tw_cl (tw_wX h0 a0 a1 a2 a3 k0 k1 k2 k3 th tm pr ag ck nx) U.heap ∧ va_K (dC, dI) tw_cl (tw_k k0 k1 k2 k3) U ∧ va_D (fun _ => True) (tw_wX h0 a0 a1 a2 a3 k0 k1 k2 k3 th tm pr ag ck nx))) (va_Qi (S := Unit) (fun r _ => r = upd ag j.toNatClampNeg nx j.toNatClampNeg) (fun _ tz => va_P (dC, dI) tw_cl (tw_wX h0 a0 a1 a2 a3 k0 k1 k2 k3 (upd th j.toNatClampNeg (vp_nar .boolean 1)) (vp_updL tm j.toNatClampNeg t) (upd pr j.toNatClampNeg q) (upd ag j.toNatClampNeg nx) ck (nx + 1)) tz.heap ∧ va_D (va_A (tw_wX h0 a0 a1 a2 a3 k0 k1 k2 k3 th tm pr ag ck nx) sz) (tw_wX h0 a0 a1 a2 a3 k0 k1 k2 k3 (upd th j.toNatClampNeg (vp_nar .boolean 1)) (vp_updL tm j.toNatClampNeg t) (upd pr j.toNatClampNeg q) (upd ag j.toNatClampNeg nx) ck (nx + 1))) (va_A (tw_wX h0 a0 a1 a2 a3 k0 k1 k2 k3 th tm pr ag ck nx) sz)) 0 0 (va_A (tw_wX h0 a0 a1 a2 a3 k0 k1 k2 k3 th tm pr ag ck nx) sz) := by
  refine Met.ofW (cc := bX_set) (maxL := 5) (ret := some .int) (by decide) rfl ?_
  intro p e s m args below meth c s₁ B hml hv
  obtain ⟨rfl, hsz, hP, hK, hD0⟩ := hv
  have hx := B.exec
  have hb := B.bytes
  have hr := B.returns
  have hT := fun (w : Cond) (h : w ∈ tw_T) => atoms_spec (ws := Cond.code yX_set bX_set 5 (some .int) :: tw_T) B.pre w (List.mem_cons_of_mem _ h)
  have hown : s.vm.findClass RX = some m.cls := findClass_of_methodNamed B.named
  have hlocks := B.notSynchronized
  have hl := lv_entry ([.ref h0, .int j, .long t, .int q]) (n := 5) (Nat.le_of_ble_eq_true rfl)
  rw [lg_entry_eq]
  generalize (lg_sl ([.ref h0, .int j, .long t, .int q]) ++ List.replicate (5 - (lg_sl ([.ref h0, .int j, .long t, .int q])).length) Slot.unset).toArray = ls at hl ⊢
  have hl : lv_has ls 5 [(0, .ref h0), (1, .int j), (2, .long t), (4, .int q)] := hl
  subst hsz
  have hD := hD0.self (sz := s.heap.size)
  generalize hAe : va_A (tw_wX h0 a0 a1 a2 a3 k0 k1 k2 k3 th tm pr ag ck nx) s.heap.size = A at hD ⊢
  have hS : va_S A s.heap s.heap [] := va_S.rf
  refine lv_iload_n hx hb dX_set_0 rfl (lv_at hl 1 rfl) ?_
  refine va_csv (W.runS (As := [.int j]) (rest := []) ⟨hx, hb, hml, hown, hT⟩ (cX_requireTimerNumber l j hj) (cwS 1 hT (tw_gS tt_55 tt_56 tt_1 tt_57) rfl rfl rfl ⟨rfl, by decide +kernel⟩ ⟨Nat.le_of_ble_eq_true rfl, Nat.le_of_ble_eq_true rfl⟩) ⟨fun a U g mk q => q, fun U hU hW => ⟨rfl, trivial⟩⟩ rfl rfl hl.1 rfl (lv_room (Nat.le_of_ble_eq_true rfl)) dX_set_1 ⟨Nat.le_of_ble_eq_true rfl, Nat.le_of_ble_eq_true rfl⟩) (fun _ => ?_)
  refine lv_lload_n hx hb dX_set_4 rfl (lv_at hl 2 rfl) ?_
  refine lv_lconst (v := 0) hx hb dX_set_5 (by decide) ?_
  refine W.lcmp hx hb dX_set_6 ?_
  refine lv_if_lt (tgt := 18) hx hb dX_set_7 (by decide) (fun hc1 => absurd hc1 (fun z => Int64.not_lt.mpr ht0 ((lg_cmp_lt _ _).mp z))) (fun hc1 => ?_)
  refine lv_lload_n hx hb dX_set_10 rfl (lv_at hl 2 rfl) ?_
  refine lv_ldc2 (v := 70368744177664) hx hb hown (hT _ tt_125) dX_set_11 ?_
  refine W.lcmp hx hb dX_set_14 ?_
  refine lv_if_le (tgt := 28) hx hb dX_set_15 (by decide) (fun hc2 => ?_) (fun hc2 => absurd ((lg_cmp_le _ _).mpr ht1) hc2)
  refine lv_aload_n hx hb dX_set_28 rfl (lv_at hl 0 rfl) ?_
  refine va_get (D := (dC, dI)) (ci := 0) (v := .ref a0) (C := RX) (T := FX) (N := 6) hx hb hT in_X hown hK hP 0 rfl rfl 0 (by decide) (hT _ tt_16) (fun _ h9 => h9) rfl dX_set_29 ?_
  refine lv_iload_n hx hb dX_set_32 rfl (lv_at hl 1 rfl) ?_
  refine lv_iconst (v := 1) hx hb dX_set_33 (by decide) ?_
  refine va_zast hx hb hK hP hD hS 1 0 rfl rfl hj dX_set_34 (fun H locs hP hD hS => ?_)
  have hP : va_P (dC, dI) tw_cl [(h0, .inr (0, [.ref a0, .ref a1, .ref a2, .ref a3, .long ck, .int nx])), (a0, .inl (k0, 100, .inl (upd th j.toNatClampNeg (vp_nar .boolean 1)))), (a1, .inl (k1, 100, .inr (.inl tm))), (a2, .inl (k2, 100, .inl pr)), (a3, .inl (k3, 100, .inl ag))] H := hP
  have hD : va_D A [(h0, .inr (0, [.ref a0, .ref a1, .ref a2, .ref a3, .long ck, .int nx])), (a0, .inl (k0, 100, .inl (upd th j.toNatClampNeg (vp_nar .boolean 1)))), (a1, .inl (k1, 100, .inr (.inl tm))), (a2, .inl (k2, 100, .inl pr)), (a3, .inl (k3, 100, .inl ag))] := hD
  refine lv_aload_n hx hb dX_set_35 rfl (lv_at hl 0 rfl) ?_
  refine va_get (D := (dC, dI)) (ci := 0) (v := .ref a1) (C := RX) (T := FX) (N := 6) hx hb hT in_X hown hK hP 0 rfl rfl 1 (by decide) (hT _ tt_17) (fun _ h9 => h9) rfl dX_set_36 ?_
  refine lv_iload_n hx hb dX_set_39 rfl (lv_at hl 1 rfl) ?_
  refine lv_lload_n hx hb dX_set_40 rfl (lv_at hl 2 rfl) ?_
  refine va_last hx hb hK hP hD hS 2 1 rfl rfl hj dX_set_41 (fun H locs hP hD hS => ?_)
  have hP : va_P (dC, dI) tw_cl [(h0, .inr (0, [.ref a0, .ref a1, .ref a2, .ref a3, .long ck, .int nx])), (a0, .inl (k0, 100, .inl (upd th j.toNatClampNeg (vp_nar .boolean 1)))), (a1, .inl (k1, 100, .inr (.inl (vp_updL tm j.toNatClampNeg t)))), (a2, .inl (k2, 100, .inl pr)), (a3, .inl (k3, 100, .inl ag))] H := hP
  have hD : va_D A [(h0, .inr (0, [.ref a0, .ref a1, .ref a2, .ref a3, .long ck, .int nx])), (a0, .inl (k0, 100, .inl (upd th j.toNatClampNeg (vp_nar .boolean 1)))), (a1, .inl (k1, 100, .inr (.inl (vp_updL tm j.toNatClampNeg t)))), (a2, .inl (k2, 100, .inl pr)), (a3, .inl (k3, 100, .inl ag))] := hD
  refine lv_aload_n hx hb dX_set_42 rfl (lv_at hl 0 rfl) ?_
  refine va_get (D := (dC, dI)) (ci := 0) (v := .ref a2) (C := RX) (T := FX) (N := 6) hx hb hT in_X hown hK hP 0 rfl rfl 2 (by decide) (hT _ tt_18) (fun _ h9 => h9) rfl dX_set_43 ?_
  refine lv_iload_n hx hb dX_set_46 rfl (lv_at hl 1 rfl) ?_
  refine lv_iload hx hb dX_set_47 (lv_at hl 3 rfl) ?_
  refine va_iast hx hb hK hP hD hS 3 2 rfl rfl hj dX_set_49 (fun H locs hP hD hS => ?_)
  have hP : va_P (dC, dI) tw_cl [(h0, .inr (0, [.ref a0, .ref a1, .ref a2, .ref a3, .long ck, .int nx])), (a0, .inl (k0, 100, .inl (upd th j.toNatClampNeg (vp_nar .boolean 1)))), (a1, .inl (k1, 100, .inr (.inl (vp_updL tm j.toNatClampNeg t)))), (a2, .inl (k2, 100, .inl (upd pr j.toNatClampNeg q))), (a3, .inl (k3, 100, .inl ag))] H := hP
  have hD : va_D A [(h0, .inr (0, [.ref a0, .ref a1, .ref a2, .ref a3, .long ck, .int nx])), (a0, .inl (k0, 100, .inl (upd th j.toNatClampNeg (vp_nar .boolean 1)))), (a1, .inl (k1, 100, .inr (.inl (vp_updL tm j.toNatClampNeg t)))), (a2, .inl (k2, 100, .inl (upd pr j.toNatClampNeg q))), (a3, .inl (k3, 100, .inl ag))] := hD
  refine lv_aload_n hx hb dX_set_50 rfl (lv_at hl 0 rfl) ?_
  refine va_get (D := (dC, dI)) (ci := 0) (v := .ref a3) (C := RX) (T := FX) (N := 6) hx hb hT in_X hown hK hP 0 rfl rfl 3 (by decide) (hT _ tt_19) (fun _ h9 => h9) rfl dX_set_51 ?_
  refine lv_iload_n hx hb dX_set_54 rfl (lv_at hl 1 rfl) ?_
  refine lv_aload_n hx hb dX_set_55 rfl (lv_at hl 0 rfl) ?_
  refine va_get (D := (dC, dI)) (ci := 0) (v := .int nx) (C := RX) (T := FX) (N := 6) hx hb hT in_X hown hK hP 0 rfl rfl 5 (by decide) (hT _ tt_21) (fun _ h9 => h9) rfl dX_set_56 ?_
  refine va_iast hx hb hK hP hD hS 4 3 rfl rfl hj dX_set_59 (fun H locs hP hD hS => ?_)
  have hP : va_P (dC, dI) tw_cl [(h0, .inr (0, [.ref a0, .ref a1, .ref a2, .ref a3, .long ck, .int nx])), (a0, .inl (k0, 100, .inl (upd th j.toNatClampNeg (vp_nar .boolean 1)))), (a1, .inl (k1, 100, .inr (.inl (vp_updL tm j.toNatClampNeg t)))), (a2, .inl (k2, 100, .inl (upd pr j.toNatClampNeg q))), (a3, .inl (k3, 100, .inl (upd ag j.toNatClampNeg nx)))] H := hP
  have hD : va_D A [(h0, .inr (0, [.ref a0, .ref a1, .ref a2, .ref a3, .long ck, .int nx])), (a0, .inl (k0, 100, .inl (upd th j.toNatClampNeg (vp_nar .boolean 1)))), (a1, .inl (k1, 100, .inr (.inl (vp_updL tm j.toNatClampNeg t)))), (a2, .inl (k2, 100, .inl (upd pr j.toNatClampNeg q))), (a3, .inl (k3, 100, .inl (upd ag j.toNatClampNeg nx)))] := hD
  refine lv_aload_n hx hb dX_set_60 rfl (lv_at hl 0 rfl) ?_
  refine lv_dup hx hb dX_set_61 rfl ?_
  refine va_get (D := (dC, dI)) (ci := 0) (v := .int nx) (C := RX) (T := FX) (N := 6) hx hb hT in_X hown hK hP 0 rfl rfl 5 (by decide) (hT _ tt_21) (fun _ h9 => h9) rfl dX_set_62 ?_
  refine lv_iconst (v := 1) hx hb dX_set_65 (by decide) ?_
  refine lv_iadd hx hb dX_set_66 ?_
  refine va_put (D := (dC, dI)) (ci := 0) (v := .int (nx + 1)) (ty := .int) (C := RX) (T := FX) (N := 6) hx hb hT in_X TX tX_ok nX_ hown hK hP hD hS 0 rfl rfl 5 (by decide) (hT _ tt_21) (fun _ h9 => h9) rfl (by decide +kernel) rfl rfl (Nat.le_of_ble_eq_true rfl) dX_set_67 (fun H locs hP hD hS => ?_)
  have hP : va_P (dC, dI) tw_cl [(h0, .inr (0, [.ref a0, .ref a1, .ref a2, .ref a3, .long ck, .int (nx + 1)])), (a0, .inl (k0, 100, .inl (upd th j.toNatClampNeg (vp_nar .boolean 1)))), (a1, .inl (k1, 100, .inr (.inl (vp_updL tm j.toNatClampNeg t)))), (a2, .inl (k2, 100, .inl (upd pr j.toNatClampNeg q))), (a3, .inl (k3, 100, .inl (upd ag j.toNatClampNeg nx)))] H := hP
  have hD : va_D A [(h0, .inr (0, [.ref a0, .ref a1, .ref a2, .ref a3, .long ck, .int (nx + 1)])), (a0, .inl (k0, 100, .inl (upd th j.toNatClampNeg (vp_nar .boolean 1)))), (a1, .inl (k1, 100, .inr (.inl (vp_updL tm j.toNatClampNeg t)))), (a2, .inl (k2, 100, .inl (upd pr j.toNatClampNeg q))), (a3, .inl (k3, 100, .inl (upd ag j.toNatClampNeg nx)))] := hD
  refine lv_aload_n hx hb dX_set_70 rfl (lv_at hl 0 rfl) ?_
  refine va_get (D := (dC, dI)) (ci := 0) (v := .ref a3) (C := RX) (T := FX) (N := 6) hx hb hT in_X hown hK hP 0 rfl rfl 3 (by decide) (hT _ tt_19) (fun _ h9 => h9) rfl dX_set_71 ?_
  refine lv_iload_n hx hb dX_set_74 rfl (lv_at hl 1 rfl) ?_
  refine va_iald hx hb hK hP 4 3 rfl rfl hj dX_set_75 ?_
  exact W.iret hx hb hr (fun t ht hW => ⟨⟨_, (), rfl, rfl, by rw [ht]; exact hP, hD⟩, hS.F ht⟩) hS.2.2 dX_set_76
set_option maxHeartbeats 4000000 in
set_option maxRecDepth 100000 in
theorem eX_set (l : Launch) (hfl : l.flags = pinnedFlags ++ [noTraceFlag]) (dC : Nat → ClassId) (dI : Nat → Nat → Nat) (h0 a0 a1 a2 a3 : Nat) (k0 k1 k2 k3 : ClassId) (th : Nat → Int32) (tm : Nat → Int64) (pr ag : Nat → Int32) (ck : Int64) (nx : Int32) (j : Int32) (t : Int64) (q : Int32) (hbad : ¬ (vp_in j 100 ∧ 0 ≤ t ∧ t ≤ 70368744177664)) : xt_Met l yX_set (Cond.code yX_set bX_set 5 (some .int) :: tw_T) { frames := 7, cells := 1, slots := 6, locals := 120 } (va_Pc [.ref h0, .int j, .long t, .int q] (fun U => tw_PX dC dI h0 a0 a1 a2 a3 k0 k1 k2 k3 th tm pr ag ck nx U ∧ tw_Z U U.heap)) (tw_thr tw_iae) 1 6 (fun _ => False) := by
  refine xt_ofW (cc := bX_set) (maxL := 5) (ret := some .int) (by decide) rfl ?_
  intro p e s m args below meth c s₁ B hml hout hadm hv
  obtain ⟨rfl, ⟨hP, hK⟩, hZ⟩ := hv
  have hx := B.exec
  have hb := B.bytes
  have hr := B.returns
  have hT := fun (w : Cond) (h : w ∈ tw_T) => atoms_spec (ws := Cond.code yX_set bX_set 5 (some .int) :: tw_T) B.pre w (List.mem_cons_of_mem _ h)
  have hown : s.vm.findClass RX = some m.cls := findClass_of_methodNamed B.named
  have hlocks := B.notSynchronized
  have hl := lv_entry ([.ref h0, .int j, .long t, .int q]) (n := 5) (Nat.le_of_ble_eq_true rfl)
  rw [lg_entry_eq]
  generalize (lg_sl ([.ref h0, .int j, .long t, .int q]) ++ List.replicate (5 - (lg_sl ([.ref h0, .int j, .long t, .int q])).length) Slot.unset).toArray = ls at hl ⊢
  have hl : lv_has ls 5 [(0, .ref h0), (1, .int j), (2, .long t), (4, .int q)] := hl
  have htr := Launch.traces_off hfl hadm
  by_cases hj : vp_in j 100
  · -- a TIMER
    refine lv_iload_n hx hb dX_set_0 rfl (lv_at hl 1 rfl) ?_
    refine va_csv (W.runS (As := [.int j]) (rest := []) ⟨hx, hb, hml, hown, hT⟩ (cX_requireTimerNumber l j hj) (cwS 1 hT (tw_gS tt_55 tt_56 tt_1 tt_57) rfl rfl rfl ⟨rfl, by decide +kernel⟩ ⟨Nat.le_of_ble_eq_true rfl, Nat.le_of_ble_eq_true rfl⟩) ⟨fun a U g mk q => q, fun U hU hW => ⟨rfl, trivial⟩⟩ rfl rfl hl.1 rfl (lv_room (Nat.le_of_ble_eq_true rfl)) dX_set_1 ⟨Nat.le_of_ble_eq_true rfl, Nat.le_of_ble_eq_true rfl⟩) (fun _ => ?_)
    refine lv_lload_n hx hb dX_set_4 rfl (lv_at hl 2 rfl) ?_
    refine lv_lconst (v := 0) hx hb dX_set_5 (by decide) ?_
    refine W.lcmp hx hb dX_set_6 ?_
    refine lv_if_lt (tgt := 18) hx hb dX_set_7 (by decide) (fun hc1 => ?_) (fun hc1 => ?_)
    · -- taken at 7: lg_cmp t 0 < 0
      obtain ⟨q9, hq9⟩ := hZ.1 (40, "a TIME is 0 .. 2^46") (by decide)
      exact xt_throw (tx := "a TIME is 0 .. 2^46") (names := tw_nm) (q0 := q9) (E := tw_iae) hx hb htr hown (by decide +kernel) (by decide +kernel) (hT _ tt_58) (hT _ tt_6) hq9 (tw_ownA hT hZ) (hl.1.trans hml.symm) dX_set_18 dX_set_21 dX_set_22 dX_set_24 dX_set_27 (fun x hx9 => hout x hx9 _) (Nat.le_of_ble_eq_true rfl) (Nat.le_of_ble_eq_true rfl) (Nat.le_of_ble_eq_true rfl) (Nat.le_of_ble_eq_true rfl) hlocks (fun t hW hE => ⟨_, rfl, hE⟩)
    · -- not taken at 7: lg_cmp t 0 < 0
      refine lv_lload_n hx hb dX_set_10 rfl (lv_at hl 2 rfl) ?_
      refine lv_ldc2 (v := 70368744177664) hx hb hown (hT _ tt_125) dX_set_11 ?_
      refine W.lcmp hx hb dX_set_14 ?_
      refine lv_if_le (tgt := 28) hx hb dX_set_15 (by decide) (fun hc2 => absurd hc2 (fun z => hbad ⟨hj, (lg_cmp_ge _ _).mp (Int32.not_lt.mp hc1), (lg_cmp_le _ _).mp z⟩)) (fun hc2 => ?_)
      obtain ⟨q9, hq9⟩ := hZ.1 (40, "a TIME is 0 .. 2^46") (by decide)
      exact xt_throw (tx := "a TIME is 0 .. 2^46") (names := tw_nm) (q0 := q9) (E := tw_iae) hx hb htr hown (by decide +kernel) (by decide +kernel) (hT _ tt_58) (hT _ tt_6) hq9 (tw_ownA hT hZ) (hl.1.trans hml.symm) dX_set_18 dX_set_21 dX_set_22 dX_set_24 dX_set_27 (fun x hx9 => hout x hx9 _) (Nat.le_of_ble_eq_true rfl) (Nat.le_of_ble_eq_true rfl) (Nat.le_of_ble_eq_true rfl) (Nat.le_of_ble_eq_true rfl) hlocks (fun t hW hE => ⟨_, rfl, hE⟩)
  · -- no TIMER
    refine lv_iload_n hx hb dX_set_0 rfl (lv_at hl 1 rfl) ?_
    refine xt_call (xt_runS (As := [.int j]) (rest := []) ⟨hx, hb, hml, hown, hT⟩ (eX_requireTimerNumber l hfl j hj) (cwS 1 hT (tw_gS tt_55 tt_56 tt_1 tt_57) rfl rfl rfl ⟨rfl, by decide +kernel⟩ ⟨Nat.le_of_ble_eq_true rfl, Nat.le_of_ble_eq_true rfl⟩) ⟨fun a U g mk q => ⟨q.1, q.2.call⟩, fun U hU hW => ⟨rfl, hZ.at hU hW⟩⟩ rfl rfl hl.1 rfl (lv_room (Nat.le_of_ble_eq_true rfl)) dX_set_1 ⟨Nat.le_of_ble_eq_true rfl, Nat.le_of_ble_eq_true rfl⟩) (fun v st₀ t H1 L _ _ _ _ _ hq => ?_) (fun q st₀ t H1 L e1 e2 e3 e4 hL hq => ?_)
    · obtain ⟨q2, hq1, -⟩ := hq
      cases hq1
    · obtain ⟨q2, hq1, hE⟩ := hq
      cases hq1
      exact xt_out (fun x hx9 => hout x hx9 _) hlocks (fun t2 ht2 hW => ⟨_, rfl, hE.of e2 e1 (ht2.trans e3.symm)⟩) (fun z hz => hL z (by simpa using hz)) (Nat.le_refl _) (Nat.le_refl _)
set_option maxHeartbeats 4000000 in
set_option maxRecDepth 100000 in
theorem cX_drop (l : Launch) (dC : Nat → ClassId) (dI : Nat → Nat → Nat) (h0 a0 a1 a2 a3 : Nat) (k0 k1 k2 k3 : ClassId) (th : Nat → Int32) (tm : Nat → Int64) (pr ag : Nat → Int32) (ck : Int64) (nx : Int32) (sz : Nat) (j : Int32) (hj : vp_in j 100) (ht : ¬ th j.toNatClampNeg = 0) : Met l yX_drop (Cond.code yX_drop bX_drop 2 (some .long) :: tw_T) { frames := 2, cells := 0, slots := 0, locals := 80 } (va_Pc [.ref h0, .int j] (fun U => U.heap.size = sz ∧ va_P (dC, dI) tw_cl (tw_wX h0 a0 a1 a2 a3 k0 k1 k2 k3 th tm pr ag ck nx) U.heap ∧ va_K (dC, dI) tw_cl (tw_k k0 k1 k2 k3) U ∧ va_D (fun _ => True) (tw_wX h0 a0 a1 a2 a3 k0 k1 k2 k3 th tm pr ag ck nx))) (va_Ql (S := Unit) (fun r _ => r = tm j.toNatClampNeg) (fun _ tz => va_P (dC, dI) tw_cl (tw_wX h0 a0 a1 a2 a3 k0 k1 k2 k3 (upd th j.toNatClampNeg (vp_nar .boolean 0)) tm pr ag ck nx) tz.heap ∧ va_D (va_A (tw_wX h0 a0 a1 a2 a3 k0 k1 k2 k3 th tm pr ag ck nx) sz) (tw_wX h0 a0 a1 a2 a3 k0 k1 k2 k3 (upd th j.toNatClampNeg (vp_nar .boolean 0)) tm pr ag ck nx)) (va_A (tw_wX h0 a0 a1 a2 a3 k0 k1 k2 k3 th tm pr ag ck nx) sz)) 0 0 (va_A (tw_wX h0 a0 a1 a2 a3 k0 k1 k2 k3 th tm pr ag ck nx) sz) := by
  refine Met.ofW (cc := bX_drop) (maxL := 2) (ret := some .long) (by decide) rfl ?_
  intro p e s m args below meth c s₁ B hml hv
  obtain ⟨rfl, hsz, hP, hK, hD0⟩ := hv
  have hx := B.exec
  have hb := B.bytes
  have hr := B.returns
  have hT := fun (w : Cond) (h : w ∈ tw_T) => atoms_spec (ws := Cond.code yX_drop bX_drop 2 (some .long) :: tw_T) B.pre w (List.mem_cons_of_mem _ h)
  have hown : s.vm.findClass RX = some m.cls := findClass_of_methodNamed B.named
  have hlocks := B.notSynchronized
  have hl := lv_entry ([.ref h0, .int j]) (n := 2) (Nat.le_of_ble_eq_true rfl)
  rw [lg_entry_eq]
  generalize (lg_sl ([.ref h0, .int j]) ++ List.replicate (2 - (lg_sl ([.ref h0, .int j])).length) Slot.unset).toArray = ls at hl ⊢
  have hl : lv_has ls 2 [(0, .ref h0), (1, .int j)] := hl
  subst hsz
  have hD := hD0.self (sz := s.heap.size)
  generalize hAe : va_A (tw_wX h0 a0 a1 a2 a3 k0 k1 k2 k3 th tm pr ag ck nx) s.heap.size = A at hD ⊢
  have hS : va_S A s.heap s.heap [] := va_S.rf
  refine lv_iload_n hx hb dX_drop_0 rfl (lv_at hl 1 rfl) ?_
  refine va_csv (W.runS (As := [.int j]) (rest := []) ⟨hx, hb, hml, hown, hT⟩ (cX_requireTimerNumber l j hj) (cwS 1 hT (tw_gS tt_55 tt_56 tt_1 tt_57) rfl rfl rfl ⟨rfl, by decide +kernel⟩ ⟨Nat.le_of_ble_eq_true rfl, Nat.le_of_ble_eq_true rfl⟩) ⟨fun a U g mk q => q, fun U hU hW => ⟨rfl, trivial⟩⟩ rfl rfl hl.1 rfl (lv_room (Nat.le_of_ble_eq_true rfl)) dX_drop_1 ⟨Nat.le_of_ble_eq_true rfl, Nat.le_of_ble_eq_true rfl⟩) (fun _ => ?_)
  refine lv_aload_n hx hb dX_drop_4 rfl (lv_at hl 0 rfl) ?_
  refine va_get (D := (dC, dI)) (ci := 0) (v := .ref a0) (C := RX) (T := FX) (N := 6) hx hb hT in_X hown hK hP 0 rfl rfl 0 (by decide) (hT _ tt_16) (fun _ h9 => h9) rfl dX_drop_5 ?_
  refine lv_iload_n hx hb dX_drop_8 rfl (lv_at hl 1 rfl) ?_
  refine va_zald hx hb hK hP 1 0 rfl rfl hj dX_drop_9 ?_
  refine lv_if_ne (tgt := 23) hx hb dX_drop_10 (by decide) (fun hc1 => ?_) (fun hc1 => absurd hc1 ht)
  refine lv_aload_n hx hb dX_drop_23 rfl (lv_at hl 0 rfl) ?_
  refine va_get (D := (dC, dI)) (ci := 0) (v := .ref a0) (C := RX) (T := FX) (N := 6) hx hb hT in_X hown hK hP 0 rfl rfl 0 (by decide) (hT _ tt_16) (fun _ h9 => h9) rfl dX_drop_24 ?_
  refine lv_iload_n hx hb dX_drop_27 rfl (lv_at hl 1 rfl) ?_
  refine lv_iconst (v := 0) hx hb dX_drop_28 (by decide) ?_
  refine va_zast hx hb hK hP hD hS 1 0 rfl rfl hj dX_drop_29 (fun H locs hP hD hS => ?_)
  have hP : va_P (dC, dI) tw_cl [(h0, .inr (0, [.ref a0, .ref a1, .ref a2, .ref a3, .long ck, .int nx])), (a0, .inl (k0, 100, .inl (upd th j.toNatClampNeg (vp_nar .boolean 0)))), (a1, .inl (k1, 100, .inr (.inl tm))), (a2, .inl (k2, 100, .inl pr)), (a3, .inl (k3, 100, .inl ag))] H := hP
  have hD : va_D A [(h0, .inr (0, [.ref a0, .ref a1, .ref a2, .ref a3, .long ck, .int nx])), (a0, .inl (k0, 100, .inl (upd th j.toNatClampNeg (vp_nar .boolean 0)))), (a1, .inl (k1, 100, .inr (.inl tm))), (a2, .inl (k2, 100, .inl pr)), (a3, .inl (k3, 100, .inl ag))] := hD
  refine lv_aload_n hx hb dX_drop_30 rfl (lv_at hl 0 rfl) ?_
  refine va_get (D := (dC, dI)) (ci := 0) (v := .ref a1) (C := RX) (T := FX) (N := 6) hx hb hT in_X hown hK hP 0 rfl rfl 1 (by decide) (hT _ tt_17) (fun _ h9 => h9) rfl dX_drop_31 ?_
  refine lv_iload_n hx hb dX_drop_34 rfl (lv_at hl 1 rfl) ?_
  refine va_lald hx hb hK hP 2 1 rfl rfl hj dX_drop_35 ?_
  exact W.lret hx hb hr (fun t ht hW => ⟨⟨_, (), rfl, rfl, by rw [ht]; exact hP, hD⟩, hS.F ht⟩) hS.2.2 dX_drop_36
set_option maxHeartbeats 4000000 in
set_option maxRecDepth 100000 in
theorem eX_dropA (l : Launch) (hfl : l.flags = pinnedFlags ++ [noTraceFlag]) (dC : Nat → ClassId) (dI : Nat → Nat → Nat) (h0 a0 a1 a2 a3 : Nat) (k0 k1 k2 k3 : ClassId) (th : Nat → Int32) (tm : Nat → Int64) (pr ag : Nat → Int32) (ck : Int64) (nx : Int32) (j : Int32) (hj : ¬ vp_in j 100) : xt_Met l yX_drop (Cond.code yX_drop bX_drop 2 (some .long) :: tw_T) { frames := 7, cells := 1, slots := 6, locals := 120 } (va_Pc [.ref h0, .int j] (fun U => tw_PX dC dI h0 a0 a1 a2 a3 k0 k1 k2 k3 th tm pr ag ck nx U ∧ tw_Z U U.heap)) (tw_thr tw_iae) 1 6 (fun _ => False) := by
  refine xt_ofW (cc := bX_drop) (maxL := 2) (ret := some .long) (by decide) rfl ?_
  intro p e s m args below meth c s₁ B hml hout hadm hv
  obtain ⟨rfl, ⟨hP, hK⟩, hZ⟩ := hv
  have hx := B.exec
  have hb := B.bytes
  have hr := B.returns
  have hT := fun (w : Cond) (h : w ∈ tw_T) => atoms_spec (ws := Cond.code yX_drop bX_drop 2 (some .long) :: tw_T) B.pre w (List.mem_cons_of_mem _ h)
  have hown : s.vm.findClass RX = some m.cls := findClass_of_methodNamed B.named
  have hlocks := B.notSynchronized
  have hl := lv_entry ([.ref h0, .int j]) (n := 2) (Nat.le_of_ble_eq_true rfl)
  rw [lg_entry_eq]
  generalize (lg_sl ([.ref h0, .int j]) ++ List.replicate (2 - (lg_sl ([.ref h0, .int j])).length) Slot.unset).toArray = ls at hl ⊢
  have hl : lv_has ls 2 [(0, .ref h0), (1, .int j)] := hl
  have htr := Launch.traces_off hfl hadm
  refine lv_iload_n hx hb dX_drop_0 rfl (lv_at hl 1 rfl) ?_
  refine xt_call (xt_runS (As := [.int j]) (rest := []) ⟨hx, hb, hml, hown, hT⟩ (eX_requireTimerNumber l hfl j hj) (cwS 1 hT (tw_gS tt_55 tt_56 tt_1 tt_57) rfl rfl rfl ⟨rfl, by decide +kernel⟩ ⟨Nat.le_of_ble_eq_true rfl, Nat.le_of_ble_eq_true rfl⟩) ⟨fun a U g mk q => ⟨q.1, q.2.call⟩, fun U hU hW => ⟨rfl, hZ.at hU hW⟩⟩ rfl rfl hl.1 rfl (lv_room (Nat.le_of_ble_eq_true rfl)) dX_drop_1 ⟨Nat.le_of_ble_eq_true rfl, Nat.le_of_ble_eq_true rfl⟩) (fun v st₀ t H1 L _ _ _ _ _ hq => ?_) (fun q st₀ t H1 L e1 e2 e3 e4 hL hq => ?_)
  · obtain ⟨q2, hq1, -⟩ := hq
    cases hq1
  · obtain ⟨q2, hq1, hE⟩ := hq
    cases hq1
    exact xt_out (fun x hx9 => hout x hx9 _) hlocks (fun t2 ht2 hW => ⟨_, rfl, hE.of e2 e1 (ht2.trans e3.symm)⟩) (fun z hz => hL z (by simpa using hz)) (Nat.le_refl _) (Nat.le_refl _)
set_option maxHeartbeats 4000000 in
set_option maxRecDepth 100000 in
theorem eX_dropN (l : Launch) (hfl : l.flags = pinnedFlags ++ [noTraceFlag]) (dC : Nat → ClassId) (dI : Nat → Nat → Nat) (h0 a0 a1 a2 a3 : Nat) (k0 k1 k2 k3 : ClassId) (th : Nat → Int32) (tm : Nat → Int64) (pr ag : Nat → Int32) (ck : Int64) (nx : Int32) (j : Int32) (hj : vp_in j 100) (ht : th j.toNatClampNeg = 0) : xt_Met l yX_drop (Cond.code yX_drop bX_drop 2 (some .long) :: tw_T) { frames := 7, cells := 1, slots := 6, locals := 120 } (va_Pc [.ref h0, .int j] (fun U => tw_PX dC dI h0 a0 a1 a2 a3 k0 k1 k2 k3 th tm pr ag ck nx U ∧ tw_Z U U.heap)) (tw_thr tw_nse) 1 6 (fun _ => False) := by
  refine xt_ofW (cc := bX_drop) (maxL := 2) (ret := some .long) (by decide) rfl ?_
  intro p e s m args below meth c s₁ B hml hout hadm hv
  obtain ⟨rfl, ⟨hP, hK⟩, hZ⟩ := hv
  have hx := B.exec
  have hb := B.bytes
  have hr := B.returns
  have hT := fun (w : Cond) (h : w ∈ tw_T) => atoms_spec (ws := Cond.code yX_drop bX_drop 2 (some .long) :: tw_T) B.pre w (List.mem_cons_of_mem _ h)
  have hown : s.vm.findClass RX = some m.cls := findClass_of_methodNamed B.named
  have hlocks := B.notSynchronized
  have hl := lv_entry ([.ref h0, .int j]) (n := 2) (Nat.le_of_ble_eq_true rfl)
  rw [lg_entry_eq]
  generalize (lg_sl ([.ref h0, .int j]) ++ List.replicate (2 - (lg_sl ([.ref h0, .int j])).length) Slot.unset).toArray = ls at hl ⊢
  have hl : lv_has ls 2 [(0, .ref h0), (1, .int j)] := hl
  have htr := Launch.traces_off hfl hadm
  refine lv_iload_n hx hb dX_drop_0 rfl (lv_at hl 1 rfl) ?_
  refine va_csv (W.runS (As := [.int j]) (rest := []) ⟨hx, hb, hml, hown, hT⟩ (cX_requireTimerNumber l j hj) (cwS 1 hT (tw_gS tt_55 tt_56 tt_1 tt_57) rfl rfl rfl ⟨rfl, by decide +kernel⟩ ⟨Nat.le_of_ble_eq_true rfl, Nat.le_of_ble_eq_true rfl⟩) ⟨fun a U g mk q => q, fun U hU hW => ⟨rfl, trivial⟩⟩ rfl rfl hl.1 rfl (lv_room (Nat.le_of_ble_eq_true rfl)) dX_drop_1 ⟨Nat.le_of_ble_eq_true rfl, Nat.le_of_ble_eq_true rfl⟩) (fun _ => ?_)
  refine lv_aload_n hx hb dX_drop_4 rfl (lv_at hl 0 rfl) ?_
  refine va_get (D := (dC, dI)) (ci := 0) (v := .ref a0) (C := RX) (T := FX) (N := 6) hx hb hT in_X hown hK hP 0 rfl rfl 0 (by decide) (hT _ tt_16) (fun _ h9 => h9) rfl dX_drop_5 ?_
  refine lv_iload_n hx hb dX_drop_8 rfl (lv_at hl 1 rfl) ?_
  refine va_zald hx hb hK hP 1 0 rfl rfl hj dX_drop_9 ?_
  refine lv_if_ne (tgt := 23) hx hb dX_drop_10 (by decide) (fun hc1 => absurd ht hc1) (fun hc1 => ?_)
  obtain ⟨q9, hq9⟩ := hZ.1 (47, "there is no such TIMER") (by decide)
  exact xt_throwN (tx := "there is no such TIMER") (names := ["java/lang/Exception"]) (Y := "java/lang/RuntimeException") (q0 := q9) (E := tw_nse) hx hb htr tw_x0 tw_x1 tw_x2 tw_x5 hown (by decide +kernel) (by decide +kernel) (by decide +kernel) (hT _ tt_145) (hT _ tt_135) (hT _ tt_7) hq9 (tw_ownN hT hZ) (hl.1.trans hml.symm) dX_drop_13 dX_drop_16 dX_drop_17 dX_drop_19 dX_drop_22 (fun x hx9 => hout x hx9 _) (Nat.le_of_ble_eq_true rfl) (Nat.le_of_ble_eq_true rfl) (Nat.le_of_ble_eq_true rfl) (Nat.le_of_ble_eq_true rfl) hlocks (fun t hW hE => ⟨_, rfl, hE⟩)
set_option maxHeartbeats 4000000 in
set_option maxRecDepth 100000 in
theorem cX_take (l : Launch) (dC : Nat → ClassId) (dI : Nat → Nat → Nat) (h0 a0 a1 a2 a3 : Nat) (k0 k1 k2 k3 : ClassId) (th : Nat → Int32) (tm : Nat → Int64) (pr ag : Nat → Int32) (ck : Int64) (nx : Int32) (sz : Nat) (hf : ¬ tw_first th tm pr ag ck 100 = -1) : Met l yX_take (Cond.code yX_take bX_take 2 (some .int) :: tw_T) { frames := 2, cells := 0, slots := 0, locals := 80 } (va_Pc [.ref h0] (fun U => U.heap.size = sz ∧ va_P (dC, dI) tw_cl (tw_wX h0 a0 a1 a2 a3 k0 k1 k2 k3 th tm pr ag ck nx) U.heap ∧ va_K (dC, dI) tw_cl (tw_k k0 k1 k2 k3) U ∧ va_D (fun _ => True) (tw_wX h0 a0 a1 a2 a3 k0 k1 k2 k3 th tm pr ag ck nx))) (va_Qi (S := Unit) (fun r _ => r = tw_first th tm pr ag ck 100) (fun _ tz => va_P (dC, dI) tw_cl (tw_wX h0 a0 a1 a2 a3 k0 k1 k2 k3 (upd th (tw_first th tm pr ag ck 100).toNatClampNeg (vp_nar .boolean 0)) tm pr ag ck nx) tz.heap ∧ va_D (va_A (tw_wX h0 a0 a1 a2 a3 k0 k1 k2 k3 th tm pr ag ck nx) sz) (tw_wX h0 a0 a1 a2 a3 k0 k1 k2 k3 (upd th (tw_first th tm pr ag ck 100).toNatClampNeg (vp_nar .boolean 0)) tm pr ag ck nx)) (va_A (tw_wX h0 a0 a1 a2 a3 k0 k1 k2 k3 th tm pr ag ck nx) sz)) 0 0 (va_A (tw_wX h0 a0 a1 a2 a3 k0 k1 k2 k3 th tm pr ag ck nx) sz) := by
  refine Met.ofW (cc := bX_take) (maxL := 2) (ret := some .int) (by decide) rfl ?_
  intro p e s m args below meth c s₁ B hml hv
  obtain ⟨rfl, hsz, hP, hK, hD0⟩ := hv
  have hx := B.exec
  have hb := B.bytes
  have hr := B.returns
  have hT := fun (w : Cond) (h : w ∈ tw_T) => atoms_spec (ws := Cond.code yX_take bX_take 2 (some .int) :: tw_T) B.pre w (List.mem_cons_of_mem _ h)
  have hown : s.vm.findClass RX = some m.cls := findClass_of_methodNamed B.named
  have hlocks := B.notSynchronized
  have hl := lv_entry ([.ref h0]) (n := 2) (Nat.le_of_ble_eq_true rfl)
  rw [lg_entry_eq]
  generalize (lg_sl ([.ref h0]) ++ List.replicate (2 - (lg_sl ([.ref h0])).length) Slot.unset).toArray = ls at hl ⊢
  have hl : lv_has ls 2 [(0, .ref h0)] := hl
  subst hsz
  have hD := hD0.self (sz := s.heap.size)
  generalize hAe : va_A (tw_wX h0 a0 a1 a2 a3 k0 k1 k2 k3 th tm pr ag ck nx) s.heap.size = A at hD ⊢
  have hS : va_S A s.heap s.heap [] := va_S.rf
  refine lv_aload_n hx hb dX_take_0 rfl (lv_at hl 0 rfl) ?_
  refine vp_callSi (W.runV (C := RX) (b := h0) (As := []) (rest := []) ⟨hx, hb, hml, hown, hT⟩ (cX_firstDue l dC dI h0 a0 a1 a2 a3 k0 k1 k2 k3 th tm pr ag ck nx) (cwV 0 hT (tw_gV tt_158 tt_160 tp_X_firstDue tt_1 tt_161) rfl rfl rfl ⟨rfl, by decide +kernel⟩ ⟨Nat.le_of_ble_eq_true rfl, Nat.le_of_ble_eq_true rfl⟩) ⟨fun a U g mk q => ⟨q.1, q.2.1, va_K.moved (u := U) (U := U.calling g mk a) (Vm.Alike.refl U.vm) q.2.2⟩, va_recv (q0 := 0) (ci := 0) hK hP rfl rfl, fun U hU hW => ⟨rfl, by rw [hU]; exact hP, va_K.moved hW.alike hK⟩⟩ rfl rfl hl.1 rfl (lv_room (Nat.le_of_ble_eq_true rfl)) dX_take_1 ⟨Nat.le_of_ble_eq_true rfl, Nat.le_of_ble_eq_true rfl⟩) (fun r1 h1 => ?_)
  subst h1
  refine lv_istore_n hx hb dX_take_4 rfl hl (by decide) rfl (fun ls hl => ?_)
  have hl : lv_has ls 2 [(1, .int (tw_first th tm pr ag ck 100)), (0, .ref h0)] := hl
  refine lv_iload_n hx hb dX_take_5 rfl (lv_at hl 0 rfl) ?_
  refine lv_iconst (v := -1) hx hb dX_take_6 (by decide) ?_
  refine lv_icmp_ne (tgt := 20) hx hb dX_take_7 (by decide) (fun hc1 => ?_) (fun hc1 => absurd hc1 hf)
  refine lv_aload_n hx hb dX_take_20 rfl (lv_at hl 1 rfl) ?_
  refine va_get (D := (dC, dI)) (ci := 0) (v := .ref a0) (C := RX) (T := FX) (N := 6) hx hb hT in_X hown hK hP 0 rfl rfl 0 (by decide) (hT _ tt_16) (fun _ h9 => h9) rfl dX_take_21 ?_
  refine lv_iload_n hx hb dX_take_24 rfl (lv_at hl 0 rfl) ?_
  refine lv_iconst (v := 0) hx hb dX_take_25 (by decide) ?_
  refine va_zast hx hb hK hP hD hS 1 0 rfl rfl (tw_first_vp (Nat.le_refl _) hf) dX_take_26 (fun H locs hP hD hS => ?_)
  have hP : va_P (dC, dI) tw_cl [(h0, .inr (0, [.ref a0, .ref a1, .ref a2, .ref a3, .long ck, .int nx])), (a0, .inl (k0, 100, .inl (upd th (tw_first th tm pr ag ck 100).toNatClampNeg (vp_nar .boolean 0)))), (a1, .inl (k1, 100, .inr (.inl tm))), (a2, .inl (k2, 100, .inl pr)), (a3, .inl (k3, 100, .inl ag))] H := hP
  have hD : va_D A [(h0, .inr (0, [.ref a0, .ref a1, .ref a2, .ref a3, .long ck, .int nx])), (a0, .inl (k0, 100, .inl (upd th (tw_first th tm pr ag ck 100).toNatClampNeg (vp_nar .boolean 0)))), (a1, .inl (k1, 100, .inr (.inl tm))), (a2, .inl (k2, 100, .inl pr)), (a3, .inl (k3, 100, .inl ag))] := hD
  refine lv_iload_n hx hb dX_take_27 rfl (lv_at hl 0 rfl) ?_
  exact W.iret hx hb hr (fun t ht hW => ⟨⟨_, (), rfl, rfl, by rw [ht]; exact hP, hD⟩, hS.F ht⟩) hS.2.2 dX_take_28
set_option maxHeartbeats 4000000 in
set_option maxRecDepth 100000 in
theorem eX_take (l : Launch) (hfl : l.flags = pinnedFlags ++ [noTraceFlag]) (dC : Nat → ClassId) (dI : Nat → Nat → Nat) (h0 a0 a1 a2 a3 : Nat) (k0 k1 k2 k3 : ClassId) (th : Nat → Int32) (tm : Nat → Int64) (pr ag : Nat → Int32) (ck : Int64) (nx : Int32) (hf : tw_first th tm pr ag ck 100 = -1) : xt_Met l yX_take (Cond.code yX_take bX_take 2 (some .int) :: tw_T) { frames := 7, cells := 1, slots := 6, locals := 120 } (va_Pc [.ref h0] (fun U => tw_PX dC dI h0 a0 a1 a2 a3 k0 k1 k2 k3 th tm pr ag ck nx U ∧ tw_Z U U.heap)) (tw_thr tw_nse) 1 6 (fun _ => False) := by
  refine xt_ofW (cc := bX_take) (maxL := 2) (ret := some .int) (by decide) rfl ?_
  intro p e s m args below meth c s₁ B hml hout hadm hv
  obtain ⟨rfl, ⟨hP, hK⟩, hZ⟩ := hv
  have hx := B.exec
  have hb := B.bytes
  have hr := B.returns
  have hT := fun (w : Cond) (h : w ∈ tw_T) => atoms_spec (ws := Cond.code yX_take bX_take 2 (some .int) :: tw_T) B.pre w (List.mem_cons_of_mem _ h)
  have hown : s.vm.findClass RX = some m.cls := findClass_of_methodNamed B.named
  have hlocks := B.notSynchronized
  have hl := lv_entry ([.ref h0]) (n := 2) (Nat.le_of_ble_eq_true rfl)
  rw [lg_entry_eq]
  generalize (lg_sl ([.ref h0]) ++ List.replicate (2 - (lg_sl ([.ref h0])).length) Slot.unset).toArray = ls at hl ⊢
  have hl : lv_has ls 2 [(0, .ref h0)] := hl
  have htr := Launch.traces_off hfl hadm
  refine lv_aload_n hx hb dX_take_0 rfl (lv_at hl 0 rfl) ?_
  refine vp_callSi (W.runV (C := RX) (b := h0) (As := []) (rest := []) ⟨hx, hb, hml, hown, hT⟩ (cX_firstDue l dC dI h0 a0 a1 a2 a3 k0 k1 k2 k3 th tm pr ag ck nx) (cwV 0 hT (tw_gV tt_158 tt_160 tp_X_firstDue tt_1 tt_161) rfl rfl rfl ⟨rfl, by decide +kernel⟩ ⟨Nat.le_of_ble_eq_true rfl, Nat.le_of_ble_eq_true rfl⟩) ⟨fun a U g mk q => ⟨q.1, q.2.1, va_K.moved (u := U) (U := U.calling g mk a) (Vm.Alike.refl U.vm) q.2.2⟩, va_recv (q0 := 0) (ci := 0) hK hP rfl rfl, fun U hU hW => ⟨rfl, by rw [hU]; exact hP, va_K.moved hW.alike hK⟩⟩ rfl rfl hl.1 rfl (lv_room (Nat.le_of_ble_eq_true rfl)) dX_take_1 ⟨Nat.le_of_ble_eq_true rfl, Nat.le_of_ble_eq_true rfl⟩) (fun r1 h1 => ?_)
  subst h1
  refine lv_istore_n hx hb dX_take_4 rfl hl (by decide) rfl (fun ls hl => ?_)
  have hl : lv_has ls 2 [(1, .int (tw_first th tm pr ag ck 100)), (0, .ref h0)] := hl
  refine lv_iload_n hx hb dX_take_5 rfl (lv_at hl 0 rfl) ?_
  refine lv_iconst (v := -1) hx hb dX_take_6 (by decide) ?_
  refine lv_icmp_ne (tgt := 20) hx hb dX_take_7 (by decide) (fun hc1 => absurd hf hc1) (fun hc1 => ?_)
  obtain ⟨q9, hq9⟩ := hZ.1 (54, "no TIMER is DUE") (by decide)
  exact xt_throwN (tx := "no TIMER is DUE") (names := ["java/lang/Exception"]) (Y := "java/lang/RuntimeException") (q0 := q9) (E := tw_nse) hx hb htr tw_x0 tw_x1 tw_x2 tw_x5 hown (by decide +kernel) (by decide +kernel) (by decide +kernel) (hT _ tt_145) (hT _ tt_135) (hT _ tt_7) hq9 (tw_ownN hT hZ) (hl.1.trans hml.symm) dX_take_10 dX_take_13 dX_take_14 dX_take_16 dX_take_19 (fun x hx9 => hout x hx9 _) (Nat.le_of_ble_eq_true rfl) (Nat.le_of_ble_eq_true rfl) (Nat.le_of_ble_eq_true rfl) (Nat.le_of_ble_eq_true rfl) hlocks (fun t hW hE => ⟨_, rfl, hE⟩)
set_option maxHeartbeats 4000000 in
set_option maxRecDepth 100000 in
theorem cX_go (l : Launch) (dC : Nat → ClassId) (dI : Nat → Nat → Nat) (h0 a0 a1 a2 a3 : Nat) (k0 k1 k2 k3 : ClassId) (th : Nat → Int32) (tm : Nat → Int64) (pr ag : Nat → Int32) (ck : Int64) (nx : Int32) (sz : Nat) (n : Int64) (h1 : 0 ≤ n) (h2 : n ≤ 17592186044416) (h3 : n ≤ 70368744177664 - ck) : Met l yX_go (Cond.code yX_go bX_go 3 (some .int) :: tw_T) { frames := 2, cells := 0, slots := 0, locals := 80 } (va_Pc [.ref h0, .long n] (fun U => U.heap.size = sz ∧ va_P (dC, dI) tw_cl (tw_wX h0 a0 a1 a2 a3 k0 k1 k2 k3 th tm pr ag ck nx) U.heap ∧ va_K (dC, dI) tw_cl (tw_k k0 k1 k2 k3) U ∧ va_D (fun _ => True) (tw_wX h0 a0 a1 a2 a3 k0 k1 k2 k3 th tm pr ag ck nx))) (va_Qi (S := Unit) (fun r _ => r = tw_dues th tm (ck + n) 100) (fun _ tz => va_P (dC, dI) tw_cl (tw_wX h0 a0 a1 a2 a3 k0 k1 k2 k3 th tm pr ag (ck + n) nx) tz.heap ∧ va_D (va_A (tw_wX h0 a0 a1 a2 a3 k0 k1 k2 k3 th tm pr ag ck nx) sz) (tw_wX h0 a0 a1 a2 a3 k0 k1 k2 k3 th tm pr ag (ck + n) nx)) (va_A (tw_wX h0 a0 a1 a2 a3 k0 k1 k2 k3 th tm pr ag ck nx) sz)) 0 0 (va_A (tw_wX h0 a0 a1 a2 a3 k0 k1 k2 k3 th tm pr ag ck nx) sz) := by
  refine Met.ofW (cc := bX_go) (maxL := 3) (ret := some .int) (by decide) rfl ?_
  intro p e s m args below meth c s₁ B hml hv
  obtain ⟨rfl, hsz, hP, hK, hD0⟩ := hv
  have hx := B.exec
  have hb := B.bytes
  have hr := B.returns
  have hT := fun (w : Cond) (h : w ∈ tw_T) => atoms_spec (ws := Cond.code yX_go bX_go 3 (some .int) :: tw_T) B.pre w (List.mem_cons_of_mem _ h)
  have hown : s.vm.findClass RX = some m.cls := findClass_of_methodNamed B.named
  have hlocks := B.notSynchronized
  have hl := lv_entry ([.ref h0, .long n]) (n := 3) (Nat.le_of_ble_eq_true rfl)
  rw [lg_entry_eq]
  generalize (lg_sl ([.ref h0, .long n]) ++ List.replicate (3 - (lg_sl ([.ref h0, .long n])).length) Slot.unset).toArray = ls at hl ⊢
  have hl : lv_has ls 3 [(0, .ref h0), (1, .long n)] := hl
  subst hsz
  have hD := hD0.self (sz := s.heap.size)
  generalize hAe : va_A (tw_wX h0 a0 a1 a2 a3 k0 k1 k2 k3 th tm pr ag ck nx) s.heap.size = A at hD ⊢
  have hS : va_S A s.heap s.heap [] := va_S.rf
  refine lv_lload_n hx hb dX_go_0 rfl (lv_at hl 1 rfl) ?_
  refine lv_lconst (v := 0) hx hb dX_go_1 (by decide) ?_
  refine W.lcmp hx hb dX_go_2 ?_
  refine lv_if_lt (tgt := 14) hx hb dX_go_3 (by decide) (fun hc1 => absurd hc1 (fun z => Int64.not_lt.mpr h1 ((lg_cmp_lt _ _).mp z))) (fun hc1 => ?_)
  refine lv_lload_n hx hb dX_go_6 rfl (lv_at hl 1 rfl) ?_
  refine lv_ldc2 (v := 17592186044416) hx hb hown (hT _ tt_174) dX_go_7 ?_
  refine W.lcmp hx hb dX_go_10 ?_
  refine lv_if_le (tgt := 24) hx hb dX_go_11 (by decide) (fun hc2 => ?_) (fun hc2 => absurd ((lg_cmp_le _ _).mpr h2) hc2)
  refine lv_lload_n hx hb dX_go_24 rfl (lv_at hl 1 rfl) ?_
  refine lv_ldc2 (v := 70368744177664) hx hb hown (hT _ tt_125) dX_go_25 ?_
  refine lv_aload_n hx hb dX_go_28 rfl (lv_at hl 0 rfl) ?_
  refine va_get (D := (dC, dI)) (ci := 0) (v := .long ck) (C := RX) (T := FX) (N := 6) hx hb hT in_X hown hK hP 0 rfl rfl 4 (by decide) (hT _ tt_20) (fun _ h9 => h9) rfl dX_go_29 ?_
  refine lv_lsub hx hb dX_go_32 ?_
  refine W.lcmp hx hb dX_go_33 ?_
  refine lv_if_le (tgt := 47) hx hb dX_go_34 (by decide) (fun hc3 => ?_) (fun hc3 => absurd ((lg_cmp_le _ _).mpr h3) hc3)
  refine lv_aload_n hx hb dX_go_47 rfl (lv_at hl 0 rfl) ?_
  refine lv_dup hx hb dX_go_48 rfl ?_
  refine va_get (D := (dC, dI)) (ci := 0) (v := .long ck) (C := RX) (T := FX) (N := 6) hx hb hT in_X hown hK hP 0 rfl rfl 4 (by decide) (hT _ tt_20) (fun _ h9 => h9) rfl dX_go_49 ?_
  refine lv_lload_n hx hb dX_go_52 rfl (lv_at hl 1 rfl) ?_
  refine lv_ladd hx hb dX_go_53 ?_
  refine va_put (D := (dC, dI)) (ci := 0) (v := .long (ck + n)) (ty := .long) (C := RX) (T := FX) (N := 6) hx hb hT in_X TX tX_ok nX_ hown hK hP hD hS 0 rfl rfl 4 (by decide) (hT _ tt_20) (fun _ h9 => h9) rfl (by decide +kernel) rfl rfl (Nat.le_of_ble_eq_true rfl) dX_go_54 (fun H locs hP hD hS => ?_)
  have hP : va_P (dC, dI) tw_cl [(h0, .inr (0, [.ref a0, .ref a1, .ref a2, .ref a3, .long (ck + n), .int nx])), (a0, .inl (k0, 100, .inl th)), (a1, .inl (k1, 100, .inr (.inl tm))), (a2, .inl (k2, 100, .inl pr)), (a3, .inl (k3, 100, .inl ag))] H := hP
  have hD : va_D A [(h0, .inr (0, [.ref a0, .ref a1, .ref a2, .ref a3, .long (ck + n), .int nx])), (a0, .inl (k0, 100, .inl th)), (a1, .inl (k1, 100, .inr (.inl tm))), (a2, .inl (k2, 100, .inl pr)), (a3, .inl (k3, 100, .inl ag))] := hD
  refine lv_aload_n hx hb dX_go_57 rfl (lv_at hl 0 rfl) ?_
  refine vp_callSi (W.runV (C := RX) (b := h0) (As := []) (rest := []) ⟨hx, hb, hml, hown, hT⟩ (cX_countDue l dC dI h0 a0 a1 a2 a3 k0 k1 k2 k3 th tm pr ag (ck + n) nx) (cwV 0 hT (tw_gV tt_177 tt_179 tp_X_countDue tt_1 tt_180) rfl rfl rfl ⟨rfl, by decide +kernel⟩ ⟨Nat.le_of_ble_eq_true rfl, Nat.le_of_ble_eq_true rfl⟩) ⟨fun a U g mk q => ⟨q.1, q.2.1, va_K.moved (u := U) (U := U.calling g mk a) (Vm.Alike.refl U.vm) q.2.2⟩, va_recv (q0 := 0) (ci := 0) hK hP rfl rfl, fun U hU hW => ⟨rfl, by rw [hU]; exact hP, va_K.moved hW.alike hK⟩⟩ rfl rfl hl.1 rfl (lv_room (Nat.le_of_ble_eq_true rfl)) dX_go_58 ⟨Nat.le_of_ble_eq_true rfl, Nat.le_of_ble_eq_true rfl⟩) (fun r2 h2 => ?_)
  subst h2
  exact W.iret hx hb hr (fun t ht hW => ⟨⟨_, (), rfl, rfl, by rw [ht]; exact hP, hD⟩, hS.F ht⟩) hS.2.2 dX_go_61
set_option maxHeartbeats 4000000 in
set_option maxRecDepth 100000 in
theorem eX_go (l : Launch) (hfl : l.flags = pinnedFlags ++ [noTraceFlag]) (dC : Nat → ClassId) (dI : Nat → Nat → Nat) (h0 a0 a1 a2 a3 : Nat) (k0 k1 k2 k3 : ClassId) (th : Nat → Int32) (tm : Nat → Int64) (pr ag : Nat → Int32) (ck : Int64) (nx : Int32) (n : Int64) (hbad : ¬ (0 ≤ n ∧ n ≤ 17592186044416 ∧ n ≤ 70368744177664 - ck)) : xt_Met l yX_go (Cond.code yX_go bX_go 3 (some .int) :: tw_T) { frames := 7, cells := 1, slots := 6, locals := 120 } (va_Pc [.ref h0, .long n] (fun U => tw_PX dC dI h0 a0 a1 a2 a3 k0 k1 k2 k3 th tm pr ag ck nx U ∧ tw_Z U U.heap)) (tw_thr tw_iae) 1 6 (fun _ => False) := by
  refine xt_ofW (cc := bX_go) (maxL := 3) (ret := some .int) (by decide) rfl ?_
  intro p e s m args below meth c s₁ B hml hout hadm hv
  obtain ⟨rfl, ⟨hP, hK⟩, hZ⟩ := hv
  have hx := B.exec
  have hb := B.bytes
  have hr := B.returns
  have hT := fun (w : Cond) (h : w ∈ tw_T) => atoms_spec (ws := Cond.code yX_go bX_go 3 (some .int) :: tw_T) B.pre w (List.mem_cons_of_mem _ h)
  have hown : s.vm.findClass RX = some m.cls := findClass_of_methodNamed B.named
  have hlocks := B.notSynchronized
  have hl := lv_entry ([.ref h0, .long n]) (n := 3) (Nat.le_of_ble_eq_true rfl)
  rw [lg_entry_eq]
  generalize (lg_sl ([.ref h0, .long n]) ++ List.replicate (3 - (lg_sl ([.ref h0, .long n])).length) Slot.unset).toArray = ls at hl ⊢
  have hl : lv_has ls 3 [(0, .ref h0), (1, .long n)] := hl
  have htr := Launch.traces_off hfl hadm
  refine lv_lload_n hx hb dX_go_0 rfl (lv_at hl 1 rfl) ?_
  refine lv_lconst (v := 0) hx hb dX_go_1 (by decide) ?_
  refine W.lcmp hx hb dX_go_2 ?_
  refine lv_if_lt (tgt := 14) hx hb dX_go_3 (by decide) (fun hc1 => ?_) (fun hc1 => ?_)
  · -- taken at 3: lg_cmp n 0 < 0
    obtain ⟨q9, hq9⟩ := hZ.1 (64, "the CLOCK goes on by 0 .. 2^44") (by decide)
    exact xt_throw (tx := "the CLOCK goes on by 0 .. 2^44") (names := tw_nm) (q0 := q9) (E := tw_iae) hx hb htr hown (by decide +kernel) (by decide +kernel) (hT _ tt_58) (hT _ tt_6) hq9 (tw_ownA hT hZ) (hl.1.trans hml.symm) dX_go_14 dX_go_17 dX_go_18 dX_go_20 dX_go_23 (fun x hx9 => hout x hx9 _) (Nat.le_of_ble_eq_true rfl) (Nat.le_of_ble_eq_true rfl) (Nat.le_of_ble_eq_true rfl) (Nat.le_of_ble_eq_true rfl) hlocks (fun t hW hE => ⟨_, rfl, hE⟩)
  · -- not taken at 3: lg_cmp n 0 < 0
    refine lv_lload_n hx hb dX_go_6 rfl (lv_at hl 1 rfl) ?_
    refine lv_ldc2 (v := 17592186044416) hx hb hown (hT _ tt_174) dX_go_7 ?_
    refine W.lcmp hx hb dX_go_10 ?_
    refine lv_if_le (tgt := 24) hx hb dX_go_11 (by decide) (fun hc2 => ?_) (fun hc2 => ?_)
    · -- taken at 11: lg_cmp n 17592186044416 ≤ 0
      refine lv_lload_n hx hb dX_go_24 rfl (lv_at hl 1 rfl) ?_
      refine lv_ldc2 (v := 70368744177664) hx hb hown (hT _ tt_125) dX_go_25 ?_
      refine lv_aload_n hx hb dX_go_28 rfl (lv_at hl 0 rfl) ?_
      refine va_get (D := (dC, dI)) (ci := 0) (v := .long ck) (C := RX) (T := FX) (N := 6) hx hb hT in_X hown hK hP 0 rfl rfl 4 (by decide) (hT _ tt_20) (fun _ h9 => h9) rfl dX_go_29 ?_
      refine lv_lsub hx hb dX_go_32 ?_
      refine W.lcmp hx hb dX_go_33 ?_
      refine lv_if_le (tgt := 47) hx hb dX_go_34 (by decide) (fun hc3 => absurd hc3 (fun z => hbad ⟨(lg_cmp_ge _ _).mp (Int32.not_lt.mp hc1), (lg_cmp_le _ _).mp hc2, (lg_cmp_le _ _).mp z⟩)) (fun hc3 => ?_)
      obtain ⟨q9, hq9⟩ := hZ.1 (66, "the CLOCK goes at most to 2^46") (by decide)
      exact xt_throw (tx := "the CLOCK goes at most to 2^46") (names := tw_nm) (q0 := q9) (E := tw_iae) hx hb htr hown (by decide +kernel) (by decide +kernel) (hT _ tt_58) (hT _ tt_6) hq9 (tw_ownA hT hZ) (hl.1.trans hml.symm) dX_go_37 dX_go_40 dX_go_41 dX_go_43 dX_go_46 (fun x hx9 => hout x hx9 _) (Nat.le_of_ble_eq_true rfl) (Nat.le_of_ble_eq_true rfl) (Nat.le_of_ble_eq_true rfl) (Nat.le_of_ble_eq_true rfl) hlocks (fun t hW hE => ⟨_, rfl, hE⟩)
    · -- not taken at 11: lg_cmp n 17592186044416 ≤ 0
      obtain ⟨q9, hq9⟩ := hZ.1 (64, "the CLOCK goes on by 0 .. 2^44") (by decide)
      exact xt_throw (tx := "the CLOCK goes on by 0 .. 2^44") (names := tw_nm) (q0 := q9) (E := tw_iae) hx hb htr hown (by decide +kernel) (by decide +kernel) (hT _ tt_58) (hT _ tt_6) hq9 (tw_ownA hT hZ) (hl.1.trans hml.symm) dX_go_14 dX_go_17 dX_go_18 dX_go_20 dX_go_23 (fun x hx9 => hout x hx9 _) (Nat.le_of_ble_eq_true rfl) (Nat.le_of_ble_eq_true rfl) (Nat.le_of_ble_eq_true rfl) (Nat.le_of_ble_eq_true rfl) hlocks (fun t hW hE => ⟨_, rfl, hE⟩)
set_option maxHeartbeats 4000000 in
set_option maxRecDepth 100000 in
theorem cX_skip (l : Launch) (dC : Nat → ClassId) (dI : Nat → Nat → Nat) (h0 a0 a1 a2 a3 : Nat) (k0 k1 k2 k3 : ClassId) (th : Nat → Int32) (tm : Nat → Int64) (pr ag : Nat → Int32) (ck : Int64) (nx : Int32) (sz : Nat) (hf : ¬ tw_least th tm ck 100 = -1) : Met l yX_skip (Cond.code yX_skip bX_skip 3 (some .int) :: tw_T) { frames := 2, cells := 0, slots := 0, locals := 80 } (va_Pc [.ref h0] (fun U => U.heap.size = sz ∧ va_P (dC, dI) tw_cl (tw_wX h0 a0 a1 a2 a3 k0 k1 k2 k3 th tm pr ag ck nx) U.heap ∧ va_K (dC, dI) tw_cl (tw_k k0 k1 k2 k3) U ∧ va_D (fun _ => True) (tw_wX h0 a0 a1 a2 a3 k0 k1 k2 k3 th tm pr ag ck nx))) (va_Qi (S := Unit) (fun r _ => r = tw_dues th tm (tw_least th tm ck 100) 100) (fun _ tz => va_P (dC, dI) tw_cl (tw_wX h0 a0 a1 a2 a3 k0 k1 k2 k3 th tm pr ag (tw_least th tm ck 100) nx) tz.heap ∧ va_D (va_A (tw_wX h0 a0 a1 a2 a3 k0 k1 k2 k3 th tm pr ag ck nx) sz) (tw_wX h0 a0 a1 a2 a3 k0 k1 k2 k3 th tm pr ag (tw_least th tm ck 100) nx)) (va_A (tw_wX h0 a0 a1 a2 a3 k0 k1 k2 k3 th tm pr ag ck nx) sz)) 0 0 (va_A (tw_wX h0 a0 a1 a2 a3 k0 k1 k2 k3 th tm pr ag ck nx) sz) := by
  refine Met.ofW (cc := bX_skip) (maxL := 3) (ret := some .int) (by decide) rfl ?_
  intro p e s m args below meth c s₁ B hml hv
  obtain ⟨rfl, hsz, hP, hK, hD0⟩ := hv
  have hx := B.exec
  have hb := B.bytes
  have hr := B.returns
  have hT := fun (w : Cond) (h : w ∈ tw_T) => atoms_spec (ws := Cond.code yX_skip bX_skip 3 (some .int) :: tw_T) B.pre w (List.mem_cons_of_mem _ h)
  have hown : s.vm.findClass RX = some m.cls := findClass_of_methodNamed B.named
  have hlocks := B.notSynchronized
  have hl := lv_entry ([.ref h0]) (n := 3) (Nat.le_of_ble_eq_true rfl)
  rw [lg_entry_eq]
  generalize (lg_sl ([.ref h0]) ++ List.replicate (3 - (lg_sl ([.ref h0])).length) Slot.unset).toArray = ls at hl ⊢
  have hl : lv_has ls 3 [(0, .ref h0)] := hl
  subst hsz
  have hD := hD0.self (sz := s.heap.size)
  generalize hAe : va_A (tw_wX h0 a0 a1 a2 a3 k0 k1 k2 k3 th tm pr ag ck nx) s.heap.size = A at hD ⊢
  have hS : va_S A s.heap s.heap [] := va_S.rf
  refine lv_aload_n hx hb dX_skip_0 rfl (lv_at hl 0 rfl) ?_
  refine vp_callSl (W.runV (C := RX) (b := h0) (As := []) (rest := []) ⟨hx, hb, hml, hown, hT⟩ (cX_least l dC dI h0 a0 a1 a2 a3 k0 k1 k2 k3 th tm pr ag ck nx) (cwV 0 hT (tw_gV tt_188 tt_39 tt_40 tt_1 tt_41) rfl rfl rfl ⟨rfl, by decide +kernel⟩ ⟨Nat.le_of_ble_eq_true rfl, Nat.le_of_ble_eq_true rfl⟩) ⟨fun a U g mk q => ⟨q.1, q.2.1, va_K.moved (u := U) (U := U.calling g mk a) (Vm.Alike.refl U.vm) q.2.2⟩, va_recv (q0 := 0) (ci := 0) hK hP rfl rfl, fun U hU hW => ⟨rfl, by rw [hU]; exact hP, va_K.moved hW.alike hK⟩⟩ rfl rfl hl.1 rfl (lv_room (Nat.le_of_ble_eq_true rfl)) dX_skip_1 ⟨Nat.le_of_ble_eq_true rfl, Nat.le_of_ble_eq_true rfl⟩) (fun r1 h1 => ?_)
  subst h1
  refine lv_lstore_n hx hb dX_skip_4 rfl hl (by decide) rfl (fun ls hl => ?_)
  have hl : lv_has ls 3 [(1, .long (tw_least th tm ck 100)), (0, .ref h0)] := hl
  refine lv_lload_n hx hb dX_skip_5 rfl (lv_at hl 0 rfl) ?_
  refine lv_ldc2 (v := -1) hx hb hown (hT _ tt_42) dX_skip_6 ?_
  refine W.lcmp hx hb dX_skip_9 ?_
  refine lv_if_ne (tgt := 23) hx hb dX_skip_10 (by decide) (fun hc1 => ?_) (fun hc1 => absurd hc1 (fun z => hf ((lg_cmp_eq _ _).mp z)))
  refine lv_aload_n hx hb dX_skip_23 rfl (lv_at hl 1 rfl) ?_
  refine lv_lload_n hx hb dX_skip_24 rfl (lv_at hl 0 rfl) ?_
  refine va_put (D := (dC, dI)) (ci := 0) (v := .long (tw_least th tm ck 100)) (ty := .long) (C := RX) (T := FX) (N := 6) hx hb hT in_X TX tX_ok nX_ hown hK hP hD hS 0 rfl rfl 4 (by decide) (hT _ tt_20) (fun _ h9 => h9) rfl (by decide +kernel) rfl rfl (Nat.le_of_ble_eq_true rfl) dX_skip_25 (fun H locs hP hD hS => ?_)
  have hP : va_P (dC, dI) tw_cl [(h0, .inr (0, [.ref a0, .ref a1, .ref a2, .ref a3, .long (tw_least th tm ck 100), .int nx])), (a0, .inl (k0, 100, .inl th)), (a1, .inl (k1, 100, .inr (.inl tm))), (a2, .inl (k2, 100, .inl pr)), (a3, .inl (k3, 100, .inl ag))] H := hP
  have hD : va_D A [(h0, .inr (0, [.ref a0, .ref a1, .ref a2, .ref a3, .long (tw_least th tm ck 100), .int nx])), (a0, .inl (k0, 100, .inl th)), (a1, .inl (k1, 100, .inr (.inl tm))), (a2, .inl (k2, 100, .inl pr)), (a3, .inl (k3, 100, .inl ag))] := hD
  refine lv_aload_n hx hb dX_skip_28 rfl (lv_at hl 1 rfl) ?_
  refine vp_callSi (W.runV (C := RX) (b := h0) (As := []) (rest := []) ⟨hx, hb, hml, hown, hT⟩ (cX_countDue l dC dI h0 a0 a1 a2 a3 k0 k1 k2 k3 th tm pr ag (tw_least th tm ck 100) nx) (cwV 0 hT (tw_gV tt_177 tt_179 tp_X_countDue tt_1 tt_180) rfl rfl rfl ⟨rfl, by decide +kernel⟩ ⟨Nat.le_of_ble_eq_true rfl, Nat.le_of_ble_eq_true rfl⟩) ⟨fun a U g mk q => ⟨q.1, q.2.1, va_K.moved (u := U) (U := U.calling g mk a) (Vm.Alike.refl U.vm) q.2.2⟩, va_recv (q0 := 0) (ci := 0) hK hP rfl rfl, fun U hU hW => ⟨rfl, by rw [hU]; exact hP, va_K.moved hW.alike hK⟩⟩ rfl rfl hl.1 rfl (lv_room (Nat.le_of_ble_eq_true rfl)) dX_skip_29 ⟨Nat.le_of_ble_eq_true rfl, Nat.le_of_ble_eq_true rfl⟩) (fun r2 h2 => ?_)
  subst h2
  exact W.iret hx hb hr (fun t ht hW => ⟨⟨_, (), rfl, rfl, by rw [ht]; exact hP, hD⟩, hS.F ht⟩) hS.2.2 dX_skip_32
set_option maxHeartbeats 4000000 in
set_option maxRecDepth 100000 in
theorem eX_skip (l : Launch) (hfl : l.flags = pinnedFlags ++ [noTraceFlag]) (dC : Nat → ClassId) (dI : Nat → Nat → Nat) (h0 a0 a1 a2 a3 : Nat) (k0 k1 k2 k3 : ClassId) (th : Nat → Int32) (tm : Nat → Int64) (pr ag : Nat → Int32) (ck : Int64) (nx : Int32) (hf : tw_least th tm ck 100 = -1) : xt_Met l yX_skip (Cond.code yX_skip bX_skip 3 (some .int) :: tw_T) { frames := 7, cells := 1, slots := 6, locals := 120 } (va_Pc [.ref h0] (fun U => tw_PX dC dI h0 a0 a1 a2 a3 k0 k1 k2 k3 th tm pr ag ck nx U ∧ tw_Z U U.heap)) (tw_thr tw_nse) 1 6 (fun _ => False) := by
  refine xt_ofW (cc := bX_skip) (maxL := 3) (ret := some .int) (by decide) rfl ?_
  intro p e s m args below meth c s₁ B hml hout hadm hv
  obtain ⟨rfl, ⟨hP, hK⟩, hZ⟩ := hv
  have hx := B.exec
  have hb := B.bytes
  have hr := B.returns
  have hT := fun (w : Cond) (h : w ∈ tw_T) => atoms_spec (ws := Cond.code yX_skip bX_skip 3 (some .int) :: tw_T) B.pre w (List.mem_cons_of_mem _ h)
  have hown : s.vm.findClass RX = some m.cls := findClass_of_methodNamed B.named
  have hlocks := B.notSynchronized
  have hl := lv_entry ([.ref h0]) (n := 3) (Nat.le_of_ble_eq_true rfl)
  rw [lg_entry_eq]
  generalize (lg_sl ([.ref h0]) ++ List.replicate (3 - (lg_sl ([.ref h0])).length) Slot.unset).toArray = ls at hl ⊢
  have hl : lv_has ls 3 [(0, .ref h0)] := hl
  have htr := Launch.traces_off hfl hadm
  refine lv_aload_n hx hb dX_skip_0 rfl (lv_at hl 0 rfl) ?_
  refine vp_callSl (W.runV (C := RX) (b := h0) (As := []) (rest := []) ⟨hx, hb, hml, hown, hT⟩ (cX_least l dC dI h0 a0 a1 a2 a3 k0 k1 k2 k3 th tm pr ag ck nx) (cwV 0 hT (tw_gV tt_188 tt_39 tt_40 tt_1 tt_41) rfl rfl rfl ⟨rfl, by decide +kernel⟩ ⟨Nat.le_of_ble_eq_true rfl, Nat.le_of_ble_eq_true rfl⟩) ⟨fun a U g mk q => ⟨q.1, q.2.1, va_K.moved (u := U) (U := U.calling g mk a) (Vm.Alike.refl U.vm) q.2.2⟩, va_recv (q0 := 0) (ci := 0) hK hP rfl rfl, fun U hU hW => ⟨rfl, by rw [hU]; exact hP, va_K.moved hW.alike hK⟩⟩ rfl rfl hl.1 rfl (lv_room (Nat.le_of_ble_eq_true rfl)) dX_skip_1 ⟨Nat.le_of_ble_eq_true rfl, Nat.le_of_ble_eq_true rfl⟩) (fun r1 h1 => ?_)
  subst h1
  refine lv_lstore_n hx hb dX_skip_4 rfl hl (by decide) rfl (fun ls hl => ?_)
  have hl : lv_has ls 3 [(1, .long (tw_least th tm ck 100)), (0, .ref h0)] := hl
  refine lv_lload_n hx hb dX_skip_5 rfl (lv_at hl 0 rfl) ?_
  refine lv_ldc2 (v := -1) hx hb hown (hT _ tt_42) dX_skip_6 ?_
  refine W.lcmp hx hb dX_skip_9 ?_
  refine lv_if_ne (tgt := 23) hx hb dX_skip_10 (by decide) (fun hc1 => absurd ((lg_cmp_eq _ _).mpr hf) hc1) (fun hc1 => ?_)
  obtain ⟨q9, hq9⟩ := hZ.1 (75, "there is no TIMER that is not DUE") (by decide)
  exact xt_throwN (tx := "there is no TIMER that is not DUE") (names := ["java/lang/Exception"]) (Y := "java/lang/RuntimeException") (q0 := q9) (E := tw_nse) hx hb htr tw_x0 tw_x1 tw_x2 tw_x5 hown (by decide +kernel) (by decide +kernel) (by decide +kernel) (hT _ tt_145) (hT _ tt_135) (hT _ tt_7) hq9 (tw_ownN hT hZ) (hl.1.trans hml.symm) dX_skip_13 dX_skip_16 dX_skip_17 dX_skip_19 dX_skip_22 (fun x hx9 => hout x hx9 _) (Nat.le_of_ble_eq_true rfl) (Nat.le_of_ble_eq_true rfl) (Nat.le_of_ble_eq_true rfl) (Nat.le_of_ble_eq_true rfl) hlocks (fun t hW hE => ⟨_, rfl, hE⟩)
set_option maxHeartbeats 4000000 in
set_option maxRecDepth 100000 in
theorem cX_timer0 (l : Launch) (dC : Nat → ClassId) (dI : Nat → Nat → Nat) (h0 a0 a1 a2 a3 : Nat) (k0 k1 k2 k3 : ClassId) (th : Nat → Int32) (tm : Nat → Int64) (pr ag : Nat → Int32) (ck : Int64) (nx : Int32) (j : Int32) (hj : vp_in j 100) : Met l yX_timer (Cond.code yX_timer bX_timer 3 (some .long) :: tw_T) { frames := 2, cells := 0, slots := 0, locals := 80 } (va_Pc [.ref h0, .int j, .int 0] (tw_PX dC dI h0 a0 a1 a2 a3 k0 k1 k2 k3 th tm pr ag ck nx)) (vp_Sl (fun r => r = (if th j.toNatClampNeg = 0 then 0 else if tw_due th tm ck j = true then 2 else 1))) 0 0 (fun _ => False) := by
  refine Met.ofW (cc := bX_timer) (maxL := 3) (ret := some .long) (by decide) rfl ?_
  intro p e s m args below meth c s₁ B hml hv
  obtain ⟨rfl, hP, hK⟩ := hv
  have hx := B.exec
  have hb := B.bytes
  have hr := B.returns
  have hT := fun (w : Cond) (h : w ∈ tw_T) => atoms_spec (ws := Cond.code yX_timer bX_timer 3 (some .long) :: tw_T) B.pre w (List.mem_cons_of_mem _ h)
  have hown : s.vm.findClass RX = some m.cls := findClass_of_methodNamed B.named
  have hlocks := B.notSynchronized
  have hl := lv_entry ([.ref h0, .int j, .int 0]) (n := 3) (Nat.le_of_ble_eq_true rfl)
  rw [lg_entry_eq]
  generalize (lg_sl ([.ref h0, .int j, .int 0]) ++ List.replicate (3 - (lg_sl ([.ref h0, .int j, .int 0])).length) Slot.unset).toArray = ls at hl ⊢
  have hl : lv_has ls 3 [(0, .ref h0), (1, .int j), (2, .int 0)] := hl
  refine lv_iload_n hx hb dX_timer_0 rfl (lv_at hl 1 rfl) ?_
  refine va_csv (W.runS (As := [.int j]) (rest := []) ⟨hx, hb, hml, hown, hT⟩ (cX_requireTimerNumber l j hj) (cwS 1 hT (tw_gS tt_55 tt_56 tt_1 tt_57) rfl rfl rfl ⟨rfl, by decide +kernel⟩ ⟨Nat.le_of_ble_eq_true rfl, Nat.le_of_ble_eq_true rfl⟩) ⟨fun a U g mk q => q, fun U hU hW => ⟨rfl, trivial⟩⟩ rfl rfl hl.1 rfl (lv_room (Nat.le_of_ble_eq_true rfl)) dX_timer_1 ⟨Nat.le_of_ble_eq_true rfl, Nat.le_of_ble_eq_true rfl⟩) (fun _ => ?_)
  refine lv_iload_n hx hb dX_timer_4 rfl (lv_at hl 2 rfl) ?_
  refine lv_if_lt (tgt := 13) hx hb dX_timer_5 (by decide) (fun hc1 => absurd hc1 (by decide)) (fun hc1 => ?_)
  refine lv_iload_n hx hb dX_timer_8 rfl (lv_at hl 2 rfl) ?_
  refine lv_iconst (v := 3) hx hb dX_timer_9 (by decide) ?_
  refine lv_icmp_le (tgt := 23) hx hb dX_timer_10 (by decide) (fun hc2 => ?_) (fun hc2 => absurd (by decide) hc2)
  refine lv_aload_n hx hb dX_timer_23 rfl (lv_at hl 0 rfl) ?_
  refine va_get (D := (dC, dI)) (ci := 0) (v := .ref a0) (C := RX) (T := FX) (N := 6) hx hb hT in_X hown hK hP 0 rfl rfl 0 (by decide) (hT _ tt_16) (fun _ h9 => h9) rfl dX_timer_24 ?_
  refine lv_iload_n hx hb dX_timer_27 rfl (lv_at hl 1 rfl) ?_
  refine va_zald hx hb hK hP 1 0 rfl rfl hj dX_timer_28 ?_
  refine lv_if_ne (tgt := 34) hx hb dX_timer_29 (by decide) (fun hc3 => ?_) (fun hc3 => ?_)
  · -- taken at 29: ¬ th j.toNatClampNeg = 0
    refine lv_iload_n hx hb dX_timer_34 rfl (lv_at hl 2 rfl) ?_
    refine lv_tableIn (off := 25) (tgt := 60) hx hb dX_timer_35 (by decide) (by decide) (by decide +kernel) (by decide) ?_
    refine lv_aload_n hx hb dX_timer_60 rfl (lv_at hl 0 rfl) ?_
    refine lv_iload_n hx hb dX_timer_61 rfl (lv_at hl 1 rfl) ?_
    refine vp_callSi (W.runV (C := RX) (b := h0) (As := [.int j]) (rest := []) ⟨hx, hb, hml, hown, hT⟩ (cX_isDue l dC dI h0 a0 a1 a2 a3 k0 k1 k2 k3 th tm pr ag ck nx j hj) (cwV 1 hT (tw_gV tt_43 tt_45 tp_X_isDue tt_1 tt_46) rfl rfl rfl ⟨rfl, by decide +kernel⟩ ⟨Nat.le_of_ble_eq_true rfl, Nat.le_of_ble_eq_true rfl⟩) ⟨fun a U g mk q => ⟨q.1, q.2.1, va_K.moved (u := U) (U := U.calling g mk a) (Vm.Alike.refl U.vm) q.2.2⟩, va_recv (q0 := 0) (ci := 0) hK hP rfl rfl, fun U hU hW => ⟨rfl, by rw [hU]; exact hP, va_K.moved hW.alike hK⟩⟩ rfl rfl hl.1 rfl (lv_room (Nat.le_of_ble_eq_true rfl)) dX_timer_62 ⟨Nat.le_of_ble_eq_true rfl, Nat.le_of_ble_eq_true rfl⟩) (fun r1 h1 => ?_)
    subst h1
    refine lv_if_eq (tgt := 74) hx hb dX_timer_65 (by decide) (fun hc4 => ?_) (fun hc4 => ?_)
    · -- taken at 65: tw_bz (tw_due th tm ck j) = 0
      refine lv_lconst (v := 1) hx hb dX_timer_74 (by decide) ?_
      exact W.lret hx hb hr (fun t ht hW => ⟨_, rfl, by rw [if_neg hc3, if_neg (by rw [tw_bz0 hc4]; decide)], ht⟩) (fun q hq => by cases hq) dX_timer_75
    · -- not taken at 65: tw_bz (tw_due th tm ck j) = 0
      refine lv_ldc2 (v := 2) hx hb hown (hT _ tt_198) dX_timer_68 ?_
      refine lv_goto (tgt := 75) hx hb dX_timer_71 (by decide) ?_
      exact W.lret hx hb hr (fun t ht hW => ⟨_, rfl, by rw [if_neg hc3, if_pos (tw_bz1 hc4)], ht⟩) (fun q hq => by cases hq) dX_timer_75
  · -- not taken at 29: ¬ th j.toNatClampNeg = 0
    refine lv_lconst (v := 0) hx hb dX_timer_32 (by decide) ?_
    exact W.lret hx hb hr (fun t ht hW => ⟨_, rfl, by rw [if_pos hc3], ht⟩) (fun q hq => by cases hq) dX_timer_33
set_option maxHeartbeats 4000000 in
set_option maxRecDepth 100000 in
theorem cX_timer1 (l : Launch) (dC : Nat → ClassId) (dI : Nat → Nat → Nat) (h0 a0 a1 a2 a3 : Nat) (k0 k1 k2 k3 : ClassId) (th : Nat → Int32) (tm : Nat → Int64) (pr ag : Nat → Int32) (ck : Int64) (nx : Int32) (j : Int32) (hj : vp_in j 100) : Met l yX_timer (Cond.code yX_timer bX_timer 3 (some .long) :: tw_T) { frames := 2, cells := 0, slots := 0, locals := 80 } (va_Pc [.ref h0, .int j, .int 1] (tw_PX dC dI h0 a0 a1 a2 a3 k0 k1 k2 k3 th tm pr ag ck nx)) (vp_Sl (fun r => r = (if th j.toNatClampNeg = 0 then 0 else tm j.toNatClampNeg))) 0 0 (fun _ => False) := by
  refine Met.ofW (cc := bX_timer) (maxL := 3) (ret := some .long) (by decide) rfl ?_
  intro p e s m args below meth c s₁ B hml hv
  obtain ⟨rfl, hP, hK⟩ := hv
  have hx := B.exec
  have hb := B.bytes
  have hr := B.returns
  have hT := fun (w : Cond) (h : w ∈ tw_T) => atoms_spec (ws := Cond.code yX_timer bX_timer 3 (some .long) :: tw_T) B.pre w (List.mem_cons_of_mem _ h)
  have hown : s.vm.findClass RX = some m.cls := findClass_of_methodNamed B.named
  have hlocks := B.notSynchronized
  have hl := lv_entry ([.ref h0, .int j, .int 1]) (n := 3) (Nat.le_of_ble_eq_true rfl)
  rw [lg_entry_eq]
  generalize (lg_sl ([.ref h0, .int j, .int 1]) ++ List.replicate (3 - (lg_sl ([.ref h0, .int j, .int 1])).length) Slot.unset).toArray = ls at hl ⊢
  have hl : lv_has ls 3 [(0, .ref h0), (1, .int j), (2, .int 1)] := hl
  refine lv_iload_n hx hb dX_timer_0 rfl (lv_at hl 1 rfl) ?_
  refine va_csv (W.runS (As := [.int j]) (rest := []) ⟨hx, hb, hml, hown, hT⟩ (cX_requireTimerNumber l j hj) (cwS 1 hT (tw_gS tt_55 tt_56 tt_1 tt_57) rfl rfl rfl ⟨rfl, by decide +kernel⟩ ⟨Nat.le_of_ble_eq_true rfl, Nat.le_of_ble_eq_true rfl⟩) ⟨fun a U g mk q => q, fun U hU hW => ⟨rfl, trivial⟩⟩ rfl rfl hl.1 rfl (lv_room (Nat.le_of_ble_eq_true rfl)) dX_timer_1 ⟨Nat.le_of_ble_eq_true rfl, Nat.le_of_ble_eq_true rfl⟩) (fun _ => ?_)
  refine lv_iload_n hx hb dX_timer_4 rfl (lv_at hl 2 rfl) ?_
  refine lv_if_lt (tgt := 13) hx hb dX_timer_5 (by decide) (fun hc1 => absurd hc1 (by decide)) (fun hc1 => ?_)
  refine lv_iload_n hx hb dX_timer_8 rfl (lv_at hl 2 rfl) ?_
  refine lv_iconst (v := 3) hx hb dX_timer_9 (by decide) ?_
  refine lv_icmp_le (tgt := 23) hx hb dX_timer_10 (by decide) (fun hc2 => ?_) (fun hc2 => absurd (by decide) hc2)
  refine lv_aload_n hx hb dX_timer_23 rfl (lv_at hl 0 rfl) ?_
  refine va_get (D := (dC, dI)) (ci := 0) (v := .ref a0) (C := RX) (T := FX) (N := 6) hx hb hT in_X hown hK hP 0 rfl rfl 0 (by decide) (hT _ tt_16) (fun _ h9 => h9) rfl dX_timer_24 ?_
  refine lv_iload_n hx hb dX_timer_27 rfl (lv_at hl 1 rfl) ?_
  refine va_zald hx hb hK hP 1 0 rfl rfl hj dX_timer_28 ?_
  refine lv_if_ne (tgt := 34) hx hb dX_timer_29 (by decide) (fun hc3 => ?_) (fun hc3 => ?_)
  · -- taken at 29: ¬ th j.toNatClampNeg = 0
    refine lv_iload_n hx hb dX_timer_34 rfl (lv_at hl 2 rfl) ?_
    refine lv_tableIn (off := 41) (tgt := 76) hx hb dX_timer_35 (by decide) (by decide) (by decide +kernel) (by decide) ?_
    refine lv_aload_n hx hb dX_timer_76 rfl (lv_at hl 0 rfl) ?_
    refine va_get (D := (dC, dI)) (ci := 0) (v := .ref a1) (C := RX) (T := FX) (N := 6) hx hb hT in_X hown hK hP 0 rfl rfl 1 (by decide) (hT _ tt_17) (fun _ h9 => h9) rfl dX_timer_77 ?_
    refine lv_iload_n hx hb dX_timer_80 rfl (lv_at hl 1 rfl) ?_
    refine va_lald hx hb hK hP 2 1 rfl rfl hj dX_timer_81 ?_
    exact W.lret hx hb hr (fun t ht hW => ⟨_, rfl, by rw [if_neg hc3], ht⟩) (fun q hq => by cases hq) dX_timer_82
  · -- not taken at 29: ¬ th j.toNatClampNeg = 0
    refine lv_lconst (v := 0) hx hb dX_timer_32 (by decide) ?_
    exact W.lret hx hb hr (fun t ht hW => ⟨_, rfl, by rw [if_pos hc3], ht⟩) (fun q hq => by cases hq) dX_timer_33
set_option maxHeartbeats 4000000 in
set_option maxRecDepth 100000 in
theorem cX_timer2 (l : Launch) (dC : Nat → ClassId) (dI : Nat → Nat → Nat) (h0 a0 a1 a2 a3 : Nat) (k0 k1 k2 k3 : ClassId) (th : Nat → Int32) (tm : Nat → Int64) (pr ag : Nat → Int32) (ck : Int64) (nx : Int32) (j : Int32) (hj : vp_in j 100) : Met l yX_timer (Cond.code yX_timer bX_timer 3 (some .long) :: tw_T) { frames := 2, cells := 0, slots := 0, locals := 80 } (va_Pc [.ref h0, .int j, .int 2] (tw_PX dC dI h0 a0 a1 a2 a3 k0 k1 k2 k3 th tm pr ag ck nx)) (vp_Sl (fun r => r = (if th j.toNatClampNeg = 0 then 0 else (pr j.toNatClampNeg).toInt64))) 0 0 (fun _ => False) := by
  refine Met.ofW (cc := bX_timer) (maxL := 3) (ret := some .long) (by decide) rfl ?_
  intro p e s m args below meth c s₁ B hml hv
  obtain ⟨rfl, hP, hK⟩ := hv
  have hx := B.exec
  have hb := B.bytes
  have hr := B.returns
  have hT := fun (w : Cond) (h : w ∈ tw_T) => atoms_spec (ws := Cond.code yX_timer bX_timer 3 (some .long) :: tw_T) B.pre w (List.mem_cons_of_mem _ h)
  have hown : s.vm.findClass RX = some m.cls := findClass_of_methodNamed B.named
  have hlocks := B.notSynchronized
  have hl := lv_entry ([.ref h0, .int j, .int 2]) (n := 3) (Nat.le_of_ble_eq_true rfl)
  rw [lg_entry_eq]
  generalize (lg_sl ([.ref h0, .int j, .int 2]) ++ List.replicate (3 - (lg_sl ([.ref h0, .int j, .int 2])).length) Slot.unset).toArray = ls at hl ⊢
  have hl : lv_has ls 3 [(0, .ref h0), (1, .int j), (2, .int 2)] := hl
  refine lv_iload_n hx hb dX_timer_0 rfl (lv_at hl 1 rfl) ?_
  refine va_csv (W.runS (As := [.int j]) (rest := []) ⟨hx, hb, hml, hown, hT⟩ (cX_requireTimerNumber l j hj) (cwS 1 hT (tw_gS tt_55 tt_56 tt_1 tt_57) rfl rfl rfl ⟨rfl, by decide +kernel⟩ ⟨Nat.le_of_ble_eq_true rfl, Nat.le_of_ble_eq_true rfl⟩) ⟨fun a U g mk q => q, fun U hU hW => ⟨rfl, trivial⟩⟩ rfl rfl hl.1 rfl (lv_room (Nat.le_of_ble_eq_true rfl)) dX_timer_1 ⟨Nat.le_of_ble_eq_true rfl, Nat.le_of_ble_eq_true rfl⟩) (fun _ => ?_)
  refine lv_iload_n hx hb dX_timer_4 rfl (lv_at hl 2 rfl) ?_
  refine lv_if_lt (tgt := 13) hx hb dX_timer_5 (by decide) (fun hc1 => absurd hc1 (by decide)) (fun hc1 => ?_)
  refine lv_iload_n hx hb dX_timer_8 rfl (lv_at hl 2 rfl) ?_
  refine lv_iconst (v := 3) hx hb dX_timer_9 (by decide) ?_
  refine lv_icmp_le (tgt := 23) hx hb dX_timer_10 (by decide) (fun hc2 => ?_) (fun hc2 => absurd (by decide) hc2)
  refine lv_aload_n hx hb dX_timer_23 rfl (lv_at hl 0 rfl) ?_
  refine va_get (D := (dC, dI)) (ci := 0) (v := .ref a0) (C := RX) (T := FX) (N := 6) hx hb hT in_X hown hK hP 0 rfl rfl 0 (by decide) (hT _ tt_16) (fun _ h9 => h9) rfl dX_timer_24 ?_
  refine lv_iload_n hx hb dX_timer_27 rfl (lv_at hl 1 rfl) ?_
  refine va_zald hx hb hK hP 1 0 rfl rfl hj dX_timer_28 ?_
  refine lv_if_ne (tgt := 34) hx hb dX_timer_29 (by decide) (fun hc3 => ?_) (fun hc3 => ?_)
  · -- taken at 29: ¬ th j.toNatClampNeg = 0
    refine lv_iload_n hx hb dX_timer_34 rfl (lv_at hl 2 rfl) ?_
    refine lv_tableIn (off := 48) (tgt := 83) hx hb dX_timer_35 (by decide) (by decide) (by decide +kernel) (by decide) ?_
    refine lv_aload_n hx hb dX_timer_83 rfl (lv_at hl 0 rfl) ?_
    refine va_get (D := (dC, dI)) (ci := 0) (v := .ref a2) (C := RX) (T := FX) (N := 6) hx hb hT in_X hown hK hP 0 rfl rfl 2 (by decide) (hT _ tt_18) (fun _ h9 => h9) rfl dX_timer_84 ?_
    refine lv_iload_n hx hb dX_timer_87 rfl (lv_at hl 1 rfl) ?_
    refine va_iald hx hb hK hP 3 2 rfl rfl hj dX_timer_88 ?_
    refine lv_i2l hx hb dX_timer_89 rfl ?_
    exact W.lret hx hb hr (fun t ht hW => ⟨_, rfl, by rw [if_neg hc3], ht⟩) (fun q hq => by cases hq) dX_timer_90
  · -- not taken at 29: ¬ th j.toNatClampNeg = 0
    refine lv_lconst (v := 0) hx hb dX_timer_32 (by decide) ?_
    exact W.lret hx hb hr (fun t ht hW => ⟨_, rfl, by rw [if_pos hc3], ht⟩) (fun q hq => by cases hq) dX_timer_33
set_option maxHeartbeats 4000000 in
set_option maxRecDepth 100000 in
theorem cX_timer3 (l : Launch) (dC : Nat → ClassId) (dI : Nat → Nat → Nat) (h0 a0 a1 a2 a3 : Nat) (k0 k1 k2 k3 : ClassId) (th : Nat → Int32) (tm : Nat → Int64) (pr ag : Nat → Int32) (ck : Int64) (nx : Int32) (j : Int32) (hj : vp_in j 100) : Met l yX_timer (Cond.code yX_timer bX_timer 3 (some .long) :: tw_T) { frames := 2, cells := 0, slots := 0, locals := 80 } (va_Pc [.ref h0, .int j, .int 3] (tw_PX dC dI h0 a0 a1 a2 a3 k0 k1 k2 k3 th tm pr ag ck nx)) (vp_Sl (fun r => r = (if th j.toNatClampNeg = 0 then 0 else (ag j.toNatClampNeg).toInt64))) 0 0 (fun _ => False) := by
  refine Met.ofW (cc := bX_timer) (maxL := 3) (ret := some .long) (by decide) rfl ?_
  intro p e s m args below meth c s₁ B hml hv
  obtain ⟨rfl, hP, hK⟩ := hv
  have hx := B.exec
  have hb := B.bytes
  have hr := B.returns
  have hT := fun (w : Cond) (h : w ∈ tw_T) => atoms_spec (ws := Cond.code yX_timer bX_timer 3 (some .long) :: tw_T) B.pre w (List.mem_cons_of_mem _ h)
  have hown : s.vm.findClass RX = some m.cls := findClass_of_methodNamed B.named
  have hlocks := B.notSynchronized
  have hl := lv_entry ([.ref h0, .int j, .int 3]) (n := 3) (Nat.le_of_ble_eq_true rfl)
  rw [lg_entry_eq]
  generalize (lg_sl ([.ref h0, .int j, .int 3]) ++ List.replicate (3 - (lg_sl ([.ref h0, .int j, .int 3])).length) Slot.unset).toArray = ls at hl ⊢
  have hl : lv_has ls 3 [(0, .ref h0), (1, .int j), (2, .int 3)] := hl
  refine lv_iload_n hx hb dX_timer_0 rfl (lv_at hl 1 rfl) ?_
  refine va_csv (W.runS (As := [.int j]) (rest := []) ⟨hx, hb, hml, hown, hT⟩ (cX_requireTimerNumber l j hj) (cwS 1 hT (tw_gS tt_55 tt_56 tt_1 tt_57) rfl rfl rfl ⟨rfl, by decide +kernel⟩ ⟨Nat.le_of_ble_eq_true rfl, Nat.le_of_ble_eq_true rfl⟩) ⟨fun a U g mk q => q, fun U hU hW => ⟨rfl, trivial⟩⟩ rfl rfl hl.1 rfl (lv_room (Nat.le_of_ble_eq_true rfl)) dX_timer_1 ⟨Nat.le_of_ble_eq_true rfl, Nat.le_of_ble_eq_true rfl⟩) (fun _ => ?_)
  refine lv_iload_n hx hb dX_timer_4 rfl (lv_at hl 2 rfl) ?_
  refine lv_if_lt (tgt := 13) hx hb dX_timer_5 (by decide) (fun hc1 => absurd hc1 (by decide)) (fun hc1 => ?_)
  refine lv_iload_n hx hb dX_timer_8 rfl (lv_at hl 2 rfl) ?_
  refine lv_iconst (v := 3) hx hb dX_timer_9 (by decide) ?_
  refine lv_icmp_le (tgt := 23) hx hb dX_timer_10 (by decide) (fun hc2 => ?_) (fun hc2 => absurd (by decide) hc2)
  refine lv_aload_n hx hb dX_timer_23 rfl (lv_at hl 0 rfl) ?_
  refine va_get (D := (dC, dI)) (ci := 0) (v := .ref a0) (C := RX) (T := FX) (N := 6) hx hb hT in_X hown hK hP 0 rfl rfl 0 (by decide) (hT _ tt_16) (fun _ h9 => h9) rfl dX_timer_24 ?_
  refine lv_iload_n hx hb dX_timer_27 rfl (lv_at hl 1 rfl) ?_
  refine va_zald hx hb hK hP 1 0 rfl rfl hj dX_timer_28 ?_
  refine lv_if_ne (tgt := 34) hx hb dX_timer_29 (by decide) (fun hc3 => ?_) (fun hc3 => ?_)
  · -- taken at 29: ¬ th j.toNatClampNeg = 0
    refine lv_iload_n hx hb dX_timer_34 rfl (lv_at hl 2 rfl) ?_
    refine lv_tableOut (tgt := 91) hx hb dX_timer_35 (by decide) (by decide) ?_
    refine lv_aload_n hx hb dX_timer_91 rfl (lv_at hl 0 rfl) ?_
    refine va_get (D := (dC, dI)) (ci := 0) (v := .ref a3) (C := RX) (T := FX) (N := 6) hx hb hT in_X hown hK hP 0 rfl rfl 3 (by decide) (hT _ tt_19) (fun _ h9 => h9) rfl dX_timer_92 ?_
    refine lv_iload_n hx hb dX_timer_95 rfl (lv_at hl 1 rfl) ?_
    refine va_iald hx hb hK hP 4 3 rfl rfl hj dX_timer_96 ?_
    refine lv_i2l hx hb dX_timer_97 rfl ?_
    exact W.lret hx hb hr (fun t ht hW => ⟨_, rfl, by rw [if_neg hc3], ht⟩) (fun q hq => by cases hq) dX_timer_98
  · -- not taken at 29: ¬ th j.toNatClampNeg = 0
    refine lv_lconst (v := 0) hx hb dX_timer_32 (by decide) ?_
    exact W.lret hx hb hr (fun t ht hW => ⟨_, rfl, by rw [if_pos hc3], ht⟩) (fun q hq => by cases hq) dX_timer_33
set_option maxHeartbeats 4000000 in
set_option maxRecDepth 100000 in
theorem eX_timer (l : Launch) (hfl : l.flags = pinnedFlags ++ [noTraceFlag]) (dC : Nat → ClassId) (dI : Nat → Nat → Nat) (h0 a0 a1 a2 a3 : Nat) (k0 k1 k2 k3 : ClassId) (th : Nat → Int32) (tm : Nat → Int64) (pr ag : Nat → Int32) (ck : Int64) (nx : Int32) (j k : Int32) (hbad : ¬ (vp_in j 100 ∧ ¬ k < 0 ∧ k ≤ 3)) : xt_Met l yX_timer (Cond.code yX_timer bX_timer 3 (some .long) :: tw_T) { frames := 7, cells := 1, slots := 6, locals := 120 } (va_Pc [.ref h0, .int j, .int k] (fun U => tw_PX dC dI h0 a0 a1 a2 a3 k0 k1 k2 k3 th tm pr ag ck nx U ∧ tw_Z U U.heap)) (tw_thr tw_iae) 1 6 (fun _ => False) := by
  refine xt_ofW (cc := bX_timer) (maxL := 3) (ret := some .long) (by decide) rfl ?_
  intro p e s m args below meth c s₁ B hml hout hadm hv
  obtain ⟨rfl, ⟨hP, hK⟩, hZ⟩ := hv
  have hx := B.exec
  have hb := B.bytes
  have hr := B.returns
  have hT := fun (w : Cond) (h : w ∈ tw_T) => atoms_spec (ws := Cond.code yX_timer bX_timer 3 (some .long) :: tw_T) B.pre w (List.mem_cons_of_mem _ h)
  have hown : s.vm.findClass RX = some m.cls := findClass_of_methodNamed B.named
  have hlocks := B.notSynchronized
  have hl := lv_entry ([.ref h0, .int j, .int k]) (n := 3) (Nat.le_of_ble_eq_true rfl)
  rw [lg_entry_eq]
  generalize (lg_sl ([.ref h0, .int j, .int k]) ++ List.replicate (3 - (lg_sl ([.ref h0, .int j, .int k])).length) Slot.unset).toArray = ls at hl ⊢
  have hl : lv_has ls 3 [(0, .ref h0), (1, .int j), (2, .int k)] := hl
  have htr := Launch.traces_off hfl hadm
  by_cases hj : vp_in j 100
  · -- a TIMER
    refine lv_iload_n hx hb dX_timer_0 rfl (lv_at hl 1 rfl) ?_
    refine va_csv (W.runS (As := [.int j]) (rest := []) ⟨hx, hb, hml, hown, hT⟩ (cX_requireTimerNumber l j hj) (cwS 1 hT (tw_gS tt_55 tt_56 tt_1 tt_57) rfl rfl rfl ⟨rfl, by decide +kernel⟩ ⟨Nat.le_of_ble_eq_true rfl, Nat.le_of_ble_eq_true rfl⟩) ⟨fun a U g mk q => q, fun U hU hW => ⟨rfl, trivial⟩⟩ rfl rfl hl.1 rfl (lv_room (Nat.le_of_ble_eq_true rfl)) dX_timer_1 ⟨Nat.le_of_ble_eq_true rfl, Nat.le_of_ble_eq_true rfl⟩) (fun _ => ?_)
    refine lv_iload_n hx hb dX_timer_4 rfl (lv_at hl 2 rfl) ?_
    refine lv_if_lt (tgt := 13) hx hb dX_timer_5 (by decide) (fun hc1 => ?_) (fun hc1 => ?_)
    · -- taken at 5: k < 0
      obtain ⟨q9, hq9⟩ := hZ.1 (77, "what is 0 .. 3") (by decide)
      exact xt_throw (tx := "what is 0 .. 3") (names := tw_nm) (q0 := q9) (E := tw_iae) hx hb htr hown (by decide +kernel) (by decide +kernel) (hT _ tt_58) (hT _ tt_6) hq9 (tw_ownA hT hZ) (hl.1.trans hml.symm) dX_timer_13 dX_timer_16 dX_timer_17 dX_timer_19 dX_timer_22 (fun x hx9 => hout x hx9 _) (Nat.le_of_ble_eq_true rfl) (Nat.le_of_ble_eq_true rfl) (Nat.le_of_ble_eq_true rfl) (Nat.le_of_ble_eq_true rfl) hlocks (fun t hW hE => ⟨_, rfl, hE⟩)
    · -- not taken at 5: k < 0
      refine lv_iload_n hx hb dX_timer_8 rfl (lv_at hl 2 rfl) ?_
      refine lv_iconst (v := 3) hx hb dX_timer_9 (by decide) ?_
      refine lv_icmp_le (tgt := 23) hx hb dX_timer_10 (by decide) (fun hc2 => absurd hc2 (fun z => hbad ⟨hj, hc1, z⟩)) (fun hc2 => ?_)
      obtain ⟨q9, hq9⟩ := hZ.1 (77, "what is 0 .. 3") (by decide)
      exact xt_throw (tx := "what is 0 .. 3") (names := tw_nm) (q0 := q9) (E := tw_iae) hx hb htr hown (by decide +kernel) (by decide +kernel) (hT _ tt_58) (hT _ tt_6) hq9 (tw_ownA hT hZ) (hl.1.trans hml.symm) dX_timer_13 dX_timer_16 dX_timer_17 dX_timer_19 dX_timer_22 (fun x hx9 => hout x hx9 _) (Nat.le_of_ble_eq_true rfl) (Nat.le_of_ble_eq_true rfl) (Nat.le_of_ble_eq_true rfl) (Nat.le_of_ble_eq_true rfl) hlocks (fun t hW hE => ⟨_, rfl, hE⟩)
  · -- no TIMER
    refine lv_iload_n hx hb dX_timer_0 rfl (lv_at hl 1 rfl) ?_
    refine xt_call (xt_runS (As := [.int j]) (rest := []) ⟨hx, hb, hml, hown, hT⟩ (eX_requireTimerNumber l hfl j hj) (cwS 1 hT (tw_gS tt_55 tt_56 tt_1 tt_57) rfl rfl rfl ⟨rfl, by decide +kernel⟩ ⟨Nat.le_of_ble_eq_true rfl, Nat.le_of_ble_eq_true rfl⟩) ⟨fun a U g mk q => ⟨q.1, q.2.call⟩, fun U hU hW => ⟨rfl, hZ.at hU hW⟩⟩ rfl rfl hl.1 rfl (lv_room (Nat.le_of_ble_eq_true rfl)) dX_timer_1 ⟨Nat.le_of_ble_eq_true rfl, Nat.le_of_ble_eq_true rfl⟩) (fun v st₀ t H1 L _ _ _ _ _ hq => ?_) (fun q st₀ t H1 L e1 e2 e3 e4 hL hq => ?_)
    · obtain ⟨q2, hq1, -⟩ := hq
      cases hq1
    · obtain ⟨q2, hq1, hE⟩ := hq
      cases hq1
      exact xt_out (fun x hx9 => hout x hx9 _) hlocks (fun t2 ht2 hW => ⟨_, rfl, hE.of e2 e1 (ht2.trans e3.symm)⟩) (fun z hz => hL z (by simpa using hz)) (Nat.le_refl _) (Nat.le_refl _)
set_option maxHeartbeats 4000000 in
set_option maxRecDepth 100000 in
theorem cX_count0 (l : Launch) (dC : Nat → ClassId) (dI : Nat → Nat → Nat) (h0 a0 a1 a2 a3 : Nat) (k0 k1 k2 k3 : ClassId) (th : Nat → Int32) (tm : Nat → Int64) (pr ag : Nat → Int32) (ck : Int64) (nx : Int32)  : Met l yX_count (Cond.code yX_count bX_count 2 (some .long) :: tw_T) { frames := 2, cells := 0, slots := 0, locals := 80 } (va_Pc [.ref h0, .int 0] (tw_PX dC dI h0 a0 a1 a2 a3 k0 k1 k2 k3 th tm pr ag ck nx)) (vp_Sl (fun r => r = ck)) 0 0 (fun _ => False) := by
  refine Met.ofW (cc := bX_count) (maxL := 2) (ret := some .long) (by decide) rfl ?_
  intro p e s m args below meth c s₁ B hml hv
  obtain ⟨rfl, hP, hK⟩ := hv
  have hx := B.exec
  have hb := B.bytes
  have hr := B.returns
  have hT := fun (w : Cond) (h : w ∈ tw_T) => atoms_spec (ws := Cond.code yX_count bX_count 2 (some .long) :: tw_T) B.pre w (List.mem_cons_of_mem _ h)
  have hown : s.vm.findClass RX = some m.cls := findClass_of_methodNamed B.named
  have hlocks := B.notSynchronized
  have hl := lv_entry ([.ref h0, .int 0]) (n := 2) (Nat.le_of_ble_eq_true rfl)
  rw [lg_entry_eq]
  generalize (lg_sl ([.ref h0, .int 0]) ++ List.replicate (2 - (lg_sl ([.ref h0, .int 0])).length) Slot.unset).toArray = ls at hl ⊢
  have hl : lv_has ls 2 [(0, .ref h0), (1, .int 0)] := hl
  refine lv_iload_n hx hb dX_count_0 rfl (lv_at hl 1 rfl) ?_
  refine lv_tableIn (off := 27) (tgt := 28) hx hb dX_count_1 (by decide) (by decide) (by decide +kernel) (by decide) ?_
  refine lv_aload_n hx hb dX_count_28 rfl (lv_at hl 0 rfl) ?_
  refine va_get (D := (dC, dI)) (ci := 0) (v := .long ck) (C := RX) (T := FX) (N := 6) hx hb hT in_X hown hK hP 0 rfl rfl 4 (by decide) (hT _ tt_20) (fun _ h9 => h9) rfl dX_count_29 ?_
  exact W.lret hx hb hr (fun t ht hW => ⟨_, rfl, rfl, ht⟩) (fun q hq => by cases hq) dX_count_32
set_option maxHeartbeats 4000000 in
set_option maxRecDepth 100000 in
theorem cX_count1 (l : Launch) (dC : Nat → ClassId) (dI : Nat → Nat → Nat) (h0 a0 a1 a2 a3 : Nat) (k0 k1 k2 k3 : ClassId) (th : Nat → Int32) (tm : Nat → Int64) (pr ag : Nat → Int32) (ck : Int64) (nx : Int32)  : Met l yX_count (Cond.code yX_count bX_count 2 (some .long) :: tw_T) { frames := 2, cells := 0, slots := 0, locals := 80 } (va_Pc [.ref h0, .int 1] (tw_PX dC dI h0 a0 a1 a2 a3 k0 k1 k2 k3 th tm pr ag ck nx)) (vp_Sl (fun r => r = (tw_ther th 100).toInt64)) 0 0 (fun _ => False) := by
  refine Met.ofW (cc := bX_count) (maxL := 2) (ret := some .long) (by decide) rfl ?_
  intro p e s m args below meth c s₁ B hml hv
  obtain ⟨rfl, hP, hK⟩ := hv
  have hx := B.exec
  have hb := B.bytes
  have hr := B.returns
  have hT := fun (w : Cond) (h : w ∈ tw_T) => atoms_spec (ws := Cond.code yX_count bX_count 2 (some .long) :: tw_T) B.pre w (List.mem_cons_of_mem _ h)
  have hown : s.vm.findClass RX = some m.cls := findClass_of_methodNamed B.named
  have hlocks := B.notSynchronized
  have hl := lv_entry ([.ref h0, .int 1]) (n := 2) (Nat.le_of_ble_eq_true rfl)
  rw [lg_entry_eq]
  generalize (lg_sl ([.ref h0, .int 1]) ++ List.replicate (2 - (lg_sl ([.ref h0, .int 1])).length) Slot.unset).toArray = ls at hl ⊢
  have hl : lv_has ls 2 [(0, .ref h0), (1, .int 1)] := hl
  refine lv_iload_n hx hb dX_count_0 rfl (lv_at hl 1 rfl) ?_
  refine lv_tableIn (off := 32) (tgt := 33) hx hb dX_count_1 (by decide) (by decide) (by decide +kernel) (by decide) ?_
  refine lv_aload_n hx hb dX_count_33 rfl (lv_at hl 0 rfl) ?_
  refine vp_callSi (W.runV (C := RX) (b := h0) (As := []) (rest := []) ⟨hx, hb, hml, hown, hT⟩ (cX_countThere l dC dI h0 a0 a1 a2 a3 k0 k1 k2 k3 th tm pr ag ck nx) (cwV 0 hT (tw_gV tt_206 tt_208 tp_X_countThere tt_1 tt_209) rfl rfl rfl ⟨rfl, by decide +kernel⟩ ⟨Nat.le_of_ble_eq_true rfl, Nat.le_of_ble_eq_true rfl⟩) ⟨fun a U g mk q => ⟨q.1, q.2.1, va_K.moved (u := U) (U := U.calling g mk a) (Vm.Alike.refl U.vm) q.2.2⟩, va_recv (q0 := 0) (ci := 0) hK hP rfl rfl, fun U hU hW => ⟨rfl, by rw [hU]; exact hP, va_K.moved hW.alike hK⟩⟩ rfl rfl hl.1 rfl (lv_room (Nat.le_of_ble_eq_true rfl)) dX_count_34 ⟨Nat.le_of_ble_eq_true rfl, Nat.le_of_ble_eq_true rfl⟩) (fun r2 h2 => ?_)
  subst h2
  refine lv_i2l hx hb dX_count_37 rfl ?_
  exact W.lret hx hb hr (fun t ht hW => ⟨_, rfl, rfl, ht⟩) (fun q hq => by cases hq) dX_count_38
set_option maxHeartbeats 4000000 in
set_option maxRecDepth 100000 in
theorem cX_count2 (l : Launch) (dC : Nat → ClassId) (dI : Nat → Nat → Nat) (h0 a0 a1 a2 a3 : Nat) (k0 k1 k2 k3 : ClassId) (th : Nat → Int32) (tm : Nat → Int64) (pr ag : Nat → Int32) (ck : Int64) (nx : Int32)  : Met l yX_count (Cond.code yX_count bX_count 2 (some .long) :: tw_T) { frames := 2, cells := 0, slots := 0, locals := 80 } (va_Pc [.ref h0, .int 2] (tw_PX dC dI h0 a0 a1 a2 a3 k0 k1 k2 k3 th tm pr ag ck nx)) (vp_Sl (fun r => r = (tw_dues th tm ck 100).toInt64)) 0 0 (fun _ => False) := by
  refine Met.ofW (cc := bX_count) (maxL := 2) (ret := some .long) (by decide) rfl ?_
  intro p e s m args below meth c s₁ B hml hv
  obtain ⟨rfl, hP, hK⟩ := hv
  have hx := B.exec
  have hb := B.bytes
  have hr := B.returns
  have hT := fun (w : Cond) (h : w ∈ tw_T) => atoms_spec (ws := Cond.code yX_count bX_count 2 (some .long) :: tw_T) B.pre w (List.mem_cons_of_mem _ h)
  have hown : s.vm.findClass RX = some m.cls := findClass_of_methodNamed B.named
  have hlocks := B.notSynchronized
  have hl := lv_entry ([.ref h0, .int 2]) (n := 2) (Nat.le_of_ble_eq_true rfl)
  rw [lg_entry_eq]
  generalize (lg_sl ([.ref h0, .int 2]) ++ List.replicate (2 - (lg_sl ([.ref h0, .int 2])).length) Slot.unset).toArray = ls at hl ⊢
  have hl : lv_has ls 2 [(0, .ref h0), (1, .int 2)] := hl
  refine lv_iload_n hx hb dX_count_0 rfl (lv_at hl 1 rfl) ?_
  refine lv_tableIn (off := 38) (tgt := 39) hx hb dX_count_1 (by decide) (by decide) (by decide +kernel) (by decide) ?_
  refine lv_aload_n hx hb dX_count_39 rfl (lv_at hl 0 rfl) ?_
  refine vp_callSi (W.runV (C := RX) (b := h0) (As := []) (rest := []) ⟨hx, hb, hml, hown, hT⟩ (cX_countDue l dC dI h0 a0 a1 a2 a3 k0 k1 k2 k3 th tm pr ag ck nx) (cwV 0 hT (tw_gV tt_177 tt_179 tp_X_countDue tt_1 tt_180) rfl rfl rfl ⟨rfl, by decide +kernel⟩ ⟨Nat.le_of_ble_eq_true rfl, Nat.le_of_ble_eq_true rfl⟩) ⟨fun a U g mk q => ⟨q.1, q.2.1, va_K.moved (u := U) (U := U.calling g mk a) (Vm.Alike.refl U.vm) q.2.2⟩, va_recv (q0 := 0) (ci := 0) hK hP rfl rfl, fun U hU hW => ⟨rfl, by rw [hU]; exact hP, va_K.moved hW.alike hK⟩⟩ rfl rfl hl.1 rfl (lv_room (Nat.le_of_ble_eq_true rfl)) dX_count_40 ⟨Nat.le_of_ble_eq_true rfl, Nat.le_of_ble_eq_true rfl⟩) (fun r2 h2 => ?_)
  subst h2
  refine lv_i2l hx hb dX_count_43 rfl ?_
  exact W.lret hx hb hr (fun t ht hW => ⟨_, rfl, rfl, ht⟩) (fun q hq => by cases hq) dX_count_44
set_option maxHeartbeats 4000000 in
set_option maxRecDepth 100000 in
theorem eX_count (l : Launch) (hfl : l.flags = pinnedFlags ++ [noTraceFlag]) (dC : Nat → ClassId) (dI : Nat → Nat → Nat) (h0 a0 a1 a2 a3 : Nat) (k0 k1 k2 k3 : ClassId) (th : Nat → Int32) (tm : Nat → Int64) (pr ag : Nat → Int32) (ck : Int64) (nx : Int32) (k : Int32) (hbad : k.toInt < 0 ∨ 2 < k.toInt) : xt_Met l yX_count (Cond.code yX_count bX_count 2 (some .long) :: tw_T) { frames := 7, cells := 1, slots := 6, locals := 120 } (va_Pc [.ref h0, .int k] (fun U => tw_PX dC dI h0 a0 a1 a2 a3 k0 k1 k2 k3 th tm pr ag ck nx U ∧ tw_Z U U.heap)) (tw_thr tw_iae) 1 6 (fun _ => False) := by
  refine xt_ofW (cc := bX_count) (maxL := 2) (ret := some .long) (by decide) rfl ?_
  intro p e s m args below meth c s₁ B hml hout hadm hv
  obtain ⟨rfl, ⟨hP, hK⟩, hZ⟩ := hv
  have hx := B.exec
  have hb := B.bytes
  have hr := B.returns
  have hT := fun (w : Cond) (h : w ∈ tw_T) => atoms_spec (ws := Cond.code yX_count bX_count 2 (some .long) :: tw_T) B.pre w (List.mem_cons_of_mem _ h)
  have hown : s.vm.findClass RX = some m.cls := findClass_of_methodNamed B.named
  have hlocks := B.notSynchronized
  have hl := lv_entry ([.ref h0, .int k]) (n := 2) (Nat.le_of_ble_eq_true rfl)
  rw [lg_entry_eq]
  generalize (lg_sl ([.ref h0, .int k]) ++ List.replicate (2 - (lg_sl ([.ref h0, .int k])).length) Slot.unset).toArray = ls at hl ⊢
  have hl : lv_has ls 2 [(0, .ref h0), (1, .int k)] := hl
  have htr := Launch.traces_off hfl hadm
  refine lv_iload_n hx hb dX_count_0 rfl (lv_at hl 1 rfl) ?_
  refine lv_tableOut (tgt := 45) hx hb dX_count_1 hbad (by decide) ?_
  obtain ⟨q9, hq9⟩ := hZ.1 (84, "what is 0 .. 2") (by decide)
  exact xt_throw (tx := "what is 0 .. 2") (names := tw_nm) (q0 := q9) (E := tw_iae) hx hb htr hown (by decide +kernel) (by decide +kernel) (hT _ tt_58) (hT _ tt_6) hq9 (tw_ownA hT hZ) (hl.1.trans hml.symm) dX_count_45 dX_count_48 dX_count_49 dX_count_51 dX_count_54 (fun x hx9 => hout x hx9 _) (Nat.le_of_ble_eq_true rfl) (Nat.le_of_ble_eq_true rfl) (Nat.le_of_ble_eq_true rfl) (Nat.le_of_ble_eq_true rfl) hlocks (fun t hW hE => ⟨_, rfl, hE⟩)
