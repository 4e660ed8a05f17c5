/-! The law's helpers: 0 and the answer laid into out[0], or 1 or 2 and nothing changed. Rows laid by our own program (wip/gen/gh.py). -/
abbrev tw_wH (h0 a0 a1 a2 a3 : Nat) (k0 k1 k2 k3 : ClassId) (th : Nat → Int32) (tm : Nat → Int64) (pr ag : Nat → Int32) (ck : Int64) (nx : Int32) (ao : Nat) (k4 : ClassId) (ou : Nat → Int64) : va_W := [(h0, .inr (0, [.ref a0, .ref a1, .ref a2, .ref a3, .long ck, .int nx])), (a0, .inl (k0, 100, .inl th)), (a1, .inl (k1, 100, .inr (.inl tm))), (a2, .inl (k2, 100, .inl pr)), (a3, .inl (k3, 100, .inl ag)), (ao, .inl (k4, 1, .inr (.inl ou)))]
abbrev tw_kH (k0 k1 k2 k3 k4 : ClassId) : List (ClassId × FieldType) := [(k0, .boolean), (k1, .long), (k2, .int), (k3, .int), (k4, .long)]
set_option maxHeartbeats 4000000 in
set_option maxRecDepth 100000 in
theorem cL_set (l : Launch) (dC : Nat → ClassId) (dI : Nat → Nat → Nat) (h0 a0 a1 a2 a3 : Nat) (k0 k1 k2 k3 : ClassId) (th : Nat → Int32) (tm : Nat → Int64) (pr ag : Nat → Int32) (ck : Int64) (nx : Int32) (ao : Nat) (k4 : ClassId) (ou : Nat → Int64) (sz : Nat) (j : Int32) (hj : vp_in j 100) (t : Int64) (ht0 : 0 ≤ t) (ht1 : t ≤ 70368744177664) (q : Int32) : Met l yL_set (Cond.codeWith yL_set bL_set 7 (some .int) [(0, 13, 16, 13)] :: tw_T) { frames := 3, cells := 0, slots := 0, locals := 120 } (va_Pc [.ref h0, .int j, .long t, .int q, .ref ao] (fun U => U.heap.size = sz ∧ va_P (dC, dI) tw_cl (tw_wH h0 a0 a1 a2 a3 k0 k1 k2 k3 th tm pr ag ck nx ao k4 ou) U.heap ∧ va_K (dC, dI) tw_cl (tw_kH k0 k1 k2 k3 k4) U ∧ va_D (fun _ => True) (tw_wH h0 a0 a1 a2 a3 k0 k1 k2 k3 th tm pr ag ck nx ao k4 ou))) (va_Qi (S := Unit) (fun r _ => r = 0) (fun _ tz => va_P (dC, dI) tw_cl (tw_wH h0 a0 a1 a2 a3 k0 k1 k2 k3 (upd th j.toNatClampNeg (vp_nar .boolean 1)) (vp_updL tm j.toNatClampNeg t) (upd pr j.toNatClampNeg q) (upd ag j.toNatClampNeg nx) ck (nx + 1) ao k4 (vp_updL ou (0 : Int32).toNatClampNeg ((upd ag j.toNatClampNeg nx j.toNatClampNeg).toInt64))) tz.heap ∧ va_D (va_A (tw_wH h0 a0 a1 a2 a3 k0 k1 k2 k3 th tm pr ag ck nx ao k4 ou) sz) (tw_wH h0 a0 a1 a2 a3 k0 k1 k2 k3 (upd th j.toNatClampNeg (vp_nar .boolean 1)) (vp_updL tm j.toNatClampNeg t) (upd pr j.toNatClampNeg q) (upd ag j.toNatClampNeg nx) ck (nx + 1) ao k4 (vp_updL ou (0 : Int32).toNatClampNeg ((upd ag j.toNatClampNeg nx j.toNatClampNeg).toInt64)))) (va_A (tw_wH h0 a0 a1 a2 a3 k0 k1 k2 k3 th tm pr ag ck nx ao k4 ou) sz)) 0 0 (va_A (tw_wH h0 a0 a1 a2 a3 k0 k1 k2 k3 th tm pr ag ck nx ao k4 ou) sz) := by
  refine va_MetW (hh := [(0, 13, 16, 13)]) (cc := bL_set) (maxL := 7) (ret := some .int) (by decide) rfl ?_
  intro p e s m args below meth c s₁ B hml hv
  obtain ⟨rfl, hsz, hP, hK, hD0⟩ := hv
  have hx := B.exec
  have hb := B.bytes
  have hr := B.returns
  have hts := atoms_spec (ws := Cond.codeWith yL_set bL_set 7 (some .int) [(0, 13, 16, 13)] :: tw_T) B.pre
  have hT := fun (w : Cond) (h : w ∈ tw_T) => hts w (List.mem_cons_of_mem _ h)
  have hown : s.vm.findClass RL = some m.cls := findClass_of_methodNamed B.named
  have hlocks := B.notSynchronized
  have hl := lv_entry ([.ref h0, .int j, .long t, .int q, .ref ao]) (n := 7) (Nat.le_of_ble_eq_true rfl)
  rw [lg_entry_eq]
  generalize (lg_sl ([.ref h0, .int j, .long t, .int q, .ref ao]) ++ List.replicate (7 - (lg_sl ([.ref h0, .int j, .long t, .int q, .ref ao])).length) Slot.unset).toArray = ls at hl ⊢
  have hl : lv_has ls 7 [(0, .ref h0), (1, .int j), (2, .long t), (4, .int q), (5, .ref ao)] := hl
  subst hsz
  have hD := hD0.self (sz := s.heap.size)
  generalize hAe : va_A (tw_wH h0 a0 a1 a2 a3 k0 k1 k2 k3 th tm pr ag ck nx ao k4 ou) s.heap.size = A at hD ⊢
  have hA : ∀ q : Nat, s.heap.size ≤ q → A q := fun q h => by rw [← hAe]; exact Or.inr h
  have hS : va_S A s.heap s.heap [] := va_S.rf
  have hPc := hP.sub (ws' := tw_wX h0 a0 a1 a2 a3 k0 k1 k2 k3 th tm pr ag ck nx) [0, 1, 2, 3, 4] rfl
  have hDc := hD.sub (ws' := tw_wX h0 a0 a1 a2 a3 k0 k1 k2 k3 th tm pr ag ck nx) [0, 1, 2, 3, 4] (by decide) rfl
  have hKc := hK.sub (tys' := tw_k k0 k1 k2 k3) [0, 1, 2, 3] rfl
  have hFc := va_free (wc := tw_wX h0 a0 a1 a2 a3 k0 k1 k2 k3 th tm pr ag ck nx) hD hS hA [0, 1, 2, 3, 4] rfl
  refine lv_aload hx hb dL_set_0 (lv_at hl 4 rfl) ?_
  refine lv_iconst (v := 0) hx hb dL_set_2 (by decide) ?_
  refine lv_aload_n hx hb dL_set_3 rfl (lv_at hl 0 rfl) ?_
  refine lv_iload_n hx hb dL_set_4 rfl (lv_at hl 1 rfl) ?_
  refine lv_lload_n hx hb dL_set_5 rfl (lv_at hl 2 rfl) ?_
  refine lv_iload hx hb dL_set_6 (lv_at hl 3 rfl) ?_
  refine va_calli (va_runV (C := RX) (b := h0) (As := [.int j, .long t, .int q]) (rest := [.int 0, .ref ao]) ⟨hx, hb, hml, hown, hT⟩ (cX_set l dC dI h0 a0 a1 a2 a3 k0 k1 k2 k3 th tm pr ag ck nx s.heap.size j hj t ht0 ht1 q) (cwV 3 hT (tw_gV tt_51 tt_52 tt_53 tt_1 tt_54) rfl rfl rfl ⟨rfl, by decide +kernel⟩ ⟨Nat.le_of_ble_eq_true rfl, Nat.le_of_ble_eq_true rfl⟩) ⟨fun a U g mk q => by obtain ⟨q0, q1, qP, qK, qD⟩ := q; exact ⟨q0, q1, qP, va_K.moved (u := U) (U := U.calling g mk a) (Vm.Alike.refl U.vm) qK, qD⟩, va_recv (q0 := 0) (ci := 0) hKc hPc rfl rfl, fun U hU hW => ⟨rfl, by rw [hU], by rw [hU]; exact hPc, va_K.moved hW.alike hKc, hDc.weaken (fun _ _ _ _ => trivial)⟩⟩ rfl rfl hl.1 rfl (lv_room (Nat.le_of_ble_eq_true rfl)) dL_set_8 ⟨Nat.le_of_ble_eq_true rfl, Nat.le_of_ble_eq_true rfl⟩) hS (fun q _ h => hFc q h) hFc (fun r9 u9 t9 H1 locs ht9 hvm9 hw9 hB9 hz9 hk9 hS => ?_)
  obtain ⟨hP1, hD1⟩ := hB9
  rw [ht9] at hP1
  have hw9 : r9 = upd ag j.toNatClampNeg nx j.toNatClampNeg := hw9
  subst r9
  obtain ⟨hP, hD⟩ := va_join (wr := [(ao, .inl (k4, 1, .inr (.inl ou)))]) (w1 := (tw_wX h0 a0 a1 a2 a3 k0 k1 k2 k3 (upd th j.toNatClampNeg (vp_nar .boolean 1)) (vp_updL tm j.toNatClampNeg t) (upd pr j.toNatClampNeg q) (upd ag j.toNatClampNeg nx) ck (nx + 1))) hP hD [0, 1, 2, 3, 4] [5] rfl rfl (by decide) (by decide) hk9 hFc hP1 hD1
  generalize H1 = H at hP hS ⊢
  have hP := hP.sub (ws' := (tw_wH h0 a0 a1 a2 a3 k0 k1 k2 k3 (upd th j.toNatClampNeg (vp_nar .boolean 1)) (vp_updL tm j.toNatClampNeg t) (upd pr j.toNatClampNeg q) (upd ag j.toNatClampNeg nx) ck (nx + 1) ao k4 ou)) [1, 2, 3, 4, 5, 0] rfl
  have hD := hD.sub (ws' := (tw_wH h0 a0 a1 a2 a3 k0 k1 k2 k3 (upd th j.toNatClampNeg (vp_nar .boolean 1)) (vp_updL tm j.toNatClampNeg t) (upd pr j.toNatClampNeg q) (upd ag j.toNatClampNeg nx) ck (nx + 1) ao k4 ou)) [1, 2, 3, 4, 5, 0] (by decide) rfl
  refine lv_i2l hx hb dL_set_11 rfl ?_
  refine va_last hx hb hK hP hD hS 5 4 rfl rfl (by unfold vp_in; decide) dL_set_12 (fun H locs hP hD hS => ?_)
  have hP : va_P (dC, dI) tw_cl [(h0, .inr (0, [.ref a0, .ref a1, .ref a2, .ref a3, .long ck, .int (nx + 1)])), (a0, .inl (k0, 100, .inl (upd th j.toNatClampNeg (vp_nar .boolean 1)))), (a1, .inl (k1, 100, .inr (.inl (vp_updL tm j.toNatClampNeg t)))), (a2, .inl (k2, 100, .inl (upd pr j.toNatClampNeg q))), (a3, .inl (k3, 100, .inl (upd ag j.toNatClampNeg nx))), (ao, .inl (k4, 1, .inr (.inl (vp_updL ou (0 : Int32).toNatClampNeg ((upd ag j.toNatClampNeg nx j.toNatClampNeg).toInt64)))))] H := hP
  have hD : va_D A [(h0, .inr (0, [.ref a0, .ref a1, .ref a2, .ref a3, .long ck, .int (nx + 1)])), (a0, .inl (k0, 100, .inl (upd th j.toNatClampNeg (vp_nar .boolean 1)))), (a1, .inl (k1, 100, .inr (.inl (vp_updL tm j.toNatClampNeg t)))), (a2, .inl (k2, 100, .inl (upd pr j.toNatClampNeg q))), (a3, .inl (k3, 100, .inl (upd ag j.toNatClampNeg nx))), (ao, .inl (k4, 1, .inr (.inl (vp_updL ou (0 : Int32).toNatClampNeg ((upd ag j.toNatClampNeg nx j.toNatClampNeg).toInt64)))))] := hD
  refine lv_goto (tgt := 20) hx hb dL_set_13 (by decide) ?_
  refine lv_iconst (v := 0) hx hb dL_set_20 (by decide) ?_
  exact W.iret hx hb hr (fun t ht hW => ⟨⟨_, (), rfl, rfl, by rw [ht]; exact hP, hD⟩, hS.F ht⟩) hS.2.2 dL_set_21
set_option maxHeartbeats 4000000 in
set_option maxRecDepth 100000 in
theorem cL_setB (l : Launch) (hfl : l.flags = pinnedFlags ++ [noTraceFlag]) (dC : Nat → ClassId) (dI : Nat → Nat → Nat) (h0 a0 a1 a2 a3 : Nat) (k0 k1 k2 k3 : ClassId) (th : Nat → Int32) (tm : Nat → Int64) (pr ag : Nat → Int32) (ck : Int64) (nx : Int32) (ao : Nat) (k4 : ClassId) (ou : Nat → Int64) (sz : Nat) (j : Int32) (t : Int64) (q : Int32) (hbad : ¬ (vp_in j 100 ∧ 0 ≤ t ∧ t ≤ 70368744177664)) : Met l yL_set (Cond.codeWith yL_set bL_set 7 (some .int) [(0, 13, 16, 13)] :: tw_T) { frames := 8, cells := 1, slots := 6, locals := 160 } (va_Pc [.ref h0, .int j, .long t, .int q, .ref ao] (fun U => U.heap.size = sz ∧ va_P (dC, dI) tw_cl (tw_wH h0 a0 a1 a2 a3 k0 k1 k2 k3 th tm pr ag ck nx ao k4 ou) U.heap ∧ va_K (dC, dI) tw_cl (tw_kH k0 k1 k2 k3 k4) U ∧ va_D (fun _ => True) (tw_wH h0 a0 a1 a2 a3 k0 k1 k2 k3 th tm pr ag ck nx ao k4 ou) ∧ tw_Z U U.heap)) (va_Qi (S := Unit) (fun r _ => r = 1) (fun _ tz => va_P (dC, dI) tw_cl (tw_wH h0 a0 a1 a2 a3 k0 k1 k2 k3 th tm pr ag ck nx ao k4 ou) tz.heap ∧ va_D (va_A (tw_wH h0 a0 a1 a2 a3 k0 k1 k2 k3 th tm pr ag ck nx ao k4 ou) sz) (tw_wH h0 a0 a1 a2 a3 k0 k1 k2 k3 th tm pr ag ck nx ao k4 ou)) (va_A (tw_wH h0 a0 a1 a2 a3 k0 k1 k2 k3 th tm pr ag ck nx ao k4 ou) sz)) 1 6 (va_A (tw_wH h0 a0 a1 a2 a3 k0 k1 k2 k3 th tm pr ag ck nx ao k4 ou) sz) := by
  refine va_MetW (hh := [(0, 13, 16, 13)]) (cc := bL_set) (maxL := 7) (ret := some .int) (by decide) rfl ?_
  intro p e s m args below meth c s₁ B hml hv
  obtain ⟨rfl, hsz, hP, hK, hD0, hZ⟩ := hv
  have hx := B.exec
  have hb := B.bytes
  have hr := B.returns
  have hts := atoms_spec (ws := Cond.codeWith yL_set bL_set 7 (some .int) [(0, 13, 16, 13)] :: tw_T) B.pre
  have hT := fun (w : Cond) (h : w ∈ tw_T) => hts w (List.mem_cons_of_mem _ h)
  have hown : s.vm.findClass RL = some m.cls := findClass_of_methodNamed B.named
  have hlocks := B.notSynchronized
  have hl := lv_entry ([.ref h0, .int j, .long t, .int q, .ref ao]) (n := 7) (Nat.le_of_ble_eq_true rfl)
  rw [lg_entry_eq]
  generalize (lg_sl ([.ref h0, .int j, .long t, .int q, .ref ao]) ++ List.replicate (7 - (lg_sl ([.ref h0, .int j, .long t, .int q, .ref ao])).length) Slot.unset).toArray = ls at hl ⊢
  have hl : lv_has ls 7 [(0, .ref h0), (1, .int j), (2, .long t), (4, .int q), (5, .ref ao)] := hl
  subst hsz
  have hD := hD0.self (sz := s.heap.size)
  generalize hAe : va_A (tw_wH h0 a0 a1 a2 a3 k0 k1 k2 k3 th tm pr ag ck nx ao k4 ou) s.heap.size = A at hD ⊢
  have hA : ∀ q : Nat, s.heap.size ≤ q → A q := fun q h => by rw [← hAe]; exact Or.inr h
  have hS : va_S A s.heap s.heap [] := va_S.rf
  have hPc := hP.sub (ws' := tw_wX h0 a0 a1 a2 a3 k0 k1 k2 k3 th tm pr ag ck nx) [0, 1, 2, 3, 4] rfl
  have hDc := hD.sub (ws' := tw_wX h0 a0 a1 a2 a3 k0 k1 k2 k3 th tm pr ag ck nx) [0, 1, 2, 3, 4] (by decide) rfl
  have hKc := hK.sub (tys' := tw_k k0 k1 k2 k3) [0, 1, 2, 3] rfl
  have hFc := va_free (wc := tw_wX h0 a0 a1 a2 a3 k0 k1 k2 k3 th tm pr ag ck nx) hD hS hA [0, 1, 2, 3, 4] rfl
  have hTab := xt_tableOf (xt_table B (hts _ List.mem_cons_self))
  refine lv_aload hx hb dL_set_0 (lv_at hl 4 rfl) ?_
  refine lv_iconst (v := 0) hx hb dL_set_2 (by decide) ?_
  refine lv_aload_n hx hb dL_set_3 rfl (lv_at hl 0 rfl) ?_
  refine lv_iload_n hx hb dL_set_4 rfl (lv_at hl 1 rfl) ?_
  refine lv_lload_n hx hb dL_set_5 rfl (lv_at hl 2 rfl) ?_
  refine lv_iload hx hb dL_set_6 (lv_at hl 3 rfl) ?_
  refine xt_call (xt_runV (C := RX) (b := h0) (As := [.int j, .long t, .int q]) (rest := [.int 0, .ref ao]) ⟨hx, hb, hml, hown, hT⟩ (eX_set l hfl dC dI h0 a0 a1 a2 a3 k0 k1 k2 k3 th tm pr ag ck nx j t q hbad) (cwV 3 hT (tw_gV tt_51 tt_52 tt_53 tt_1 tt_54) rfl rfl rfl ⟨rfl, by decide +kernel⟩ ⟨Nat.le_of_ble_eq_true rfl, Nat.le_of_ble_eq_true rfl⟩) ⟨fun a U g mk q => ⟨q.1, ⟨q.2.1.1, va_K.moved (u := U) (U := U.calling g mk a) (Vm.Alike.refl U.vm) q.2.1.2⟩, q.2.2.call⟩, va_recv (q0 := 0) (ci := 0) hKc hPc rfl rfl, fun U hU hW => ⟨rfl, ⟨by rw [hU]; exact hPc, va_K.moved hW.alike hKc⟩, hZ.at hU hW⟩⟩ rfl rfl hl.1 rfl (lv_room (Nat.le_of_ble_eq_true rfl)) dL_set_8 ⟨Nat.le_of_ble_eq_true rfl, Nat.le_of_ble_eq_true rfl⟩) (fun v st₀ t H1 L _ _ _ _ _ hq => ?_) (fun q9 st₀ t8 H1 L e1 e2 e3 e4 hL hq => ?_)
  · obtain ⟨q2, hq1, -⟩ := hq
    cases hq1
  · obtain ⟨q2, hq1, ⟨ce, hce, hcv, hcc⟩, hz, hk⟩ := hq
    cases hq1
    rw [e1] at hz hk
    rw [e3] at hz hk hce
    rw [e2.findClass] at hcc
    have hP : va_P (dC, dI) tw_cl (tw_wH h0 a0 a1 a2 a3 k0 k1 k2 k3 th tm pr ag ck nx ao k4 ou) H1 := hP.kept (fun k x hx9 => hk x.1 ((hP k x hx9).lt))
    have hS : va_S A s.heap H1 ([] ++ L) := ⟨hz, fun q h1 _ => hk q h1, fun z hz9 => (hL z (by simpa using hz9)).elim⟩
    refine xt_catch1 hown ⟨0, 13, 16, 13⟩ [] (hTab.trans rfl) (by decide) (by decide) (hT _ tt_50) (va_Nw.use rfl hZ.2.2.1) hce hcv hcc ?_
    refine W.eq (g2 := F0 m 16 ls [.ref q9]) rfl ?_
    refine lv_astore hx hb dL_set_16 hl (by decide) rfl (fun ls hl => ?_)
    have hl : lv_has ls 7 [(6, .ref q9), (0, .ref h0), (1, .int j), (2, .long t), (4, .int q), (5, .ref ao)] := hl
    refine lv_iconst (v := 1) hx hb dL_set_18 (by decide) ?_
    exact W.iret hx hb hr (fun t ht hW => ⟨⟨_, (), rfl, rfl, by rw [ht]; exact hP, hD⟩, hS.F ht⟩) hS.2.2 dL_set_19
set_option maxHeartbeats 4000000 in
set_option maxRecDepth 100000 in
theorem cL_drop (l : Launch) (dC : Nat → ClassId) (dI : Nat → Nat → Nat) (h0 a0 a1 a2 a3 : Nat) (k0 k1 k2 k3 : ClassId) (th : Nat → Int32) (tm : Nat → Int64) (pr ag : Nat → Int32) (ck : Int64) (nx : Int32) (ao : Nat) (k4 : ClassId) (ou : Nat → Int64) (sz : Nat) (j : Int32) (hj : vp_in j 100) (ht : ¬ th j.toNatClampNeg = 0) : Met l yL_drop (Cond.codeWith yL_drop bL_drop 4 (some .int) [(0, 8, 11, 13), (0, 8, 14, 19)] :: tw_T) { frames := 3, cells := 0, slots := 0, locals := 120 } (va_Pc [.ref h0, .int j, .ref ao] (fun U => U.heap.size = sz ∧ va_P (dC, dI) tw_cl (tw_wH h0 a0 a1 a2 a3 k0 k1 k2 k3 th tm pr ag ck nx ao k4 ou) U.heap ∧ va_K (dC, dI) tw_cl (tw_kH k0 k1 k2 k3 k4) U ∧ va_D (fun _ => True) (tw_wH h0 a0 a1 a2 a3 k0 k1 k2 k3 th tm pr ag ck nx ao k4 ou))) (va_Qi (S := Unit) (fun r _ => r = 0) (fun _ tz => va_P (dC, dI) tw_cl (tw_wH h0 a0 a1 a2 a3 k0 k1 k2 k3 (upd th j.toNatClampNeg (vp_nar .boolean 0)) tm pr ag ck nx ao k4 (vp_updL ou (0 : Int32).toNatClampNeg (tm j.toNatClampNeg))) tz.heap ∧ va_D (va_A (tw_wH h0 a0 a1 a2 a3 k0 k1 k2 k3 th tm pr ag ck nx ao k4 ou) sz) (tw_wH h0 a0 a1 a2 a3 k0 k1 k2 k3 (upd th j.toNatClampNeg (vp_nar .boolean 0)) tm pr ag ck nx ao k4 (vp_updL ou (0 : Int32).toNatClampNeg (tm j.toNatClampNeg)))) (va_A (tw_wH h0 a0 a1 a2 a3 k0 k1 k2 k3 th tm pr ag ck nx ao k4 ou) sz)) 0 0 (va_A (tw_wH h0 a0 a1 a2 a3 k0 k1 k2 k3 th tm pr ag ck nx ao k4 ou) sz) := by
  refine va_MetW (hh := [(0, 8, 11, 13), (0, 8, 14, 19)]) (cc := bL_drop) (maxL := 4) (ret := some .int) (by decide) rfl ?_
  intro p e s m args below meth c s₁ B hml hv
  obtain ⟨rfl, hsz, hP, hK, hD0⟩ := hv
  have hx := B.exec
  have hb := B.bytes
  have hr := B.returns
  have hts := atoms_spec (ws := Cond.codeWith yL_drop bL_drop 4 (some .int) [(0, 8, 11, 13), (0, 8, 14, 19)] :: tw_T) B.pre
  have hT := fun (w : Cond) (h : w ∈ tw_T) => hts w (List.mem_cons_of_mem _ h)
  have hown : s.vm.findClass RL = some m.cls := findClass_of_methodNamed B.named
  have hlocks := B.notSynchronized
  have hl := lv_entry ([.ref h0, .int j, .ref ao]) (n := 4) (Nat.le_of_ble_eq_true rfl)
  rw [lg_entry_eq]
  generalize (lg_sl ([.ref h0, .int j, .ref ao]) ++ List.replicate (4 - (lg_sl ([.ref h0, .int j, .ref ao])).length) Slot.unset).toArray = ls at hl ⊢
  have hl : lv_has ls 4 [(0, .ref h0), (1, .int j), (2, .ref ao)] := hl
  subst hsz
  have hD := hD0.self (sz := s.heap.size)
  generalize hAe : va_A (tw_wH h0 a0 a1 a2 a3 k0 k1 k2 k3 th tm pr ag ck nx ao k4 ou) s.heap.size = A at hD ⊢
  have hA : ∀ q : Nat, s.heap.size ≤ q → A q := fun q h => by rw [← hAe]; exact Or.inr h
  have hS : va_S A s.heap s.heap [] := va_S.rf
  have hPc := hP.sub (ws' := tw_wX h0 a0 a1 a2 a3 k0 k1 k2 k3 th tm pr ag ck nx) [0, 1, 2, 3, 4] rfl
  have hDc := hD.sub (ws' := tw_wX h0 a0 a1 a2 a3 k0 k1 k2 k3 th tm pr ag ck nx) [0, 1, 2, 3, 4] (by decide) rfl
  have hKc := hK.sub (tys' := tw_k k0 k1 k2 k3) [0, 1, 2, 3] rfl
  have hFc := va_free (wc := tw_wX h0 a0 a1 a2 a3 k0 k1 k2 k3 th tm pr ag ck nx) hD hS hA [0, 1, 2, 3, 4] rfl
  refine lv_aload_n hx hb dL_drop_0 rfl (lv_at hl 2 rfl) ?_
  refine lv_iconst (v := 0) hx hb dL_drop_1 (by decide) ?_
  refine lv_aload_n hx hb dL_drop_2 rfl (lv_at hl 0 rfl) ?_
  refine lv_iload_n hx hb dL_drop_3 rfl (lv_at hl 1 rfl) ?_
  refine va_calll (va_runV (C := RX) (b := h0) (As := [.int j]) (rest := [.int 0, .ref ao]) ⟨hx, hb, hml, hown, hT⟩ (cX_drop l dC dI h0 a0 a1 a2 a3 k0 k1 k2 k3 th tm pr ag ck nx s.heap.size j hj ht) (cwV 1 hT (tw_gV tt_131 tt_132 tt_133 tt_1 tt_134) rfl rfl rfl ⟨rfl, by decide +kernel⟩ ⟨Nat.le_of_ble_eq_true rfl, Nat.le_of_ble_eq_true rfl⟩) ⟨fun a U g mk q => by obtain ⟨q0, q1, qP, qK, qD⟩ := q; exact ⟨q0, q1, qP, va_K.moved (u := U) (U := U.calling g mk a) (Vm.Alike.refl U.vm) qK, qD⟩, va_recv (q0 := 0) (ci := 0) hKc hPc rfl rfl, fun U hU hW => ⟨rfl, by rw [hU], by rw [hU]; exact hPc, va_K.moved hW.alike hKc, hDc.weaken (fun _ _ _ _ => trivial)⟩⟩ rfl rfl hl.1 rfl (lv_room (Nat.le_of_ble_eq_true rfl)) dL_drop_4 ⟨Nat.le_of_ble_eq_true rfl, Nat.le_of_ble_eq_true rfl⟩) hS (fun q _ h => hFc q h) hFc (fun r9 u9 t9 H1 locs ht9 hvm9 hw9 hB9 hz9 hk9 hS => ?_)
  obtain ⟨hP1, hD1⟩ := hB9
  rw [ht9] at hP1
  have hw9 : r9 = tm j.toNatClampNeg := hw9
  subst r9
  obtain ⟨hP, hD⟩ := va_join (wr := [(ao, .inl (k4, 1, .inr (.inl ou)))]) (w1 := (tw_wX h0 a0 a1 a2 a3 k0 k1 k2 k3 (upd th j.toNatClampNeg (vp_nar .boolean 0)) tm pr ag ck nx)) hP hD [0, 1, 2, 3, 4] [5] rfl rfl (by decide) (by decide) hk9 hFc hP1 hD1
  generalize H1 = H at hP hS ⊢
  have hP := hP.sub (ws' := (tw_wH h0 a0 a1 a2 a3 k0 k1 k2 k3 (upd th j.toNatClampNeg (vp_nar .boolean 0)) tm pr ag ck nx ao k4 ou)) [1, 2, 3, 4, 5, 0] rfl
  have hD := hD.sub (ws' := (tw_wH h0 a0 a1 a2 a3 k0 k1 k2 k3 (upd th j.toNatClampNeg (vp_nar .boolean 0)) tm pr ag ck nx ao k4 ou)) [1, 2, 3, 4, 5, 0] (by decide) rfl
  refine va_last hx hb hK hP hD hS 5 4 rfl rfl (by unfold vp_in; decide) dL_drop_7 (fun H locs hP hD hS => ?_)
  have hP : va_P (dC, dI) tw_cl [(h0, .inr (0, [.ref a0, .ref a1, .ref a2, .ref a3, .long ck, .int nx])), (a0, .inl (k0, 100, .inl (upd th j.toNatClampNeg (vp_nar .boolean 0)))), (a1, .inl (k1, 100, .inr (.inl tm))), (a2, .inl (k2, 100, .inl pr)), (a3, .inl (k3, 100, .inl ag)), (ao, .inl (k4, 1, .inr (.inl (vp_updL ou (0 : Int32).toNatClampNeg (tm j.toNatClampNeg)))))] H := hP
  have hD : va_D A [(h0, .inr (0, [.ref a0, .ref a1, .ref a2, .ref a3, .long ck, .int nx])), (a0, .inl (k0, 100, .inl (upd th j.toNatClampNeg (vp_nar .boolean 0)))), (a1, .inl (k1, 100, .inr (.inl tm))), (a2, .inl (k2, 100, .inl pr)), (a3, .inl (k3, 100, .inl ag)), (ao, .inl (k4, 1, .inr (.inl (vp_updL ou (0 : Int32).toNatClampNeg (tm j.toNatClampNeg)))))] := hD
  refine lv_goto (tgt := 17) hx hb dL_drop_8 (by decide) ?_
  refine lv_iconst (v := 0) hx hb dL_drop_17 (by decide) ?_
  exact W.iret hx hb hr (fun t ht hW => ⟨⟨_, (), rfl, rfl, by rw [ht]; exact hP, hD⟩, hS.F ht⟩) hS.2.2 dL_drop_18
set_option maxHeartbeats 4000000 in
set_option maxRecDepth 100000 in
theorem cL_dropA (l : Launch) (hfl : l.flags = pinnedFlags ++ [noTraceFlag]) (dC : Nat → ClassId) (dI : Nat → Nat → Nat) (h0 a0 a1 a2 a3 : Nat) (k0 k1 k2 k3 : ClassId) (th : Nat → Int32) (tm : Nat → Int64) (pr ag : Nat → Int32) (ck : Int64) (nx : Int32) (ao : Nat) (k4 : ClassId) (ou : Nat → Int64) (sz : Nat) (j : Int32) (hj : ¬ vp_in j 100) : Met l yL_drop (Cond.codeWith yL_drop bL_drop 4 (some .int) [(0, 8, 11, 13), (0, 8, 14, 19)] :: tw_T) { frames := 8, cells := 1, slots := 6, locals := 160 } (va_Pc [.ref h0, .int j, .ref ao] (fun U => U.heap.size = sz ∧ va_P (dC, dI) tw_cl (tw_wH h0 a0 a1 a2 a3 k0 k1 k2 k3 th tm pr ag ck nx ao k4 ou) U.heap ∧ va_K (dC, dI) tw_cl (tw_kH k0 k1 k2 k3 k4) U ∧ va_D (fun _ => True) (tw_wH h0 a0 a1 a2 a3 k0 k1 k2 k3 th tm pr ag ck nx ao k4 ou) ∧ tw_Z U U.heap)) (va_Qi (S := Unit) (fun r _ => r = 1) (fun _ tz => va_P (dC, dI) tw_cl (tw_wH h0 a0 a1 a2 a3 k0 k1 k2 k3 th tm pr ag ck nx ao k4 ou) tz.heap ∧ va_D (va_A (tw_wH h0 a0 a1 a2 a3 k0 k1 k2 k3 th tm pr ag ck nx ao k4 ou) sz) (tw_wH h0 a0 a1 a2 a3 k0 k1 k2 k3 th tm pr ag ck nx ao k4 ou)) (va_A (tw_wH h0 a0 a1 a2 a3 k0 k1 k2 k3 th tm pr ag ck nx ao k4 ou) sz)) 1 6 (va_A (tw_wH h0 a0 a1 a2 a3 k0 k1 k2 k3 th tm pr ag ck nx ao k4 ou) sz) := by
  refine va_MetW (hh := [(0, 8, 11, 13), (0, 8, 14, 19)]) (cc := bL_drop) (maxL := 4) (ret := some .int) (by decide) rfl ?_
  intro p e s m args below meth c s₁ B hml hv
  obtain ⟨rfl, hsz, hP, hK, hD0, hZ⟩ := hv
  have hx := B.exec
  have hb := B.bytes
  have hr := B.returns
  have hts := atoms_spec (ws := Cond.codeWith yL_drop bL_drop 4 (some .int) [(0, 8, 11, 13), (0, 8, 14, 19)] :: tw_T) B.pre
  have hT := fun (w : Cond) (h : w ∈ tw_T) => hts w (List.mem_cons_of_mem _ h)
  have hown : s.vm.findClass RL = some m.cls := findClass_of_methodNamed B.named
  have hlocks := B.notSynchronized
  have hl := lv_entry ([.ref h0, .int j, .ref ao]) (n := 4) (Nat.le_of_ble_eq_true rfl)
  rw [lg_entry_eq]
  generalize (lg_sl ([.ref h0, .int j, .ref ao]) ++ List.replicate (4 - (lg_sl ([.ref h0, .int j, .ref ao])).length) Slot.unset).toArray = ls at hl ⊢
  have hl : lv_has ls 4 [(0, .ref h0), (1, .int j), (2, .ref ao)] := hl
  subst hsz
  have hD := hD0.self (sz := s.heap.size)
  generalize hAe : va_A (tw_wH h0 a0 a1 a2 a3 k0 k1 k2 k3 th tm pr ag ck nx ao k4 ou) s.heap.size = A at hD ⊢
  have hA : ∀ q : Nat, s.heap.size ≤ q → A q := fun q h => by rw [← hAe]; exact Or.inr h
  have hS : va_S A s.heap s.heap [] := va_S.rf
  have hPc := hP.sub (ws' := tw_wX h0 a0 a1 a2 a3 k0 k1 k2 k3 th tm pr ag ck nx) [0, 1, 2, 3, 4] rfl
  have hDc := hD.sub (ws' := tw_wX h0 a0 a1 a2 a3 k0 k1 k2 k3 th tm pr ag ck nx) [0, 1, 2, 3, 4] (by decide) rfl
  have hKc := hK.sub (tys' := tw_k k0 k1 k2 k3) [0, 1, 2, 3] rfl
  have hFc := va_free (wc := tw_wX h0 a0 a1 a2 a3 k0 k1 k2 k3 th tm pr ag ck nx) hD hS hA [0, 1, 2, 3, 4] rfl
  have hTab := xt_tableOf (xt_table B (hts _ List.mem_cons_self))
  refine lv_aload_n hx hb dL_drop_0 rfl (lv_at hl 2 rfl) ?_
  refine lv_iconst (v := 0) hx hb dL_drop_1 (by decide) ?_
  refine lv_aload_n hx hb dL_drop_2 rfl (lv_at hl 0 rfl) ?_
  refine lv_iload_n hx hb dL_drop_3 rfl (lv_at hl 1 rfl) ?_
  refine xt_call (xt_runV (C := RX) (b := h0) (As := [.int j]) (rest := [.int 0, .ref ao]) ⟨hx, hb, hml, hown, hT⟩ (eX_dropA l hfl dC dI h0 a0 a1 a2 a3 k0 k1 k2 k3 th tm pr ag ck nx j hj) (cwV 1 hT (tw_gV tt_131 tt_132 tt_133 tt_1 tt_134) rfl rfl rfl ⟨rfl, by decide +kernel⟩ ⟨Nat.le_of_ble_eq_true rfl, Nat.le_of_ble_eq_true rfl⟩) ⟨fun a U g mk q => ⟨q.1, ⟨q.2.1.1, va_K.moved (u := U) (U := U.calling g mk a) (Vm.Alike.refl U.vm) q.2.1.2⟩, q.2.2.call⟩, va_recv (q0 := 0) (ci := 0) hKc hPc rfl rfl, fun U hU hW => ⟨rfl, ⟨by rw [hU]; exact hPc, va_K.moved hW.alike hKc⟩, hZ.at hU hW⟩⟩ rfl rfl hl.1 rfl (lv_room (Nat.le_of_ble_eq_true rfl)) dL_drop_4 ⟨Nat.le_of_ble_eq_true rfl, Nat.le_of_ble_eq_true rfl⟩) (fun v st₀ t H1 L _ _ _ _ _ hq => ?_) (fun q9 st₀ t8 H1 L e1 e2 e3 e4 hL hq => ?_)
  · obtain ⟨q2, hq1, -⟩ := hq
    cases hq1
  · obtain ⟨q2, hq1, ⟨ce, hce, hcv, hcc⟩, hz, hk⟩ := hq
    cases hq1
    rw [e1] at hz hk
    rw [e3] at hz hk hce
    rw [e2.findClass] at hcc
    have hP : va_P (dC, dI) tw_cl (tw_wH h0 a0 a1 a2 a3 k0 k1 k2 k3 th tm pr ag ck nx ao k4 ou) H1 := hP.kept (fun k x hx9 => hk x.1 ((hP k x hx9).lt))
    have hS : va_S A s.heap H1 ([] ++ L) := ⟨hz, fun q h1 _ => hk q h1, fun z hz9 => (hL z (by simpa using hz9)).elim⟩
    refine xt_catch1 hown ⟨0, 8, 11, 13⟩ [⟨0, 8, 14, 19⟩] (hTab.trans rfl) (by decide) (by decide) (hT _ tt_50) (va_Nw.use rfl hZ.2.2.1) hce hcv hcc ?_
    refine W.eq (g2 := F0 m 11 ls [.ref q9]) rfl ?_
    refine lv_astore_n hx hb dL_drop_11 rfl hl (by decide) rfl (fun ls hl => ?_)
    have hl : lv_has ls 4 [(3, .ref q9), (0, .ref h0), (1, .int j), (2, .ref ao)] := hl
    refine lv_iconst (v := 1) hx hb dL_drop_12 (by decide) ?_
    exact W.iret hx hb hr (fun t ht hW => ⟨⟨_, (), rfl, rfl, by rw [ht]; exact hP, hD⟩, hS.F ht⟩) hS.2.2 dL_drop_13
set_option maxHeartbeats 4000000 in
set_option maxRecDepth 100000 in
theorem cL_dropN (l : Launch) (hfl : l.flags = pinnedFlags ++ [noTraceFlag]) (dC : Nat → ClassId) (dI : Nat → Nat → Nat) (h0 a0 a1 a2 a3 : Nat) (k0 k1 k2 k3 : ClassId) (th : Nat → Int32) (tm : Nat → Int64) (pr ag : Nat → Int32) (ck : Int64) (nx : Int32) (ao : Nat) (k4 : ClassId) (ou : Nat → Int64) (sz : Nat) (j : Int32) (hj : vp_in j 100) (ht : th j.toNatClampNeg = 0) : Met l yL_drop (Cond.codeWith yL_drop bL_drop 4 (some .int) [(0, 8, 11, 13), (0, 8, 14, 19)] :: tw_T) { frames := 8, cells := 1, slots := 6, locals := 160 } (va_Pc [.ref h0, .int j, .ref ao] (fun U => U.heap.size = sz ∧ va_P (dC, dI) tw_cl (tw_wH h0 a0 a1 a2 a3 k0 k1 k2 k3 th tm pr ag ck nx ao k4 ou) U.heap ∧ va_K (dC, dI) tw_cl (tw_kH k0 k1 k2 k3 k4) U ∧ va_D (fun _ => True) (tw_wH h0 a0 a1 a2 a3 k0 k1 k2 k3 th tm pr ag ck nx ao k4 ou) ∧ tw_Z U U.heap ∧ va_Nc tw_nse tw_iae U)) (va_Qi (S := Unit) (fun r _ => r = 2) (fun _ tz => va_P (dC, dI) tw_cl (tw_wH h0 a0 a1 a2 a3 k0 k1 k2 k3 th tm pr ag ck nx ao k4 ou) tz.heap ∧ va_D (va_A (tw_wH h0 a0 a1 a2 a3 k0 k1 k2 k3 th tm pr ag ck nx ao k4 ou) sz) (tw_wH h0 a0 a1 a2 a3 k0 k1 k2 k3 th tm pr ag ck nx ao k4 ou)) (va_A (tw_wH h0 a0 a1 a2 a3 k0 k1 k2 k3 th tm pr ag ck nx ao k4 ou) sz)) 1 6 (va_A (tw_wH h0 a0 a1 a2 a3 k0 k1 k2 k3 th tm pr ag ck nx ao k4 ou) sz) := by
  refine va_MetW (hh := [(0, 8, 11, 13), (0, 8, 14, 19)]) (cc := bL_drop) (maxL := 4) (ret := some .int) (by decide) rfl ?_
  intro p e s m args below meth c s₁ B hml hv
  obtain ⟨rfl, hsz, hP, hK, hD0, hZ, hNc⟩ := hv
  have hx := B.exec
  have hb := B.bytes
  have hr := B.returns
  have hts := atoms_spec (ws := Cond.codeWith yL_drop bL_drop 4 (some .int) [(0, 8, 11, 13), (0, 8, 14, 19)] :: tw_T) B.pre
  have hT := fun (w : Cond) (h : w ∈ tw_T) => hts w (List.mem_cons_of_mem _ h)
  have hown : s.vm.findClass RL = some m.cls := findClass_of_methodNamed B.named
  have hlocks := B.notSynchronized
  have hl := lv_entry ([.ref h0, .int j, .ref ao]) (n := 4) (Nat.le_of_ble_eq_true rfl)
  rw [lg_entry_eq]
  generalize (lg_sl ([.ref h0, .int j, .ref ao]) ++ List.replicate (4 - (lg_sl ([.ref h0, .int j, .ref ao])).length) Slot.unset).toArray = ls at hl ⊢
  have hl : lv_has ls 4 [(0, .ref h0), (1, .int j), (2, .ref ao)] := hl
  subst hsz
  have hD := hD0.self (sz := s.heap.size)
  generalize hAe : va_A (tw_wH h0 a0 a1 a2 a3 k0 k1 k2 k3 th tm pr ag ck nx ao k4 ou) s.heap.size = A at hD ⊢
  have hA : ∀ q : Nat, s.heap.size ≤ q → A q := fun q h => by rw [← hAe]; exact Or.inr h
  have hS : va_S A s.heap s.heap [] := va_S.rf
  have hPc := hP.sub (ws' := tw_wX h0 a0 a1 a2 a3 k0 k1 k2 k3 th tm pr ag ck nx) [0, 1, 2, 3, 4] rfl
  have hDc := hD.sub (ws' := tw_wX h0 a0 a1 a2 a3 k0 k1 k2 k3 th tm pr ag ck nx) [0, 1, 2, 3, 4] (by decide) rfl
  have hKc := hK.sub (tys' := tw_k k0 k1 k2 k3) [0, 1, 2, 3] rfl
  have hFc := va_free (wc := tw_wX h0 a0 a1 a2 a3 k0 k1 k2 k3 th tm pr ag ck nx) hD hS hA [0, 1, 2, 3, 4] rfl
  have hTab := xt_tableOf (xt_table B (hts _ List.mem_cons_self))
  refine lv_aload_n hx hb dL_drop_0 rfl (lv_at hl 2 rfl) ?_
  refine lv_iconst (v := 0) hx hb dL_drop_1 (by decide) ?_
  refine lv_aload_n hx hb dL_drop_2 rfl (lv_at hl 0 rfl) ?_
  refine lv_iload_n hx hb dL_drop_3 rfl (lv_at hl 1 rfl) ?_
  refine xt_call (xt_runV (C := RX) (b := h0) (As := [.int j]) (rest := [.int 0, .ref ao]) ⟨hx, hb, hml, hown, hT⟩ (eX_dropN l hfl dC dI h0 a0 a1 a2 a3 k0 k1 k2 k3 th tm pr ag ck nx j hj ht) (cwV 1 hT (tw_gV tt_131 tt_132 tt_133 tt_1 tt_134) rfl rfl rfl ⟨rfl, by decide +kernel⟩ ⟨Nat.le_of_ble_eq_true rfl, Nat.le_of_ble_eq_true rfl⟩) ⟨fun a U g mk q => ⟨q.1, ⟨q.2.1.1, va_K.moved (u := U) (U := U.calling g mk a) (Vm.Alike.refl U.vm) q.2.1.2⟩, q.2.2.call⟩, va_recv (q0 := 0) (ci := 0) hKc hPc rfl rfl, fun U hU hW => ⟨rfl, ⟨by rw [hU]; exact hPc, va_K.moved hW.alike hKc⟩, hZ.at hU hW⟩⟩ rfl rfl hl.1 rfl (lv_room (Nat.le_of_ble_eq_true rfl)) dL_drop_4 ⟨Nat.le_of_ble_eq_true rfl, Nat.le_of_ble_eq_true rfl⟩) (fun v st₀ t H1 L _ _ _ _ _ hq => ?_) (fun q9 st₀ t8 H1 L e1 e2 e3 e4 hL hq => ?_)
  · obtain ⟨q2, hq1, -⟩ := hq
    cases hq1
  · obtain ⟨q2, hq1, ⟨ce, hce, hcv, hcc⟩, hz, hk⟩ := hq
    cases hq1
    rw [e1] at hz hk
    rw [e3] at hz hk hce
    rw [e2.findClass] at hcc
    have hP : va_P (dC, dI) tw_cl (tw_wH h0 a0 a1 a2 a3 k0 k1 k2 k3 th tm pr ag ck nx ao k4 ou) H1 := hP.kept (fun k x hx9 => hk x.1 ((hP k x hx9).lt))
    have hS : va_S A s.heap H1 ([] ++ L) := ⟨hz, fun q h1 _ => hk q h1, fun z hz9 => (hL z (by simpa using hz9)).elim⟩
    refine xt_catch2 hown ⟨0, 8, 11, 13⟩ ⟨0, 8, 14, 19⟩ [] (hTab.trans rfl) (by decide) (by decide) (hT _ tt_50) hNc (by decide) (by decide) (hT _ tt_130) (va_Nw.use rfl hZ.2.2.2.1) hce hcv hcc ?_
    refine W.eq (g2 := F0 m 14 ls [.ref q9]) rfl ?_
    refine lv_astore_n hx hb dL_drop_14 rfl hl (by decide) rfl (fun ls hl => ?_)
    have hl : lv_has ls 4 [(3, .ref q9), (0, .ref h0), (1, .int j), (2, .ref ao)] := hl
    refine lv_iconst (v := 2) hx hb dL_drop_15 (by decide) ?_
    exact W.iret hx hb hr (fun t ht hW => ⟨⟨_, (), rfl, rfl, by rw [ht]; exact hP, hD⟩, hS.F ht⟩) hS.2.2 dL_drop_16
set_option maxHeartbeats 4000000 in
set_option maxRecDepth 100000 in
theorem cL_take (l : Launch) (dC : Nat → ClassId) (dI : Nat → Nat → Nat) (h0 a0 a1 a2 a3 : Nat) (k0 k1 k2 k3 : ClassId) (th : Nat → Int32) (tm : Nat → Int64) (pr ag : Nat → Int32) (ck : Int64) (nx : Int32) (ao : Nat) (k4 : ClassId) (ou : Nat → Int64) (sz : Nat) (hf : ¬ tw_first th tm pr ag ck 100 = -1) : Met l yL_take (Cond.codeWith yL_take bL_take 3 (some .int) [(0, 8, 11, 19)] :: tw_T) { frames := 3, cells := 0, slots := 0, locals := 120 } (va_Pc [.ref h0, .ref ao] (fun U => U.heap.size = sz ∧ va_P (dC, dI) tw_cl (tw_wH h0 a0 a1 a2 a3 k0 k1 k2 k3 th tm pr ag ck nx ao k4 ou) U.heap ∧ va_K (dC, dI) tw_cl (tw_kH k0 k1 k2 k3 k4) U ∧ va_D (fun _ => True) (tw_wH h0 a0 a1 a2 a3 k0 k1 k2 k3 th tm pr ag ck nx ao k4 ou))) (va_Qi (S := Unit) (fun r _ => r = 0) (fun _ tz => va_P (dC, dI) tw_cl (tw_wH h0 a0 a1 a2 a3 k0 k1 k2 k3 (upd th (tw_first th tm pr ag ck 100).toNatClampNeg (vp_nar .boolean 0)) tm pr ag ck nx ao k4 (vp_updL ou (0 : Int32).toNatClampNeg ((tw_first th tm pr ag ck 100).toInt64))) tz.heap ∧ va_D (va_A (tw_wH h0 a0 a1 a2 a3 k0 k1 k2 k3 th tm pr ag ck nx ao k4 ou) sz) (tw_wH h0 a0 a1 a2 a3 k0 k1 k2 k3 (upd th (tw_first th tm pr ag ck 100).toNatClampNeg (vp_nar .boolean 0)) tm pr ag ck nx ao k4 (vp_updL ou (0 : Int32).toNatClampNeg ((tw_first th tm pr ag ck 100).toInt64)))) (va_A (tw_wH h0 a0 a1 a2 a3 k0 k1 k2 k3 th tm pr ag ck nx ao k4 ou) sz)) 0 0 (va_A (tw_wH h0 a0 a1 a2 a3 k0 k1 k2 k3 th tm pr ag ck nx ao k4 ou) sz) := by
  refine va_MetW (hh := [(0, 8, 11, 19)]) (cc := bL_take) (maxL := 3) (ret := some .int) (by decide) rfl ?_
  intro p e s m args below meth c s₁ B hml hv
  obtain ⟨rfl, hsz, hP, hK, hD0⟩ := hv
  have hx := B.exec
  have hb := B.bytes
  have hr := B.returns
  have hts := atoms_spec (ws := Cond.codeWith yL_take bL_take 3 (some .int) [(0, 8, 11, 19)] :: tw_T) B.pre
  have hT := fun (w : Cond) (h : w ∈ tw_T) => hts w (List.mem_cons_of_mem _ h)
  have hown : s.vm.findClass RL = some m.cls := findClass_of_methodNamed B.named
  have hlocks := B.notSynchronized
  have hl := lv_entry ([.ref h0, .ref ao]) (n := 3) (Nat.le_of_ble_eq_true rfl)
  rw [lg_entry_eq]
  generalize (lg_sl ([.ref h0, .ref ao]) ++ List.replicate (3 - (lg_sl ([.ref h0, .ref ao])).length) Slot.unset).toArray = ls at hl ⊢
  have hl : lv_has ls 3 [(0, .ref h0), (1, .ref ao)] := hl
  subst hsz
  have hD := hD0.self (sz := s.heap.size)
  generalize hAe : va_A (tw_wH h0 a0 a1 a2 a3 k0 k1 k2 k3 th tm pr ag ck nx ao k4 ou) s.heap.size = A at hD ⊢
  have hA : ∀ q : Nat, s.heap.size ≤ q → A q := fun q h => by rw [← hAe]; exact Or.inr h
  have hS : va_S A s.heap s.heap [] := va_S.rf
  have hPc := hP.sub (ws' := tw_wX h0 a0 a1 a2 a3 k0 k1 k2 k3 th tm pr ag ck nx) [0, 1, 2, 3, 4] rfl
  have hDc := hD.sub (ws' := tw_wX h0 a0 a1 a2 a3 k0 k1 k2 k3 th tm pr ag ck nx) [0, 1, 2, 3, 4] (by decide) rfl
  have hKc := hK.sub (tys' := tw_k k0 k1 k2 k3) [0, 1, 2, 3] rfl
  have hFc := va_free (wc := tw_wX h0 a0 a1 a2 a3 k0 k1 k2 k3 th tm pr ag ck nx) hD hS hA [0, 1, 2, 3, 4] rfl
  refine lv_aload_n hx hb dL_take_0 rfl (lv_at hl 1 rfl) ?_
  refine lv_iconst (v := 0) hx hb dL_take_1 (by decide) ?_
  refine lv_aload_n hx hb dL_take_2 rfl (lv_at hl 0 rfl) ?_
  refine va_calli (va_runV (C := RX) (b := h0) (As := []) (rest := [.int 0, .ref ao]) ⟨hx, hb, hml, hown, hT⟩ (cX_take l dC dI h0 a0 a1 a2 a3 k0 k1 k2 k3 th tm pr ag ck nx s.heap.size hf) (cwV 0 hT (tw_gV tt_154 tt_155 tt_156 tt_1 tt_157) rfl rfl rfl ⟨rfl, by decide +kernel⟩ ⟨Nat.le_of_ble_eq_true rfl, Nat.le_of_ble_eq_true rfl⟩) ⟨fun a U g mk q => by obtain ⟨q0, q1, qP, qK, qD⟩ := q; exact ⟨q0, q1, qP, va_K.moved (u := U) (U := U.calling g mk a) (Vm.Alike.refl U.vm) qK, qD⟩, va_recv (q0 := 0) (ci := 0) hKc hPc rfl rfl, fun U hU hW => ⟨rfl, by rw [hU], by rw [hU]; exact hPc, va_K.moved hW.alike hKc, hDc.weaken (fun _ _ _ _ => trivial)⟩⟩ rfl rfl hl.1 rfl (lv_room (Nat.le_of_ble_eq_true rfl)) dL_take_3 ⟨Nat.le_of_ble_eq_true rfl, Nat.le_of_ble_eq_true rfl⟩) hS (fun q _ h => hFc q h) hFc (fun r9 u9 t9 H1 locs ht9 hvm9 hw9 hB9 hz9 hk9 hS => ?_)
  obtain ⟨hP1, hD1⟩ := hB9
  rw [ht9] at hP1
  have hw9 : r9 = tw_first th tm pr ag ck 100 := hw9
  subst r9
  obtain ⟨hP, hD⟩ := va_join (wr := [(ao, .inl (k4, 1, .inr (.inl ou)))]) (w1 := (tw_wX h0 a0 a1 a2 a3 k0 k1 k2 k3 (upd th (tw_first th tm pr ag ck 100).toNatClampNeg (vp_nar .boolean 0)) tm pr ag ck nx)) hP hD [0, 1, 2, 3, 4] [5] rfl rfl (by decide) (by decide) hk9 hFc hP1 hD1
  generalize H1 = H at hP hS ⊢
  have hP := hP.sub (ws' := (tw_wH h0 a0 a1 a2 a3 k0 k1 k2 k3 (upd th (tw_first th tm pr ag ck 100).toNatClampNeg (vp_nar .boolean 0)) tm pr ag ck nx ao k4 ou)) [1, 2, 3, 4, 5, 0] rfl
  have hD := hD.sub (ws' := (tw_wH h0 a0 a1 a2 a3 k0 k1 k2 k3 (upd th (tw_first th tm pr ag ck 100).toNatClampNeg (vp_nar .boolean 0)) tm pr ag ck nx ao k4 ou)) [1, 2, 3, 4, 5, 0] (by decide) rfl
  refine lv_i2l hx hb dL_take_6 rfl ?_
  refine va_last hx hb hK hP hD hS 5 4 rfl rfl (by unfold vp_in; decide) dL_take_7 (fun H locs hP hD hS => ?_)
  have hP : va_P (dC, dI) tw_cl [(h0, .inr (0, [.ref a0, .ref a1, .ref a2, .ref a3, .long ck, .int nx])), (a0, .inl (k0, 100, .inl (upd th (tw_first th tm pr ag ck 100).toNatClampNeg (vp_nar .boolean 0)))), (a1, .inl (k1, 100, .inr (.inl tm))), (a2, .inl (k2, 100, .inl pr)), (a3, .inl (k3, 100, .inl ag)), (ao, .inl (k4, 1, .inr (.inl (vp_updL ou (0 : Int32).toNatClampNeg ((tw_first th tm pr ag ck 100).toInt64)))))] H := hP
  have hD : va_D A [(h0, .inr (0, [.ref a0, .ref a1, .ref a2, .ref a3, .long ck, .int nx])), (a0, .inl (k0, 100, .inl (upd th (tw_first th tm pr ag ck 100).toNatClampNeg (vp_nar .boolean 0)))), (a1, .inl (k1, 100, .inr (.inl tm))), (a2, .inl (k2, 100, .inl pr)), (a3, .inl (k3, 100, .inl ag)), (ao, .inl (k4, 1, .inr (.inl (vp_updL ou (0 : Int32).toNatClampNeg ((tw_first th tm pr ag ck 100).toInt64)))))] := hD
  refine lv_goto (tgt := 14) hx hb dL_take_8 (by decide) ?_
  refine lv_iconst (v := 0) hx hb dL_take_14 (by decide) ?_
  exact W.iret hx hb hr (fun t ht hW => ⟨⟨_, (), rfl, rfl, by rw [ht]; exact hP, hD⟩, hS.F ht⟩) hS.2.2 dL_take_15
set_option maxHeartbeats 4000000 in
set_option maxRecDepth 100000 in
theorem cL_takeB (l : Launch) (hfl : l.flags = pinnedFlags ++ [noTraceFlag]) (dC : Nat → ClassId) (dI : Nat → Nat → Nat) (h0 a0 a1 a2 a3 : Nat) (k0 k1 k2 k3 : ClassId) (th : Nat → Int32) (tm : Nat → Int64) (pr ag : Nat → Int32) (ck : Int64) (nx : Int32) (ao : Nat) (k4 : ClassId) (ou : Nat → Int64) (sz : Nat) (hf : tw_first th tm pr ag ck 100 = -1) : Met l yL_take (Cond.codeWith yL_take bL_take 3 (some .int) [(0, 8, 11, 19)] :: tw_T) { frames := 8, cells := 1, slots := 6, locals := 160 } (va_Pc [.ref h0, .ref ao] (fun U => U.heap.size = sz ∧ va_P (dC, dI) tw_cl (tw_wH h0 a0 a1 a2 a3 k0 k1 k2 k3 th tm pr ag ck nx ao k4 ou) U.heap ∧ va_K (dC, dI) tw_cl (tw_kH k0 k1 k2 k3 k4) U ∧ va_D (fun _ => True) (tw_wH h0 a0 a1 a2 a3 k0 k1 k2 k3 th tm pr ag ck nx ao k4 ou) ∧ tw_Z U U.heap)) (va_Qi (S := Unit) (fun r _ => r = 1) (fun _ tz => va_P (dC, dI) tw_cl (tw_wH h0 a0 a1 a2 a3 k0 k1 k2 k3 th tm pr ag ck nx ao k4 ou) tz.heap ∧ va_D (va_A (tw_wH h0 a0 a1 a2 a3 k0 k1 k2 k3 th tm pr ag ck nx ao k4 ou) sz) (tw_wH h0 a0 a1 a2 a3 k0 k1 k2 k3 th tm pr ag ck nx ao k4 ou)) (va_A (tw_wH h0 a0 a1 a2 a3 k0 k1 k2 k3 th tm pr ag ck nx ao k4 ou) sz)) 1 6 (va_A (tw_wH h0 a0 a1 a2 a3 k0 k1 k2 k3 th tm pr ag ck nx ao k4 ou) sz) := by
  refine va_MetW (hh := [(0, 8, 11, 19)]) (cc := bL_take) (maxL := 3) (ret := some .int) (by decide) rfl ?_
  intro p e s m args below meth c s₁ B hml hv
  obtain ⟨rfl, hsz, hP, hK, hD0, hZ⟩ := hv
  have hx := B.exec
  have hb := B.bytes
  have hr := B.returns
  have hts := atoms_spec (ws := Cond.codeWith yL_take bL_take 3 (some .int) [(0, 8, 11, 19)] :: tw_T) B.pre
  have hT := fun (w : Cond) (h : w ∈ tw_T) => hts w (List.mem_cons_of_mem _ h)
  have hown : s.vm.findClass RL = some m.cls := findClass_of_methodNamed B.named
  have hlocks := B.notSynchronized
  have hl := lv_entry ([.ref h0, .ref ao]) (n := 3) (Nat.le_of_ble_eq_true rfl)
  rw [lg_entry_eq]
  generalize (lg_sl ([.ref h0, .ref ao]) ++ List.replicate (3 - (lg_sl ([.ref h0, .ref ao])).length) Slot.unset).toArray = ls at hl ⊢
  have hl : lv_has ls 3 [(0, .ref h0), (1, .ref ao)] := hl
  subst hsz
  have hD := hD0.self (sz := s.heap.size)
  generalize hAe : va_A (tw_wH h0 a0 a1 a2 a3 k0 k1 k2 k3 th tm pr ag ck nx ao k4 ou) s.heap.size = A at hD ⊢
  have hA : ∀ q : Nat, s.heap.size ≤ q → A q := fun q h => by rw [← hAe]; exact Or.inr h
  have hS : va_S A s.heap s.heap [] := va_S.rf
  have hPc := hP.sub (ws' := tw_wX h0 a0 a1 a2 a3 k0 k1 k2 k3 th tm pr ag ck nx) [0, 1, 2, 3, 4] rfl
  have hDc := hD.sub (ws' := tw_wX h0 a0 a1 a2 a3 k0 k1 k2 k3 th tm pr ag ck nx) [0, 1, 2, 3, 4] (by decide) rfl
  have hKc := hK.sub (tys' := tw_k k0 k1 k2 k3) [0, 1, 2, 3] rfl
  have hFc := va_free (wc := tw_wX h0 a0 a1 a2 a3 k0 k1 k2 k3 th tm pr ag ck nx) hD hS hA [0, 1, 2, 3, 4] rfl
  have hTab := xt_tableOf (xt_table B (hts _ List.mem_cons_self))
  refine lv_aload_n hx hb dL_take_0 rfl (lv_at hl 1 rfl) ?_
  refine lv_iconst (v := 0) hx hb dL_take_1 (by decide) ?_
  refine lv_aload_n hx hb dL_take_2 rfl (lv_at hl 0 rfl) ?_
  refine xt_call (xt_runV (C := RX) (b := h0) (As := []) (rest := [.int 0, .ref ao]) ⟨hx, hb, hml, hown, hT⟩ (eX_take l hfl dC dI h0 a0 a1 a2 a3 k0 k1 k2 k3 th tm pr ag ck nx hf) (cwV 0 hT (tw_gV tt_154 tt_155 tt_156 tt_1 tt_157) rfl rfl rfl ⟨rfl, by decide +kernel⟩ ⟨Nat.le_of_ble_eq_true rfl, Nat.le_of_ble_eq_true rfl⟩) ⟨fun a U g mk q => ⟨q.1, ⟨q.2.1.1, va_K.moved (u := U) (U := U.calling g mk a) (Vm.Alike.refl U.vm) q.2.1.2⟩, q.2.2.call⟩, va_recv (q0 := 0) (ci := 0) hKc hPc rfl rfl, fun U hU hW => ⟨rfl, ⟨by rw [hU]; exact hPc, va_K.moved hW.alike hKc⟩, hZ.at hU hW⟩⟩ rfl rfl hl.1 rfl (lv_room (Nat.le_of_ble_eq_true rfl)) dL_take_3 ⟨Nat.le_of_ble_eq_true rfl, Nat.le_of_ble_eq_true rfl⟩) (fun v st₀ t H1 L _ _ _ _ _ hq => ?_) (fun q9 st₀ t8 H1 L e1 e2 e3 e4 hL hq => ?_)
  · obtain ⟨q2, hq1, -⟩ := hq
    cases hq1
  · obtain ⟨q2, hq1, ⟨ce, hce, hcv, hcc⟩, hz, hk⟩ := hq
    cases hq1
    rw [e1] at hz hk
    rw [e3] at hz hk hce
    rw [e2.findClass] at hcc
    have hP : va_P (dC, dI) tw_cl (tw_wH h0 a0 a1 a2 a3 k0 k1 k2 k3 th tm pr ag ck nx ao k4 ou) H1 := hP.kept (fun k x hx9 => hk x.1 ((hP k x hx9).lt))
    have hS : va_S A s.heap H1 ([] ++ L) := ⟨hz, fun q h1 _ => hk q h1, fun z hz9 => (hL z (by simpa using hz9)).elim⟩
    refine xt_catch1 hown ⟨0, 8, 11, 19⟩ [] (hTab.trans rfl) (by decide) (by decide) (hT _ tt_130) (va_Nw.use rfl hZ.2.2.2.1) hce hcv hcc ?_
    refine W.eq (g2 := F0 m 11 ls [.ref q9]) rfl ?_
    refine lv_astore_n hx hb dL_take_11 rfl hl (by decide) rfl (fun ls hl => ?_)
    have hl : lv_has ls 3 [(2, .ref q9), (0, .ref h0), (1, .ref ao)] := hl
    refine lv_iconst (v := 1) hx hb dL_take_12 (by decide) ?_
    exact W.iret hx hb hr (fun t ht hW => ⟨⟨_, (), rfl, rfl, by rw [ht]; exact hP, hD⟩, hS.F ht⟩) hS.2.2 dL_take_13
set_option maxHeartbeats 4000000 in
set_option maxRecDepth 100000 in
theorem cL_go (l : Launch) (dC : Nat → ClassId) (dI : Nat → Nat → Nat) (h0 a0 a1 a2 a3 : Nat) (k0 k1 k2 k3 : ClassId) (th : Nat → Int32) (tm : Nat → Int64) (pr ag : Nat → Int32) (ck : Int64) (nx : Int32) (ao : Nat) (k4 : ClassId) (ou : Nat → Int64) (sz : Nat) (n : Int64) (h1 : 0 ≤ n) (h2 : n ≤ 17592186044416) (h3 : n ≤ 70368744177664 - ck) : Met l yL_go (Cond.codeWith yL_go bL_go 5 (some .int) [(0, 9, 12, 13)] :: tw_T) { frames := 3, cells := 0, slots := 0, locals := 120 } (va_Pc [.ref h0, .long n, .ref ao] (fun U => U.heap.size = sz ∧ va_P (dC, dI) tw_cl (tw_wH h0 a0 a1 a2 a3 k0 k1 k2 k3 th tm pr ag ck nx ao k4 ou) U.heap ∧ va_K (dC, dI) tw_cl (tw_kH k0 k1 k2 k3 k4) U ∧ va_D (fun _ => True) (tw_wH h0 a0 a1 a2 a3 k0 k1 k2 k3 th tm pr ag ck nx ao k4 ou))) (va_Qi (S := Unit) (fun r _ => r = 0) (fun _ tz => va_P (dC, dI) tw_cl (tw_wH h0 a0 a1 a2 a3 k0 k1 k2 k3 th tm pr ag (ck + n) nx ao k4 (vp_updL ou (0 : Int32).toNatClampNeg ((tw_dues th tm (ck + n) 100).toInt64))) tz.heap ∧ va_D (va_A (tw_wH h0 a0 a1 a2 a3 k0 k1 k2 k3 th tm pr ag ck nx ao k4 ou) sz) (tw_wH h0 a0 a1 a2 a3 k0 k1 k2 k3 th tm pr ag (ck + n) nx ao k4 (vp_updL ou (0 : Int32).toNatClampNeg ((tw_dues th tm (ck + n) 100).toInt64)))) (va_A (tw_wH h0 a0 a1 a2 a3 k0 k1 k2 k3 th tm pr ag ck nx ao k4 ou) sz)) 0 0 (va_A (tw_wH h0 a0 a1 a2 a3 k0 k1 k2 k3 th tm pr ag ck nx ao k4 ou) sz) := by
  refine va_MetW (hh := [(0, 9, 12, 13)]) (cc := bL_go) (maxL := 5) (ret := some .int) (by decide) rfl ?_
  intro p e s m args below meth c s₁ B hml hv
  obtain ⟨rfl, hsz, hP, hK, hD0⟩ := hv
  have hx := B.exec
  have hb := B.bytes
  have hr := B.returns
  have hts := atoms_spec (ws := Cond.codeWith yL_go bL_go 5 (some .int) [(0, 9, 12, 13)] :: tw_T) B.pre
  have hT := fun (w : Cond) (h : w ∈ tw_T) => hts w (List.mem_cons_of_mem _ h)
  have hown : s.vm.findClass RL = some m.cls := findClass_of_methodNamed B.named
  have hlocks := B.notSynchronized
  have hl := lv_entry ([.ref h0, .long n, .ref ao]) (n := 5) (Nat.le_of_ble_eq_true rfl)
  rw [lg_entry_eq]
  generalize (lg_sl ([.ref h0, .long n, .ref ao]) ++ List.replicate (5 - (lg_sl ([.ref h0, .long n, .ref ao])).length) Slot.unset).toArray = ls at hl ⊢
  have hl : lv_has ls 5 [(0, .ref h0), (1, .long n), (3, .ref ao)] := hl
  subst hsz
  have hD := hD0.self (sz := s.heap.size)
  generalize hAe : va_A (tw_wH h0 a0 a1 a2 a3 k0 k1 k2 k3 th tm pr ag ck nx ao k4 ou) s.heap.size = A at hD ⊢
  have hA : ∀ q : Nat, s.heap.size ≤ q → A q := fun q h => by rw [← hAe]; exact Or.inr h
  have hS : va_S A s.heap s.heap [] := va_S.rf
  have hPc := hP.sub (ws' := tw_wX h0 a0 a1 a2 a3 k0 k1 k2 k3 th tm pr ag ck nx) [0, 1, 2, 3, 4] rfl
  have hDc := hD.sub (ws' := tw_wX h0 a0 a1 a2 a3 k0 k1 k2 k3 th tm pr ag ck nx) [0, 1, 2, 3, 4] (by decide) rfl
  have hKc := hK.sub (tys' := tw_k k0 k1 k2 k3) [0, 1, 2, 3] rfl
  have hFc := va_free (wc := tw_wX h0 a0 a1 a2 a3 k0 k1 k2 k3 th tm pr ag ck nx) hD hS hA [0, 1, 2, 3, 4] rfl
  refine lv_aload_n hx hb dL_go_0 rfl (lv_at hl 2 rfl) ?_
  refine lv_iconst (v := 0) hx hb dL_go_1 (by decide) ?_
  refine lv_aload_n hx hb dL_go_2 rfl (lv_at hl 0 rfl) ?_
  refine lv_lload_n hx hb dL_go_3 rfl (lv_at hl 1 rfl) ?_
  refine va_calli (va_runV (C := RX) (b := h0) (As := [.long n]) (rest := [.int 0, .ref ao]) ⟨hx, hb, hml, hown, hT⟩ (cX_go l dC dI h0 a0 a1 a2 a3 k0 k1 k2 k3 th tm pr ag ck nx s.heap.size n h1 h2 h3) (cwV 1 hT (tw_gV tt_170 tt_171 tt_172 tt_1 tt_173) rfl rfl rfl ⟨rfl, by decide +kernel⟩ ⟨Nat.le_of_ble_eq_true rfl, Nat.le_of_ble_eq_true rfl⟩) ⟨fun a U g mk q => by obtain ⟨q0, q1, qP, qK, qD⟩ := q; exact ⟨q0, q1, qP, va_K.moved (u := U) (U := U.calling g mk a) (Vm.Alike.refl U.vm) qK, qD⟩, va_recv (q0 := 0) (ci := 0) hKc hPc rfl rfl, fun U hU hW => ⟨rfl, by rw [hU], by rw [hU]; exact hPc, va_K.moved hW.alike hKc, hDc.weaken (fun _ _ _ _ => trivial)⟩⟩ rfl rfl hl.1 rfl (lv_room (Nat.le_of_ble_eq_true rfl)) dL_go_4 ⟨Nat.le_of_ble_eq_true rfl, Nat.le_of_ble_eq_true rfl⟩) hS (fun q _ h => hFc q h) hFc (fun r9 u9 t9 H1 locs ht9 hvm9 hw9 hB9 hz9 hk9 hS => ?_)
  obtain ⟨hP1, hD1⟩ := hB9
  rw [ht9] at hP1
  have hw9 : r9 = tw_dues th tm (ck + n) 100 := hw9
  subst r9
  obtain ⟨hP, hD⟩ := va_join (wr := [(ao, .inl (k4, 1, .inr (.inl ou)))]) (w1 := (tw_wX h0 a0 a1 a2 a3 k0 k1 k2 k3 th tm pr ag (ck + n) nx)) hP hD [0, 1, 2, 3, 4] [5] rfl rfl (by decide) (by decide) hk9 hFc hP1 hD1
  generalize H1 = H at hP hS ⊢
  have hP := hP.sub (ws' := (tw_wH h0 a0 a1 a2 a3 k0 k1 k2 k3 th tm pr ag (ck + n) nx ao k4 ou)) [1, 2, 3, 4, 5, 0] rfl
  have hD := hD.sub (ws' := (tw_wH h0 a0 a1 a2 a3 k0 k1 k2 k3 th tm pr ag (ck + n) nx ao k4 ou)) [1, 2, 3, 4, 5, 0] (by decide) rfl
  refine lv_i2l hx hb dL_go_7 rfl ?_
  refine va_last hx hb hK hP hD hS 5 4 rfl rfl (by unfold vp_in; decide) dL_go_8 (fun H locs hP hD hS => ?_)
  have hP : va_P (dC, dI) tw_cl [(h0, .inr (0, [.ref a0, .ref a1, .ref a2, .ref a3, .long (ck + n), .int nx])), (a0, .inl (k0, 100, .inl th)), (a1, .inl (k1, 100, .inr (.inl tm))), (a2, .inl (k2, 100, .inl pr)), (a3, .inl (k3, 100, .inl ag)), (ao, .inl (k4, 1, .inr (.inl (vp_updL ou (0 : Int32).toNatClampNeg ((tw_dues th tm (ck + n) 100).toInt64)))))] H := hP
  have hD : va_D A [(h0, .inr (0, [.ref a0, .ref a1, .ref a2, .ref a3, .long (ck + n), .int nx])), (a0, .inl (k0, 100, .inl th)), (a1, .inl (k1, 100, .inr (.inl tm))), (a2, .inl (k2, 100, .inl pr)), (a3, .inl (k3, 100, .inl ag)), (ao, .inl (k4, 1, .inr (.inl (vp_updL ou (0 : Int32).toNatClampNeg ((tw_dues th tm (ck + n) 100).toInt64)))))] := hD
  refine lv_goto (tgt := 16) hx hb dL_go_9 (by decide) ?_
  refine lv_iconst (v := 0) hx hb dL_go_16 (by decide) ?_
  exact W.iret hx hb hr (fun t ht hW => ⟨⟨_, (), rfl, rfl, by rw [ht]; exact hP, hD⟩, hS.F ht⟩) hS.2.2 dL_go_17
set_option maxHeartbeats 4000000 in
set_option maxRecDepth 100000 in
theorem cL_goB (l : Launch) (hfl : l.flags = pinnedFlags ++ [noTraceFlag]) (dC : Nat → ClassId) (dI : Nat → Nat → Nat) (h0 a0 a1 a2 a3 : Nat) (k0 k1 k2 k3 : ClassId) (th : Nat → Int32) (tm : Nat → Int64) (pr ag : Nat → Int32) (ck : Int64) (nx : Int32) (ao : Nat) (k4 : ClassId) (ou : Nat → Int64) (sz : Nat) (n : Int64) (hbad : ¬ (0 ≤ n ∧ n ≤ 17592186044416 ∧ n ≤ 70368744177664 - ck)) : Met l yL_go (Cond.codeWith yL_go bL_go 5 (some .int) [(0, 9, 12, 13)] :: tw_T) { frames := 8, cells := 1, slots := 6, locals := 160 } (va_Pc [.ref h0, .long n, .ref ao] (fun U => U.heap.size = sz ∧ va_P (dC, dI) tw_cl (tw_wH h0 a0 a1 a2 a3 k0 k1 k2 k3 th tm pr ag ck nx ao k4 ou) U.heap ∧ va_K (dC, dI) tw_cl (tw_kH k0 k1 k2 k3 k4) U ∧ va_D (fun _ => True) (tw_wH h0 a0 a1 a2 a3 k0 k1 k2 k3 th tm pr ag ck nx ao k4 ou) ∧ tw_Z U U.heap)) (va_Qi (S := Unit) (fun r _ => r = 1) (fun _ tz => va_P (dC, dI) tw_cl (tw_wH h0 a0 a1 a2 a3 k0 k1 k2 k3 th tm pr ag ck nx ao k4 ou) tz.heap ∧ va_D (va_A (tw_wH h0 a0 a1 a2 a3 k0 k1 k2 k3 th tm pr ag ck nx ao k4 ou) sz) (tw_wH h0 a0 a1 a2 a3 k0 k1 k2 k3 th tm pr ag ck nx ao k4 ou)) (va_A (tw_wH h0 a0 a1 a2 a3 k0 k1 k2 k3 th tm pr ag ck nx ao k4 ou) sz)) 1 6 (va_A (tw_wH h0 a0 a1 a2 a3 k0 k1 k2 k3 th tm pr ag ck nx ao k4 ou) sz) := by
  refine va_MetW (hh := [(0, 9, 12, 13)]) (cc := bL_go) (maxL := 5) (ret := some .int) (by decide) rfl ?_
  intro p e s m args below meth c s₁ B hml hv
  obtain ⟨rfl, hsz, hP, hK, hD0, hZ⟩ := hv
  have hx := B.exec
  have hb := B.bytes
  have hr := B.returns
  have hts := atoms_spec (ws := Cond.codeWith yL_go bL_go 5 (some .int) [(0, 9, 12, 13)] :: tw_T) B.pre
  have hT := fun (w : Cond) (h : w ∈ tw_T) => hts w (List.mem_cons_of_mem _ h)
  have hown : s.vm.findClass RL = some m.cls := findClass_of_methodNamed B.named
  have hlocks := B.notSynchronized
  have hl := lv_entry ([.ref h0, .long n, .ref ao]) (n := 5) (Nat.le_of_ble_eq_true rfl)
  rw [lg_entry_eq]
  generalize (lg_sl ([.ref h0, .long n, .ref ao]) ++ List.replicate (5 - (lg_sl ([.ref h0, .long n, .ref ao])).length) Slot.unset).toArray = ls at hl ⊢
  have hl : lv_has ls 5 [(0, .ref h0), (1, .long n), (3, .ref ao)] := hl
  subst hsz
  have hD := hD0.self (sz := s.heap.size)
  generalize hAe : va_A (tw_wH h0 a0 a1 a2 a3 k0 k1 k2 k3 th tm pr ag ck nx ao k4 ou) s.heap.size = A at hD ⊢
  have hA : ∀ q : Nat, s.heap.size ≤ q → A q := fun q h => by rw [← hAe]; exact Or.inr h
  have hS : va_S A s.heap s.heap [] := va_S.rf
  have hPc := hP.sub (ws' := tw_wX h0 a0 a1 a2 a3 k0 k1 k2 k3 th tm pr ag ck nx) [0, 1, 2, 3, 4] rfl
  have hDc := hD.sub (ws' := tw_wX h0 a0 a1 a2 a3 k0 k1 k2 k3 th tm pr ag ck nx) [0, 1, 2, 3, 4] (by decide) rfl
  have hKc := hK.sub (tys' := tw_k k0 k1 k2 k3) [0, 1, 2, 3] rfl
  have hFc := va_free (wc := tw_wX h0 a0 a1 a2 a3 k0 k1 k2 k3 th tm pr ag ck nx) hD hS hA [0, 1, 2, 3, 4] rfl
  have hTab := xt_tableOf (xt_table B (hts _ List.mem_cons_self))
  refine lv_aload_n hx hb dL_go_0 rfl (lv_at hl 2 rfl) ?_
  refine lv_iconst (v := 0) hx hb dL_go_1 (by decide) ?_
  refine lv_aload_n hx hb dL_go_2 rfl (lv_at hl 0 rfl) ?_
  refine lv_lload_n hx hb dL_go_3 rfl (lv_at hl 1 rfl) ?_
  refine xt_call (xt_runV (C := RX) (b := h0) (As := [.long n]) (rest := [.int 0, .ref ao]) ⟨hx, hb, hml, hown, hT⟩ (eX_go l hfl dC dI h0 a0 a1 a2 a3 k0 k1 k2 k3 th tm pr ag ck nx n hbad) (cwV 1 hT (tw_gV tt_170 tt_171 tt_172 tt_1 tt_173) rfl rfl rfl ⟨rfl, by decide +kernel⟩ ⟨Nat.le_of_ble_eq_true rfl, Nat.le_of_ble_eq_true rfl⟩) ⟨fun a U g mk q => ⟨q.1, ⟨q.2.1.1, va_K.moved (u := U) (U := U.calling g mk a) (Vm.Alike.refl U.vm) q.2.1.2⟩, q.2.2.call⟩, va_recv (q0 := 0) (ci := 0) hKc hPc rfl rfl, fun U hU hW => ⟨rfl, ⟨by rw [hU]; exact hPc, va_K.moved hW.alike hKc⟩, hZ.at hU hW⟩⟩ rfl rfl hl.1 rfl (lv_room (Nat.le_of_ble_eq_true rfl)) dL_go_4 ⟨Nat.le_of_ble_eq_true rfl, Nat.le_of_ble_eq_true rfl⟩) (fun v st₀ t H1 L _ _ _ _ _ hq => ?_) (fun q9 st₀ t8 H1 L e1 e2 e3 e4 hL hq => ?_)
  · obtain ⟨q2, hq1, -⟩ := hq
    cases hq1
  · obtain ⟨q2, hq1, ⟨ce, hce, hcv, hcc⟩, hz, hk⟩ := hq
    cases hq1
    rw [e1] at hz hk
    rw [e3] at hz hk hce
    rw [e2.findClass] at hcc
    have hP : va_P (dC, dI) tw_cl (tw_wH h0 a0 a1 a2 a3 k0 k1 k2 k3 th tm pr ag ck nx ao k4 ou) H1 := hP.kept (fun k x hx9 => hk x.1 ((hP k x hx9).lt))
    have hS : va_S A s.heap H1 ([] ++ L) := ⟨hz, fun q h1 _ => hk q h1, fun z hz9 => (hL z (by simpa using hz9)).elim⟩
    refine xt_catch1 hown ⟨0, 9, 12, 13⟩ [] (hTab.trans rfl) (by decide) (by decide) (hT _ tt_50) (va_Nw.use rfl hZ.2.2.1) hce hcv hcc ?_
    refine W.eq (g2 := F0 m 12 ls [.ref q9]) rfl ?_
    refine lv_astore hx hb dL_go_12 hl (by decide) rfl (fun ls hl => ?_)
    have hl : lv_has ls 5 [(4, .ref q9), (0, .ref h0), (1, .long n), (3, .ref ao)] := hl
    refine lv_iconst (v := 1) hx hb dL_go_14 (by decide) ?_
    exact W.iret hx hb hr (fun t ht hW => ⟨⟨_, (), rfl, rfl, by rw [ht]; exact hP, hD⟩, hS.F ht⟩) hS.2.2 dL_go_15
set_option maxHeartbeats 4000000 in
set_option maxRecDepth 100000 in
theorem cL_skip (l : Launch) (dC : Nat → ClassId) (dI : Nat → Nat → Nat) (h0 a0 a1 a2 a3 : Nat) (k0 k1 k2 k3 : ClassId) (th : Nat → Int32) (tm : Nat → Int64) (pr ag : Nat → Int32) (ck : Int64) (nx : Int32) (ao : Nat) (k4 : ClassId) (ou : Nat → Int64) (sz : Nat) (hf : ¬ tw_least th tm ck 100 = -1) : Met l yL_skip (Cond.codeWith yL_skip bL_skip 3 (some .int) [(0, 8, 11, 19)] :: tw_T) { frames := 3, cells := 0, slots := 0, locals := 120 } (va_Pc [.ref h0, .ref ao] (fun U => U.heap.size = sz ∧ va_P (dC, dI) tw_cl (tw_wH h0 a0 a1 a2 a3 k0 k1 k2 k3 th tm pr ag ck nx ao k4 ou) U.heap ∧ va_K (dC, dI) tw_cl (tw_kH k0 k1 k2 k3 k4) U ∧ va_D (fun _ => True) (tw_wH h0 a0 a1 a2 a3 k0 k1 k2 k3 th tm pr ag ck nx ao k4 ou))) (va_Qi (S := Unit) (fun r _ => r = 0) (fun _ tz => va_P (dC, dI) tw_cl (tw_wH h0 a0 a1 a2 a3 k0 k1 k2 k3 th tm pr ag (tw_least th tm ck 100) nx ao k4 (vp_updL ou (0 : Int32).toNatClampNeg ((tw_dues th tm (tw_least th tm ck 100) 100).toInt64))) tz.heap ∧ va_D (va_A (tw_wH h0 a0 a1 a2 a3 k0 k1 k2 k3 th tm pr ag ck nx ao k4 ou) sz) (tw_wH h0 a0 a1 a2 a3 k0 k1 k2 k3 th tm pr ag (tw_least th tm ck 100) nx ao k4 (vp_updL ou (0 : Int32).toNatClampNeg ((tw_dues th tm (tw_least th tm ck 100) 100).toInt64)))) (va_A (tw_wH h0 a0 a1 a2 a3 k0 k1 k2 k3 th tm pr ag ck nx ao k4 ou) sz)) 0 0 (va_A (tw_wH h0 a0 a1 a2 a3 k0 k1 k2 k3 th tm pr ag ck nx ao k4 ou) sz) := by
  refine va_MetW (hh := [(0, 8, 11, 19)]) (cc := bL_skip) (maxL := 3) (ret := some .int) (by decide) rfl ?_
  intro p e s m args below meth c s₁ B hml hv
  obtain ⟨rfl, hsz, hP, hK, hD0⟩ := hv
  have hx := B.exec
  have hb := B.bytes
  have hr := B.returns
  have hts := atoms_spec (ws := Cond.codeWith yL_skip bL_skip 3 (some .int) [(0, 8, 11, 19)] :: tw_T) B.pre
  have hT := fun (w : Cond) (h : w ∈ tw_T) => hts w (List.mem_cons_of_mem _ h)
  have hown : s.vm.findClass RL = some m.cls := findClass_of_methodNamed B.named
  have hlocks := B.notSynchronized
  have hl := lv_entry ([.ref h0, .ref ao]) (n := 3) (Nat.le_of_ble_eq_true rfl)
  rw [lg_entry_eq]
  generalize (lg_sl ([.ref h0, .ref ao]) ++ List.replicate (3 - (lg_sl ([.ref h0, .ref ao])).length) Slot.unset).toArray = ls at hl ⊢
  have hl : lv_has ls 3 [(0, .ref h0), (1, .ref ao)] := hl
  subst hsz
  have hD := hD0.self (sz := s.heap.size)
  generalize hAe : va_A (tw_wH h0 a0 a1 a2 a3 k0 k1 k2 k3 th tm pr ag ck nx ao k4 ou) s.heap.size = A at hD ⊢
  have hA : ∀ q : Nat, s.heap.size ≤ q → A q := fun q h => by rw [← hAe]; exact Or.inr h
  have hS : va_S A s.heap s.heap [] := va_S.rf
  have hPc := hP.sub (ws' := tw_wX h0 a0 a1 a2 a3 k0 k1 k2 k3 th tm pr ag ck nx) [0, 1, 2, 3, 4] rfl
  have hDc := hD.sub (ws' := tw_wX h0 a0 a1 a2 a3 k0 k1 k2 k3 th tm pr ag ck nx) [0, 1, 2, 3, 4] (by decide) rfl
  have hKc := hK.sub (tys' := tw_k k0 k1 k2 k3) [0, 1, 2, 3] rfl
  have hFc := va_free (wc := tw_wX h0 a0 a1 a2 a3 k0 k1 k2 k3 th tm pr ag ck nx) hD hS hA [0, 1, 2, 3, 4] rfl
  refine lv_aload_n hx hb dL_skip_0 rfl (lv_at hl 1 rfl) ?_
  refine lv_iconst (v := 0) hx hb dL_skip_1 (by decide) ?_
  refine lv_aload_n hx hb dL_skip_2 rfl (lv_at hl 0 rfl) ?_
  refine va_calli (va_runV (C := RX) (b := h0) (As := []) (rest := [.int 0, .ref ao]) ⟨hx, hb, hml, hown, hT⟩ (cX_skip l dC dI h0 a0 a1 a2 a3 k0 k1 k2 k3 th tm pr ag ck nx s.heap.size hf) (cwV 0 hT (tw_gV tt_184 tt_185 tt_186 tt_1 tt_187) rfl rfl rfl ⟨rfl, by decide +kernel⟩ ⟨Nat.le_of_ble_eq_true rfl, Nat.le_of_ble_eq_true rfl⟩) ⟨fun a U g mk q => by obtain ⟨q0, q1, qP, qK, qD⟩ := q; exact ⟨q0, q1, qP, va_K.moved (u := U) (U := U.calling g mk a) (Vm.Alike.refl U.vm) qK, qD⟩, va_recv (q0 := 0) (ci := 0) hKc hPc rfl rfl, fun U hU hW => ⟨rfl, by rw [hU], by rw [hU]; exact hPc, va_K.moved hW.alike hKc, hDc.weaken (fun _ _ _ _ => trivial)⟩⟩ rfl rfl hl.1 rfl (lv_room (Nat.le_of_ble_eq_true rfl)) dL_skip_3 ⟨Nat.le_of_ble_eq_true rfl, Nat.le_of_ble_eq_true rfl⟩) hS (fun q _ h => hFc q h) hFc (fun r9 u9 t9 H1 locs ht9 hvm9 hw9 hB9 hz9 hk9 hS => ?_)
  obtain ⟨hP1, hD1⟩ := hB9
  rw [ht9] at hP1
  have hw9 : r9 = tw_dues th tm (tw_least th tm ck 100) 100 := hw9
  subst r9
  obtain ⟨hP, hD⟩ := va_join (wr := [(ao, .inl (k4, 1, .inr (.inl ou)))]) (w1 := (tw_wX h0 a0 a1 a2 a3 k0 k1 k2 k3 th tm pr ag (tw_least th tm ck 100) nx)) hP hD [0, 1, 2, 3, 4] [5] rfl rfl (by decide) (by decide) hk9 hFc hP1 hD1
  generalize H1 = H at hP hS ⊢
  have hP := hP.sub (ws' := (tw_wH h0 a0 a1 a2 a3 k0 k1 k2 k3 th tm pr ag (tw_least th tm ck 100) nx ao k4 ou)) [1, 2, 3, 4, 5, 0] rfl
  have hD := hD.sub (ws' := (tw_wH h0 a0 a1 a2 a3 k0 k1 k2 k3 th tm pr ag (tw_least th tm ck 100) nx ao k4 ou)) [1, 2, 3, 4, 5, 0] (by decide) rfl
  refine lv_i2l hx hb dL_skip_6 rfl ?_
  refine va_last hx hb hK hP hD hS 5 4 rfl rfl (by unfold vp_in; decide) dL_skip_7 (fun H locs hP hD hS => ?_)
  have hP : va_P (dC, dI) tw_cl [(h0, .inr (0, [.ref a0, .ref a1, .ref a2, .ref a3, .long (tw_least th tm ck 100), .int nx])), (a0, .inl (k0, 100, .inl th)), (a1, .inl (k1, 100, .inr (.inl tm))), (a2, .inl (k2, 100, .inl pr)), (a3, .inl (k3, 100, .inl ag)), (ao, .inl (k4, 1, .inr (.inl (vp_updL ou (0 : Int32).toNatClampNeg ((tw_dues th tm (tw_least th tm ck 100) 100).toInt64)))))] H := hP
  have hD : va_D A [(h0, .inr (0, [.ref a0, .ref a1, .ref a2, .ref a3, .long (tw_least th tm ck 100), .int nx])), (a0, .inl (k0, 100, .inl th)), (a1, .inl (k1, 100, .inr (.inl tm))), (a2, .inl (k2, 100, .inl pr)), (a3, .inl (k3, 100, .inl ag)), (ao, .inl (k4, 1, .inr (.inl (vp_updL ou (0 : Int32).toNatClampNeg ((tw_dues th tm (tw_least th tm ck 100) 100).toInt64)))))] := hD
  refine lv_goto (tgt := 14) hx hb dL_skip_8 (by decide) ?_
  refine lv_iconst (v := 0) hx hb dL_skip_14 (by decide) ?_
  exact W.iret hx hb hr (fun t ht hW => ⟨⟨_, (), rfl, rfl, by rw [ht]; exact hP, hD⟩, hS.F ht⟩) hS.2.2 dL_skip_15
set_option maxHeartbeats 4000000 in
set_option maxRecDepth 100000 in
theorem cL_skipB (l : Launch) (hfl : l.flags = pinnedFlags ++ [noTraceFlag]) (dC : Nat → ClassId) (dI : Nat → Nat → Nat) (h0 a0 a1 a2 a3 : Nat) (k0 k1 k2 k3 : ClassId) (th : Nat → Int32) (tm : Nat → Int64) (pr ag : Nat → Int32) (ck : Int64) (nx : Int32) (ao : Nat) (k4 : ClassId) (ou : Nat → Int64) (sz : Nat) (hf : tw_least th tm ck 100 = -1) : Met l yL_skip (Cond.codeWith yL_skip bL_skip 3 (some .int) [(0, 8, 11, 19)] :: tw_T) { frames := 8, cells := 1, slots := 6, locals := 160 } (va_Pc [.ref h0, .ref ao] (fun U => U.heap.size = sz ∧ va_P (dC, dI) tw_cl (tw_wH h0 a0 a1 a2 a3 k0 k1 k2 k3 th tm pr ag ck nx ao k4 ou) U.heap ∧ va_K (dC, dI) tw_cl (tw_kH k0 k1 k2 k3 k4) U ∧ va_D (fun _ => True) (tw_wH h0 a0 a1 a2 a3 k0 k1 k2 k3 th tm pr ag ck nx ao k4 ou) ∧ tw_Z U U.heap)) (va_Qi (S := Unit) (fun r _ => r = 1) (fun _ tz => va_P (dC, dI) tw_cl (tw_wH h0 a0 a1 a2 a3 k0 k1 k2 k3 th tm pr ag ck nx ao k4 ou) tz.heap ∧ va_D (va_A (tw_wH h0 a0 a1 a2 a3 k0 k1 k2 k3 th tm pr ag ck nx ao k4 ou) sz) (tw_wH h0 a0 a1 a2 a3 k0 k1 k2 k3 th tm pr ag ck nx ao k4 ou)) (va_A (tw_wH h0 a0 a1 a2 a3 k0 k1 k2 k3 th tm pr ag ck nx ao k4 ou) sz)) 1 6 (va_A (tw_wH h0 a0 a1 a2 a3 k0 k1 k2 k3 th tm pr ag ck nx ao k4 ou) sz) := by
  refine va_MetW (hh := [(0, 8, 11, 19)]) (cc := bL_skip) (maxL := 3) (ret := some .int) (by decide) rfl ?_
  intro p e s m args below meth c s₁ B hml hv
  obtain ⟨rfl, hsz, hP, hK, hD0, hZ⟩ := hv
  have hx := B.exec
  have hb := B.bytes
  have hr := B.returns
  have hts := atoms_spec (ws := Cond.codeWith yL_skip bL_skip 3 (some .int) [(0, 8, 11, 19)] :: tw_T) B.pre
  have hT := fun (w : Cond) (h : w ∈ tw_T) => hts w (List.mem_cons_of_mem _ h)
  have hown : s.vm.findClass RL = some m.cls := findClass_of_methodNamed B.named
  have hlocks := B.notSynchronized
  have hl := lv_entry ([.ref h0, .ref ao]) (n := 3) (Nat.le_of_ble_eq_true rfl)
  rw [lg_entry_eq]
  generalize (lg_sl ([.ref h0, .ref ao]) ++ List.replicate (3 - (lg_sl ([.ref h0, .ref ao])).length) Slot.unset).toArray = ls at hl ⊢
  have hl : lv_has ls 3 [(0, .ref h0), (1, .ref ao)] := hl
  subst hsz
  have hD := hD0.self (sz := s.heap.size)
  generalize hAe : va_A (tw_wH h0 a0 a1 a2 a3 k0 k1 k2 k3 th tm pr ag ck nx ao k4 ou) s.heap.size = A at hD ⊢
  have hA : ∀ q : Nat, s.heap.size ≤ q → A q := fun q h => by rw [← hAe]; exact Or.inr h
  have hS : va_S A s.heap s.heap [] := va_S.rf
  have hPc := hP.sub (ws' := tw_wX h0 a0 a1 a2 a3 k0 k1 k2 k3 th tm pr ag ck nx) [0, 1, 2, 3, 4] rfl
  have hDc := hD.sub (ws' := tw_wX h0 a0 a1 a2 a3 k0 k1 k2 k3 th tm pr ag ck nx) [0, 1, 2, 3, 4] (by decide) rfl
  have hKc := hK.sub (tys' := tw_k k0 k1 k2 k3) [0, 1, 2, 3] rfl
  have hFc := va_free (wc := tw_wX h0 a0 a1 a2 a3 k0 k1 k2 k3 th tm pr ag ck nx) hD hS hA [0, 1, 2, 3, 4] rfl
  have hTab := xt_tableOf (xt_table B (hts _ List.mem_cons_self))
  refine lv_aload_n hx hb dL_skip_0 rfl (lv_at hl 1 rfl) ?_
  refine lv_iconst (v := 0) hx hb dL_skip_1 (by decide) ?_
  refine lv_aload_n hx hb dL_skip_2 rfl (lv_at hl 0 rfl) ?_
  refine xt_call (xt_runV (C := RX) (b := h0) (As := []) (rest := [.int 0, .ref ao]) ⟨hx, hb, hml, hown, hT⟩ (eX_skip l hfl dC dI h0 a0 a1 a2 a3 k0 k1 k2 k3 th tm pr ag ck nx hf) (cwV 0 hT (tw_gV tt_184 tt_185 tt_186 tt_1 tt_187) rfl rfl rfl ⟨rfl, by decide +kernel⟩ ⟨Nat.le_of_ble_eq_true rfl, Nat.le_of_ble_eq_true rfl⟩) ⟨fun a U g mk q => ⟨q.1, ⟨q.2.1.1, va_K.moved (u := U) (U := U.calling g mk a) (Vm.Alike.refl U.vm) q.2.1.2⟩, q.2.2.call⟩, va_recv (q0 := 0) (ci := 0) hKc hPc rfl rfl, fun U hU hW => ⟨rfl, ⟨by rw [hU]; exact hPc, va_K.moved hW.alike hKc⟩, hZ.at hU hW⟩⟩ rfl rfl hl.1 rfl (lv_room (Nat.le_of_ble_eq_true rfl)) dL_skip_3 ⟨Nat.le_of_ble_eq_true rfl, Nat.le_of_ble_eq_true rfl⟩) (fun v st₀ t H1 L _ _ _ _ _ hq => ?_) (fun q9 st₀ t8 H1 L e1 e2 e3 e4 hL hq => ?_)
  · obtain ⟨q2, hq1, -⟩ := hq
    cases hq1
  · obtain ⟨q2, hq1, ⟨ce, hce, hcv, hcc⟩, hz, hk⟩ := hq
    cases hq1
    rw [e1] at hz hk
    rw [e3] at hz hk hce
    rw [e2.findClass] at hcc
    have hP : va_P (dC, dI) tw_cl (tw_wH h0 a0 a1 a2 a3 k0 k1 k2 k3 th tm pr ag ck nx ao k4 ou) H1 := hP.kept (fun k x hx9 => hk x.1 ((hP k x hx9).lt))
    have hS : va_S A s.heap H1 ([] ++ L) := ⟨hz, fun q h1 _ => hk q h1, fun z hz9 => (hL z (by simpa using hz9)).elim⟩
    refine xt_catch1 hown ⟨0, 8, 11, 19⟩ [] (hTab.trans rfl) (by decide) (by decide) (hT _ tt_130) (va_Nw.use rfl hZ.2.2.2.1) hce hcv hcc ?_
    refine W.eq (g2 := F0 m 11 ls [.ref q9]) rfl ?_
    refine lv_astore_n hx hb dL_skip_11 rfl hl (by decide) rfl (fun ls hl => ?_)
    have hl : lv_has ls 3 [(2, .ref q9), (0, .ref h0), (1, .ref ao)] := hl
    refine lv_iconst (v := 1) hx hb dL_skip_12 (by decide) ?_
    exact W.iret hx hb hr (fun t ht hW => ⟨⟨_, (), rfl, rfl, by rw [ht]; exact hP, hD⟩, hS.F ht⟩) hS.2.2 dL_skip_13
set_option maxHeartbeats 4000000 in
set_option maxRecDepth 100000 in
theorem cL_timer0 (l : Launch) (dC : Nat → ClassId) (dI : Nat → Nat → Nat) (h0 a0 a1 a2 a3 : Nat) (k0 k1 k2 k3 : ClassId) (th : Nat → Int32) (tm : Nat → Int64) (pr ag : Nat → Int32) (ck : Int64) (nx : Int32) (ao : Nat) (k4 : ClassId) (ou : Nat → Int64) (sz : Nat) (j : Int32) (hj : vp_in j 100) : Met l yL_timer (Cond.codeWith yL_timer bL_timer 5 (some .int) [(0, 9, 12, 13)] :: tw_T) { frames := 3, cells := 0, slots := 0, locals := 120 } (va_Pc [.ref h0, .int j, .int 0, .ref ao] (fun U => U.heap.size = sz ∧ va_P (dC, dI) tw_cl (tw_wH h0 a0 a1 a2 a3 k0 k1 k2 k3 th tm pr ag ck nx ao k4 ou) U.heap ∧ va_K (dC, dI) tw_cl (tw_kH k0 k1 k2 k3 k4) U ∧ va_D (fun _ => True) (tw_wH h0 a0 a1 a2 a3 k0 k1 k2 k3 th tm pr ag ck nx ao k4 ou))) (va_Qi (S := Unit) (fun r _ => r = 0) (fun _ tz => va_P (dC, dI) tw_cl (tw_wH h0 a0 a1 a2 a3 k0 k1 k2 k3 th tm pr ag ck nx ao k4 (vp_updL ou (0 : Int32).toNatClampNeg (if th j.toNatClampNeg = 0 then 0 else if tw_due th tm ck j = true then 2 else 1))) tz.heap ∧ va_D (va_A (tw_wH h0 a0 a1 a2 a3 k0 k1 k2 k3 th tm pr ag ck nx ao k4 ou) sz) (tw_wH h0 a0 a1 a2 a3 k0 k1 k2 k3 th tm pr ag ck nx ao k4 (vp_updL ou (0 : Int32).toNatClampNeg (if th j.toNatClampNeg = 0 then 0 else if tw_due th tm ck j = true then 2 else 1)))) (va_A (tw_wH h0 a0 a1 a2 a3 k0 k1 k2 k3 th tm pr ag ck nx ao k4 ou) sz)) 0 0 (va_A (tw_wH h0 a0 a1 a2 a3 k0 k1 k2 k3 th tm pr ag ck nx ao k4 ou) sz) := by
  refine va_MetW (hh := [(0, 9, 12, 13)]) (cc := bL_timer) (maxL := 5) (ret := some .int) (by decide) rfl ?_
  intro p e s m args below meth c s₁ B hml hv
  obtain ⟨rfl, hsz, hP, hK, hD0⟩ := hv
  have hx := B.exec
  have hb := B.bytes
  have hr := B.returns
  have hts := atoms_spec (ws := Cond.codeWith yL_timer bL_timer 5 (some .int) [(0, 9, 12, 13)] :: tw_T) B.pre
  have hT := fun (w : Cond) (h : w ∈ tw_T) => hts w (List.mem_cons_of_mem _ h)
  have hown : s.vm.findClass RL = some m.cls := findClass_of_methodNamed B.named
  have hlocks := B.notSynchronized
  have hl := lv_entry ([.ref h0, .int j, .int 0, .ref ao]) (n := 5) (Nat.le_of_ble_eq_true rfl)
  rw [lg_entry_eq]
  generalize (lg_sl ([.ref h0, .int j, .int 0, .ref ao]) ++ List.replicate (5 - (lg_sl ([.ref h0, .int j, .int 0, .ref ao])).length) Slot.unset).toArray = ls at hl ⊢
  have hl : lv_has ls 5 [(0, .ref h0), (1, .int j), (2, .int 0), (3, .ref ao)] := hl
  subst hsz
  have hD := hD0.self (sz := s.heap.size)
  generalize hAe : va_A (tw_wH h0 a0 a1 a2 a3 k0 k1 k2 k3 th tm pr ag ck nx ao k4 ou) s.heap.size = A at hD ⊢
  have hA : ∀ q : Nat, s.heap.size ≤ q → A q := fun q h => by rw [← hAe]; exact Or.inr h
  have hS : va_S A s.heap s.heap [] := va_S.rf
  have hPc := hP.sub (ws' := tw_wX h0 a0 a1 a2 a3 k0 k1 k2 k3 th tm pr ag ck nx) [0, 1, 2, 3, 4] rfl
  have hDc := hD.sub (ws' := tw_wX h0 a0 a1 a2 a3 k0 k1 k2 k3 th tm pr ag ck nx) [0, 1, 2, 3, 4] (by decide) rfl
  have hKc := hK.sub (tys' := tw_k k0 k1 k2 k3) [0, 1, 2, 3] rfl
  have hFc := va_free (wc := tw_wX h0 a0 a1 a2 a3 k0 k1 k2 k3 th tm pr ag ck nx) hD hS hA [0, 1, 2, 3, 4] rfl
  refine lv_aload_n hx hb dL_timer_0 rfl (lv_at hl 3 rfl) ?_
  refine lv_iconst (v := 0) hx hb dL_timer_1 (by decide) ?_
  refine lv_aload_n hx hb dL_timer_2 rfl (lv_at hl 0 rfl) ?_
  refine lv_iload_n hx hb dL_timer_3 rfl (lv_at hl 1 rfl) ?_
  refine lv_iload_n hx hb dL_timer_4 rfl (lv_at hl 2 rfl) ?_
  refine vp_callSl (W.runV (C := RX) (b := h0) (As := [.int j, .int 0]) (rest := [.int 0, .ref ao]) ⟨hx, hb, hml, hown, hT⟩ (cX_timer0 l dC dI h0 a0 a1 a2 a3 k0 k1 k2 k3 th tm pr ag ck nx j hj) (cwV 2 hT (tw_gV tt_193 tt_194 tt_195 tt_1 tt_196) rfl rfl rfl ⟨rfl, by decide +kernel⟩ ⟨Nat.le_of_ble_eq_true rfl, Nat.le_of_ble_eq_true rfl⟩) ⟨fun a U g mk q => ⟨q.1, q.2.1, va_K.moved (u := U) (U := U.calling g mk a) (Vm.Alike.refl U.vm) q.2.2⟩, va_recv (q0 := 0) (ci := 0) hKc hPc rfl rfl, fun U hU hW => ⟨rfl, by rw [hU]; exact hPc, va_K.moved hW.alike hKc⟩⟩ rfl rfl hl.1 rfl (lv_room (Nat.le_of_ble_eq_true rfl)) dL_timer_5 ⟨Nat.le_of_ble_eq_true rfl, Nat.le_of_ble_eq_true rfl⟩) (fun r9 h9 => ?_)
  subst r9
  refine va_last hx hb hK hP hD hS 5 4 rfl rfl (by unfold vp_in; decide) dL_timer_8 (fun H locs hP hD hS => ?_)
  have hP : va_P (dC, dI) tw_cl [(h0, .inr (0, [.ref a0, .ref a1, .ref a2, .ref a3, .long ck, .int nx])), (a0, .inl (k0, 100, .inl th)), (a1, .inl (k1, 100, .inr (.inl tm))), (a2, .inl (k2, 100, .inl pr)), (a3, .inl (k3, 100, .inl ag)), (ao, .inl (k4, 1, .inr (.inl (vp_updL ou (0 : Int32).toNatClampNeg (if th j.toNatClampNeg = 0 then 0 else if tw_due th tm ck j = true then 2 else 1)))))] H := hP
  have hD : va_D A [(h0, .inr (0, [.ref a0, .ref a1, .ref a2, .ref a3, .long ck, .int nx])), (a0, .inl (k0, 100, .inl th)), (a1, .inl (k1, 100, .inr (.inl tm))), (a2, .inl (k2, 100, .inl pr)), (a3, .inl (k3, 100, .inl ag)), (ao, .inl (k4, 1, .inr (.inl (vp_updL ou (0 : Int32).toNatClampNeg (if th j.toNatClampNeg = 0 then 0 else if tw_due th tm ck j = true then 2 else 1)))))] := hD
  refine lv_goto (tgt := 16) hx hb dL_timer_9 (by decide) ?_
  refine lv_iconst (v := 0) hx hb dL_timer_16 (by decide) ?_
  exact W.iret hx hb hr (fun t ht hW => ⟨⟨_, (), rfl, rfl, by rw [ht]; exact hP, hD⟩, hS.F ht⟩) hS.2.2 dL_timer_17
set_option maxHeartbeats 4000000 in
set_option maxRecDepth 100000 in
theorem cL_timer1 (l : Launch) (dC : Nat → ClassId) (dI : Nat → Nat → Nat) (h0 a0 a1 a2 a3 : Nat) (k0 k1 k2 k3 : ClassId) (th : Nat → Int32) (tm : Nat → Int64) (pr ag : Nat → Int32) (ck : Int64) (nx : Int32) (ao : Nat) (k4 : ClassId) (ou : Nat → Int64) (sz : Nat) (j : Int32) (hj : vp_in j 100) : Met l yL_timer (Cond.codeWith yL_timer bL_timer 5 (some .int) [(0, 9, 12, 13)] :: tw_T) { frames := 3, cells := 0, slots := 0, locals := 120 } (va_Pc [.ref h0, .int j, .int 1, .ref ao] (fun U => U.heap.size = sz ∧ va_P (dC, dI) tw_cl (tw_wH h0 a0 a1 a2 a3 k0 k1 k2 k3 th tm pr ag ck nx ao k4 ou) U.heap ∧ va_K (dC, dI) tw_cl (tw_kH k0 k1 k2 k3 k4) U ∧ va_D (fun _ => True) (tw_wH h0 a0 a1 a2 a3 k0 k1 k2 k3 th tm pr ag ck nx ao k4 ou))) (va_Qi (S := Unit) (fun r _ => r = 0) (fun _ tz => va_P (dC, dI) tw_cl (tw_wH h0 a0 a1 a2 a3 k0 k1 k2 k3 th tm pr ag ck nx ao k4 (vp_updL ou (0 : Int32).toNatClampNeg (if th j.toNatClampNeg = 0 then 0 else tm j.toNatClampNeg))) tz.heap ∧ va_D (va_A (tw_wH h0 a0 a1 a2 a3 k0 k1 k2 k3 th tm pr ag ck nx ao k4 ou) sz) (tw_wH h0 a0 a1 a2 a3 k0 k1 k2 k3 th tm pr ag ck nx ao k4 (vp_updL ou (0 : Int32).toNatClampNeg (if th j.toNatClampNeg = 0 then 0 else tm j.toNatClampNeg)))) (va_A (tw_wH h0 a0 a1 a2 a3 k0 k1 k2 k3 th tm pr ag ck nx ao k4 ou) sz)) 0 0 (va_A (tw_wH h0 a0 a1 a2 a3 k0 k1 k2 k3 th tm pr ag ck nx ao k4 ou) sz) := by
  refine va_MetW (hh := [(0, 9, 12, 13)]) (cc := bL_timer) (maxL := 5) (ret := some .int) (by decide) rfl ?_
  intro p e s m args below meth c s₁ B hml hv
  obtain ⟨rfl, hsz, hP, hK, hD0⟩ := hv
  have hx := B.exec
  have hb := B.bytes
  have hr := B.returns
  have hts := atoms_spec (ws := Cond.codeWith yL_timer bL_timer 5 (some .int) [(0, 9, 12, 13)] :: tw_T) B.pre
  have hT := fun (w : Cond) (h : w ∈ tw_T) => hts w (List.mem_cons_of_mem _ h)
  have hown : s.vm.findClass RL = some m.cls := findClass_of_methodNamed B.named
  have hlocks := B.notSynchronized
  have hl := lv_entry ([.ref h0, .int j, .int 1, .ref ao]) (n := 5) (Nat.le_of_ble_eq_true rfl)
  rw [lg_entry_eq]
  generalize (lg_sl ([.ref h0, .int j, .int 1, .ref ao]) ++ List.replicate (5 - (lg_sl ([.ref h0, .int j, .int 1, .ref ao])).length) Slot.unset).toArray = ls at hl ⊢
  have hl : lv_has ls 5 [(0, .ref h0), (1, .int j), (2, .int 1), (3, .ref ao)] := hl
  subst hsz
  have hD := hD0.self (sz := s.heap.size)
  generalize hAe : va_A (tw_wH h0 a0 a1 a2 a3 k0 k1 k2 k3 th tm pr ag ck nx ao k4 ou) s.heap.size = A at hD ⊢
  have hA : ∀ q : Nat, s.heap.size ≤ q → A q := fun q h => by rw [← hAe]; exact Or.inr h
  have hS : va_S A s.heap s.heap [] := va_S.rf
  have hPc := hP.sub (ws' := tw_wX h0 a0 a1 a2 a3 k0 k1 k2 k3 th tm pr ag ck nx) [0, 1, 2, 3, 4] rfl
  have hDc := hD.sub (ws' := tw_wX h0 a0 a1 a2 a3 k0 k1 k2 k3 th tm pr ag ck nx) [0, 1, 2, 3, 4] (by decide) rfl
  have hKc := hK.sub (tys' := tw_k k0 k1 k2 k3) [0, 1, 2, 3] rfl
  have hFc := va_free (wc := tw_wX h0 a0 a1 a2 a3 k0 k1 k2 k3 th tm pr ag ck nx) hD hS hA [0, 1, 2, 3, 4] rfl
  refine lv_aload_n hx hb dL_timer_0 rfl (lv_at hl 3 rfl) ?_
  refine lv_iconst (v := 0) hx hb dL_timer_1 (by decide) ?_
  refine lv_aload_n hx hb dL_timer_2 rfl (lv_at hl 0 rfl) ?_
  refine lv_iload_n hx hb dL_timer_3 rfl (lv_at hl 1 rfl) ?_
  refine lv_iload_n hx hb dL_timer_4 rfl (lv_at hl 2 rfl) ?_
  refine vp_callSl (W.runV (C := RX) (b := h0) (As := [.int j, .int 1]) (rest := [.int 0, .ref ao]) ⟨hx, hb, hml, hown, hT⟩ (cX_timer1 l dC dI h0 a0 a1 a2 a3 k0 k1 k2 k3 th tm pr ag ck nx j hj) (cwV 2 hT (tw_gV tt_193 tt_194 tt_195 tt_1 tt_196) rfl rfl rfl ⟨rfl, by decide +kernel⟩ ⟨Nat.le_of_ble_eq_true rfl, Nat.le_of_ble_eq_true rfl⟩) ⟨fun a U g mk q => ⟨q.1, q.2.1, va_K.moved (u := U) (U := U.calling g mk a) (Vm.Alike.refl U.vm) q.2.2⟩, va_recv (q0 := 0) (ci := 0) hKc hPc rfl rfl, fun U hU hW => ⟨rfl, by rw [hU]; exact hPc, va_K.moved hW.alike hKc⟩⟩ rfl rfl hl.1 rfl (lv_room (Nat.le_of_ble_eq_true rfl)) dL_timer_5 ⟨Nat.le_of_ble_eq_true rfl, Nat.le_of_ble_eq_true rfl⟩) (fun r9 h9 => ?_)
  subst r9
  refine va_last hx hb hK hP hD hS 5 4 rfl rfl (by unfold vp_in; decide) dL_timer_8 (fun H locs hP hD hS => ?_)
  have hP : va_P (dC, dI) tw_cl [(h0, .inr (0, [.ref a0, .ref a1, .ref a2, .ref a3, .long ck, .int nx])), (a0, .inl (k0, 100, .inl th)), (a1, .inl (k1, 100, .inr (.inl tm))), (a2, .inl (k2, 100, .inl pr)), (a3, .inl (k3, 100, .inl ag)), (ao, .inl (k4, 1, .inr (.inl (vp_updL ou (0 : Int32).toNatClampNeg (if th j.toNatClampNeg = 0 then 0 else tm j.toNatClampNeg)))))] H := hP
  have hD : va_D A [(h0, .inr (0, [.ref a0, .ref a1, .ref a2, .ref a3, .long ck, .int nx])), (a0, .inl (k0, 100, .inl th)), (a1, .inl (k1, 100, .inr (.inl tm))), (a2, .inl (k2, 100, .inl pr)), (a3, .inl (k3, 100, .inl ag)), (ao, .inl (k4, 1, .inr (.inl (vp_updL ou (0 : Int32).toNatClampNeg (if th j.toNatClampNeg = 0 then 0 else tm j.toNatClampNeg)))))] := hD
  refine lv_goto (tgt := 16) hx hb dL_timer_9 (by decide) ?_
  refine lv_iconst (v := 0) hx hb dL_timer_16 (by decide) ?_
  exact W.iret hx hb hr (fun t ht hW => ⟨⟨_, (), rfl, rfl, by rw [ht]; exact hP, hD⟩, hS.F ht⟩) hS.2.2 dL_timer_17
set_option maxHeartbeats 4000000 in
set_option maxRecDepth 100000 in
theorem cL_timer2 (l : Launch) (dC : Nat → ClassId) (dI : Nat → Nat → Nat) (h0 a0 a1 a2 a3 : Nat) (k0 k1 k2 k3 : ClassId) (th : Nat → Int32) (tm : Nat → Int64) (pr ag : Nat → Int32) (ck : Int64) (nx : Int32) (ao : Nat) (k4 : ClassId) (ou : Nat → Int64) (sz : Nat) (j : Int32) (hj : vp_in j 100) : Met l yL_timer (Cond.codeWith yL_timer bL_timer 5 (some .int) [(0, 9, 12, 13)] :: tw_T) { frames := 3, cells := 0, slots := 0, locals := 120 } (va_Pc [.ref h0, .int j, .int 2, .ref ao] (fun U => U.heap.size = sz ∧ va_P (dC, dI) tw_cl (tw_wH h0 a0 a1 a2 a3 k0 k1 k2 k3 th tm pr ag ck nx ao k4 ou) U.heap ∧ va_K (dC, dI) tw_cl (tw_kH k0 k1 k2 k3 k4) U ∧ va_D (fun _ => True) (tw_wH h0 a0 a1 a2 a3 k0 k1 k2 k3 th tm pr ag ck nx ao k4 ou))) (va_Qi (S := Unit) (fun r _ => r = 0) (fun _ tz => va_P (dC, dI) tw_cl (tw_wH h0 a0 a1 a2 a3 k0 k1 k2 k3 th tm pr ag ck nx ao k4 (vp_updL ou (0 : Int32).toNatClampNeg (if th j.toNatClampNeg = 0 then 0 else (pr j.toNatClampNeg).toInt64))) tz.heap ∧ va_D (va_A (tw_wH h0 a0 a1 a2 a3 k0 k1 k2 k3 th tm pr ag ck nx ao k4 ou) sz) (tw_wH h0 a0 a1 a2 a3 k0 k1 k2 k3 th tm pr ag ck nx ao k4 (vp_updL ou (0 : Int32).toNatClampNeg (if th j.toNatClampNeg = 0 then 0 else (pr j.toNatClampNeg).toInt64)))) (va_A (tw_wH h0 a0 a1 a2 a3 k0 k1 k2 k3 th tm pr ag ck nx ao k4 ou) sz)) 0 0 (va_A (tw_wH h0 a0 a1 a2 a3 k0 k1 k2 k3 th tm pr ag ck nx ao k4 ou) sz) := by
  refine va_MetW (hh := [(0, 9, 12, 13)]) (cc := bL_timer) (maxL := 5) (ret := some .int) (by decide) rfl ?_
  intro p e s m args below meth c s₁ B hml hv
  obtain ⟨rfl, hsz, hP, hK, hD0⟩ := hv
  have hx := B.exec
  have hb := B.bytes
  have hr := B.returns
  have hts := atoms_spec (ws := Cond.codeWith yL_timer bL_timer 5 (some .int) [(0, 9, 12, 13)] :: tw_T) B.pre
  have hT := fun (w : Cond) (h : w ∈ tw_T) => hts w (List.mem_cons_of_mem _ h)
  have hown : s.vm.findClass RL = some m.cls := findClass_of_methodNamed B.named
  have hlocks := B.notSynchronized
  have hl := lv_entry ([.ref h0, .int j, .int 2, .ref ao]) (n := 5) (Nat.le_of_ble_eq_true rfl)
  rw [lg_entry_eq]
  generalize (lg_sl ([.ref h0, .int j, .int 2, .ref ao]) ++ List.replicate (5 - (lg_sl ([.ref h0, .int j, .int 2, .ref ao])).length) Slot.unset).toArray = ls at hl ⊢
  have hl : lv_has ls 5 [(0, .ref h0), (1, .int j), (2, .int 2), (3, .ref ao)] := hl
  subst hsz
  have hD := hD0.self (sz := s.heap.size)
  generalize hAe : va_A (tw_wH h0 a0 a1 a2 a3 k0 k1 k2 k3 th tm pr ag ck nx ao k4 ou) s.heap.size = A at hD ⊢
  have hA : ∀ q : Nat, s.heap.size ≤ q → A q := fun q h => by rw [← hAe]; exact Or.inr h
  have hS : va_S A s.heap s.heap [] := va_S.rf
  have hPc := hP.sub (ws' := tw_wX h0 a0 a1 a2 a3 k0 k1 k2 k3 th tm pr ag ck nx) [0, 1, 2, 3, 4] rfl
  have hDc := hD.sub (ws' := tw_wX h0 a0 a1 a2 a3 k0 k1 k2 k3 th tm pr ag ck nx) [0, 1, 2, 3, 4] (by decide) rfl
  have hKc := hK.sub (tys' := tw_k k0 k1 k2 k3) [0, 1, 2, 3] rfl
  have hFc := va_free (wc := tw_wX h0 a0 a1 a2 a3 k0 k1 k2 k3 th tm pr ag ck nx) hD hS hA [0, 1, 2, 3, 4] rfl
  refine lv_aload_n hx hb dL_timer_0 rfl (lv_at hl 3 rfl) ?_
  refine lv_iconst (v := 0) hx hb dL_timer_1 (by decide) ?_
  refine lv_aload_n hx hb dL_timer_2 rfl (lv_at hl 0 rfl) ?_
  refine lv_iload_n hx hb dL_timer_3 rfl (lv_at hl 1 rfl) ?_
  refine lv_iload_n hx hb dL_timer_4 rfl (lv_at hl 2 rfl) ?_
  refine vp_callSl (W.runV (C := RX) (b := h0) (As := [.int j, .int 2]) (rest := [.int 0, .ref ao]) ⟨hx, hb, hml, hown, hT⟩ (cX_timer2 l dC dI h0 a0 a1 a2 a3 k0 k1 k2 k3 th tm pr ag ck nx j hj) (cwV 2 hT (tw_gV tt_193 tt_194 tt_195 tt_1 tt_196) rfl rfl rfl ⟨rfl, by decide +kernel⟩ ⟨Nat.le_of_ble_eq_true rfl, Nat.le_of_ble_eq_true rfl⟩) ⟨fun a U g mk q => ⟨q.1, q.2.1, va_K.moved (u := U) (U := U.calling g mk a) (Vm.Alike.refl U.vm) q.2.2⟩, va_recv (q0 := 0) (ci := 0) hKc hPc rfl rfl, fun U hU hW => ⟨rfl, by rw [hU]; exact hPc, va_K.moved hW.alike hKc⟩⟩ rfl rfl hl.1 rfl (lv_room (Nat.le_of_ble_eq_true rfl)) dL_timer_5 ⟨Nat.le_of_ble_eq_true rfl, Nat.le_of_ble_eq_true rfl⟩) (fun r9 h9 => ?_)
  subst r9
  refine va_last hx hb hK hP hD hS 5 4 rfl rfl (by unfold vp_in; decide) dL_timer_8 (fun H locs hP hD hS => ?_)
  have hP : va_P (dC, dI) tw_cl [(h0, .inr (0, [.ref a0, .ref a1, .ref a2, .ref a3, .long ck, .int nx])), (a0, .inl (k0, 100, .inl th)), (a1, .inl (k1, 100, .inr (.inl tm))), (a2, .inl (k2, 100, .inl pr)), (a3, .inl (k3, 100, .inl ag)), (ao, .inl (k4, 1, .inr (.inl (vp_updL ou (0 : Int32).toNatClampNeg (if th j.toNatClampNeg = 0 then 0 else (pr j.toNatClampNeg).toInt64)))))] H := hP
  have hD : va_D A [(h0, .inr (0, [.ref a0, .ref a1, .ref a2, .ref a3, .long ck, .int nx])), (a0, .inl (k0, 100, .inl th)), (a1, .inl (k1, 100, .inr (.inl tm))), (a2, .inl (k2, 100, .inl pr)), (a3, .inl (k3, 100, .inl ag)), (ao, .inl (k4, 1, .inr (.inl (vp_updL ou (0 : Int32).toNatClampNeg (if th j.toNatClampNeg = 0 then 0 else (pr j.toNatClampNeg).toInt64)))))] := hD
  refine lv_goto (tgt := 16) hx hb dL_timer_9 (by decide) ?_
  refine lv_iconst (v := 0) hx hb dL_timer_16 (by decide) ?_
  exact W.iret hx hb hr (fun t ht hW => ⟨⟨_, (), rfl, rfl, by rw [ht]; exact hP, hD⟩, hS.F ht⟩) hS.2.2 dL_timer_17
set_option maxHeartbeats 4000000 in
set_option maxRecDepth 100000 in
theorem cL_timer3 (l : Launch) (dC : Nat → ClassId) (dI : Nat → Nat → Nat) (h0 a0 a1 a2 a3 : Nat) (k0 k1 k2 k3 : ClassId) (th : Nat → Int32) (tm : Nat → Int64) (pr ag : Nat → Int32) (ck : Int64) (nx : Int32) (ao : Nat) (k4 : ClassId) (ou : Nat → Int64) (sz : Nat) (j : Int32) (hj : vp_in j 100) : Met l yL_timer (Cond.codeWith yL_timer bL_timer 5 (some .int) [(0, 9, 12, 13)] :: tw_T) { frames := 3, cells := 0, slots := 0, locals := 120 } (va_Pc [.ref h0, .int j, .int 3, .ref ao] (fun U => U.heap.size = sz ∧ va_P (dC, dI) tw_cl (tw_wH h0 a0 a1 a2 a3 k0 k1 k2 k3 th tm pr ag ck nx ao k4 ou) U.heap ∧ va_K (dC, dI) tw_cl (tw_kH k0 k1 k2 k3 k4) U ∧ va_D (fun _ => True) (tw_wH h0 a0 a1 a2 a3 k0 k1 k2 k3 th tm pr ag ck nx ao k4 ou))) (va_Qi (S := Unit) (fun r _ => r = 0) (fun _ tz => va_P (dC, dI) tw_cl (tw_wH h0 a0 a1 a2 a3 k0 k1 k2 k3 th tm pr ag ck nx ao k4 (vp_updL ou (0 : Int32).toNatClampNeg (if th j.toNatClampNeg = 0 then 0 else (ag j.toNatClampNeg).toInt64))) tz.heap ∧ va_D (va_A (tw_wH h0 a0 a1 a2 a3 k0 k1 k2 k3 th tm pr ag ck nx ao k4 ou) sz) (tw_wH h0 a0 a1 a2 a3 k0 k1 k2 k3 th tm pr ag ck nx ao k4 (vp_updL ou (0 : Int32).toNatClampNeg (if th j.toNatClampNeg = 0 then 0 else (ag j.toNatClampNeg).toInt64)))) (va_A (tw_wH h0 a0 a1 a2 a3 k0 k1 k2 k3 th tm pr ag ck nx ao k4 ou) sz)) 0 0 (va_A (tw_wH h0 a0 a1 a2 a3 k0 k1 k2 k3 th tm pr ag ck nx ao k4 ou) sz) := by
  refine va_MetW (hh := [(0, 9, 12, 13)]) (cc := bL_timer) (maxL := 5) (ret := some .int) (by decide) rfl ?_
  intro p e s m args below meth c s₁ B hml hv
  obtain ⟨rfl, hsz, hP, hK, hD0⟩ := hv
  have hx := B.exec
  have hb := B.bytes
  have hr := B.returns
  have hts := atoms_spec (ws := Cond.codeWith yL_timer bL_timer 5 (some .int) [(0, 9, 12, 13)] :: tw_T) B.pre
  have hT := fun (w : Cond) (h : w ∈ tw_T) => hts w (List.mem_cons_of_mem _ h)
  have hown : s.vm.findClass RL = some m.cls := findClass_of_methodNamed B.named
  have hlocks := B.notSynchronized
  have hl := lv_entry ([.ref h0, .int j, .int 3, .ref ao]) (n := 5) (Nat.le_of_ble_eq_true rfl)
  rw [lg_entry_eq]
  generalize (lg_sl ([.ref h0, .int j, .int 3, .ref ao]) ++ List.replicate (5 - (lg_sl ([.ref h0, .int j, .int 3, .ref ao])).length) Slot.unset).toArray = ls at hl ⊢
  have hl : lv_has ls 5 [(0, .ref h0), (1, .int j), (2, .int 3), (3, .ref ao)] := hl
  subst hsz
  have hD := hD0.self (sz := s.heap.size)
  generalize hAe : va_A (tw_wH h0 a0 a1 a2 a3 k0 k1 k2 k3 th tm pr ag ck nx ao k4 ou) s.heap.size = A at hD ⊢
  have hA : ∀ q : Nat, s.heap.size ≤ q → A q := fun q h => by rw [← hAe]; exact Or.inr h
  have hS : va_S A s.heap s.heap [] := va_S.rf
  have hPc := hP.sub (ws' := tw_wX h0 a0 a1 a2 a3 k0 k1 k2 k3 th tm pr ag ck nx) [0, 1, 2, 3, 4] rfl
  have hDc := hD.sub (ws' := tw_wX h0 a0 a1 a2 a3 k0 k1 k2 k3 th tm pr ag ck nx) [0, 1, 2, 3, 4] (by decide) rfl
  have hKc := hK.sub (tys' := tw_k k0 k1 k2 k3) [0, 1, 2, 3] rfl
  have hFc := va_free (wc := tw_wX h0 a0 a1 a2 a3 k0 k1 k2 k3 th tm pr ag ck nx) hD hS hA [0, 1, 2, 3, 4] rfl
  refine lv_aload_n hx hb dL_timer_0 rfl (lv_at hl 3 rfl) ?_
  refine lv_iconst (v := 0) hx hb dL_timer_1 (by decide) ?_
  refine lv_aload_n hx hb dL_timer_2 rfl (lv_at hl 0 rfl) ?_
  refine lv_iload_n hx hb dL_timer_3 rfl (lv_at hl 1 rfl) ?_
  refine lv_iload_n hx hb dL_timer_4 rfl (lv_at hl 2 rfl) ?_
  refine vp_callSl (W.runV (C := RX) (b := h0) (As := [.int j, .int 3]) (rest := [.int 0, .ref ao]) ⟨hx, hb, hml, hown, hT⟩ (cX_timer3 l dC dI h0 a0 a1 a2 a3 k0 k1 k2 k3 th tm pr ag ck nx j hj) (cwV 2 hT (tw_gV tt_193 tt_194 tt_195 tt_1 tt_196) rfl rfl rfl ⟨rfl, by decide +kernel⟩ ⟨Nat.le_of_ble_eq_true rfl, Nat.le_of_ble_eq_true rfl⟩) ⟨fun a U g mk q => ⟨q.1, q.2.1, va_K.moved (u := U) (U := U.calling g mk a) (Vm.Alike.refl U.vm) q.2.2⟩, va_recv (q0 := 0) (ci := 0) hKc hPc rfl rfl, fun U hU hW => ⟨rfl, by rw [hU]; exact hPc, va_K.moved hW.alike hKc⟩⟩ rfl rfl hl.1 rfl (lv_room (Nat.le_of_ble_eq_true rfl)) dL_timer_5 ⟨Nat.le_of_ble_eq_true rfl, Nat.le_of_ble_eq_true rfl⟩) (fun r9 h9 => ?_)
  subst r9
  refine va_last hx hb hK hP hD hS 5 4 rfl rfl (by unfold vp_in; decide) dL_timer_8 (fun H locs hP hD hS => ?_)
  have hP : va_P (dC, dI) tw_cl [(h0, .inr (0, [.ref a0, .ref a1, .ref a2, .ref a3, .long ck, .int nx])), (a0, .inl (k0, 100, .inl th)), (a1, .inl (k1, 100, .inr (.inl tm))), (a2, .inl (k2, 100, .inl pr)), (a3, .inl (k3, 100, .inl ag)), (ao, .inl (k4, 1, .inr (.inl (vp_updL ou (0 : Int32).toNatClampNeg (if th j.toNatClampNeg = 0 then 0 else (ag j.toNatClampNeg).toInt64)))))] H := hP
  have hD : va_D A [(h0, .inr (0, [.ref a0, .ref a1, .ref a2, .ref a3, .long ck, .int nx])), (a0, .inl (k0, 100, .inl th)), (a1, .inl (k1, 100, .inr (.inl tm))), (a2, .inl (k2, 100, .inl pr)), (a3, .inl (k3, 100, .inl ag)), (ao, .inl (k4, 1, .inr (.inl (vp_updL ou (0 : Int32).toNatClampNeg (if th j.toNatClampNeg = 0 then 0 else (ag j.toNatClampNeg).toInt64)))))] := hD
  refine lv_goto (tgt := 16) hx hb dL_timer_9 (by decide) ?_
  refine lv_iconst (v := 0) hx hb dL_timer_16 (by decide) ?_
  exact W.iret hx hb hr (fun t ht hW => ⟨⟨_, (), rfl, rfl, by rw [ht]; exact hP, hD⟩, hS.F ht⟩) hS.2.2 dL_timer_17
set_option maxHeartbeats 4000000 in
set_option maxRecDepth 100000 in
theorem cL_timerB (l : Launch) (hfl : l.flags = pinnedFlags ++ [noTraceFlag]) (dC : Nat → ClassId) (dI : Nat → Nat → Nat) (h0 a0 a1 a2 a3 : Nat) (k0 k1 k2 k3 : ClassId) (th : Nat → Int32) (tm : Nat → Int64) (pr ag : Nat → Int32) (ck : Int64) (nx : Int32) (ao : Nat) (k4 : ClassId) (ou : Nat → Int64) (sz : Nat) (j k : Int32) (hbad : ¬ (vp_in j 100 ∧ ¬ k < 0 ∧ k ≤ 3)) : Met l yL_timer (Cond.codeWith yL_timer bL_timer 5 (some .int) [(0, 9, 12, 13)] :: tw_T) { frames := 8, cells := 1, slots := 6, locals := 160 } (va_Pc [.ref h0, .int j, .int k, .ref ao] (fun U => U.heap.size = sz ∧ va_P (dC, dI) tw_cl (tw_wH h0 a0 a1 a2 a3 k0 k1 k2 k3 th tm pr ag ck nx ao k4 ou) U.heap ∧ va_K (dC, dI) tw_cl (tw_kH k0 k1 k2 k3 k4) U ∧ va_D (fun _ => True) (tw_wH h0 a0 a1 a2 a3 k0 k1 k2 k3 th tm pr ag ck nx ao k4 ou) ∧ tw_Z U U.heap)) (va_Qi (S := Unit) (fun r _ => r = 1) (fun _ tz => va_P (dC, dI) tw_cl (tw_wH h0 a0 a1 a2 a3 k0 k1 k2 k3 th tm pr ag ck nx ao k4 ou) tz.heap ∧ va_D (va_A (tw_wH h0 a0 a1 a2 a3 k0 k1 k2 k3 th tm pr ag ck nx ao k4 ou) sz) (tw_wH h0 a0 a1 a2 a3 k0 k1 k2 k3 th tm pr ag ck nx ao k4 ou)) (va_A (tw_wH h0 a0 a1 a2 a3 k0 k1 k2 k3 th tm pr ag ck nx ao k4 ou) sz)) 1 6 (va_A (tw_wH h0 a0 a1 a2 a3 k0 k1 k2 k3 th tm pr ag ck nx ao k4 ou) sz) := by
  refine va_MetW (hh := [(0, 9, 12, 13)]) (cc := bL_timer) (maxL := 5) (ret := some .int) (by decide) rfl ?_
  intro p e s m args below meth c s₁ B hml hv
  obtain ⟨rfl, hsz, hP, hK, hD0, hZ⟩ := hv
  have hx := B.exec
  have hb := B.bytes
  have hr := B.returns
  have hts := atoms_spec (ws := Cond.codeWith yL_timer bL_timer 5 (some .int) [(0, 9, 12, 13)] :: tw_T) B.pre
  have hT := fun (w : Cond) (h : w ∈ tw_T) => hts w (List.mem_cons_of_mem _ h)
  have hown : s.vm.findClass RL = some m.cls := findClass_of_methodNamed B.named
  have hlocks := B.notSynchronized
  have hl := lv_entry ([.ref h0, .int j, .int k, .ref ao]) (n := 5) (Nat.le_of_ble_eq_true rfl)
  rw [lg_entry_eq]
  generalize (lg_sl ([.ref h0, .int j, .int k, .ref ao]) ++ List.replicate (5 - (lg_sl ([.ref h0, .int j, .int k, .ref ao])).length) Slot.unset).toArray = ls at hl ⊢
  have hl : lv_has ls 5 [(0, .ref h0), (1, .int j), (2, .int k), (3, .ref ao)] := hl
  subst hsz
  have hD := hD0.self (sz := s.heap.size)
  generalize hAe : va_A (tw_wH h0 a0 a1 a2 a3 k0 k1 k2 k3 th tm pr ag ck nx ao k4 ou) s.heap.size = A at hD ⊢
  have hA : ∀ q : Nat, s.heap.size ≤ q → A q := fun q h => by rw [← hAe]; exact Or.inr h
  have hS : va_S A s.heap s.heap [] := va_S.rf
  have hPc := hP.sub (ws' := tw_wX h0 a0 a1 a2 a3 k0 k1 k2 k3 th tm pr ag ck nx) [0, 1, 2, 3, 4] rfl
  have hDc := hD.sub (ws' := tw_wX h0 a0 a1 a2 a3 k0 k1 k2 k3 th tm pr ag ck nx) [0, 1, 2, 3, 4] (by decide) rfl
  have hKc := hK.sub (tys' := tw_k k0 k1 k2 k3) [0, 1, 2, 3] rfl
  have hFc := va_free (wc := tw_wX h0 a0 a1 a2 a3 k0 k1 k2 k3 th tm pr ag ck nx) hD hS hA [0, 1, 2, 3, 4] rfl
  have hTab := xt_tableOf (xt_table B (hts _ List.mem_cons_self))
  refine lv_aload_n hx hb dL_timer_0 rfl (lv_at hl 3 rfl) ?_
  refine lv_iconst (v := 0) hx hb dL_timer_1 (by decide) ?_
  refine lv_aload_n hx hb dL_timer_2 rfl (lv_at hl 0 rfl) ?_
  refine lv_iload_n hx hb dL_timer_3 rfl (lv_at hl 1 rfl) ?_
  refine lv_iload_n hx hb dL_timer_4 rfl (lv_at hl 2 rfl) ?_
  refine xt_call (xt_runV (C := RX) (b := h0) (As := [.int j, .int k]) (rest := [.int 0, .ref ao]) ⟨hx, hb, hml, hown, hT⟩ (eX_timer l hfl dC dI h0 a0 a1 a2 a3 k0 k1 k2 k3 th tm pr ag ck nx j k hbad) (cwV 2 hT (tw_gV tt_193 tt_194 tt_195 tt_1 tt_196) rfl rfl rfl ⟨rfl, by decide +kernel⟩ ⟨Nat.le_of_ble_eq_true rfl, Nat.le_of_ble_eq_true rfl⟩) ⟨fun a U g mk q => ⟨q.1, ⟨q.2.1.1, va_K.moved (u := U) (U := U.calling g mk a) (Vm.Alike.refl U.vm) q.2.1.2⟩, q.2.2.call⟩, va_recv (q0 := 0) (ci := 0) hKc hPc rfl rfl, fun U hU hW => ⟨rfl, ⟨by rw [hU]; exact hPc, va_K.moved hW.alike hKc⟩, hZ.at hU hW⟩⟩ rfl rfl hl.1 rfl (lv_room (Nat.le_of_ble_eq_true rfl)) dL_timer_5 ⟨Nat.le_of_ble_eq_true rfl, Nat.le_of_ble_eq_true rfl⟩) (fun v st₀ t H1 L _ _ _ _ _ hq => ?_) (fun q9 st₀ t8 H1 L e1 e2 e3 e4 hL hq => ?_)
  · obtain ⟨q2, hq1, -⟩ := hq
    cases hq1
  · obtain ⟨q2, hq1, ⟨ce, hce, hcv, hcc⟩, hz, hk⟩ := hq
    cases hq1
    rw [e1] at hz hk
    rw [e3] at hz hk hce
    rw [e2.findClass] at hcc
    have hP : va_P (dC, dI) tw_cl (tw_wH h0 a0 a1 a2 a3 k0 k1 k2 k3 th tm pr ag ck nx ao k4 ou) H1 := hP.kept (fun k x hx9 => hk x.1 ((hP k x hx9).lt))
    have hS : va_S A s.heap H1 ([] ++ L) := ⟨hz, fun q h1 _ => hk q h1, fun z hz9 => (hL z (by simpa using hz9)).elim⟩
    refine xt_catch1 hown ⟨0, 9, 12, 13⟩ [] (hTab.trans rfl) (by decide) (by decide) (hT _ tt_50) (va_Nw.use rfl hZ.2.2.1) hce hcv hcc ?_
    refine W.eq (g2 := F0 m 12 ls [.ref q9]) rfl ?_
    refine lv_astore hx hb dL_timer_12 hl (by decide) rfl (fun ls hl => ?_)
    have hl : lv_has ls 5 [(4, .ref q9), (0, .ref h0), (1, .int j), (2, .int k), (3, .ref ao)] := hl
    refine lv_iconst (v := 1) hx hb dL_timer_14 (by decide) ?_
    exact W.iret hx hb hr (fun t ht hW => ⟨⟨_, (), rfl, rfl, by rw [ht]; exact hP, hD⟩, hS.F ht⟩) hS.2.2 dL_timer_15
set_option maxHeartbeats 4000000 in
set_option maxRecDepth 100000 in
theorem cL_count0 (l : Launch) (dC : Nat → ClassId) (dI : Nat → Nat → Nat) (h0 a0 a1 a2 a3 : Nat) (k0 k1 k2 k3 : ClassId) (th : Nat → Int32) (tm : Nat → Int64) (pr ag : Nat → Int32) (ck : Int64) (nx : Int32) (ao : Nat) (k4 : ClassId) (ou : Nat → Int64) (sz : Nat)  : Met l yL_count (Cond.codeWith yL_count bL_count 4 (some .int) [(0, 8, 11, 13)] :: tw_T) { frames := 3, cells := 0, slots := 0, locals := 120 } (va_Pc [.ref h0, .int 0, .ref ao] (fun U => U.heap.size = sz ∧ va_P (dC, dI) tw_cl (tw_wH h0 a0 a1 a2 a3 k0 k1 k2 k3 th tm pr ag ck nx ao k4 ou) U.heap ∧ va_K (dC, dI) tw_cl (tw_kH k0 k1 k2 k3 k4) U ∧ va_D (fun _ => True) (tw_wH h0 a0 a1 a2 a3 k0 k1 k2 k3 th tm pr ag ck nx ao k4 ou))) (va_Qi (S := Unit) (fun r _ => r = 0) (fun _ tz => va_P (dC, dI) tw_cl (tw_wH h0 a0 a1 a2 a3 k0 k1 k2 k3 th tm pr ag ck nx ao k4 (vp_updL ou (0 : Int32).toNatClampNeg ck)) tz.heap ∧ va_D (va_A (tw_wH h0 a0 a1 a2 a3 k0 k1 k2 k3 th tm pr ag ck nx ao k4 ou) sz) (tw_wH h0 a0 a1 a2 a3 k0 k1 k2 k3 th tm pr ag ck nx ao k4 (vp_updL ou (0 : Int32).toNatClampNeg ck))) (va_A (tw_wH h0 a0 a1 a2 a3 k0 k1 k2 k3 th tm pr ag ck nx ao k4 ou) sz)) 0 0 (va_A (tw_wH h0 a0 a1 a2 a3 k0 k1 k2 k3 th tm pr ag ck nx ao k4 ou) sz) := by
  refine va_MetW (hh := [(0, 8, 11, 13)]) (cc := bL_count) (maxL := 4) (ret := some .int) (by decide) rfl ?_
  intro p e s m args below meth c s₁ B hml hv
  obtain ⟨rfl, hsz, hP, hK, hD0⟩ := hv
  have hx := B.exec
  have hb := B.bytes
  have hr := B.returns
  have hts := atoms_spec (ws := Cond.codeWith yL_count bL_count 4 (some .int) [(0, 8, 11, 13)] :: tw_T) B.pre
  have hT := fun (w : Cond) (h : w ∈ tw_T) => hts w (List.mem_cons_of_mem _ h)
  have hown : s.vm.findClass RL = some m.cls := findClass_of_methodNamed B.named
  have hlocks := B.notSynchronized
  have hl := lv_entry ([.ref h0, .int 0, .ref ao]) (n := 4) (Nat.le_of_ble_eq_true rfl)
  rw [lg_entry_eq]
  generalize (lg_sl ([.ref h0, .int 0, .ref ao]) ++ List.replicate (4 - (lg_sl ([.ref h0, .int 0, .ref ao])).length) Slot.unset).toArray = ls at hl ⊢
  have hl : lv_has ls 4 [(0, .ref h0), (1, .int 0), (2, .ref ao)] := hl
  subst hsz
  have hD := hD0.self (sz := s.heap.size)
  generalize hAe : va_A (tw_wH h0 a0 a1 a2 a3 k0 k1 k2 k3 th tm pr ag ck nx ao k4 ou) s.heap.size = A at hD ⊢
  have hA : ∀ q : Nat, s.heap.size ≤ q → A q := fun q h => by rw [← hAe]; exact Or.inr h
  have hS : va_S A s.heap s.heap [] := va_S.rf
  have hPc := hP.sub (ws' := tw_wX h0 a0 a1 a2 a3 k0 k1 k2 k3 th tm pr ag ck nx) [0, 1, 2, 3, 4] rfl
  have hDc := hD.sub (ws' := tw_wX h0 a0 a1 a2 a3 k0 k1 k2 k3 th tm pr ag ck nx) [0, 1, 2, 3, 4] (by decide) rfl
  have hKc := hK.sub (tys' := tw_k k0 k1 k2 k3) [0, 1, 2, 3] rfl
  have hFc := va_free (wc := tw_wX h0 a0 a1 a2 a3 k0 k1 k2 k3 th tm pr ag ck nx) hD hS hA [0, 1, 2, 3, 4] rfl
  refine lv_aload_n hx hb dL_count_0 rfl (lv_at hl 2 rfl) ?_
  refine lv_iconst (v := 0) hx hb dL_count_1 (by decide) ?_
  refine lv_aload_n hx hb dL_count_2 rfl (lv_at hl 0 rfl) ?_
  refine lv_iload_n hx hb dL_count_3 rfl (lv_at hl 1 rfl) ?_
  refine vp_callSl (W.runV (C := RX) (b := h0) (As := [.int 0]) (rest := [.int 0, .ref ao]) ⟨hx, hb, hml, hown, hT⟩ (cX_count0 l dC dI h0 a0 a1 a2 a3 k0 k1 k2 k3 th tm pr ag ck nx ) (cwV 1 hT (tw_gV tt_202 tt_203 tt_204 tt_1 tt_205) rfl rfl rfl ⟨rfl, by decide +kernel⟩ ⟨Nat.le_of_ble_eq_true rfl, Nat.le_of_ble_eq_true rfl⟩) ⟨fun a U g mk q => ⟨q.1, q.2.1, va_K.moved (u := U) (U := U.calling g mk a) (Vm.Alike.refl U.vm) q.2.2⟩, va_recv (q0 := 0) (ci := 0) hKc hPc rfl rfl, fun U hU hW => ⟨rfl, by rw [hU]; exact hPc, va_K.moved hW.alike hKc⟩⟩ rfl rfl hl.1 rfl (lv_room (Nat.le_of_ble_eq_true rfl)) dL_count_4 ⟨Nat.le_of_ble_eq_true rfl, Nat.le_of_ble_eq_true rfl⟩) (fun r9 h9 => ?_)
  subst r9
  refine va_last hx hb hK hP hD hS 5 4 rfl rfl (by unfold vp_in; decide) dL_count_7 (fun H locs hP hD hS => ?_)
  have hP : va_P (dC, dI) tw_cl [(h0, .inr (0, [.ref a0, .ref a1, .ref a2, .ref a3, .long ck, .int nx])), (a0, .inl (k0, 100, .inl th)), (a1, .inl (k1, 100, .inr (.inl tm))), (a2, .inl (k2, 100, .inl pr)), (a3, .inl (k3, 100, .inl ag)), (ao, .inl (k4, 1, .inr (.inl (vp_updL ou (0 : Int32).toNatClampNeg ck))))] H := hP
  have hD : va_D A [(h0, .inr (0, [.ref a0, .ref a1, .ref a2, .ref a3, .long ck, .int nx])), (a0, .inl (k0, 100, .inl th)), (a1, .inl (k1, 100, .inr (.inl tm))), (a2, .inl (k2, 100, .inl pr)), (a3, .inl (k3, 100, .inl ag)), (ao, .inl (k4, 1, .inr (.inl (vp_updL ou (0 : Int32).toNatClampNeg ck))))] := hD
  refine lv_goto (tgt := 14) hx hb dL_count_8 (by decide) ?_
  refine lv_iconst (v := 0) hx hb dL_count_14 (by decide) ?_
  exact W.iret hx hb hr (fun t ht hW => ⟨⟨_, (), rfl, rfl, by rw [ht]; exact hP, hD⟩, hS.F ht⟩) hS.2.2 dL_count_15
set_option maxHeartbeats 4000000 in
set_option maxRecDepth 100000 in
theorem cL_count1 (l : Launch) (dC : Nat → ClassId) (dI : Nat → Nat → Nat) (h0 a0 a1 a2 a3 : Nat) (k0 k1 k2 k3 : ClassId) (th : Nat → Int32) (tm : Nat → Int64) (pr ag : Nat → Int32) (ck : Int64) (nx : Int32) (ao : Nat) (k4 : ClassId) (ou : Nat → Int64) (sz : Nat)  : Met l yL_count (Cond.codeWith yL_count bL_count 4 (some .int) [(0, 8, 11, 13)] :: tw_T) { frames := 3, cells := 0, slots := 0, locals := 120 } (va_Pc [.ref h0, .int 1, .ref ao] (fun U => U.heap.size = sz ∧ va_P (dC, dI) tw_cl (tw_wH h0 a0 a1 a2 a3 k0 k1 k2 k3 th tm pr ag ck nx ao k4 ou) U.heap ∧ va_K (dC, dI) tw_cl (tw_kH k0 k1 k2 k3 k4) U ∧ va_D (fun _ => True) (tw_wH h0 a0 a1 a2 a3 k0 k1 k2 k3 th tm pr ag ck nx ao k4 ou))) (va_Qi (S := Unit) (fun r _ => r = 0) (fun _ tz => va_P (dC, dI) tw_cl (tw_wH h0 a0 a1 a2 a3 k0 k1 k2 k3 th tm pr ag ck nx ao k4 (vp_updL ou (0 : Int32).toNatClampNeg ((tw_ther th 100).toInt64))) tz.heap ∧ va_D (va_A (tw_wH h0 a0 a1 a2 a3 k0 k1 k2 k3 th tm pr ag ck nx ao k4 ou) sz) (tw_wH h0 a0 a1 a2 a3 k0 k1 k2 k3 th tm pr ag ck nx ao k4 (vp_updL ou (0 : Int32).toNatClampNeg ((tw_ther th 100).toInt64)))) (va_A (tw_wH h0 a0 a1 a2 a3 k0 k1 k2 k3 th tm pr ag ck nx ao k4 ou) sz)) 0 0 (va_A (tw_wH h0 a0 a1 a2 a3 k0 k1 k2 k3 th tm pr ag ck nx ao k4 ou) sz) := by
  refine va_MetW (hh := [(0, 8, 11, 13)]) (cc := bL_count) (maxL := 4) (ret := some .int) (by decide) rfl ?_
  intro p e s m args below meth c s₁ B hml hv
  obtain ⟨rfl, hsz, hP, hK, hD0⟩ := hv
  have hx := B.exec
  have hb := B.bytes
  have hr := B.returns
  have hts := atoms_spec (ws := Cond.codeWith yL_count bL_count 4 (some .int) [(0, 8, 11, 13)] :: tw_T) B.pre
  have hT := fun (w : Cond) (h : w ∈ tw_T) => hts w (List.mem_cons_of_mem _ h)
  have hown : s.vm.findClass RL = some m.cls := findClass_of_methodNamed B.named
  have hlocks := B.notSynchronized
  have hl := lv_entry ([.ref h0, .int 1, .ref ao]) (n := 4) (Nat.le_of_ble_eq_true rfl)
  rw [lg_entry_eq]
  generalize (lg_sl ([.ref h0, .int 1, .ref ao]) ++ List.replicate (4 - (lg_sl ([.ref h0, .int 1, .ref ao])).length) Slot.unset).toArray = ls at hl ⊢
  have hl : lv_has ls 4 [(0, .ref h0), (1, .int 1), (2, .ref ao)] := hl
  subst hsz
  have hD := hD0.self (sz := s.heap.size)
  generalize hAe : va_A (tw_wH h0 a0 a1 a2 a3 k0 k1 k2 k3 th tm pr ag ck nx ao k4 ou) s.heap.size = A at hD ⊢
  have hA : ∀ q : Nat, s.heap.size ≤ q → A q := fun q h => by rw [← hAe]; exact Or.inr h
  have hS : va_S A s.heap s.heap [] := va_S.rf
  have hPc := hP.sub (ws' := tw_wX h0 a0 a1 a2 a3 k0 k1 k2 k3 th tm pr ag ck nx) [0, 1, 2, 3, 4] rfl
  have hDc := hD.sub (ws' := tw_wX h0 a0 a1 a2 a3 k0 k1 k2 k3 th tm pr ag ck nx) [0, 1, 2, 3, 4] (by decide) rfl
  have hKc := hK.sub (tys' := tw_k k0 k1 k2 k3) [0, 1, 2, 3] rfl
  have hFc := va_free (wc := tw_wX h0 a0 a1 a2 a3 k0 k1 k2 k3 th tm pr ag ck nx) hD hS hA [0, 1, 2, 3, 4] rfl
  refine lv_aload_n hx hb dL_count_0 rfl (lv_at hl 2 rfl) ?_
  refine lv_iconst (v := 0) hx hb dL_count_1 (by decide) ?_
  refine lv_aload_n hx hb dL_count_2 rfl (lv_at hl 0 rfl) ?_
  refine lv_iload_n hx hb dL_count_3 rfl (lv_at hl 1 rfl) ?_
  refine vp_callSl (W.runV (C := RX) (b := h0) (As := [.int 1]) (rest := [.int 0, .ref ao]) ⟨hx, hb, hml, hown, hT⟩ (cX_count1 l dC dI h0 a0 a1 a2 a3 k0 k1 k2 k3 th tm pr ag ck nx ) (cwV 1 hT (tw_gV tt_202 tt_203 tt_204 tt_1 tt_205) rfl rfl rfl ⟨rfl, by decide +kernel⟩ ⟨Nat.le_of_ble_eq_true rfl, Nat.le_of_ble_eq_true rfl⟩) ⟨fun a U g mk q => ⟨q.1, q.2.1, va_K.moved (u := U) (U := U.calling g mk a) (Vm.Alike.refl U.vm) q.2.2⟩, va_recv (q0 := 0) (ci := 0) hKc hPc rfl rfl, fun U hU hW => ⟨rfl, by rw [hU]; exact hPc, va_K.moved hW.alike hKc⟩⟩ rfl rfl hl.1 rfl (lv_room (Nat.le_of_ble_eq_true rfl)) dL_count_4 ⟨Nat.le_of_ble_eq_true rfl, Nat.le_of_ble_eq_true rfl⟩) (fun r9 h9 => ?_)
  subst r9
  refine va_last hx hb hK hP hD hS 5 4 rfl rfl (by unfold vp_in; decide) dL_count_7 (fun H locs hP hD hS => ?_)
  have hP : va_P (dC, dI) tw_cl [(h0, .inr (0, [.ref a0, .ref a1, .ref a2, .ref a3, .long ck, .int nx])), (a0, .inl (k0, 100, .inl th)), (a1, .inl (k1, 100, .inr (.inl tm))), (a2, .inl (k2, 100, .inl pr)), (a3, .inl (k3, 100, .inl ag)), (ao, .inl (k4, 1, .inr (.inl (vp_updL ou (0 : Int32).toNatClampNeg ((tw_ther th 100).toInt64)))))] H := hP
  have hD : va_D A [(h0, .inr (0, [.ref a0, .ref a1, .ref a2, .ref a3, .long ck, .int nx])), (a0, .inl (k0, 100, .inl th)), (a1, .inl (k1, 100, .inr (.inl tm))), (a2, .inl (k2, 100, .inl pr)), (a3, .inl (k3, 100, .inl ag)), (ao, .inl (k4, 1, .inr (.inl (vp_updL ou (0 : Int32).toNatClampNeg ((tw_ther th 100).toInt64)))))] := hD
  refine lv_goto (tgt := 14) hx hb dL_count_8 (by decide) ?_
  refine lv_iconst (v := 0) hx hb dL_count_14 (by decide) ?_
  exact W.iret hx hb hr (fun t ht hW => ⟨⟨_, (), rfl, rfl, by rw [ht]; exact hP, hD⟩, hS.F ht⟩) hS.2.2 dL_count_15
set_option maxHeartbeats 4000000 in
set_option maxRecDepth 100000 in
theorem cL_count2 (l : Launch) (dC : Nat → ClassId) (dI : Nat → Nat → Nat) (h0 a0 a1 a2 a3 : Nat) (k0 k1 k2 k3 : ClassId) (th : Nat → Int32) (tm : Nat → Int64) (pr ag : Nat → Int32) (ck : Int64) (nx : Int32) (ao : Nat) (k4 : ClassId) (ou : Nat → Int64) (sz : Nat)  : Met l yL_count (Cond.codeWith yL_count bL_count 4 (some .int) [(0, 8, 11, 13)] :: tw_T) { frames := 3, cells := 0, slots := 0, locals := 120 } (va_Pc [.ref h0, .int 2, .ref ao] (fun U => U.heap.size = sz ∧ va_P (dC, dI) tw_cl (tw_wH h0 a0 a1 a2 a3 k0 k1 k2 k3 th tm pr ag ck nx ao k4 ou) U.heap ∧ va_K (dC, dI) tw_cl (tw_kH k0 k1 k2 k3 k4) U ∧ va_D (fun _ => True) (tw_wH h0 a0 a1 a2 a3 k0 k1 k2 k3 th tm pr ag ck nx ao k4 ou))) (va_Qi (S := Unit) (fun r _ => r = 0) (fun _ tz => va_P (dC, dI) tw_cl (tw_wH h0 a0 a1 a2 a3 k0 k1 k2 k3 th tm pr ag ck nx ao k4 (vp_updL ou (0 : Int32).toNatClampNeg ((tw_dues th tm ck 100).toInt64))) tz.heap ∧ va_D (va_A (tw_wH h0 a0 a1 a2 a3 k0 k1 k2 k3 th tm pr ag ck nx ao k4 ou) sz) (tw_wH h0 a0 a1 a2 a3 k0 k1 k2 k3 th tm pr ag ck nx ao k4 (vp_updL ou (0 : Int32).toNatClampNeg ((tw_dues th tm ck 100).toInt64)))) (va_A (tw_wH h0 a0 a1 a2 a3 k0 k1 k2 k3 th tm pr ag ck nx ao k4 ou) sz)) 0 0 (va_A (tw_wH h0 a0 a1 a2 a3 k0 k1 k2 k3 th tm pr ag ck nx ao k4 ou) sz) := by
  refine va_MetW (hh := [(0, 8, 11, 13)]) (cc := bL_count) (maxL := 4) (ret := some .int) (by decide) rfl ?_
  intro p e s m args below meth c s₁ B hml hv
  obtain ⟨rfl, hsz, hP, hK, hD0⟩ := hv
  have hx := B.exec
  have hb := B.bytes
  have hr := B.returns
  have hts := atoms_spec (ws := Cond.codeWith yL_count bL_count 4 (some .int) [(0, 8, 11, 13)] :: tw_T) B.pre
  have hT := fun (w : Cond) (h : w ∈ tw_T) => hts w (List.mem_cons_of_mem _ h)
  have hown : s.vm.findClass RL = some m.cls := findClass_of_methodNamed B.named
  have hlocks := B.notSynchronized
  have hl := lv_entry ([.ref h0, .int 2, .ref ao]) (n := 4) (Nat.le_of_ble_eq_true rfl)
  rw [lg_entry_eq]
  generalize (lg_sl ([.ref h0, .int 2, .ref ao]) ++ List.replicate (4 - (lg_sl ([.ref h0, .int 2, .ref ao])).length) Slot.unset).toArray = ls at hl ⊢
  have hl : lv_has ls 4 [(0, .ref h0), (1, .int 2), (2, .ref ao)] := hl
  subst hsz
  have hD := hD0.self (sz := s.heap.size)
  generalize hAe : va_A (tw_wH h0 a0 a1 a2 a3 k0 k1 k2 k3 th tm pr ag ck nx ao k4 ou) s.heap.size = A at hD ⊢
  have hA : ∀ q : Nat, s.heap.size ≤ q → A q := fun q h => by rw [← hAe]; exact Or.inr h
  have hS : va_S A s.heap s.heap [] := va_S.rf
  have hPc := hP.sub (ws' := tw_wX h0 a0 a1 a2 a3 k0 k1 k2 k3 th tm pr ag ck nx) [0, 1, 2, 3, 4] rfl
  have hDc := hD.sub (ws' := tw_wX h0 a0 a1 a2 a3 k0 k1 k2 k3 th tm pr ag ck nx) [0, 1, 2, 3, 4] (by decide) rfl
  have hKc := hK.sub (tys' := tw_k k0 k1 k2 k3) [0, 1, 2, 3] rfl
  have hFc := va_free (wc := tw_wX h0 a0 a1 a2 a3 k0 k1 k2 k3 th tm pr ag ck nx) hD hS hA [0, 1, 2, 3, 4] rfl
  refine lv_aload_n hx hb dL_count_0 rfl (lv_at hl 2 rfl) ?_
  refine lv_iconst (v := 0) hx hb dL_count_1 (by decide) ?_
  refine lv_aload_n hx hb dL_count_2 rfl (lv_at hl 0 rfl) ?_
  refine lv_iload_n hx hb dL_count_3 rfl (lv_at hl 1 rfl) ?_
  refine vp_callSl (W.runV (C := RX) (b := h0) (As := [.int 2]) (rest := [.int 0, .ref ao]) ⟨hx, hb, hml, hown, hT⟩ (cX_count2 l dC dI h0 a0 a1 a2 a3 k0 k1 k2 k3 th tm pr ag ck nx ) (cwV 1 hT (tw_gV tt_202 tt_203 tt_204 tt_1 tt_205) rfl rfl rfl ⟨rfl, by decide +kernel⟩ ⟨Nat.le_of_ble_eq_true rfl, Nat.le_of_ble_eq_true rfl⟩) ⟨fun a U g mk q => ⟨q.1, q.2.1, va_K.moved (u := U) (U := U.calling g mk a) (Vm.Alike.refl U.vm) q.2.2⟩, va_recv (q0 := 0) (ci := 0) hKc hPc rfl rfl, fun U hU hW => ⟨rfl, by rw [hU]; exact hPc, va_K.moved hW.alike hKc⟩⟩ rfl rfl hl.1 rfl (lv_room (Nat.le_of_ble_eq_true rfl)) dL_count_4 ⟨Nat.le_of_ble_eq_true rfl, Nat.le_of_ble_eq_true rfl⟩) (fun r9 h9 => ?_)
  subst r9
  refine va_last hx hb hK hP hD hS 5 4 rfl rfl (by unfold vp_in; decide) dL_count_7 (fun H locs hP hD hS => ?_)
  have hP : va_P (dC, dI) tw_cl [(h0, .inr (0, [.ref a0, .ref a1, .ref a2, .ref a3, .long ck, .int nx])), (a0, .inl (k0, 100, .inl th)), (a1, .inl (k1, 100, .inr (.inl tm))), (a2, .inl (k2, 100, .inl pr)), (a3, .inl (k3, 100, .inl ag)), (ao, .inl (k4, 1, .inr (.inl (vp_updL ou (0 : Int32).toNatClampNeg ((tw_dues th tm ck 100).toInt64)))))] H := hP
  have hD : va_D A [(h0, .inr (0, [.ref a0, .ref a1, .ref a2, .ref a3, .long ck, .int nx])), (a0, .inl (k0, 100, .inl th)), (a1, .inl (k1, 100, .inr (.inl tm))), (a2, .inl (k2, 100, .inl pr)), (a3, .inl (k3, 100, .inl ag)), (ao, .inl (k4, 1, .inr (.inl (vp_updL ou (0 : Int32).toNatClampNeg ((tw_dues th tm ck 100).toInt64)))))] := hD
  refine lv_goto (tgt := 14) hx hb dL_count_8 (by decide) ?_
  refine lv_iconst (v := 0) hx hb dL_count_14 (by decide) ?_
  exact W.iret hx hb hr (fun t ht hW => ⟨⟨_, (), rfl, rfl, by rw [ht]; exact hP, hD⟩, hS.F ht⟩) hS.2.2 dL_count_15
set_option maxHeartbeats 4000000 in
set_option maxRecDepth 100000 in
theorem cL_countB (l : Launch) (hfl : l.flags = pinnedFlags ++ [noTraceFlag]) (dC : Nat → ClassId) (dI : Nat → Nat → Nat) (h0 a0 a1 a2 a3 : Nat) (k0 k1 k2 k3 : ClassId) (th : Nat → Int32) (tm : Nat → Int64) (pr ag : Nat → Int32) (ck : Int64) (nx : Int32) (ao : Nat) (k4 : ClassId) (ou : Nat → Int64) (sz : Nat) (k : Int32) (hbad : k.toInt < 0 ∨ 2 < k.toInt) : Met l yL_count (Cond.codeWith yL_count bL_count 4 (some .int) [(0, 8, 11, 13)] :: tw_T) { frames := 8, cells := 1, slots := 6, locals := 160 } (va_Pc [.ref h0, .int k, .ref ao] (fun U => U.heap.size = sz ∧ va_P (dC, dI) tw_cl (tw_wH h0 a0 a1 a2 a3 k0 k1 k2 k3 th tm pr ag ck nx ao k4 ou) U.heap ∧ va_K (dC, dI) tw_cl (tw_kH k0 k1 k2 k3 k4) U ∧ va_D (fun _ => True) (tw_wH h0 a0 a1 a2 a3 k0 k1 k2 k3 th tm pr ag ck nx ao k4 ou) ∧ tw_Z U U.heap)) (va_Qi (S := Unit) (fun r _ => r = 1) (fun _ tz => va_P (dC, dI) tw_cl (tw_wH h0 a0 a1 a2 a3 k0 k1 k2 k3 th tm pr ag ck nx ao k4 ou) tz.heap ∧ va_D (va_A (tw_wH h0 a0 a1 a2 a3 k0 k1 k2 k3 th tm pr ag ck nx ao k4 ou) sz) (tw_wH h0 a0 a1 a2 a3 k0 k1 k2 k3 th tm pr ag ck nx ao k4 ou)) (va_A (tw_wH h0 a0 a1 a2 a3 k0 k1 k2 k3 th tm pr ag ck nx ao k4 ou) sz)) 1 6 (va_A (tw_wH h0 a0 a1 a2 a3 k0 k1 k2 k3 th tm pr ag ck nx ao k4 ou) sz) := by
  refine va_MetW (hh := [(0, 8, 11, 13)]) (cc := bL_count) (maxL := 4) (ret := some .int) (by decide) rfl ?_
  intro p e s m args below meth c s₁ B hml hv
  obtain ⟨rfl, hsz, hP, hK, hD0, hZ⟩ := hv
  have hx := B.exec
  have hb := B.bytes
  have hr := B.returns
  have hts := atoms_spec (ws := Cond.codeWith yL_count bL_count 4 (some .int) [(0, 8, 11, 13)] :: tw_T) B.pre
  have hT := fun (w : Cond) (h : w ∈ tw_T) => hts w (List.mem_cons_of_mem _ h)
  have hown : s.vm.findClass RL = some m.cls := findClass_of_methodNamed B.named
  have hlocks := B.notSynchronized
  have hl := lv_entry ([.ref h0, .int k, .ref ao]) (n := 4) (Nat.le_of_ble_eq_true rfl)
  rw [lg_entry_eq]
  generalize (lg_sl ([.ref h0, .int k, .ref ao]) ++ List.replicate (4 - (lg_sl ([.ref h0, .int k, .ref ao])).length) Slot.unset).toArray = ls at hl ⊢
  have hl : lv_has ls 4 [(0, .ref h0), (1, .int k), (2, .ref ao)] := hl
  subst hsz
  have hD := hD0.self (sz := s.heap.size)
  generalize hAe : va_A (tw_wH h0 a0 a1 a2 a3 k0 k1 k2 k3 th tm pr ag ck nx ao k4 ou) s.heap.size = A at hD ⊢
  have hA : ∀ q : Nat, s.heap.size ≤ q → A q := fun q h => by rw [← hAe]; exact Or.inr h
  have hS : va_S A s.heap s.heap [] := va_S.rf
  have hPc := hP.sub (ws' := tw_wX h0 a0 a1 a2 a3 k0 k1 k2 k3 th tm pr ag ck nx) [0, 1, 2, 3, 4] rfl
  have hDc := hD.sub (ws' := tw_wX h0 a0 a1 a2 a3 k0 k1 k2 k3 th tm pr ag ck nx) [0, 1, 2, 3, 4] (by decide) rfl
  have hKc := hK.sub (tys' := tw_k k0 k1 k2 k3) [0, 1, 2, 3] rfl
  have hFc := va_free (wc := tw_wX h0 a0 a1 a2 a3 k0 k1 k2 k3 th tm pr ag ck nx) hD hS hA [0, 1, 2, 3, 4] rfl
  have hTab := xt_tableOf (xt_table B (hts _ List.mem_cons_self))
  refine lv_aload_n hx hb dL_count_0 rfl (lv_at hl 2 rfl) ?_
  refine lv_iconst (v := 0) hx hb dL_count_1 (by decide) ?_
  refine lv_aload_n hx hb dL_count_2 rfl (lv_at hl 0 rfl) ?_
  refine lv_iload_n hx hb dL_count_3 rfl (lv_at hl 1 rfl) ?_
  refine xt_call (xt_runV (C := RX) (b := h0) (As := [.int k]) (rest := [.int 0, .ref ao]) ⟨hx, hb, hml, hown, hT⟩ (eX_count l hfl dC dI h0 a0 a1 a2 a3 k0 k1 k2 k3 th tm pr ag ck nx k hbad) (cwV 1 hT (tw_gV tt_202 tt_203 tt_204 tt_1 tt_205) rfl rfl rfl ⟨rfl, by decide +kernel⟩ ⟨Nat.le_of_ble_eq_true rfl, Nat.le_of_ble_eq_true rfl⟩) ⟨fun a U g mk q => ⟨q.1, ⟨q.2.1.1, va_K.moved (u := U) (U := U.calling g mk a) (Vm.Alike.refl U.vm) q.2.1.2⟩, q.2.2.call⟩, va_recv (q0 := 0) (ci := 0) hKc hPc rfl rfl, fun U hU hW => ⟨rfl, ⟨by rw [hU]; exact hPc, va_K.moved hW.alike hKc⟩, hZ.at hU hW⟩⟩ rfl rfl hl.1 rfl (lv_room (Nat.le_of_ble_eq_true rfl)) dL_count_4 ⟨Nat.le_of_ble_eq_true rfl, Nat.le_of_ble_eq_true rfl⟩) (fun v st₀ t H1 L _ _ _ _ _ hq => ?_) (fun q9 st₀ t8 H1 L e1 e2 e3 e4 hL hq => ?_)
  · obtain ⟨q2, hq1, -⟩ := hq
    cases hq1
  · obtain ⟨q2, hq1, ⟨ce, hce, hcv, hcc⟩, hz, hk⟩ := hq
    cases hq1
    rw [e1] at hz hk
    rw [e3] at hz hk hce
    rw [e2.findClass] at hcc
    have hP : va_P (dC, dI) tw_cl (tw_wH h0 a0 a1 a2 a3 k0 k1 k2 k3 th tm pr ag ck nx ao k4 ou) H1 := hP.kept (fun k x hx9 => hk x.1 ((hP k x hx9).lt))
    have hS : va_S A s.heap H1 ([] ++ L) := ⟨hz, fun q h1 _ => hk q h1, fun z hz9 => (hL z (by simpa using hz9)).elim⟩
    refine xt_catch1 hown ⟨0, 8, 11, 13⟩ [] (hTab.trans rfl) (by decide) (by decide) (hT _ tt_50) (va_Nw.use rfl hZ.2.2.1) hce hcv hcc ?_
    refine W.eq (g2 := F0 m 11 ls [.ref q9]) rfl ?_
    refine lv_astore_n hx hb dL_count_11 rfl hl (by decide) rfl (fun ls hl => ?_)
    have hl : lv_has ls 4 [(3, .ref q9), (0, .ref h0), (1, .int k), (2, .ref ao)] := hl
    refine lv_iconst (v := 1) hx hb dL_count_12 (by decide) ?_
    exact W.iret hx hb hr (fun t ht hW => ⟨⟨_, (), rfl, rfl, by rw [ht]; exact hP, hD⟩, hS.F ht⟩) hS.2.2 dL_count_13
