/-! The two constructors: both pictures empty. Rows laid by our own program (wip/gen/gc.py). -/
set_option maxHeartbeats 4000000 in
set_option maxRecDepth 100000 in
theorem cX_init (l : Launch) (dC : Nat → ClassId) (dI : Nat → Nat → Nat) (h0 sz : Nat) : Met l yX_init (Cond.code yX_init bX_init 1 (none) :: tw_T) { frames := 1, cells := 4, slots := 400, locals := 12 } (va_Pc [.ref h0] (fun U => U.heap.size = sz ∧ va_P (dC, dI) tw_cl [(h0, .inr (0, [.null, .null, .null, .null, .long 0, .int 0]))] U.heap ∧ va_K (dC, dI) tw_cl [] U ∧ va_D (fun _ => True) [(h0, .inr (0, [.null, .null, .null, .null, .long 0, .int 0]))])) (va_Qv (S := Unit) (fun _ => True) (fun _ tz => ∃ (a0 a1 a2 a3 : Nat) (k0 k1 k2 k3 : ClassId), va_P (dC, dI) tw_cl (tw_wX h0 a0 a1 a2 a3 k0 k1 k2 k3 (fun _ => 0) (fun _ => 0) (fun _ => 0) (fun _ => 0) 0 0) tz.heap ∧ va_K (dC, dI) tw_cl (tw_k k0 k1 k2 k3) tz ∧ va_D (va_A [(h0, .inr (0, [.null, .null, .null, .null, .long 0, .int 0]))] sz) (tw_wX h0 a0 a1 a2 a3 k0 k1 k2 k3 (fun _ => 0) (fun _ => 0) (fun _ => 0) (fun _ => 0) 0 0)) (va_A [(h0, .inr (0, [.null, .null, .null, .null, .long 0, .int 0]))] sz)) 4 400 (va_A [(h0, .inr (0, [.null, .null, .null, .null, .long 0, .int 0]))] sz) := by
  refine Met.ofW (cc := bX_init) (maxL := 1) (ret := none) (by decide) rfl ?_
  intro p e s m args below meth c s₁ B hml hv
  obtain ⟨rfl, hsz, hP, hK, hD0⟩ := hv
  have hx := B.exec
  have hb := B.bytes
  have hr := B.returns
  have hT := fun (w : Cond) (h : w ∈ tw_T) => atoms_spec (ws := Cond.code yX_init bX_init 1 (none) :: tw_T) B.pre w (List.mem_cons_of_mem _ h)
  have hown : s.vm.findClass RX = some m.cls := findClass_of_methodNamed B.named
  have hlocks := B.notSynchronized
  have hl := lv_entry ([.ref h0]) (n := 1) (Nat.le_of_ble_eq_true rfl)
  rw [lg_entry_eq]
  generalize (lg_sl ([.ref h0]) ++ List.replicate (1 - (lg_sl ([.ref h0])).length) Slot.unset).toArray = ls at hl ⊢
  have hl : lv_has ls 1 [(0, .ref h0)] := hl
  have hin : meth.name = "<init>" := (name_of_methodNamed B.named B.method).1
  subst hsz
  have hD := hD0.self (sz := s.heap.size)
  generalize hAe : va_A [(h0, .inr (0, [.null, .null, .null, .null, .long 0, .int 0]))] s.heap.size = A at hD ⊢
  have hA : ∀ q : Nat, s.heap.size ≤ q → A q := fun q h => by rw [← hAe]; exact Or.inr h
  have hS : va_S A s.heap s.heap [] := va_S.rf
  refine lv_aload_n hx hb dX_init_0 rfl (lv_at hl 0 rfl) ?_
  refine W.objInit hx hb hown (hT _ tt_13) (hT _ tt_14) (hT _ tt_15) rfl (by rw [hml]; exact hl.1) rfl dX_init_1 (Nat.le_of_ble_eq_true rfl) (Nat.le_of_ble_eq_true rfl) ?_
  refine W.eq (g2 := F0 m 4 ls []) rfl ?_
  refine lv_aload_n hx hb dX_init_4 rfl (lv_at hl 0 rfl) ?_
  refine lv_bipush (v := 100) hx hb dX_init_5 (by decide) ?_
  refine va_newa (atype := .boolean) (ty := .boolean) (a0 := (100, .inl (fun _ => 0))) (N' := 100) hx hb (hT _ tt_35) rfl hK hP hD hS hA (fun _ => rfl) (by decide) (by decide) (by decide) (Nat.le_of_ble_eq_true rfl) (Nat.le_of_ble_eq_true rfl) dX_init_7 (fun a0 k0 H hK hP hD hS => ?_)
  have hP : va_P (dC, dI) tw_cl [(h0, .inr (0, [.null, .null, .null, .null, .long 0, .int 0])), (a0, .inl (k0, 100, .inl (fun _ => 0)))] H := hP
  have hD : va_D A [(h0, .inr (0, [.null, .null, .null, .null, .long 0, .int 0])), (a0, .inl (k0, 100, .inl (fun _ => 0)))] := hD
  have hK : va_K (dC, dI) tw_cl [(k0, .boolean)] s := hK
  refine va_putF (D := (dC, dI)) (ci := 0) (v := .ref a0) (ty := .array .boolean) (C := RX) (T := FX) (N := 6) hx hb hT in_X TX tX_ok nX_ hown hK hP hD hS 0 rfl rfl 0 (by decide) (hT _ tt_16) (fun _ h9 => h9) rfl hin rfl (by decide +kernel) rfl rfl (Nat.le_of_ble_eq_true rfl) dX_init_9 (fun H locs hP hD hS => ?_)
  have hP : va_P (dC, dI) tw_cl [(h0, .inr (0, [.ref a0, .null, .null, .null, .long 0, .int 0])), (a0, .inl (k0, 100, .inl (fun _ => 0)))] H := hP
  have hD : va_D A [(h0, .inr (0, [.ref a0, .null, .null, .null, .long 0, .int 0])), (a0, .inl (k0, 100, .inl (fun _ => 0)))] := hD
  refine lv_aload_n hx hb dX_init_12 rfl (lv_at hl 0 rfl) ?_
  refine lv_bipush (v := 100) hx hb dX_init_13 (by decide) ?_
  refine va_newa (atype := .long) (ty := .long) (a0 := (100, .inr (.inl (fun _ => 0)))) (N' := 100) hx hb (hT _ tt_36) rfl hK hP hD hS hA (fun _ => rfl) (by decide) (by decide) (by decide) (Nat.le_of_ble_eq_true rfl) (Nat.le_of_ble_eq_true rfl) dX_init_15 (fun a1 k1 H hK hP hD hS => ?_)
  have hP : va_P (dC, dI) tw_cl [(h0, .inr (0, [.ref a0, .null, .null, .null, .long 0, .int 0])), (a0, .inl (k0, 100, .inl (fun _ => 0))), (a1, .inl (k1, 100, .inr (.inl (fun _ => 0))))] H := hP
  have hD : va_D A [(h0, .inr (0, [.ref a0, .null, .null, .null, .long 0, .int 0])), (a0, .inl (k0, 100, .inl (fun _ => 0))), (a1, .inl (k1, 100, .inr (.inl (fun _ => 0))))] := hD
  have hK : va_K (dC, dI) tw_cl [(k0, .boolean), (k1, .long)] s := hK
  refine va_putF (D := (dC, dI)) (ci := 0) (v := .ref a1) (ty := .array .long) (C := RX) (T := FX) (N := 6) hx hb hT in_X TX tX_ok nX_ hown hK hP hD hS 0 rfl rfl 1 (by decide) (hT _ tt_17) (fun _ h9 => h9) rfl hin rfl (by decide +kernel) rfl rfl (Nat.le_of_ble_eq_true rfl) dX_init_17 (fun H locs hP hD hS => ?_)
  have hP : va_P (dC, dI) tw_cl [(h0, .inr (0, [.ref a0, .ref a1, .null, .null, .long 0, .int 0])), (a0, .inl (k0, 100, .inl (fun _ => 0))), (a1, .inl (k1, 100, .inr (.inl (fun _ => 0))))] H := hP
  have hD : va_D A [(h0, .inr (0, [.ref a0, .ref a1, .null, .null, .long 0, .int 0])), (a0, .inl (k0, 100, .inl (fun _ => 0))), (a1, .inl (k1, 100, .inr (.inl (fun _ => 0))))] := hD
  refine lv_aload_n hx hb dX_init_20 rfl (lv_at hl 0 rfl) ?_
  refine lv_bipush (v := 100) hx hb dX_init_21 (by decide) ?_
  refine va_newa (atype := .int) (ty := .int) (a0 := (100, .inl (fun _ => 0))) (N' := 100) hx hb (hT _ tt_37) rfl hK hP hD hS hA (fun _ => rfl) (by decide) (by decide) (by decide) (Nat.le_of_ble_eq_true rfl) (Nat.le_of_ble_eq_true rfl) dX_init_23 (fun a2 k2 H hK hP hD hS => ?_)
  have hP : va_P (dC, dI) tw_cl [(h0, .inr (0, [.ref a0, .ref a1, .null, .null, .long 0, .int 0])), (a0, .inl (k0, 100, .inl (fun _ => 0))), (a1, .inl (k1, 100, .inr (.inl (fun _ => 0)))), (a2, .inl (k2, 100, .inl (fun _ => 0)))] H := hP
  have hD : va_D A [(h0, .inr (0, [.ref a0, .ref a1, .null, .null, .long 0, .int 0])), (a0, .inl (k0, 100, .inl (fun _ => 0))), (a1, .inl (k1, 100, .inr (.inl (fun _ => 0)))), (a2, .inl (k2, 100, .inl (fun _ => 0)))] := hD
  have hK : va_K (dC, dI) tw_cl [(k0, .boolean), (k1, .long), (k2, .int)] s := hK
  refine va_putF (D := (dC, dI)) (ci := 0) (v := .ref a2) (ty := .array .int) (C := RX) (T := FX) (N := 6) hx hb hT in_X TX tX_ok nX_ hown hK hP hD hS 0 rfl rfl 2 (by decide) (hT _ tt_18) (fun _ h9 => h9) rfl hin rfl (by decide +kernel) rfl rfl (Nat.le_of_ble_eq_true rfl) dX_init_25 (fun H locs hP hD hS => ?_)
  have hP : va_P (dC, dI) tw_cl [(h0, .inr (0, [.ref a0, .ref a1, .ref a2, .null, .long 0, .int 0])), (a0, .inl (k0, 100, .inl (fun _ => 0))), (a1, .inl (k1, 100, .inr (.inl (fun _ => 0)))), (a2, .inl (k2, 100, .inl (fun _ => 0)))] H := hP
  have hD : va_D A [(h0, .inr (0, [.ref a0, .ref a1, .ref a2, .null, .long 0, .int 0])), (a0, .inl (k0, 100, .inl (fun _ => 0))), (a1, .inl (k1, 100, .inr (.inl (fun _ => 0)))), (a2, .inl (k2, 100, .inl (fun _ => 0)))] := hD
  refine lv_aload_n hx hb dX_init_28 rfl (lv_at hl 0 rfl) ?_
  refine lv_bipush (v := 100) hx hb dX_init_29 (by decide) ?_
  refine va_newa (atype := .int) (ty := .int) (a0 := (100, .inl (fun _ => 0))) (N' := 100) hx hb (hT _ tt_37) rfl hK hP hD hS hA (fun _ => rfl) (by decide) (by decide) (by decide) (Nat.le_of_ble_eq_true rfl) (Nat.le_of_ble_eq_true rfl) dX_init_31 (fun a3 k3 H hK hP hD hS => ?_)
  have hP : va_P (dC, dI) tw_cl [(h0, .inr (0, [.ref a0, .ref a1, .ref a2, .null, .long 0, .int 0])), (a0, .inl (k0, 100, .inl (fun _ => 0))), (a1, .inl (k1, 100, .inr (.inl (fun _ => 0)))), (a2, .inl (k2, 100, .inl (fun _ => 0))), (a3, .inl (k3, 100, .inl (fun _ => 0)))] H := hP
  have hD : va_D A [(h0, .inr (0, [.ref a0, .ref a1, .ref a2, .null, .long 0, .int 0])), (a0, .inl (k0, 100, .inl (fun _ => 0))), (a1, .inl (k1, 100, .inr (.inl (fun _ => 0)))), (a2, .inl (k2, 100, .inl (fun _ => 0))), (a3, .inl (k3, 100, .inl (fun _ => 0)))] := hD
  have hK : va_K (dC, dI) tw_cl [(k0, .boolean), (k1, .long), (k2, .int), (k3, .int)] s := hK
  refine va_putF (D := (dC, dI)) (ci := 0) (v := .ref a3) (ty := .array .int) (C := RX) (T := FX) (N := 6) hx hb hT in_X TX tX_ok nX_ hown hK hP hD hS 0 rfl rfl 3 (by decide) (hT _ tt_19) (fun _ h9 => h9) rfl hin rfl (by decide +kernel) rfl rfl (Nat.le_of_ble_eq_true rfl) dX_init_33 (fun H locs hP hD hS => ?_)
  have hP : va_P (dC, dI) tw_cl [(h0, .inr (0, [.ref a0, .ref a1, .ref a2, .ref a3, .long 0, .int 0])), (a0, .inl (k0, 100, .inl (fun _ => 0))), (a1, .inl (k1, 100, .inr (.inl (fun _ => 0)))), (a2, .inl (k2, 100, .inl (fun _ => 0))), (a3, .inl (k3, 100, .inl (fun _ => 0)))] H := hP
  have hD : va_D A [(h0, .inr (0, [.ref a0, .ref a1, .ref a2, .ref a3, .long 0, .int 0])), (a0, .inl (k0, 100, .inl (fun _ => 0))), (a1, .inl (k1, 100, .inr (.inl (fun _ => 0)))), (a2, .inl (k2, 100, .inl (fun _ => 0))), (a3, .inl (k3, 100, .inl (fun _ => 0)))] := hD
  refine lv_aload_n hx hb dX_init_36 rfl (lv_at hl 0 rfl) ?_
  refine lv_lconst (v := 0) hx hb dX_init_37 (by decide) ?_
  refine va_put (D := (dC, dI)) (ci := 0) (v := .long 0) (ty := .long) (C := RX) (T := FX) (N := 6) hx hb hT in_X TX tX_ok nX_ hown hK hP hD hS 0 rfl rfl 4 (by decide) (hT _ tt_20) (fun _ h9 => h9) rfl (by decide +kernel) rfl rfl (Nat.le_of_ble_eq_true rfl) dX_init_38 (fun H locs hP hD hS => ?_)
  have hP : va_P (dC, dI) tw_cl [(h0, .inr (0, [.ref a0, .ref a1, .ref a2, .ref a3, .long 0, .int 0])), (a0, .inl (k0, 100, .inl (fun _ => 0))), (a1, .inl (k1, 100, .inr (.inl (fun _ => 0)))), (a2, .inl (k2, 100, .inl (fun _ => 0))), (a3, .inl (k3, 100, .inl (fun _ => 0)))] H := hP
  have hD : va_D A [(h0, .inr (0, [.ref a0, .ref a1, .ref a2, .ref a3, .long 0, .int 0])), (a0, .inl (k0, 100, .inl (fun _ => 0))), (a1, .inl (k1, 100, .inr (.inl (fun _ => 0)))), (a2, .inl (k2, 100, .inl (fun _ => 0))), (a3, .inl (k3, 100, .inl (fun _ => 0)))] := hD
  refine lv_aload_n hx hb dX_init_41 rfl (lv_at hl 0 rfl) ?_
  refine lv_iconst (v := 0) hx hb dX_init_42 (by decide) ?_
  refine va_put (D := (dC, dI)) (ci := 0) (v := .int 0) (ty := .int) (C := RX) (T := FX) (N := 6) hx hb hT in_X TX tX_ok nX_ hown hK hP hD hS 0 rfl rfl 5 (by decide) (hT _ tt_21) (fun _ h9 => h9) rfl (by decide +kernel) rfl rfl (Nat.le_of_ble_eq_true rfl) dX_init_43 (fun H locs hP hD hS => ?_)
  have hP : va_P (dC, dI) tw_cl [(h0, .inr (0, [.ref a0, .ref a1, .ref a2, .ref a3, .long 0, .int 0])), (a0, .inl (k0, 100, .inl (fun _ => 0))), (a1, .inl (k1, 100, .inr (.inl (fun _ => 0)))), (a2, .inl (k2, 100, .inl (fun _ => 0))), (a3, .inl (k3, 100, .inl (fun _ => 0)))] H := hP
  have hD : va_D A [(h0, .inr (0, [.ref a0, .ref a1, .ref a2, .ref a3, .long 0, .int 0])), (a0, .inl (k0, 100, .inl (fun _ => 0))), (a1, .inl (k1, 100, .inr (.inl (fun _ => 0)))), (a2, .inl (k2, 100, .inl (fun _ => 0))), (a3, .inl (k3, 100, .inl (fun _ => 0)))] := hD
  refine W.widen (k := 4) (n := 400) (Nat.le_of_ble_eq_true rfl) (Nat.le_of_ble_eq_true rfl) ?_
  exact W.vret hx hb hr (fun t ht hW => ⟨⟨(), rfl, trivial, a0, a1, a2, a3, k0, k1, k2, k3, by rw [ht]; exact hP, va_K.moved hW.alike hK, hD⟩, hS.F ht⟩) hS.2.2 dX_init_46
set_option maxHeartbeats 4000000 in
set_option maxRecDepth 100000 in
theorem cM_init (l : Launch) (dC : Nat → ClassId) (dI : Nat → Nat → Nat) (h0 sz : Nat) : Met l yM_init (Cond.code yM_init bM_init 1 (none) :: tw_T) { frames := 1, cells := 4, slots := 400, locals := 12 } (va_Pc [.ref h0] (fun U => U.heap.size = sz ∧ va_P (dC, dI) tw_cl [(h0, .inr (1, [.int 0, .null, .null, .null, .null, .int 0, .long 0]))] U.heap ∧ va_K (dC, dI) tw_cl [] U ∧ va_D (fun _ => True) [(h0, .inr (1, [.int 0, .null, .null, .null, .null, .int 0, .long 0]))])) (va_Qv (S := Unit) (fun _ => True) (fun _ tz => ∃ (a0 a1 a2 a3 : Nat) (k0 k1 k2 k3 : ClassId), va_P (dC, dI) tw_cl (tw_wM h0 a0 a1 a2 a3 k0 k1 k2 k3 0 (fun _ => 0) (fun _ => 0) (fun _ => 0) (fun _ => 0) 0 0) tz.heap ∧ va_K (dC, dI) tw_cl (tw_k k0 k1 k2 k3) tz ∧ va_D (va_A [(h0, .inr (1, [.int 0, .null, .null, .null, .null, .int 0, .long 0]))] sz) (tw_wM h0 a0 a1 a2 a3 k0 k1 k2 k3 0 (fun _ => 0) (fun _ => 0) (fun _ => 0) (fun _ => 0) 0 0)) (va_A [(h0, .inr (1, [.int 0, .null, .null, .null, .null, .int 0, .long 0]))] sz)) 4 400 (va_A [(h0, .inr (1, [.int 0, .null, .null, .null, .null, .int 0, .long 0]))] sz) := by
  refine Met.ofW (cc := bM_init) (maxL := 1) (ret := none) (by decide) rfl ?_
  intro p e s m args below meth c s₁ B hml hv
  obtain ⟨rfl, hsz, hP, hK, hD0⟩ := hv
  have hx := B.exec
  have hb := B.bytes
  have hr := B.returns
  have hT := fun (w : Cond) (h : w ∈ tw_T) => atoms_spec (ws := Cond.code yM_init bM_init 1 (none) :: tw_T) B.pre w (List.mem_cons_of_mem _ h)
  have hown : s.vm.findClass RM = some m.cls := findClass_of_methodNamed B.named
  have hlocks := B.notSynchronized
  have hl := lv_entry ([.ref h0]) (n := 1) (Nat.le_of_ble_eq_true rfl)
  rw [lg_entry_eq]
  generalize (lg_sl ([.ref h0]) ++ List.replicate (1 - (lg_sl ([.ref h0])).length) Slot.unset).toArray = ls at hl ⊢
  have hl : lv_has ls 1 [(0, .ref h0)] := hl
  have hin : meth.name = "<init>" := (name_of_methodNamed B.named B.method).1
  subst hsz
  have hD := hD0.self (sz := s.heap.size)
  generalize hAe : va_A [(h0, .inr (1, [.int 0, .null, .null, .null, .null, .int 0, .long 0]))] s.heap.size = A at hD ⊢
  have hA : ∀ q : Nat, s.heap.size ≤ q → A q := fun q h => by rw [← hAe]; exact Or.inr h
  have hS : va_S A s.heap s.heap [] := va_S.rf
  refine lv_aload_n hx hb dM_init_0 rfl (lv_at hl 0 rfl) ?_
  refine W.objInit hx hb hown (hT _ tt_216) (hT _ tt_14) (hT _ tt_15) rfl (by rw [hml]; exact hl.1) rfl dM_init_1 (Nat.le_of_ble_eq_true rfl) (Nat.le_of_ble_eq_true rfl) ?_
  refine W.eq (g2 := F0 m 4 ls []) rfl ?_
  refine lv_aload_n hx hb dM_init_4 rfl (lv_at hl 0 rfl) ?_
  refine lv_bipush (v := 100) hx hb dM_init_5 (by decide) ?_
  refine va_newa (atype := .boolean) (ty := .boolean) (a0 := (100, .inl (fun _ => 0))) (N' := 100) hx hb (hT _ tt_35) rfl hK hP hD hS hA (fun _ => rfl) (by decide) (by decide) (by decide) (Nat.le_of_ble_eq_true rfl) (Nat.le_of_ble_eq_true rfl) dM_init_7 (fun a0 k0 H hK hP hD hS => ?_)
  have hP : va_P (dC, dI) tw_cl [(h0, .inr (1, [.int 0, .null, .null, .null, .null, .int 0, .long 0])), (a0, .inl (k0, 100, .inl (fun _ => 0)))] H := hP
  have hD : va_D A [(h0, .inr (1, [.int 0, .null, .null, .null, .null, .int 0, .long 0])), (a0, .inl (k0, 100, .inl (fun _ => 0)))] := hD
  have hK : va_K (dC, dI) tw_cl [(k0, .boolean)] s := hK
  refine va_putF (D := (dC, dI)) (ci := 1) (v := .ref a0) (ty := .array .boolean) (C := RM) (T := FM) (N := 7) hx hb hT in_M TM tM_ok nM_ hown hK hP hD hS 0 rfl rfl 1 (by decide) (hT _ tt_218) (fun _ h9 => h9) rfl hin rfl (by decide +kernel) rfl rfl (Nat.le_of_ble_eq_true rfl) dM_init_9 (fun H locs hP hD hS => ?_)
  have hP : va_P (dC, dI) tw_cl [(h0, .inr (1, [.int 0, .ref a0, .null, .null, .null, .int 0, .long 0])), (a0, .inl (k0, 100, .inl (fun _ => 0)))] H := hP
  have hD : va_D A [(h0, .inr (1, [.int 0, .ref a0, .null, .null, .null, .int 0, .long 0])), (a0, .inl (k0, 100, .inl (fun _ => 0)))] := hD
  refine lv_aload_n hx hb dM_init_12 rfl (lv_at hl 0 rfl) ?_
  refine lv_bipush (v := 100) hx hb dM_init_13 (by decide) ?_
  refine va_newa (atype := .long) (ty := .long) (a0 := (100, .inr (.inl (fun _ => 0)))) (N' := 100) hx hb (hT _ tt_36) rfl hK hP hD hS hA (fun _ => rfl) (by decide) (by decide) (by decide) (Nat.le_of_ble_eq_true rfl) (Nat.le_of_ble_eq_true rfl) dM_init_15 (fun a1 k1 H hK hP hD hS => ?_)
  have hP : va_P (dC, dI) tw_cl [(h0, .inr (1, [.int 0, .ref a0, .null, .null, .null, .int 0, .long 0])), (a0, .inl (k0, 100, .inl (fun _ => 0))), (a1, .inl (k1, 100, .inr (.inl (fun _ => 0))))] H := hP
  have hD : va_D A [(h0, .inr (1, [.int 0, .ref a0, .null, .null, .null, .int 0, .long 0])), (a0, .inl (k0, 100, .inl (fun _ => 0))), (a1, .inl (k1, 100, .inr (.inl (fun _ => 0))))] := hD
  have hK : va_K (dC, dI) tw_cl [(k0, .boolean), (k1, .long)] s := hK
  refine va_putF (D := (dC, dI)) (ci := 1) (v := .ref a1) (ty := .array .long) (C := RM) (T := FM) (N := 7) hx hb hT in_M TM tM_ok nM_ hown hK hP hD hS 0 rfl rfl 2 (by decide) (hT _ tt_219) (fun _ h9 => h9) rfl hin rfl (by decide +kernel) rfl rfl (Nat.le_of_ble_eq_true rfl) dM_init_17 (fun H locs hP hD hS => ?_)
  have hP : va_P (dC, dI) tw_cl [(h0, .inr (1, [.int 0, .ref a0, .ref a1, .null, .null, .int 0, .long 0])), (a0, .inl (k0, 100, .inl (fun _ => 0))), (a1, .inl (k1, 100, .inr (.inl (fun _ => 0))))] H := hP
  have hD : va_D A [(h0, .inr (1, [.int 0, .ref a0, .ref a1, .null, .null, .int 0, .long 0])), (a0, .inl (k0, 100, .inl (fun _ => 0))), (a1, .inl (k1, 100, .inr (.inl (fun _ => 0))))] := hD
  refine lv_aload_n hx hb dM_init_20 rfl (lv_at hl 0 rfl) ?_
  refine lv_bipush (v := 100) hx hb dM_init_21 (by decide) ?_
  refine va_newa (atype := .int) (ty := .int) (a0 := (100, .inl (fun _ => 0))) (N' := 100) hx hb (hT _ tt_37) rfl hK hP hD hS hA (fun _ => rfl) (by decide) (by decide) (by decide) (Nat.le_of_ble_eq_true rfl) (Nat.le_of_ble_eq_true rfl) dM_init_23 (fun a2 k2 H hK hP hD hS => ?_)
  have hP : va_P (dC, dI) tw_cl [(h0, .inr (1, [.int 0, .ref a0, .ref a1, .null, .null, .int 0, .long 0])), (a0, .inl (k0, 100, .inl (fun _ => 0))), (a1, .inl (k1, 100, .inr (.inl (fun _ => 0)))), (a2, .inl (k2, 100, .inl (fun _ => 0)))] H := hP
  have hD : va_D A [(h0, .inr (1, [.int 0, .ref a0, .ref a1, .null, .null, .int 0, .long 0])), (a0, .inl (k0, 100, .inl (fun _ => 0))), (a1, .inl (k1, 100, .inr (.inl (fun _ => 0)))), (a2, .inl (k2, 100, .inl (fun _ => 0)))] := hD
  have hK : va_K (dC, dI) tw_cl [(k0, .boolean), (k1, .long), (k2, .int)] s := hK
  refine va_putF (D := (dC, dI)) (ci := 1) (v := .ref a2) (ty := .array .int) (C := RM) (T := FM) (N := 7) hx hb hT in_M TM tM_ok nM_ hown hK hP hD hS 0 rfl rfl 3 (by decide) (hT _ tt_220) (fun _ h9 => h9) rfl hin rfl (by decide +kernel) rfl rfl (Nat.le_of_ble_eq_true rfl) dM_init_25 (fun H locs hP hD hS => ?_)
  have hP : va_P (dC, dI) tw_cl [(h0, .inr (1, [.int 0, .ref a0, .ref a1, .ref a2, .null, .int 0, .long 0])), (a0, .inl (k0, 100, .inl (fun _ => 0))), (a1, .inl (k1, 100, .inr (.inl (fun _ => 0)))), (a2, .inl (k2, 100, .inl (fun _ => 0)))] H := hP
  have hD : va_D A [(h0, .inr (1, [.int 0, .ref a0, .ref a1, .ref a2, .null, .int 0, .long 0])), (a0, .inl (k0, 100, .inl (fun _ => 0))), (a1, .inl (k1, 100, .inr (.inl (fun _ => 0)))), (a2, .inl (k2, 100, .inl (fun _ => 0)))] := hD
  refine lv_aload_n hx hb dM_init_28 rfl (lv_at hl 0 rfl) ?_
  refine lv_bipush (v := 100) hx hb dM_init_29 (by decide) ?_
  refine va_newa (atype := .int) (ty := .int) (a0 := (100, .inl (fun _ => 0))) (N' := 100) hx hb (hT _ tt_37) rfl hK hP hD hS hA (fun _ => rfl) (by decide) (by decide) (by decide) (Nat.le_of_ble_eq_true rfl) (Nat.le_of_ble_eq_true rfl) dM_init_31 (fun a3 k3 H hK hP hD hS => ?_)
  have hP : va_P (dC, dI) tw_cl [(h0, .inr (1, [.int 0, .ref a0, .ref a1, .ref a2, .null, .int 0, .long 0])), (a0, .inl (k0, 100, .inl (fun _ => 0))), (a1, .inl (k1, 100, .inr (.inl (fun _ => 0)))), (a2, .inl (k2, 100, .inl (fun _ => 0))), (a3, .inl (k3, 100, .inl (fun _ => 0)))] H := hP
  have hD : va_D A [(h0, .inr (1, [.int 0, .ref a0, .ref a1, .ref a2, .null, .int 0, .long 0])), (a0, .inl (k0, 100, .inl (fun _ => 0))), (a1, .inl (k1, 100, .inr (.inl (fun _ => 0)))), (a2, .inl (k2, 100, .inl (fun _ => 0))), (a3, .inl (k3, 100, .inl (fun _ => 0)))] := hD
  have hK : va_K (dC, dI) tw_cl [(k0, .boolean), (k1, .long), (k2, .int), (k3, .int)] s := hK
  refine va_putF (D := (dC, dI)) (ci := 1) (v := .ref a3) (ty := .array .int) (C := RM) (T := FM) (N := 7) hx hb hT in_M TM tM_ok nM_ hown hK hP hD hS 0 rfl rfl 4 (by decide) (hT _ tt_221) (fun _ h9 => h9) rfl hin rfl (by decide +kernel) rfl rfl (Nat.le_of_ble_eq_true rfl) dM_init_33 (fun H locs hP hD hS => ?_)
  have hP : va_P (dC, dI) tw_cl [(h0, .inr (1, [.int 0, .ref a0, .ref a1, .ref a2, .ref a3, .int 0, .long 0])), (a0, .inl (k0, 100, .inl (fun _ => 0))), (a1, .inl (k1, 100, .inr (.inl (fun _ => 0)))), (a2, .inl (k2, 100, .inl (fun _ => 0))), (a3, .inl (k3, 100, .inl (fun _ => 0)))] H := hP
  have hD : va_D A [(h0, .inr (1, [.int 0, .ref a0, .ref a1, .ref a2, .ref a3, .int 0, .long 0])), (a0, .inl (k0, 100, .inl (fun _ => 0))), (a1, .inl (k1, 100, .inr (.inl (fun _ => 0)))), (a2, .inl (k2, 100, .inl (fun _ => 0))), (a3, .inl (k3, 100, .inl (fun _ => 0)))] := hD
  refine W.widen (k := 4) (n := 400) (Nat.le_of_ble_eq_true rfl) (Nat.le_of_ble_eq_true rfl) ?_
  exact W.vret hx hb hr (fun t ht hW => ⟨⟨(), rfl, trivial, a0, a1, a2, a3, k0, k1, k2, k3, by rw [ht]; exact hP, va_K.moved hW.alike hK, hD⟩, hS.F ht⟩) hS.2.2 dM_init_36
