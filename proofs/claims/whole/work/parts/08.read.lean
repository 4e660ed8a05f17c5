/-! The class, methods that only read: what each answers; the heap stays. Rows laid by our own program (wip/gen/gx.py). -/
abbrev tw_wX (h0 a0 a1 a2 a3 : Nat) (k0 k1 k2 k3 : ClassId) (th : Nat → Int32) (tm : Nat → Int64) (pr ag : Nat → Int32) (ck : Int64) (nx : Int32) : va_W := [(h0, .inr (0, [.ref a0, .ref a1, .ref a2, .ref a3, .long ck, .int nx])), (a0, .inl (k0, 100, .inl th)), (a1, .inl (k1, 100, .inr (.inl tm))), (a2, .inl (k2, 100, .inl pr)), (a3, .inl (k3, 100, .inl ag))]
abbrev tw_k (k0 k1 k2 k3 : ClassId) : List (ClassId × FieldType) := [(k0, .boolean), (k1, .long), (k2, .int), (k3, .int)]
abbrev tw_PX (dC : Nat → ClassId) (dI : Nat → Nat → Nat) (h0 a0 a1 a2 a3 : Nat) (k0 k1 k2 k3 : ClassId) (th : Nat → Int32) (tm : Nat → Int64) (pr ag : Nat → Int32) (ck : Int64) (nx : Int32) (U : State) : Prop := va_P (dC, dI) tw_cl (tw_wX h0 a0 a1 a2 a3 k0 k1 k2 k3 th tm pr ag ck nx) U.heap ∧ va_K (dC, dI) tw_cl (tw_k k0 k1 k2 k3) U
theorem tw_lt100 {n : Nat} (h : n < 100) : ¬ nI n ≥ (100 : Int32) := nI_ge h (by decide)
theorem tw_dues_t {th : Nat → Int32} {tm : Nat → Int64} {ck : Int64} {n : Nat} (h : tw_due th tm ck (nI n) = true) : tw_dues th tm ck n + 1 = tw_dues th tm ck (n + 1) := by simp [tw_dues, h]
theorem tw_dues_f {th : Nat → Int32} {tm : Nat → Int64} {ck : Int64} {n : Nat} (h : tw_due th tm ck (nI n) = false) : tw_dues th tm ck n = tw_dues th tm ck (n + 1) := by simp [tw_dues, h]
theorem tw_ther_t {th : Nat → Int32} {n : Nat} (h : ¬ th (nI n).toNatClampNeg = 0) : tw_ther th n + 1 = tw_ther th (n + 1) := by simp [tw_ther, h]
theorem tw_ther_f {th : Nat → Int32} {n : Nat} (h : th (nI n).toNatClampNeg = 0) : tw_ther th n = tw_ther th (n + 1) := by simp [tw_ther, h]
set_option maxHeartbeats 4000000 in
set_option maxRecDepth 100000 in
theorem cX_isDue (l : Launch) (dC : Nat → ClassId) (dI : Nat → Nat → Nat) (h0 a0 a1 a2 a3 : Nat) (k0 k1 k2 k3 : ClassId) (th : Nat → Int32) (tm : Nat → Int64) (pr ag : Nat → Int32) (ck : Int64) (nx : Int32) (i : Int32) (hi : vp_in i 100) : Met l yX_isDue (Cond.code yX_isDue bX_isDue 2 (some .boolean) :: tw_T) { frames := 0, cells := 0, slots := 0, locals := 0 } (va_Pc [.ref h0, .int i] (tw_PX dC dI h0 a0 a1 a2 a3 k0 k1 k2 k3 th tm pr ag ck nx)) (vp_Si (fun r => r = tw_bz (tw_due th tm ck i))) 0 0 (fun _ => False) := by
  refine Met.ofW (cc := bX_isDue) (maxL := 2) (ret := some .boolean) (by decide) rfl ?_
  intro p e s m args below meth c s₁ B hml hv
  obtain ⟨rfl, hP, hK⟩ := hv
  have hx := B.exec
  have hb := B.bytes
  have hr := B.returns
  have hT := fun (w : Cond) (h : w ∈ tw_T) => atoms_spec (ws := Cond.code yX_isDue bX_isDue 2 (some .boolean) :: tw_T) B.pre w (List.mem_cons_of_mem _ h)
  have hown : s.vm.findClass RX = some m.cls := findClass_of_methodNamed B.named
  have hlocks := B.notSynchronized
  have hl := lv_entry ([.ref h0, .int i]) (n := 2) (Nat.le_of_ble_eq_true rfl)
  rw [lg_entry_eq]
  generalize (lg_sl ([.ref h0, .int i]) ++ List.replicate (2 - (lg_sl ([.ref h0, .int i])).length) Slot.unset).toArray = ls at hl ⊢
  have hl : lv_has ls 2 [(0, .ref h0), (1, .int i)] := hl
  refine lv_aload_n hx hb dX_isDue_0 rfl (lv_at hl 0 rfl) ?_
  refine va_get (D := (dC, dI)) (ci := 0) (v := .ref a0) (C := RX) (T := FX) (N := 6) hx hb hT in_X hown hK hP 0 rfl rfl 0 (by decide) (hT _ tt_16) (fun _ h9 => h9) rfl dX_isDue_1 ?_
  refine lv_iload_n hx hb dX_isDue_4 rfl (lv_at hl 1 rfl) ?_
  refine va_zald hx hb hK hP 1 0 rfl rfl hi dX_isDue_5 ?_
  refine lv_if_eq (tgt := 27) hx hb dX_isDue_6 (by decide) (fun hc1 => ?_) (fun hc1 => ?_)
  · -- taken at 6: th i.toNatClampNeg = 0
    refine lv_iconst (v := 0) hx hb dX_isDue_27 (by decide) ?_
    exact W.zret (v := 0) hx hb hr rfl (fun t ht hW => ⟨0, rfl, by rw [tw_due_f1 hc1]; rfl, ht⟩) (fun q hq => by cases hq) dX_isDue_28
  · -- not taken at 6: th i.toNatClampNeg = 0
    refine lv_aload_n hx hb dX_isDue_9 rfl (lv_at hl 0 rfl) ?_
    refine va_get (D := (dC, dI)) (ci := 0) (v := .ref a1) (C := RX) (T := FX) (N := 6) hx hb hT in_X hown hK hP 0 rfl rfl 1 (by decide) (hT _ tt_17) (fun _ h9 => h9) rfl dX_isDue_10 ?_
    refine lv_iload_n hx hb dX_isDue_13 rfl (lv_at hl 1 rfl) ?_
    refine va_lald hx hb hK hP 2 1 rfl rfl hi dX_isDue_14 ?_
    refine lv_aload_n hx hb dX_isDue_15 rfl (lv_at hl 0 rfl) ?_
    refine va_get (D := (dC, dI)) (ci := 0) (v := .long ck) (C := RX) (T := FX) (N := 6) hx hb hT in_X hown hK hP 0 rfl rfl 4 (by decide) (hT _ tt_20) (fun _ h9 => h9) rfl dX_isDue_16 ?_
    refine W.lcmp hx hb dX_isDue_19 ?_
    refine lv_if_gt (tgt := 27) hx hb dX_isDue_20 (by decide) (fun hc2 => ?_) (fun hc2 => ?_)
    · -- taken at 20: lg_cmp (tm i.toNatClampNeg) ck > 0
      refine lv_iconst (v := 0) hx hb dX_isDue_27 (by decide) ?_
      exact W.zret (v := 0) hx hb hr rfl (fun t ht hW => ⟨0, rfl, by rw [tw_due_f2 (Int64.not_le.mpr ((lg_cmp_gt _ _).mp hc2))]; rfl, ht⟩) (fun q hq => by cases hq) dX_isDue_28
    · -- not taken at 20: lg_cmp (tm i.toNatClampNeg) ck > 0
      refine lv_iconst (v := 1) hx hb dX_isDue_23 (by decide) ?_
      refine lv_goto (tgt := 28) hx hb dX_isDue_24 (by decide) ?_
      exact W.zret (v := 1) hx hb hr rfl (fun t ht hW => ⟨1, rfl, by rw [tw_due_t hc1 ((lg_cmp_le _ _).mp (Int32.not_lt.mp hc2))]; rfl, ht⟩) (fun q hq => by cases hq) dX_isDue_28
set_option maxHeartbeats 4000000 in
set_option maxRecDepth 100000 in
theorem cX_comesBefore (l : Launch) (dC : Nat → ClassId) (dI : Nat → Nat → Nat) (h0 a0 a1 a2 a3 : Nat) (k0 k1 k2 k3 : ClassId) (th : Nat → Int32) (tm : Nat → Int64) (pr ag : Nat → Int32) (ck : Int64) (nx : Int32) (i : Int32) (hi : vp_in i 100) (j : Int32) (hj : vp_in j 100) : Met l yX_comesBefore (Cond.code yX_comesBefore bX_comesBefore 3 (some .boolean) :: tw_T) { frames := 0, cells := 0, slots := 0, locals := 0 } (va_Pc [.ref h0, .int i, .int j] (tw_PX dC dI h0 a0 a1 a2 a3 k0 k1 k2 k3 th tm pr ag ck nx)) (vp_Si (fun r => r = tw_bz (tw_bef tm pr ag i j))) 0 0 (fun _ => False) := by
  refine Met.ofW (cc := bX_comesBefore) (maxL := 3) (ret := some .boolean) (by decide) rfl ?_
  intro p e s m args below meth c s₁ B hml hv
  obtain ⟨rfl, hP, hK⟩ := hv
  have hx := B.exec
  have hb := B.bytes
  have hr := B.returns
  have hT := fun (w : Cond) (h : w ∈ tw_T) => atoms_spec (ws := Cond.code yX_comesBefore bX_comesBefore 3 (some .boolean) :: tw_T) B.pre w (List.mem_cons_of_mem _ h)
  have hown : s.vm.findClass RX = some m.cls := findClass_of_methodNamed B.named
  have hlocks := B.notSynchronized
  have hl := lv_entry ([.ref h0, .int i, .int j]) (n := 3) (Nat.le_of_ble_eq_true rfl)
  rw [lg_entry_eq]
  generalize (lg_sl ([.ref h0, .int i, .int j]) ++ List.replicate (3 - (lg_sl ([.ref h0, .int i, .int j])).length) Slot.unset).toArray = ls at hl ⊢
  have hl : lv_has ls 3 [(0, .ref h0), (1, .int i), (2, .int j)] := hl
  refine lv_aload_n hx hb dX_comesBefore_0 rfl (lv_at hl 0 rfl) ?_
  refine va_get (D := (dC, dI)) (ci := 0) (v := .ref a1) (C := RX) (T := FX) (N := 6) hx hb hT in_X hown hK hP 0 rfl rfl 1 (by decide) (hT _ tt_17) (fun _ h9 => h9) rfl dX_comesBefore_1 ?_
  refine lv_iload_n hx hb dX_comesBefore_4 rfl (lv_at hl 1 rfl) ?_
  refine va_lald hx hb hK hP 2 1 rfl rfl hi dX_comesBefore_5 ?_
  refine lv_aload_n hx hb dX_comesBefore_6 rfl (lv_at hl 0 rfl) ?_
  refine va_get (D := (dC, dI)) (ci := 0) (v := .ref a1) (C := RX) (T := FX) (N := 6) hx hb hT in_X hown hK hP 0 rfl rfl 1 (by decide) (hT _ tt_17) (fun _ h9 => h9) rfl dX_comesBefore_7 ?_
  refine lv_iload_n hx hb dX_comesBefore_10 rfl (lv_at hl 2 rfl) ?_
  refine va_lald hx hb hK hP 2 1 rfl rfl hj dX_comesBefore_11 ?_
  refine W.lcmp hx hb dX_comesBefore_12 ?_
  refine lv_if_eq (tgt := 38) hx hb dX_comesBefore_13 (by decide) (fun hc1 => ?_) (fun hc1 => ?_)
  · -- taken at 13: lg_cmp (tm i.toNatClampNeg) (tm j.toNatClampNeg) = 0
    refine lv_aload_n hx hb dX_comesBefore_38 rfl (lv_at hl 0 rfl) ?_
    refine va_get (D := (dC, dI)) (ci := 0) (v := .ref a2) (C := RX) (T := FX) (N := 6) hx hb hT in_X hown hK hP 0 rfl rfl 2 (by decide) (hT _ tt_18) (fun _ h9 => h9) rfl dX_comesBefore_39 ?_
    refine lv_iload_n hx hb dX_comesBefore_42 rfl (lv_at hl 1 rfl) ?_
    refine va_iald hx hb hK hP 3 2 rfl rfl hi dX_comesBefore_43 ?_
    refine lv_aload_n hx hb dX_comesBefore_44 rfl (lv_at hl 0 rfl) ?_
    refine va_get (D := (dC, dI)) (ci := 0) (v := .ref a2) (C := RX) (T := FX) (N := 6) hx hb hT in_X hown hK hP 0 rfl rfl 2 (by decide) (hT _ tt_18) (fun _ h9 => h9) rfl dX_comesBefore_45 ?_
    refine lv_iload_n hx hb dX_comesBefore_48 rfl (lv_at hl 2 rfl) ?_
    refine va_iald hx hb hK hP 3 2 rfl rfl hj dX_comesBefore_49 ?_
    refine lv_icmp_eq (tgt := 74) hx hb dX_comesBefore_50 (by decide) (fun hc2 => ?_) (fun hc2 => ?_)
    · -- taken at 50: pr i.toNatClampNeg = pr j.toNatClampNeg
      refine lv_aload_n hx hb dX_comesBefore_74 rfl (lv_at hl 0 rfl) ?_
      refine va_get (D := (dC, dI)) (ci := 0) (v := .ref a3) (C := RX) (T := FX) (N := 6) hx hb hT in_X hown hK hP 0 rfl rfl 3 (by decide) (hT _ tt_19) (fun _ h9 => h9) rfl dX_comesBefore_75 ?_
      refine lv_iload_n hx hb dX_comesBefore_78 rfl (lv_at hl 1 rfl) ?_
      refine va_iald hx hb hK hP 4 3 rfl rfl hi dX_comesBefore_79 ?_
      refine lv_aload_n hx hb dX_comesBefore_80 rfl (lv_at hl 0 rfl) ?_
      refine va_get (D := (dC, dI)) (ci := 0) (v := .ref a3) (C := RX) (T := FX) (N := 6) hx hb hT in_X hown hK hP 0 rfl rfl 3 (by decide) (hT _ tt_19) (fun _ h9 => h9) rfl dX_comesBefore_81 ?_
      refine lv_iload_n hx hb dX_comesBefore_84 rfl (lv_at hl 2 rfl) ?_
      refine va_iald hx hb hK hP 4 3 rfl rfl hj dX_comesBefore_85 ?_
      refine lv_icmp_ge (tgt := 93) hx hb dX_comesBefore_86 (by decide) (fun hc3 => ?_) (fun hc3 => ?_)
      · -- taken at 86: ag i.toNatClampNeg ≥ ag j.toNatClampNeg
        refine lv_iconst (v := 0) hx hb dX_comesBefore_93 (by decide) ?_
        have e13 := (lg_cmp_eq _ _).mp hc1
        exact W.zret (v := 0) hx hb hr rfl (fun t ht hW => ⟨0, rfl, by simp [tw_bef, tw_bz, e13, hc2, hc3]; done, ht⟩) (fun q hq => by cases hq) dX_comesBefore_94
      · -- not taken at 86: ag i.toNatClampNeg ≥ ag j.toNatClampNeg
        refine lv_iconst (v := 1) hx hb dX_comesBefore_89 (by decide) ?_
        refine lv_goto (tgt := 94) hx hb dX_comesBefore_90 (by decide) ?_
        have e13 := (lg_cmp_eq _ _).mp hc1
        exact W.zret (v := 1) hx hb hr rfl (fun t ht hW => ⟨1, rfl, by simp [tw_bef, tw_bz, e13, hc2, hc3]; done, ht⟩) (fun q hq => by cases hq) dX_comesBefore_94
    · -- not taken at 50: pr i.toNatClampNeg = pr j.toNatClampNeg
      refine lv_aload_n hx hb dX_comesBefore_53 rfl (lv_at hl 0 rfl) ?_
      refine va_get (D := (dC, dI)) (ci := 0) (v := .ref a2) (C := RX) (T := FX) (N := 6) hx hb hT in_X hown hK hP 0 rfl rfl 2 (by decide) (hT _ tt_18) (fun _ h9 => h9) rfl dX_comesBefore_54 ?_
      refine lv_iload_n hx hb dX_comesBefore_57 rfl (lv_at hl 1 rfl) ?_
      refine va_iald hx hb hK hP 3 2 rfl rfl hi dX_comesBefore_58 ?_
      refine lv_aload_n hx hb dX_comesBefore_59 rfl (lv_at hl 0 rfl) ?_
      refine va_get (D := (dC, dI)) (ci := 0) (v := .ref a2) (C := RX) (T := FX) (N := 6) hx hb hT in_X hown hK hP 0 rfl rfl 2 (by decide) (hT _ tt_18) (fun _ h9 => h9) rfl dX_comesBefore_60 ?_
      refine lv_iload_n hx hb dX_comesBefore_63 rfl (lv_at hl 2 rfl) ?_
      refine va_iald hx hb hK hP 3 2 rfl rfl hj dX_comesBefore_64 ?_
      refine lv_icmp_le (tgt := 72) hx hb dX_comesBefore_65 (by decide) (fun hc4 => ?_) (fun hc4 => ?_)
      · -- taken at 65: pr i.toNatClampNeg ≤ pr j.toNatClampNeg
        refine lv_iconst (v := 0) hx hb dX_comesBefore_72 (by decide) ?_
        have e13 := (lg_cmp_eq _ _).mp hc1
        exact W.zret (v := 0) hx hb hr rfl (fun t ht hW => ⟨0, rfl, by simp [tw_bef, tw_bz, e13, hc2, hc4]; done, ht⟩) (fun q hq => by cases hq) dX_comesBefore_73
      · -- not taken at 65: pr i.toNatClampNeg ≤ pr j.toNatClampNeg
        refine lv_iconst (v := 1) hx hb dX_comesBefore_68 (by decide) ?_
        refine lv_goto (tgt := 73) hx hb dX_comesBefore_69 (by decide) ?_
        have e13 := (lg_cmp_eq _ _).mp hc1
        exact W.zret (v := 1) hx hb hr rfl (fun t ht hW => ⟨1, rfl, by simp [tw_bef, tw_bz, e13, hc2, hc4]; done, ht⟩) (fun q hq => by cases hq) dX_comesBefore_73
  · -- not taken at 13: lg_cmp (tm i.toNatClampNeg) (tm j.toNatClampNeg) = 0
    refine lv_aload_n hx hb dX_comesBefore_16 rfl (lv_at hl 0 rfl) ?_
    refine va_get (D := (dC, dI)) (ci := 0) (v := .ref a1) (C := RX) (T := FX) (N := 6) hx hb hT in_X hown hK hP 0 rfl rfl 1 (by decide) (hT _ tt_17) (fun _ h9 => h9) rfl dX_comesBefore_17 ?_
    refine lv_iload_n hx hb dX_comesBefore_20 rfl (lv_at hl 1 rfl) ?_
    refine va_lald hx hb hK hP 2 1 rfl rfl hi dX_comesBefore_21 ?_
    refine lv_aload_n hx hb dX_comesBefore_22 rfl (lv_at hl 0 rfl) ?_
    refine va_get (D := (dC, dI)) (ci := 0) (v := .ref a1) (C := RX) (T := FX) (N := 6) hx hb hT in_X hown hK hP 0 rfl rfl 1 (by decide) (hT _ tt_17) (fun _ h9 => h9) rfl dX_comesBefore_23 ?_
    refine lv_iload_n hx hb dX_comesBefore_26 rfl (lv_at hl 2 rfl) ?_
    refine va_lald hx hb hK hP 2 1 rfl rfl hj dX_comesBefore_27 ?_
    refine W.lcmp hx hb dX_comesBefore_28 ?_
    refine lv_if_ge (tgt := 36) hx hb dX_comesBefore_29 (by decide) (fun hc5 => ?_) (fun hc5 => ?_)
    · -- taken at 29: lg_cmp (tm i.toNatClampNeg) (tm j.toNatClampNeg) ≥ 0
      refine lv_iconst (v := 0) hx hb dX_comesBefore_36 (by decide) ?_
      have e13 : ¬ (_ = _) := fun z => hc1 ((lg_cmp_eq _ _).mpr z)
      have e29 := Int64.not_lt.mpr ((lg_cmp_ge _ _).mp hc5)
      exact W.zret (v := 0) hx hb hr rfl (fun t ht hW => ⟨0, rfl, by simp [tw_bef, tw_bz, e13, e29]; done, ht⟩) (fun q hq => by cases hq) dX_comesBefore_37
    · -- not taken at 29: lg_cmp (tm i.toNatClampNeg) (tm j.toNatClampNeg) ≥ 0
      refine lv_iconst (v := 1) hx hb dX_comesBefore_32 (by decide) ?_
      refine lv_goto (tgt := 37) hx hb dX_comesBefore_33 (by decide) ?_
      have e13 : ¬ (_ = _) := fun z => hc1 ((lg_cmp_eq _ _).mpr z)
      have e29 := (lg_cmp_lt _ _).mp (Int32.not_le.mp hc5)
      exact W.zret (v := 1) hx hb hr rfl (fun t ht hW => ⟨1, rfl, by simp [tw_bef, tw_bz, e13, e29]; done, ht⟩) (fun q hq => by cases hq) dX_comesBefore_37
section LPcountThere
variable {p : Program} {l : Launch} {e : Env} {R : Room} {s : State} {m : MethodId} {args : Array Value} {below : List Frame} {meth : Method} {c : Code} {H : Heap} {locs : List Loc} {cells slots : Nat} {Q : State → Prop}
set_option maxHeartbeats 4000000 in
set_option maxRecDepth 100000 in
theorem lpX_countThere (dC : Nat → ClassId) (dI : Nat → Nat → Nat) (h0 a0 a1 a2 a3 : Nat) (k0 k1 k2 k3 : ClassId) (th : Nat → Int32) (tm : Nat → Int64) (pr ag : Nat → Int32) (ck : Int64) (nx : Int32) (hx : p.tables.exec = Jvm.exec) (hb : c.code = bX_countThere) (hml : c.maxLocals = 3) (hT : ∀ w ∈ tw_T, w.before args s = true) (hown : s.vm.findClass RX = some m.cls) (hP : va_P (dC, dI) tw_cl (tw_wX h0 a0 a1 a2 a3 k0 k1 k2 k3 th tm pr ag ck nx) H) (hK : va_K (dC, dI) tw_cl (tw_k k0 k1 k2 k3) s)  (kk : ∀ ls : Array Slot, lv_has ls 3 [(2, .int (nI 100)), (1, .int (tw_ther th 100)), (0, .ref h0)] → W p l e R s m args below meth c H locs cells slots Q (F0 m 28 ls [])) : ∀ (k n : Nat), n + k = 100 → ∀ ls : Array Slot, lv_has ls 3 [(2, .int (nI n)), (1, .int (tw_ther th n)), (0, .ref h0)] → W p l e R s m args below meth c H locs cells slots Q (F0 m 4 ls []) := by
  intro k
  induction k with
  | zero =>
    intro n hn ls hl
    have hn : n = 100 := by omega
    subst hn
    refine lv_iload_n hx hb dX_countThere_4 rfl (lv_at hl 0 rfl) ?_
    refine lv_bipush (v := 100) hx hb dX_countThere_5 (by decide) ?_
    refine lv_icmp_ge (tgt := 28) hx hb dX_countThere_7 (by decide) (fun hc9 => ?_) (fun hc9 => absurd (by decide) hc9)
    exact kk ls hl
  | succ k ih =>
    intro n hn0 ls hl
    have hn : n < 100 := by omega
    refine lv_iload_n hx hb dX_countThere_4 rfl (lv_at hl 0 rfl) ?_
    refine lv_bipush (v := 100) hx hb dX_countThere_5 (by decide) ?_
    refine lv_icmp_ge (tgt := 28) hx hb dX_countThere_7 (by decide) (fun hc9 => absurd hc9 (tw_lt100 hn)) (fun hc9 => ?_)
    refine lv_aload_n hx hb dX_countThere_10 rfl (lv_at hl 2 rfl) ?_
    refine va_get (D := (dC, dI)) (ci := 0) (v := .ref a0) (C := RX) (T := FX) (N := 6) hx hb hT in_X hown hK hP 0 rfl rfl 0 (by decide) (hT _ tt_16) (fun _ h9 => h9) rfl dX_countThere_11 ?_
    refine lv_iload_n hx hb dX_countThere_14 rfl (lv_at hl 0 rfl) ?_
    refine va_zald hx hb hK hP 1 0 rfl rfl (tw_in100 hn) dX_countThere_15 ?_
    refine lv_if_eq (tgt := 22) hx hb dX_countThere_16 (by decide) (fun hc1 => ?_) (fun hc1 => ?_)
    · -- taken at 16: th (nI n).toNatClampNeg = 0
      refine lv_iinc (k := 0) hx hb dX_countThere_22 hl rfl (nI_succ _).symm (by decide) rfl (fun ls hl => ?_)
      have hl : lv_has ls 3 [(2, .int (nI (n + 1))), (1, .int (tw_ther th n)), (0, .ref h0)] := hl
      refine lv_goto (tgt := 4) hx hb dX_countThere_25 (by decide) ?_
      rw [tw_ther_f hc1] at hl
      exact ih (n + 1) (by omega) ls (lv_sub hl [0, 1, 2] rfl)
    · -- not taken at 16: th (nI n).toNatClampNeg = 0
      refine lv_iinc (k := 1) hx hb dX_countThere_19 hl rfl rfl (by decide) rfl (fun ls hl => ?_)
      have hl : lv_has ls 3 [(1, .int ((tw_ther th n) + 1)), (2, .int (nI n)), (0, .ref h0)] := hl
      refine lv_iinc (k := 1) hx hb dX_countThere_22 hl rfl (nI_succ _).symm (by decide) rfl (fun ls hl => ?_)
      have hl : lv_has ls 3 [(2, .int (nI (n + 1))), (1, .int ((tw_ther th n) + 1)), (0, .ref h0)] := hl
      refine lv_goto (tgt := 4) hx hb dX_countThere_25 (by decide) ?_
      rw [tw_ther_t hc1] at hl
      exact ih (n + 1) (by omega) ls (lv_sub hl [0, 1, 2] rfl)
end LPcountThere
set_option maxHeartbeats 4000000 in
set_option maxRecDepth 100000 in
theorem cX_countThere (l : Launch) (dC : Nat → ClassId) (dI : Nat → Nat → Nat) (h0 a0 a1 a2 a3 : Nat) (k0 k1 k2 k3 : ClassId) (th : Nat → Int32) (tm : Nat → Int64) (pr ag : Nat → Int32) (ck : Int64) (nx : Int32)  : Met l yX_countThere (Cond.code yX_countThere bX_countThere 3 (some .int) :: tw_T) { frames := 0, cells := 0, slots := 0, locals := 0 } (va_Pc [.ref h0] (tw_PX dC dI h0 a0 a1 a2 a3 k0 k1 k2 k3 th tm pr ag ck nx)) (vp_Si (fun r => r = tw_ther th 100)) 0 0 (fun _ => False) := by
  refine Met.ofW (cc := bX_countThere) (maxL := 3) (ret := some .int) (by decide) rfl ?_
  intro p e s m args below meth c s₁ B hml hv
  obtain ⟨rfl, hP, hK⟩ := hv
  have hx := B.exec
  have hb := B.bytes
  have hr := B.returns
  have hT := fun (w : Cond) (h : w ∈ tw_T) => atoms_spec (ws := Cond.code yX_countThere bX_countThere 3 (some .int) :: tw_T) B.pre w (List.mem_cons_of_mem _ h)
  have hown : s.vm.findClass RX = some m.cls := findClass_of_methodNamed B.named
  have hlocks := B.notSynchronized
  have hl := lv_entry ([.ref h0]) (n := 3) (Nat.le_of_ble_eq_true rfl)
  rw [lg_entry_eq]
  generalize (lg_sl ([.ref h0]) ++ List.replicate (3 - (lg_sl ([.ref h0])).length) Slot.unset).toArray = ls at hl ⊢
  have hl : lv_has ls 3 [(0, .ref h0)] := hl
  refine lv_iconst (v := 0) hx hb dX_countThere_0 (by decide) ?_
  refine lv_istore_n hx hb dX_countThere_1 rfl hl (by decide) rfl (fun ls hl => ?_)
  have hl : lv_has ls 3 [(1, .int 0), (0, .ref h0)] := hl
  refine lv_iconst (v := 0) hx hb dX_countThere_2 (by decide) ?_
  refine lv_istore_n hx hb dX_countThere_3 rfl hl (by decide) rfl (fun ls hl => ?_)
  have hl : lv_has ls 3 [(2, .int 0), (1, .int 0), (0, .ref h0)] := hl
  have hl : lv_has ls 3 [(2, .int 0), (1, .int 0), (0, .ref h0)] := hl
  refine lpX_countThere dC dI h0 a0 a1 a2 a3 k0 k1 k2 k3 th tm pr ag ck nx hx hb hml hT hown hP hK (fun ls hl => ?_) 100 0 rfl ls (lv_sub hl [0, 1, 2] rfl)
  refine lv_iload_n hx hb dX_countThere_28 rfl (lv_at hl 1 rfl) ?_
  exact W.iret hx hb hr (fun t ht hW => ⟨_, rfl, rfl, ht⟩) (fun q hq => by cases hq) dX_countThere_29
section LPcountDue
variable {p : Program} {l : Launch} {e : Env} {R : Room} {s : State} {m : MethodId} {args : Array Value} {below : List Frame} {meth : Method} {c : Code} {H : Heap} {locs : List Loc} {cells slots : Nat} {Q : State → Prop}
set_option maxHeartbeats 4000000 in
set_option maxRecDepth 100000 in
theorem lpX_countDue (dC : Nat → ClassId) (dI : Nat → Nat → Nat) (h0 a0 a1 a2 a3 : Nat) (k0 k1 k2 k3 : ClassId) (th : Nat → Int32) (tm : Nat → Int64) (pr ag : Nat → Int32) (ck : Int64) (nx : Int32) (hx : p.tables.exec = Jvm.exec) (hb : c.code = bX_countDue) (hml : c.maxLocals = 3) (hT : ∀ w ∈ tw_T, w.before args s = true) (hown : s.vm.findClass RX = some m.cls) (hP : va_P (dC, dI) tw_cl (tw_wX h0 a0 a1 a2 a3 k0 k1 k2 k3 th tm pr ag ck nx) H) (hK : va_K (dC, dI) tw_cl (tw_k k0 k1 k2 k3) s) (hR : 1 ≤ R.frames ∧ 40 ≤ R.locals) (hc : cells + 0 ≤ R.cells ∧ slots + 0 ≤ R.slots) (kk : ∀ ls : Array Slot, lv_has ls 3 [(2, .int (nI 100)), (1, .int (tw_dues th tm ck 100)), (0, .ref h0)] → W p l e R s m args below meth c H locs cells slots Q (F0 m 27 ls [])) : ∀ (k n : Nat), n + k = 100 → ∀ ls : Array Slot, lv_has ls 3 [(2, .int (nI n)), (1, .int (tw_dues th tm ck n)), (0, .ref h0)] → W p l e R s m args below meth c H locs cells slots Q (F0 m 4 ls []) := by
  intro k
  induction k with
  | zero =>
    intro n hn ls hl
    have hn : n = 100 := by omega
    subst hn
    refine lv_iload_n hx hb dX_countDue_4 rfl (lv_at hl 0 rfl) ?_
    refine lv_bipush (v := 100) hx hb dX_countDue_5 (by decide) ?_
    refine lv_icmp_ge (tgt := 27) hx hb dX_countDue_7 (by decide) (fun hc9 => ?_) (fun hc9 => absurd (by decide) hc9)
    exact kk ls hl
  | succ k ih =>
    intro n hn0 ls hl
    have hn : n < 100 := by omega
    refine lv_iload_n hx hb dX_countDue_4 rfl (lv_at hl 0 rfl) ?_
    refine lv_bipush (v := 100) hx hb dX_countDue_5 (by decide) ?_
    refine lv_icmp_ge (tgt := 27) hx hb dX_countDue_7 (by decide) (fun hc9 => absurd hc9 (tw_lt100 hn)) (fun hc9 => ?_)
    refine lv_aload_n hx hb dX_countDue_10 rfl (lv_at hl 2 rfl) ?_
    refine lv_iload_n hx hb dX_countDue_11 rfl (lv_at hl 0 rfl) ?_
    refine vp_callSi (W.runV (C := RX) (b := h0) (As := [.int (nI n)]) (rest := []) ⟨hx, hb, hml, hown, hT⟩ (cX_isDue l dC dI h0 a0 a1 a2 a3 k0 k1 k2 k3 th tm pr ag ck nx (nI n) (tw_in100 hn)) (cwV 1 hT (tw_gV tt_43 tt_45 tp_X_isDue tt_1 tt_46) rfl rfl rfl ⟨rfl, by decide +kernel⟩ ⟨Nat.le_trans (by decide) hR.1, Nat.le_trans (by decide) hR.2⟩) ⟨fun a U g mk q => ⟨q.1, q.2.1, va_K.moved (u := U) (U := U.calling g mk a) (Vm.Alike.refl U.vm) q.2.2⟩, va_recv (q0 := 0) (ci := 0) hK hP rfl rfl, fun U hU hW => ⟨rfl, by rw [hU]; exact hP, va_K.moved hW.alike hK⟩⟩ rfl rfl hl.1 rfl (lv_room (Nat.le_of_ble_eq_true rfl)) dX_countDue_12 hc) (fun r1 h1 => ?_)
    subst h1
    refine lv_if_eq (tgt := 21) hx hb dX_countDue_15 (by decide) (fun hc1 => ?_) (fun hc1 => ?_)
    · -- taken at 15: tw_bz (tw_due th tm ck (nI n)) = 0
      refine lv_iinc (k := 0) hx hb dX_countDue_21 hl rfl (nI_succ _).symm (by decide) rfl (fun ls hl => ?_)
      have hl : lv_has ls 3 [(2, .int (nI (n + 1))), (1, .int (tw_dues th tm ck n)), (0, .ref h0)] := hl
      refine lv_goto (tgt := 4) hx hb dX_countDue_24 (by decide) ?_
      rw [tw_dues_f (tw_bz0 hc1)] at hl
      exact ih (n + 1) (by omega) ls (lv_sub hl [0, 1, 2] rfl)
    · -- not taken at 15: tw_bz (tw_due th tm ck (nI n)) = 0
      refine lv_iinc (k := 1) hx hb dX_countDue_18 hl rfl rfl (by decide) rfl (fun ls hl => ?_)
      have hl : lv_has ls 3 [(1, .int ((tw_dues th tm ck n) + 1)), (2, .int (nI n)), (0, .ref h0)] := hl
      refine lv_iinc (k := 1) hx hb dX_countDue_21 hl rfl (nI_succ _).symm (by decide) rfl (fun ls hl => ?_)
      have hl : lv_has ls 3 [(2, .int (nI (n + 1))), (1, .int ((tw_dues th tm ck n) + 1)), (0, .ref h0)] := hl
      refine lv_goto (tgt := 4) hx hb dX_countDue_24 (by decide) ?_
      rw [tw_dues_t (tw_bz1 hc1)] at hl
      exact ih (n + 1) (by omega) ls (lv_sub hl [0, 1, 2] rfl)
end LPcountDue
set_option maxHeartbeats 4000000 in
set_option maxRecDepth 100000 in
theorem cX_countDue (l : Launch) (dC : Nat → ClassId) (dI : Nat → Nat → Nat) (h0 a0 a1 a2 a3 : Nat) (k0 k1 k2 k3 : ClassId) (th : Nat → Int32) (tm : Nat → Int64) (pr ag : Nat → Int32) (ck : Int64) (nx : Int32)  : Met l yX_countDue (Cond.code yX_countDue bX_countDue 3 (some .int) :: tw_T) { frames := 1, cells := 0, slots := 0, locals := 40 } (va_Pc [.ref h0] (tw_PX dC dI h0 a0 a1 a2 a3 k0 k1 k2 k3 th tm pr ag ck nx)) (vp_Si (fun r => r = tw_dues th tm ck 100)) 0 0 (fun _ => False) := by
  refine Met.ofW (cc := bX_countDue) (maxL := 3) (ret := some .int) (by decide) rfl ?_
  intro p e s m args below meth c s₁ B hml hv
  obtain ⟨rfl, hP, hK⟩ := hv
  have hx := B.exec
  have hb := B.bytes
  have hr := B.returns
  have hT := fun (w : Cond) (h : w ∈ tw_T) => atoms_spec (ws := Cond.code yX_countDue bX_countDue 3 (some .int) :: tw_T) B.pre w (List.mem_cons_of_mem _ h)
  have hown : s.vm.findClass RX = some m.cls := findClass_of_methodNamed B.named
  have hlocks := B.notSynchronized
  have hl := lv_entry ([.ref h0]) (n := 3) (Nat.le_of_ble_eq_true rfl)
  rw [lg_entry_eq]
  generalize (lg_sl ([.ref h0]) ++ List.replicate (3 - (lg_sl ([.ref h0])).length) Slot.unset).toArray = ls at hl ⊢
  have hl : lv_has ls 3 [(0, .ref h0)] := hl
  refine lv_iconst (v := 0) hx hb dX_countDue_0 (by decide) ?_
  refine lv_istore_n hx hb dX_countDue_1 rfl hl (by decide) rfl (fun ls hl => ?_)
  have hl : lv_has ls 3 [(1, .int 0), (0, .ref h0)] := hl
  refine lv_iconst (v := 0) hx hb dX_countDue_2 (by decide) ?_
  refine lv_istore_n hx hb dX_countDue_3 rfl hl (by decide) rfl (fun ls hl => ?_)
  have hl : lv_has ls 3 [(2, .int 0), (1, .int 0), (0, .ref h0)] := hl
  have hl : lv_has ls 3 [(2, .int 0), (1, .int 0), (0, .ref h0)] := hl
  refine lpX_countDue dC dI h0 a0 a1 a2 a3 k0 k1 k2 k3 th tm pr ag ck nx hx hb hml hT hown hP hK ⟨Nat.le_refl _, Nat.le_refl _⟩ ⟨Nat.le_refl _, Nat.le_refl _⟩ (fun ls hl => ?_) 100 0 rfl ls (lv_sub hl [0, 1, 2] rfl)
  refine lv_iload_n hx hb dX_countDue_27 rfl (lv_at hl 1 rfl) ?_
  exact W.iret hx hb hr (fun t ht hW => ⟨_, rfl, rfl, ht⟩) (fun q hq => by cases hq) dX_countDue_28
theorem tw_first_a {th : Nat → Int32} {tm : Nat → Int64} {pr ag : Nat → Int32} {ck : Int64} {n : Nat} (h : tw_due th tm ck (nI n) = false) : tw_first th tm pr ag ck n = tw_first th tm pr ag ck (n + 1) := by simp [tw_first, h]
theorem tw_first_b {th : Nat → Int32} {tm : Nat → Int64} {pr ag : Nat → Int32} {ck : Int64} {n : Nat} (h : tw_due th tm ck (nI n) = true) (h1 : tw_first th tm pr ag ck n = -1) : nI n = tw_first th tm pr ag ck (n + 1) := by simp [tw_first, h, h1]
theorem tw_first_c {th : Nat → Int32} {tm : Nat → Int64} {pr ag : Nat → Int32} {ck : Int64} {n : Nat} (h : tw_due th tm ck (nI n) = true) (h1 : tw_bef tm pr ag (nI n) (tw_first th tm pr ag ck n) = true) : nI n = tw_first th tm pr ag ck (n + 1) := by simp [tw_first, h, h1]
theorem tw_first_d {th : Nat → Int32} {tm : Nat → Int64} {pr ag : Nat → Int32} {ck : Int64} {n : Nat} (h : ¬ tw_first th tm pr ag ck n = -1) (h1 : tw_bef tm pr ag (nI n) (tw_first th tm pr ag ck n) = false) : tw_first th tm pr ag ck n = tw_first th tm pr ag ck (n + 1) := by simp [tw_first, h, h1]
theorem tw_first_vp {th : Nat → Int32} {tm : Nat → Int64} {pr ag : Nat → Int32} {ck : Int64} {n : Nat} (hn : n ≤ 100) (h : ¬ tw_first th tm pr ag ck n = -1) : vp_in (tw_first th tm pr ag ck n) 100 := by
  rcases tw_first_in th tm pr ag ck n with h1 | ⟨k, hk, h1⟩
  · exact absurd h1 h
  · rw [h1]; exact tw_in100 (by omega)
section LPfirstDue
variable {p : Program} {l : Launch} {e : Env} {R : Room} {s : State} {m : MethodId} {args : Array Value} {below : List Frame} {meth : Method} {c : Code} {H : Heap} {locs : List Loc} {cells slots : Nat} {Q : State → Prop}
set_option maxHeartbeats 4000000 in
set_option maxRecDepth 100000 in
theorem lpX_firstDue (dC : Nat → ClassId) (dI : Nat → Nat → Nat) (h0 a0 a1 a2 a3 : Nat) (k0 k1 k2 k3 : ClassId) (th : Nat → Int32) (tm : Nat → Int64) (pr ag : Nat → Int32) (ck : Int64) (nx : Int32) (hx : p.tables.exec = Jvm.exec) (hb : c.code = bX_firstDue) (hml : c.maxLocals = 3) (hT : ∀ w ∈ tw_T, w.before args s = true) (hown : s.vm.findClass RX = some m.cls) (hP : va_P (dC, dI) tw_cl (tw_wX h0 a0 a1 a2 a3 k0 k1 k2 k3 th tm pr ag ck nx) H) (hK : va_K (dC, dI) tw_cl (tw_k k0 k1 k2 k3) s) (hR : 1 ≤ R.frames ∧ 40 ≤ R.locals) (hc : cells + 0 ≤ R.cells ∧ slots + 0 ≤ R.slots) (kk : ∀ ls : Array Slot, lv_has ls 3 [(2, .int (nI 100)), (1, .int (tw_first th tm pr ag ck 100)), (0, .ref h0)] → W p l e R s m args below meth c H locs cells slots Q (F0 m 40 ls [])) : ∀ (k n : Nat), n + k = 100 → ∀ ls : Array Slot, lv_has ls 3 [(2, .int (nI n)), (1, .int (tw_first th tm pr ag ck n)), (0, .ref h0)] → W p l e R s m args below meth c H locs cells slots Q (F0 m 4 ls []) := by
  intro k
  induction k with
  | zero =>
    intro n hn ls hl
    have hn : n = 100 := by omega
    subst hn
    refine lv_iload_n hx hb dX_firstDue_4 rfl (lv_at hl 0 rfl) ?_
    refine lv_bipush (v := 100) hx hb dX_firstDue_5 (by decide) ?_
    refine lv_icmp_ge (tgt := 40) hx hb dX_firstDue_7 (by decide) (fun hc9 => ?_) (fun hc9 => absurd (by decide) hc9)
    exact kk ls hl
  | succ k ih =>
    intro n hn0 ls hl
    have hn : n < 100 := by omega
    refine lv_iload_n hx hb dX_firstDue_4 rfl (lv_at hl 0 rfl) ?_
    refine lv_bipush (v := 100) hx hb dX_firstDue_5 (by decide) ?_
    refine lv_icmp_ge (tgt := 40) hx hb dX_firstDue_7 (by decide) (fun hc9 => absurd hc9 (tw_lt100 hn)) (fun hc9 => ?_)
    refine lv_aload_n hx hb dX_firstDue_10 rfl (lv_at hl 2 rfl) ?_
    refine lv_iload_n hx hb dX_firstDue_11 rfl (lv_at hl 0 rfl) ?_
    refine vp_callSi (W.runV (C := RX) (b := h0) (As := [.int (nI n)]) (rest := []) ⟨hx, hb, hml, hown, hT⟩ (cX_isDue l dC dI h0 a0 a1 a2 a3 k0 k1 k2 k3 th tm pr ag ck nx (nI n) (tw_in100 hn)) (cwV 1 hT (tw_gV tt_43 tt_45 tp_X_isDue tt_1 tt_46) rfl rfl rfl ⟨rfl, by decide +kernel⟩ ⟨Nat.le_trans (by decide) hR.1, Nat.le_trans (by decide) hR.2⟩) ⟨fun a U g mk q => ⟨q.1, q.2.1, va_K.moved (u := U) (U := U.calling g mk a) (Vm.Alike.refl U.vm) q.2.2⟩, va_recv (q0 := 0) (ci := 0) hK hP rfl rfl, fun U hU hW => ⟨rfl, by rw [hU]; exact hP, va_K.moved hW.alike hK⟩⟩ rfl rfl hl.1 rfl (lv_room (Nat.le_of_ble_eq_true rfl)) dX_firstDue_12 hc) (fun r1 h1 => ?_)
    subst h1
    refine lv_if_eq (tgt := 34) hx hb dX_firstDue_15 (by decide) (fun hc1 => ?_) (fun hc1 => ?_)
    · -- taken at 15: tw_bz (tw_due th tm ck (nI n)) = 0
      refine lv_iinc (k := 0) hx hb dX_firstDue_34 hl rfl (nI_succ _).symm (by decide) rfl (fun ls hl => ?_)
      have hl : lv_has ls 3 [(2, .int (nI (n + 1))), (1, .int (tw_first th tm pr ag ck n)), (0, .ref h0)] := hl
      refine lv_goto (tgt := 4) hx hb dX_firstDue_37 (by decide) ?_
      rw [tw_first_a (tw_bz0 hc1)] at hl
      exact ih (n + 1) (by omega) ls (lv_sub hl [0, 1, 2] rfl)
    · -- not taken at 15: tw_bz (tw_due th tm ck (nI n)) = 0
      refine lv_iload_n hx hb dX_firstDue_18 rfl (lv_at hl 1 rfl) ?_
      refine lv_iconst (v := -1) hx hb dX_firstDue_19 (by decide) ?_
      refine lv_icmp_eq (tgt := 32) hx hb dX_firstDue_20 (by decide) (fun hc2 => ?_) (fun hc2 => ?_)
      · -- taken at 20: tw_first th tm pr ag ck n = (-1)
        refine lv_iload_n hx hb dX_firstDue_32 rfl (lv_at hl 0 rfl) ?_
        refine lv_istore_n hx hb dX_firstDue_33 rfl hl (by decide) rfl (fun ls hl => ?_)
        have hl : lv_has ls 3 [(1, .int (nI n)), (2, .int (nI n)), (0, .ref h0)] := hl
        refine lv_iinc (k := 1) hx hb dX_firstDue_34 hl rfl (nI_succ _).symm (by decide) rfl (fun ls hl => ?_)
        have hl : lv_has ls 3 [(2, .int (nI (n + 1))), (1, .int (nI n)), (0, .ref h0)] := hl
        refine lv_goto (tgt := 4) hx hb dX_firstDue_37 (by decide) ?_
        rw [tw_first_b (tw_bz1 hc1) hc2] at hl
        exact ih (n + 1) (by omega) ls (lv_sub hl [0, 1, 2] rfl)
      · -- not taken at 20: tw_first th tm pr ag ck n = (-1)
        refine lv_aload_n hx hb dX_firstDue_23 rfl (lv_at hl 2 rfl) ?_
        refine lv_iload_n hx hb dX_firstDue_24 rfl (lv_at hl 0 rfl) ?_
        refine lv_iload_n hx hb dX_firstDue_25 rfl (lv_at hl 1 rfl) ?_
        refine vp_callSi (W.runV (C := RX) (b := h0) (As := [.int (nI n), .int (tw_first th tm pr ag ck n)]) (rest := []) ⟨hx, hb, hml, hown, hT⟩ (cX_comesBefore l dC dI h0 a0 a1 a2 a3 k0 k1 k2 k3 th tm pr ag ck nx (nI n) (tw_in100 hn) (tw_first th tm pr ag ck n) (tw_first_vp (Nat.le_of_lt hn) hc2)) (cwV 2 hT (tw_gV tt_162 tt_164 tp_X_comesBefore tt_1 tt_165) rfl rfl rfl ⟨rfl, by decide +kernel⟩ ⟨Nat.le_trans (by decide) hR.1, Nat.le_trans (by decide) hR.2⟩) ⟨fun a U g mk q => ⟨q.1, q.2.1, va_K.moved (u := U) (U := U.calling g mk a) (Vm.Alike.refl U.vm) q.2.2⟩, va_recv (q0 := 0) (ci := 0) hK hP rfl rfl, fun U hU hW => ⟨rfl, by rw [hU]; exact hP, va_K.moved hW.alike hK⟩⟩ rfl rfl hl.1 rfl (lv_room (Nat.le_of_ble_eq_true rfl)) dX_firstDue_26 hc) (fun r2 h2 => ?_)
        subst h2
        refine lv_if_eq (tgt := 34) hx hb dX_firstDue_29 (by decide) (fun hc3 => ?_) (fun hc3 => ?_)
        · -- taken at 29: tw_bz (tw_bef tm pr ag (nI n) (tw_first th tm pr ag ck n)) = 0
          refine lv_iinc (k := 0) hx hb dX_firstDue_34 hl rfl (nI_succ _).symm (by decide) rfl (fun ls hl => ?_)
          have hl : lv_has ls 3 [(2, .int (nI (n + 1))), (1, .int (tw_first th tm pr ag ck n)), (0, .ref h0)] := hl
          refine lv_goto (tgt := 4) hx hb dX_firstDue_37 (by decide) ?_
          rw [tw_first_d hc2 (tw_bz0 hc3)] at hl
          exact ih (n + 1) (by omega) ls (lv_sub hl [0, 1, 2] rfl)
        · -- not taken at 29: tw_bz (tw_bef tm pr ag (nI n) (tw_first th tm pr ag ck n)) = 0
          refine lv_iload_n hx hb dX_firstDue_32 rfl (lv_at hl 0 rfl) ?_
          refine lv_istore_n hx hb dX_firstDue_33 rfl hl (by decide) rfl (fun ls hl => ?_)
          have hl : lv_has ls 3 [(1, .int (nI n)), (2, .int (nI n)), (0, .ref h0)] := hl
          refine lv_iinc (k := 1) hx hb dX_firstDue_34 hl rfl (nI_succ _).symm (by decide) rfl (fun ls hl => ?_)
          have hl : lv_has ls 3 [(2, .int (nI (n + 1))), (1, .int (nI n)), (0, .ref h0)] := hl
          refine lv_goto (tgt := 4) hx hb dX_firstDue_37 (by decide) ?_
          rw [tw_first_c (tw_bz1 hc1) (tw_bz1 hc3)] at hl
          exact ih (n + 1) (by omega) ls (lv_sub hl [0, 1, 2] rfl)
end LPfirstDue
set_option maxHeartbeats 4000000 in
set_option maxRecDepth 100000 in
theorem cX_firstDue (l : Launch) (dC : Nat → ClassId) (dI : Nat → Nat → Nat) (h0 a0 a1 a2 a3 : Nat) (k0 k1 k2 k3 : ClassId) (th : Nat → Int32) (tm : Nat → Int64) (pr ag : Nat → Int32) (ck : Int64) (nx : Int32)  : Met l yX_firstDue (Cond.code yX_firstDue bX_firstDue 3 (some .int) :: tw_T) { frames := 1, cells := 0, slots := 0, locals := 40 } (va_Pc [.ref h0] (tw_PX dC dI h0 a0 a1 a2 a3 k0 k1 k2 k3 th tm pr ag ck nx)) (vp_Si (fun r => r = tw_first th tm pr ag ck 100)) 0 0 (fun _ => False) := by
  refine Met.ofW (cc := bX_firstDue) (maxL := 3) (ret := some .int) (by decide) rfl ?_
  intro p e s m args below meth c s₁ B hml hv
  obtain ⟨rfl, hP, hK⟩ := hv
  have hx := B.exec
  have hb := B.bytes
  have hr := B.returns
  have hT := fun (w : Cond) (h : w ∈ tw_T) => atoms_spec (ws := Cond.code yX_firstDue bX_firstDue 3 (some .int) :: tw_T) B.pre w (List.mem_cons_of_mem _ h)
  have hown : s.vm.findClass RX = some m.cls := findClass_of_methodNamed B.named
  have hlocks := B.notSynchronized
  have hl := lv_entry ([.ref h0]) (n := 3) (Nat.le_of_ble_eq_true rfl)
  rw [lg_entry_eq]
  generalize (lg_sl ([.ref h0]) ++ List.replicate (3 - (lg_sl ([.ref h0])).length) Slot.unset).toArray = ls at hl ⊢
  have hl : lv_has ls 3 [(0, .ref h0)] := hl
  refine lv_iconst (v := -1) hx hb dX_firstDue_0 (by decide) ?_
  refine lv_istore_n hx hb dX_firstDue_1 rfl hl (by decide) rfl (fun ls hl => ?_)
  have hl : lv_has ls 3 [(1, .int (-1)), (0, .ref h0)] := hl
  refine lv_iconst (v := 0) hx hb dX_firstDue_2 (by decide) ?_
  refine lv_istore_n hx hb dX_firstDue_3 rfl hl (by decide) rfl (fun ls hl => ?_)
  have hl : lv_has ls 3 [(2, .int 0), (1, .int (-1)), (0, .ref h0)] := hl
  have hl : lv_has ls 3 [(2, .int 0), (1, .int (-1)), (0, .ref h0)] := hl
  refine lpX_firstDue dC dI h0 a0 a1 a2 a3 k0 k1 k2 k3 th tm pr ag ck nx hx hb hml hT hown hP hK ⟨Nat.le_refl _, Nat.le_refl _⟩ ⟨Nat.le_refl _, Nat.le_refl _⟩ (fun ls hl => ?_) 100 0 rfl ls (lv_sub hl [0, 1, 2] rfl)
  refine lv_iload_n hx hb dX_firstDue_40 rfl (lv_at hl 1 rfl) ?_
  exact W.iret hx hb hr (fun t ht hW => ⟨_, rfl, rfl, ht⟩) (fun q hq => by cases hq) dX_firstDue_41
theorem tw_nd {th : Nat → Int32} {tm : Nat → Int64} {ck : Int64} {i : Int32} (h1 : ¬ th i.toNatClampNeg = 0) (h2 : tw_due th tm ck i = false) : ck < tm i.toNatClampNeg := by
  simp only [tw_due, h1, not_false_eq_true, decide_true, Bool.true_and, decide_eq_false_iff_not] at h2
  exact Int64.not_le.mp h2
theorem tw_dd {th : Nat → Int32} {tm : Nat → Int64} {ck : Int64} {i : Int32} (h2 : tw_due th tm ck i = true) : ¬ ck < tm i.toNatClampNeg := by
  simp only [tw_due, Bool.and_eq_true, decide_eq_true_eq] at h2
  exact Int64.not_lt.mpr h2.2
theorem tw_least_a {th : Nat → Int32} {tm : Nat → Int64} {ck : Int64} {n : Nat} (h : th (nI n).toNatClampNeg = 0) : tw_least th tm ck n = tw_least th tm ck (n + 1) := by simp [tw_least, h]
theorem tw_least_b {th : Nat → Int32} {tm : Nat → Int64} {ck : Int64} {n : Nat} (h : tw_due th tm ck (nI n) = true) : tw_least th tm ck n = tw_least th tm ck (n + 1) := by simp [tw_least, tw_dd h]
theorem tw_least_c {th : Nat → Int32} {tm : Nat → Int64} {ck : Int64} {n : Nat} (h1 : ¬ th (nI n).toNatClampNeg = 0) (h2 : tw_due th tm ck (nI n) = false) (h3 : tw_least th tm ck n = -1) : tm (nI n).toNatClampNeg = tw_least th tm ck (n + 1) := by simp [tw_least, h1, tw_nd h1 h2, h3]
theorem tw_least_d {th : Nat → Int32} {tm : Nat → Int64} {ck : Int64} {n : Nat} (h1 : ¬ th (nI n).toNatClampNeg = 0) (h2 : tw_due th tm ck (nI n) = false) (h3 : tm (nI n).toNatClampNeg < tw_least th tm ck n) : tm (nI n).toNatClampNeg = tw_least th tm ck (n + 1) := by simp [tw_least, h1, tw_nd h1 h2, h3]
theorem tw_least_e {th : Nat → Int32} {tm : Nat → Int64} {ck : Int64} {n : Nat} (h3 : ¬ tw_least th tm ck n = -1) (h4 : ¬ tm (nI n).toNatClampNeg < tw_least th tm ck n) : tw_least th tm ck n = tw_least th tm ck (n + 1) := by simp [tw_least, h3, h4]
section LPleast
variable {p : Program} {l : Launch} {e : Env} {R : Room} {s : State} {m : MethodId} {args : Array Value} {below : List Frame} {meth : Method} {c : Code} {H : Heap} {locs : List Loc} {cells slots : Nat} {Q : State → Prop}
set_option maxHeartbeats 4000000 in
set_option maxRecDepth 100000 in
theorem lpX_least (dC : Nat → ClassId) (dI : Nat → Nat → Nat) (h0 a0 a1 a2 a3 : Nat) (k0 k1 k2 k3 : ClassId) (th : Nat → Int32) (tm : Nat → Int64) (pr ag : Nat → Int32) (ck : Int64) (nx : Int32) (hx : p.tables.exec = Jvm.exec) (hb : c.code = bX_least) (hml : c.maxLocals = 4) (hT : ∀ w ∈ tw_T, w.before args s = true) (hown : s.vm.findClass RX = some m.cls) (hP : va_P (dC, dI) tw_cl (tw_wX h0 a0 a1 a2 a3 k0 k1 k2 k3 th tm pr ag ck nx) H) (hK : va_K (dC, dI) tw_cl (tw_k k0 k1 k2 k3) s) (hR : 1 ≤ R.frames ∧ 40 ≤ R.locals) (hc : cells + 0 ≤ R.cells ∧ slots + 0 ≤ R.slots) (kk : ∀ ls : Array Slot, lv_has ls 4 [(3, .int (nI 100)), (1, .long (tw_least th tm ck 100)), (0, .ref h0)] → W p l e R s m args below meth c H locs cells slots Q (F0 m 61 ls [])) : ∀ (k n : Nat), n + k = 100 → ∀ ls : Array Slot, lv_has ls 4 [(3, .int (nI n)), (1, .long (tw_least th tm ck n)), (0, .ref h0)] → W p l e R s m args below meth c H locs cells slots Q (F0 m 6 ls []) := by
  intro k
  induction k with
  | zero =>
    intro n hn ls hl
    have hn : n = 100 := by omega
    subst hn
    refine lv_iload_n hx hb dX_least_6 rfl (lv_at hl 0 rfl) ?_
    refine lv_bipush (v := 100) hx hb dX_least_7 (by decide) ?_
    refine lv_icmp_ge (tgt := 61) hx hb dX_least_9 (by decide) (fun hc9 => ?_) (fun hc9 => absurd (by decide) hc9)
    exact kk ls hl
  | succ k ih =>
    intro n hn0 ls hl
    have hn : n < 100 := by omega
    refine lv_iload_n hx hb dX_least_6 rfl (lv_at hl 0 rfl) ?_
    refine lv_bipush (v := 100) hx hb dX_least_7 (by decide) ?_
    refine lv_icmp_ge (tgt := 61) hx hb dX_least_9 (by decide) (fun hc9 => absurd hc9 (tw_lt100 hn)) (fun hc9 => ?_)
    refine lv_aload_n hx hb dX_least_12 rfl (lv_at hl 2 rfl) ?_
    refine va_get (D := (dC, dI)) (ci := 0) (v := .ref a0) (C := RX) (T := FX) (N := 6) hx hb hT in_X hown hK hP 0 rfl rfl 0 (by decide) (hT _ tt_16) (fun _ h9 => h9) rfl dX_least_13 ?_
    refine lv_iload_n hx hb dX_least_16 rfl (lv_at hl 0 rfl) ?_
    refine va_zald hx hb hK hP 1 0 rfl rfl (tw_in100 hn) dX_least_17 ?_
    refine lv_if_eq (tgt := 55) hx hb dX_least_18 (by decide) (fun hc1 => ?_) (fun hc1 => ?_)
    · -- taken at 18: th (nI n).toNatClampNeg = 0
      refine lv_iinc (k := 0) hx hb dX_least_55 hl rfl (nI_succ _).symm (by decide) rfl (fun ls hl => ?_)
      have hl : lv_has ls 4 [(3, .int (nI (n + 1))), (1, .long (tw_least th tm ck n)), (0, .ref h0)] := hl
      refine lv_goto (tgt := 6) hx hb dX_least_58 (by decide) ?_
      rw [tw_least_a hc1] at hl
      exact ih (n + 1) (by omega) ls (lv_sub hl [0, 1, 2] rfl)
    · -- not taken at 18: th (nI n).toNatClampNeg = 0
      refine lv_aload_n hx hb dX_least_21 rfl (lv_at hl 2 rfl) ?_
      refine lv_iload_n hx hb dX_least_22 rfl (lv_at hl 0 rfl) ?_
      refine vp_callSi (W.runV (C := RX) (b := h0) (As := [.int (nI n)]) (rest := []) ⟨hx, hb, hml, hown, hT⟩ (cX_isDue l dC dI h0 a0 a1 a2 a3 k0 k1 k2 k3 th tm pr ag ck nx (nI n) (tw_in100 hn)) (cwV 1 hT (tw_gV tt_43 tt_45 tp_X_isDue tt_1 tt_46) rfl rfl rfl ⟨rfl, by decide +kernel⟩ ⟨Nat.le_trans (by decide) hR.1, Nat.le_trans (by decide) hR.2⟩) ⟨fun a U g mk q => ⟨q.1, q.2.1, va_K.moved (u := U) (U := U.calling g mk a) (Vm.Alike.refl U.vm) q.2.2⟩, va_recv (q0 := 0) (ci := 0) hK hP rfl rfl, fun U hU hW => ⟨rfl, by rw [hU]; exact hP, va_K.moved hW.alike hK⟩⟩ rfl rfl hl.1 rfl (lv_room (Nat.le_of_ble_eq_true rfl)) dX_least_23 hc) (fun r1 h1 => ?_)
      subst h1
      refine lv_if_ne (tgt := 55) hx hb dX_least_26 (by decide) (fun hc2 => ?_) (fun hc2 => ?_)
      · -- taken at 26: ¬ tw_bz (tw_due th tm ck (nI n)) = 0
        refine lv_iinc (k := 0) hx hb dX_least_55 hl rfl (nI_succ _).symm (by decide) rfl (fun ls hl => ?_)
        have hl : lv_has ls 4 [(3, .int (nI (n + 1))), (1, .long (tw_least th tm ck n)), (0, .ref h0)] := hl
        refine lv_goto (tgt := 6) hx hb dX_least_58 (by decide) ?_
        rw [tw_least_b (tw_bz1 hc2)] at hl
        exact ih (n + 1) (by omega) ls (lv_sub hl [0, 1, 2] rfl)
      · -- not taken at 26: ¬ tw_bz (tw_due th tm ck (nI n)) = 0
        refine lv_lload_n hx hb dX_least_29 rfl (lv_at hl 1 rfl) ?_
        refine lv_ldc2 (v := -1) hx hb hown (hT _ tt_42) dX_least_30 ?_
        refine W.lcmp hx hb dX_least_33 ?_
        refine lv_if_eq (tgt := 48) hx hb dX_least_34 (by decide) (fun hc3 => ?_) (fun hc3 => ?_)
        · -- taken at 34: lg_cmp (tw_least th tm ck n) (-1) = 0
          refine lv_aload_n hx hb dX_least_48 rfl (lv_at hl 2 rfl) ?_
          refine va_get (D := (dC, dI)) (ci := 0) (v := .ref a1) (C := RX) (T := FX) (N := 6) hx hb hT in_X hown hK hP 0 rfl rfl 1 (by decide) (hT _ tt_17) (fun _ h9 => h9) rfl dX_least_49 ?_
          refine lv_iload_n hx hb dX_least_52 rfl (lv_at hl 0 rfl) ?_
          refine va_lald hx hb hK hP 2 1 rfl rfl (tw_in100 hn) dX_least_53 ?_
          refine lv_lstore_n hx hb dX_least_54 rfl hl (by decide) rfl (fun ls hl => ?_)
          have hl : lv_has ls 4 [(1, .long (tm (nI n).toNatClampNeg)), (3, .int (nI n)), (0, .ref h0)] := hl
          refine lv_iinc (k := 1) hx hb dX_least_55 hl rfl (nI_succ _).symm (by decide) rfl (fun ls hl => ?_)
          have hl : lv_has ls 4 [(3, .int (nI (n + 1))), (1, .long (tm (nI n).toNatClampNeg)), (0, .ref h0)] := hl
          refine lv_goto (tgt := 6) hx hb dX_least_58 (by decide) ?_
          rw [tw_least_c hc1 (tw_bz0 hc2) ((lg_cmp_eq _ _).mp hc3)] at hl
          exact ih (n + 1) (by omega) ls (lv_sub hl [0, 1, 2] rfl)
        · -- not taken at 34: lg_cmp (tw_least th tm ck n) (-1) = 0
          refine lv_aload_n hx hb dX_least_37 rfl (lv_at hl 2 rfl) ?_
          refine va_get (D := (dC, dI)) (ci := 0) (v := .ref a1) (C := RX) (T := FX) (N := 6) hx hb hT in_X hown hK hP 0 rfl rfl 1 (by decide) (hT _ tt_17) (fun _ h9 => h9) rfl dX_least_38 ?_
          refine lv_iload_n hx hb dX_least_41 rfl (lv_at hl 0 rfl) ?_
          refine va_lald hx hb hK hP 2 1 rfl rfl (tw_in100 hn) dX_least_42 ?_
          refine lv_lload_n hx hb dX_least_43 rfl (lv_at hl 1 rfl) ?_
          refine W.lcmp hx hb dX_least_44 ?_
          refine lv_if_ge (tgt := 55) hx hb dX_least_45 (by decide) (fun hc4 => ?_) (fun hc4 => ?_)
          · -- taken at 45: lg_cmp (tm (nI n).toNatClampNeg) (tw_least th tm ck n) ≥ 0
            refine lv_iinc (k := 0) hx hb dX_least_55 hl rfl (nI_succ _).symm (by decide) rfl (fun ls hl => ?_)
            have hl : lv_has ls 4 [(3, .int (nI (n + 1))), (1, .long (tw_least th tm ck n)), (0, .ref h0)] := hl
            refine lv_goto (tgt := 6) hx hb dX_least_58 (by decide) ?_
            rw [tw_least_e (fun z => hc3 ((lg_cmp_eq _ _).mpr z)) (Int64.not_lt.mpr ((lg_cmp_ge _ _).mp hc4))] at hl
            exact ih (n + 1) (by omega) ls (lv_sub hl [0, 1, 2] rfl)
          · -- not taken at 45: lg_cmp (tm (nI n).toNatClampNeg) (tw_least th tm ck n) ≥ 0
            refine lv_aload_n hx hb dX_least_48 rfl (lv_at hl 2 rfl) ?_
            refine va_get (D := (dC, dI)) (ci := 0) (v := .ref a1) (C := RX) (T := FX) (N := 6) hx hb hT in_X hown hK hP 0 rfl rfl 1 (by decide) (hT _ tt_17) (fun _ h9 => h9) rfl dX_least_49 ?_
            refine lv_iload_n hx hb dX_least_52 rfl (lv_at hl 0 rfl) ?_
            refine va_lald hx hb hK hP 2 1 rfl rfl (tw_in100 hn) dX_least_53 ?_
            refine lv_lstore_n hx hb dX_least_54 rfl hl (by decide) rfl (fun ls hl => ?_)
            have hl : lv_has ls 4 [(1, .long (tm (nI n).toNatClampNeg)), (3, .int (nI n)), (0, .ref h0)] := hl
            refine lv_iinc (k := 1) hx hb dX_least_55 hl rfl (nI_succ _).symm (by decide) rfl (fun ls hl => ?_)
            have hl : lv_has ls 4 [(3, .int (nI (n + 1))), (1, .long (tm (nI n).toNatClampNeg)), (0, .ref h0)] := hl
            refine lv_goto (tgt := 6) hx hb dX_least_58 (by decide) ?_
            rw [tw_least_d hc1 (tw_bz0 hc2) ((lg_cmp_lt _ _).mp (Int32.not_le.mp hc4))] at hl
            exact ih (n + 1) (by omega) ls (lv_sub hl [0, 1, 2] rfl)
end LPleast
set_option maxHeartbeats 4000000 in
set_option maxRecDepth 100000 in
theorem cX_least (l : Launch) (dC : Nat → ClassId) (dI : Nat → Nat → Nat) (h0 a0 a1 a2 a3 : Nat) (k0 k1 k2 k3 : ClassId) (th : Nat → Int32) (tm : Nat → Int64) (pr ag : Nat → Int32) (ck : Int64) (nx : Int32)  : Met l yX_least (Cond.code yX_least bX_least 4 (some .long) :: tw_T) { frames := 1, cells := 0, slots := 0, locals := 40 } (va_Pc [.ref h0] (tw_PX dC dI h0 a0 a1 a2 a3 k0 k1 k2 k3 th tm pr ag ck nx)) (vp_Sl (fun r => r = tw_least th tm ck 100)) 0 0 (fun _ => False) := by
  refine Met.ofW (cc := bX_least) (maxL := 4) (ret := some .long) (by decide) rfl ?_
  intro p e s m args below meth c s₁ B hml hv
  obtain ⟨rfl, hP, hK⟩ := hv
  have hx := B.exec
  have hb := B.bytes
  have hr := B.returns
  have hT := fun (w : Cond) (h : w ∈ tw_T) => atoms_spec (ws := Cond.code yX_least bX_least 4 (some .long) :: tw_T) B.pre w (List.mem_cons_of_mem _ h)
  have hown : s.vm.findClass RX = some m.cls := findClass_of_methodNamed B.named
  have hlocks := B.notSynchronized
  have hl := lv_entry ([.ref h0]) (n := 4) (Nat.le_of_ble_eq_true rfl)
  rw [lg_entry_eq]
  generalize (lg_sl ([.ref h0]) ++ List.replicate (4 - (lg_sl ([.ref h0])).length) Slot.unset).toArray = ls at hl ⊢
  have hl : lv_has ls 4 [(0, .ref h0)] := hl
  refine lv_ldc2 (v := -1) hx hb hown (hT _ tt_42) dX_least_0 ?_
  refine lv_lstore_n hx hb dX_least_3 rfl hl (by decide) rfl (fun ls hl => ?_)
  have hl : lv_has ls 4 [(1, .long (-1)), (0, .ref h0)] := hl
  refine lv_iconst (v := 0) hx hb dX_least_4 (by decide) ?_
  refine lv_istore_n hx hb dX_least_5 rfl hl (by decide) rfl (fun ls hl => ?_)
  have hl : lv_has ls 4 [(3, .int 0), (1, .long (-1)), (0, .ref h0)] := hl
  have hl : lv_has ls 4 [(3, .int 0), (1, .long (-1)), (0, .ref h0)] := hl
  refine lpX_least dC dI h0 a0 a1 a2 a3 k0 k1 k2 k3 th tm pr ag ck nx hx hb hml hT hown hP hK ⟨Nat.le_refl _, Nat.le_refl _⟩ ⟨Nat.le_refl _, Nat.le_refl _⟩ (fun ls hl => ?_) 100 0 rfl ls (lv_sub hl [0, 1, 2] rfl)
  refine lv_lload_n hx hb dX_least_61 rfl (lv_at hl 1 rfl) ?_
  exact W.lret hx hb hr (fun t ht hW => ⟨_, rfl, rfl, ht⟩) (fun q hq => by cases hq) dX_least_62
