/-! The reference, methods that only read, and its loops. Rows laid by our own program (wip/gen/gm.py). -/
abbrev tw_wM (h0 a0 a1 a2 a3 : Nat) (k0 k1 k2 k3 : ClassId) (fl : Int32) (th : Nat → Int32) (tm : Nat → Int64) (pr ag : Nat → Int32) (ck : Int64) (nx : Int32) : va_W := [(h0, .inr (1, [.int fl, .ref a0, .ref a1, .ref a2, .ref a3, .int nx, .long ck])), (a0, .inl (k0, 100, .inl th)), (a1, .inl (k1, 100, .inr (.inl tm))), (a2, .inl (k2, 100, .inl pr)), (a3, .inl (k3, 100, .inl ag))]
abbrev tw_PM (dC : Nat → ClassId) (dI : Nat → Nat → Nat) (h0 a0 a1 a2 a3 : Nat) (k0 k1 k2 k3 : ClassId) (fl : Int32) (th : Nat → Int32) (tm : Nat → Int64) (pr ag : Nat → Int32) (ck : Int64) (nx : Int32) (U : State) : Prop := va_P (dC, dI) tw_cl (tw_wM h0 a0 a1 a2 a3 k0 k1 k2 k3 fl th tm pr ag ck nx) U.heap ∧ va_K (dC, dI) tw_cl (tw_k k0 k1 k2 k3) U
set_option maxHeartbeats 4000000 in
set_option maxRecDepth 100000 in
theorem cM_thrown (l : Launch) (dC : Nat → ClassId) (dI : Nat → Nat → Nat) (h0 a0 a1 a2 a3 : Nat) (k0 k1 k2 k3 : ClassId) (fl : Int32) (th : Nat → Int32) (tm : Nat → Int64) (pr ag : Nat → Int32) (ck : Int64) (nx : Int32)  : Met l yM_thrown (Cond.code yM_thrown bM_thrown 1 (some .int) :: tw_T) { frames := 0, cells := 0, slots := 0, locals := 0 } (va_Pc [.ref h0] (tw_PM dC dI h0 a0 a1 a2 a3 k0 k1 k2 k3 fl th tm pr ag ck nx)) (vp_Si (fun r => r = fl)) 0 0 (fun _ => False) := by
  refine Met.ofW (cc := bM_thrown) (maxL := 1) (ret := some .int) (by decide) rfl ?_
  intro p e s m args below meth c s₁ B hml hv
  obtain ⟨rfl, hP, hK⟩ := hv
  have hx := B.exec
  have hb := B.bytes
  have hr := B.returns
  have hT := fun (w : Cond) (h : w ∈ tw_T) => atoms_spec (ws := Cond.code yM_thrown bM_thrown 1 (some .int) :: tw_T) B.pre w (List.mem_cons_of_mem _ h)
  have hown : s.vm.findClass RM = some m.cls := findClass_of_methodNamed B.named
  have hlocks := B.notSynchronized
  have hl := lv_entry ([.ref h0]) (n := 1) (Nat.le_of_ble_eq_true rfl)
  rw [lg_entry_eq]
  generalize (lg_sl ([.ref h0]) ++ List.replicate (1 - (lg_sl ([.ref h0])).length) Slot.unset).toArray = ls at hl ⊢
  have hl : lv_has ls 1 [(0, .ref h0)] := hl
  refine lv_aload_n hx hb dM_thrown_0 rfl (lv_at hl 0 rfl) ?_
  refine va_get (D := (dC, dI)) (ci := 1) (v := .int fl) (C := RM) (T := FM) (N := 7) hx hb hT in_M hown hK hP 0 rfl rfl 0 (by decide) (hT _ tt_217) (fun _ h9 => h9) rfl dM_thrown_1 ?_
  exact W.iret hx hb hr (fun t ht hW => ⟨_, rfl, rfl, ht⟩) (fun q hq => by cases hq) dM_thrown_4
set_option maxHeartbeats 4000000 in
set_option maxRecDepth 100000 in
theorem cM_due (l : Launch) (dC : Nat → ClassId) (dI : Nat → Nat → Nat) (h0 a0 a1 a2 a3 : Nat) (k0 k1 k2 k3 : ClassId) (fl : Int32) (th : Nat → Int32) (tm : Nat → Int64) (pr ag : Nat → Int32) (ck : Int64) (nx : Int32) (i : Int32) (hi : vp_in i 100) : Met l yM_due (Cond.code yM_due bM_due 2 (some .boolean) :: tw_T) { frames := 0, cells := 0, slots := 0, locals := 0 } (va_Pc [.ref h0, .int i] (tw_PM dC dI h0 a0 a1 a2 a3 k0 k1 k2 k3 fl th tm pr ag ck nx)) (vp_Si (fun r => r = tw_bz (tw_due th tm ck i))) 0 0 (fun _ => False) := by
  refine Met.ofW (cc := bM_due) (maxL := 2) (ret := some .boolean) (by decide) rfl ?_
  intro p e s m args below meth c s₁ B hml hv
  obtain ⟨rfl, hP, hK⟩ := hv
  have hx := B.exec
  have hb := B.bytes
  have hr := B.returns
  have hT := fun (w : Cond) (h : w ∈ tw_T) => atoms_spec (ws := Cond.code yM_due bM_due 2 (some .boolean) :: tw_T) B.pre w (List.mem_cons_of_mem _ h)
  have hown : s.vm.findClass RM = some m.cls := findClass_of_methodNamed B.named
  have hlocks := B.notSynchronized
  have hl := lv_entry ([.ref h0, .int i]) (n := 2) (Nat.le_of_ble_eq_true rfl)
  rw [lg_entry_eq]
  generalize (lg_sl ([.ref h0, .int i]) ++ List.replicate (2 - (lg_sl ([.ref h0, .int i])).length) Slot.unset).toArray = ls at hl ⊢
  have hl : lv_has ls 2 [(0, .ref h0), (1, .int i)] := hl
  refine lv_aload_n hx hb dM_due_0 rfl (lv_at hl 0 rfl) ?_
  refine va_get (D := (dC, dI)) (ci := 1) (v := .ref a0) (C := RM) (T := FM) (N := 7) hx hb hT in_M hown hK hP 0 rfl rfl 1 (by decide) (hT _ tt_218) (fun _ h9 => h9) rfl dM_due_1 ?_
  refine lv_iload_n hx hb dM_due_4 rfl (lv_at hl 1 rfl) ?_
  refine va_zald hx hb hK hP 1 0 rfl rfl hi dM_due_5 ?_
  refine lv_if_eq (tgt := 27) hx hb dM_due_6 (by decide) (fun hc1 => ?_) (fun hc1 => ?_)
  · -- taken at 6: th i.toNatClampNeg = 0
    refine lv_iconst (v := 0) hx hb dM_due_27 (by decide) ?_
    exact W.zret (v := 0) hx hb hr rfl (fun t ht hW => ⟨0, rfl, by rw [tw_due_f1 hc1]; rfl, ht⟩) (fun q hq => by cases hq) dM_due_28
  · -- not taken at 6: th i.toNatClampNeg = 0
    refine lv_aload_n hx hb dM_due_9 rfl (lv_at hl 0 rfl) ?_
    refine va_get (D := (dC, dI)) (ci := 1) (v := .ref a1) (C := RM) (T := FM) (N := 7) hx hb hT in_M hown hK hP 0 rfl rfl 2 (by decide) (hT _ tt_219) (fun _ h9 => h9) rfl dM_due_10 ?_
    refine lv_iload_n hx hb dM_due_13 rfl (lv_at hl 1 rfl) ?_
    refine va_lald hx hb hK hP 2 1 rfl rfl hi dM_due_14 ?_
    refine lv_aload_n hx hb dM_due_15 rfl (lv_at hl 0 rfl) ?_
    refine va_get (D := (dC, dI)) (ci := 1) (v := .long ck) (C := RM) (T := FM) (N := 7) hx hb hT in_M hown hK hP 0 rfl rfl 6 (by decide) (hT _ tt_223) (fun _ h9 => h9) rfl dM_due_16 ?_
    refine W.lcmp hx hb dM_due_19 ?_
    refine lv_if_gt (tgt := 27) hx hb dM_due_20 (by decide) (fun hc2 => ?_) (fun hc2 => ?_)
    · -- taken at 20: lg_cmp (tm i.toNatClampNeg) ck > 0
      refine lv_iconst (v := 0) hx hb dM_due_27 (by decide) ?_
      exact W.zret (v := 0) hx hb hr rfl (fun t ht hW => ⟨0, rfl, by rw [tw_due_f2 (Int64.not_le.mpr ((lg_cmp_gt _ _).mp hc2))]; rfl, ht⟩) (fun q hq => by cases hq) dM_due_28
    · -- not taken at 20: lg_cmp (tm i.toNatClampNeg) ck > 0
      refine lv_iconst (v := 1) hx hb dM_due_23 (by decide) ?_
      refine lv_goto (tgt := 28) hx hb dM_due_24 (by decide) ?_
      exact W.zret (v := 1) hx hb hr rfl (fun t ht hW => ⟨1, rfl, by rw [tw_due_t hc1 ((lg_cmp_le _ _).mp (Int32.not_lt.mp hc2))]; rfl, ht⟩) (fun q hq => by cases hq) dM_due_28
theorem tw_dues_f0 {th : Nat → Int32} {tm : Nat → Int64} {ck : Int64} {n : Nat} (h : tw_due th tm ck (nI n) = false) : tw_dues th tm ck n + 0 = tw_dues th tm ck (n + 1) := by simp [tw_dues, h]
theorem tw_ther_f0 {th : Nat → Int32} {n : Nat} (h : th (nI n).toNatClampNeg = 0) : tw_ther th n + 0 = tw_ther th (n + 1) := by simp [tw_ther, h]
section LMdues
variable {p : Program} {l : Launch} {e : Env} {R : Room} {s : State} {m : MethodId} {args : Array Value} {below : List Frame} {meth : Method} {c : Code} {H : Heap} {locs : List Loc} {cells slots : Nat} {Q : State → Prop}
set_option maxHeartbeats 4000000 in
set_option maxRecDepth 100000 in
theorem lpM_dues (dC : Nat → ClassId) (dI : Nat → Nat → Nat) (h0 a0 a1 a2 a3 : Nat) (k0 k1 k2 k3 : ClassId) (fl : Int32) (th : Nat → Int32) (tm : Nat → Int64) (pr ag : Nat → Int32) (ck : Int64) (nx : Int32) (hx : p.tables.exec = Jvm.exec) (hb : c.code = bM_dues) (hml : c.maxLocals = 3) (hT : ∀ w ∈ tw_T, w.before args s = true) (hown : s.vm.findClass RM = some m.cls) (hP : va_P (dC, dI) tw_cl (tw_wM h0 a0 a1 a2 a3 k0 k1 k2 k3 fl th tm pr ag ck nx) H) (hK : va_K (dC, dI) tw_cl (tw_k k0 k1 k2 k3) s) (hR : 1 ≤ R.frames ∧ 40 ≤ R.locals) (hc : cells + 0 ≤ R.cells ∧ slots + 0 ≤ R.slots) (kk : ∀ ls : Array Slot, lv_has ls 3 [(2, .int (nI 100)), (1, .int (tw_dues th tm ck 100)), (0, .ref h0)] → W p l e R s m args below meth c H locs cells slots Q (F0 m 32 ls [])) : ∀ (k n : Nat), n + k = 100 → ∀ ls : Array Slot, lv_has ls 3 [(2, .int (nI n)), (1, .int (tw_dues th tm ck n)), (0, .ref h0)] → W p l e R s m args below meth c H locs cells slots Q (F0 m 4 ls []) := by
  intro k
  induction k with
  | zero =>
    intro n hn ls hl
    have hn : n = 100 := by omega
    subst hn
    refine lv_iload_n hx hb dM_dues_4 rfl (lv_at hl 0 rfl) ?_
    refine lv_bipush (v := 100) hx hb dM_dues_5 (by decide) ?_
    refine lv_icmp_ge (tgt := 32) hx hb dM_dues_7 (by decide) (fun hc1 => ?_) (fun hc1 => absurd (by decide) hc1)
    exact kk ls hl
  | succ k ih =>
    intro n hn0 ls hl
    have hn : n < 100 := by omega
    refine lv_iload_n hx hb dM_dues_4 rfl (lv_at hl 0 rfl) ?_
    refine lv_bipush (v := 100) hx hb dM_dues_5 (by decide) ?_
    refine lv_icmp_ge (tgt := 32) hx hb dM_dues_7 (by decide) (fun hc1 => absurd hc1 (tw_lt100 hn)) (fun hc1 => ?_)
    refine lv_iload_n hx hb dM_dues_10 rfl (lv_at hl 1 rfl) ?_
    refine lv_aload_n hx hb dM_dues_11 rfl (lv_at hl 2 rfl) ?_
    refine lv_iload_n hx hb dM_dues_12 rfl (lv_at hl 0 rfl) ?_
    refine vp_callSi (W.runV (C := RM) (b := h0) (As := [.int (nI n)]) (rest := [.int (tw_dues th tm ck n)]) ⟨hx, hb, hml, hown, hT⟩ (cM_due l dC dI h0 a0 a1 a2 a3 k0 k1 k2 k3 fl th tm pr ag ck nx (nI n) (tw_in100 hn)) (cwV 1 hT (tw_gV tt_260 tt_262 tp_M_due tt_2 tt_263) rfl rfl rfl ⟨rfl, by decide +kernel⟩ ⟨Nat.le_trans (by decide) hR.1, Nat.le_trans (by decide) hR.2⟩) ⟨fun a U g mk q => ⟨q.1, q.2.1, va_K.moved (u := U) (U := U.calling g mk a) (Vm.Alike.refl U.vm) q.2.2⟩, va_recv (q0 := 0) (ci := 1) hK hP rfl rfl, fun U hU hW => ⟨rfl, by rw [hU]; exact hP, va_K.moved hW.alike hK⟩⟩ rfl rfl hl.1 rfl (lv_room (Nat.le_of_ble_eq_true rfl)) dM_dues_13 hc) (fun r1 h1 => ?_)
    subst h1
    refine lv_if_eq (tgt := 23) hx hb dM_dues_16 (by decide) (fun hc2 => ?_) (fun hc2 => ?_)
    · -- taken at 16: tw_bz (tw_due th tm ck (nI n)) = 0
      refine lv_iconst (v := 0) hx hb dM_dues_23 (by decide) ?_
      refine lv_iadd hx hb dM_dues_24 ?_
      refine lv_istore_n hx hb dM_dues_25 rfl hl (by decide) rfl (fun ls hl => ?_)
      have hl : lv_has ls 3 [(1, .int ((tw_dues th tm ck n) + 0)), (2, .int (nI n)), (0, .ref h0)] := hl
      refine lv_iinc (k := 1) hx hb dM_dues_26 hl rfl (nI_succ _).symm (by decide) rfl (fun ls hl => ?_)
      have hl : lv_has ls 3 [(2, .int (nI (n + 1))), (1, .int ((tw_dues th tm ck n) + 0)), (0, .ref h0)] := hl
      refine lv_goto (tgt := 4) hx hb dM_dues_29 (by decide) ?_
      rw [tw_dues_f0 (tw_bz0 hc2)] at hl
      exact ih (n + 1) (by omega) ls (lv_sub hl [0, 1, 2] rfl)
    · -- not taken at 16: tw_bz (tw_due th tm ck (nI n)) = 0
      refine lv_iconst (v := 1) hx hb dM_dues_19 (by decide) ?_
      refine lv_goto (tgt := 24) hx hb dM_dues_20 (by decide) ?_
      refine lv_iadd hx hb dM_dues_24 ?_
      refine lv_istore_n hx hb dM_dues_25 rfl hl (by decide) rfl (fun ls hl => ?_)
      have hl : lv_has ls 3 [(1, .int ((tw_dues th tm ck n) + 1)), (2, .int (nI n)), (0, .ref h0)] := hl
      refine lv_iinc (k := 1) hx hb dM_dues_26 hl rfl (nI_succ _).symm (by decide) rfl (fun ls hl => ?_)
      have hl : lv_has ls 3 [(2, .int (nI (n + 1))), (1, .int ((tw_dues th tm ck n) + 1)), (0, .ref h0)] := hl
      refine lv_goto (tgt := 4) hx hb dM_dues_29 (by decide) ?_
      rw [tw_dues_t (tw_bz1 hc2)] at hl
      exact ih (n + 1) (by omega) ls (lv_sub hl [0, 1, 2] rfl)
end LMdues
set_option maxHeartbeats 4000000 in
set_option maxRecDepth 100000 in
theorem cM_dues (l : Launch) (dC : Nat → ClassId) (dI : Nat → Nat → Nat) (h0 a0 a1 a2 a3 : Nat) (k0 k1 k2 k3 : ClassId) (fl : Int32) (th : Nat → Int32) (tm : Nat → Int64) (pr ag : Nat → Int32) (ck : Int64) (nx : Int32)  : Met l yM_dues (Cond.code yM_dues bM_dues 3 (some .int) :: tw_T) { frames := 1, cells := 0, slots := 0, locals := 40 } (va_Pc [.ref h0] (tw_PM dC dI h0 a0 a1 a2 a3 k0 k1 k2 k3 fl th tm pr ag ck nx)) (vp_Si (fun r => r = tw_dues th tm ck 100)) 0 0 (fun _ => False) := by
  refine Met.ofW (cc := bM_dues) (maxL := 3) (ret := some .int) (by decide) rfl ?_
  intro p e s m args below meth c s₁ B hml hv
  obtain ⟨rfl, hP, hK⟩ := hv
  have hx := B.exec
  have hb := B.bytes
  have hr := B.returns
  have hT := fun (w : Cond) (h : w ∈ tw_T) => atoms_spec (ws := Cond.code yM_dues bM_dues 3 (some .int) :: tw_T) B.pre w (List.mem_cons_of_mem _ h)
  have hown : s.vm.findClass RM = some m.cls := findClass_of_methodNamed B.named
  have hlocks := B.notSynchronized
  have hl := lv_entry ([.ref h0]) (n := 3) (Nat.le_of_ble_eq_true rfl)
  rw [lg_entry_eq]
  generalize (lg_sl ([.ref h0]) ++ List.replicate (3 - (lg_sl ([.ref h0])).length) Slot.unset).toArray = ls at hl ⊢
  have hl : lv_has ls 3 [(0, .ref h0)] := hl
  refine lv_iconst (v := 0) hx hb dM_dues_0 (by decide) ?_
  refine lv_istore_n hx hb dM_dues_1 rfl hl (by decide) rfl (fun ls hl => ?_)
  have hl : lv_has ls 3 [(1, .int 0), (0, .ref h0)] := hl
  refine lv_iconst (v := 0) hx hb dM_dues_2 (by decide) ?_
  refine lv_istore_n hx hb dM_dues_3 rfl hl (by decide) rfl (fun ls hl => ?_)
  have hl : lv_has ls 3 [(2, .int 0), (1, .int 0), (0, .ref h0)] := hl
  have hl : lv_has ls 3 [(2, .int 0), (1, .int 0), (0, .ref h0)] := hl
  refine lpM_dues dC dI h0 a0 a1 a2 a3 k0 k1 k2 k3 fl th tm pr ag ck nx hx hb hml hT hown hP hK ⟨Nat.le_refl _, Nat.le_refl _⟩ ⟨Nat.le_refl _, Nat.le_refl _⟩ (fun ls hl => ?_) 100 0 rfl ls (lv_sub hl [0, 1, 2] rfl)
  refine lv_iload_n hx hb dM_dues_32 rfl (lv_at hl 1 rfl) ?_
  exact W.iret hx hb hr (fun t ht hW => ⟨_, rfl, rfl, ht⟩) (fun q hq => by cases hq) dM_dues_33
theorem tw_first_neg {th : Nat → Int32} {tm : Nat → Int64} {pr ag : Nat → Int32} {ck : Int64} {n : Nat} (hn : n ≤ 100) : tw_first th tm pr ag ck n < 0 ↔ tw_first th tm pr ag ck n = -1 := by
  constructor
  · intro h
    rcases tw_first_in th tm pr ag ck n with h1 | ⟨k, hk, h1⟩
    · exact h1
    · rw [h1] at h
      exact absurd h (nI_pos (by omega))
  · intro h
    rw [h]; decide
theorem tw_bef_1 {tm : Nat → Int64} {pr ag : Nat → Int32} {a b : Int32} (h : tm a.toNatClampNeg < tm b.toNatClampNeg) : tw_bef tm pr ag a b = true := by
  have h1 : ¬ tm a.toNatClampNeg = tm b.toNatClampNeg := fun e => by rw [e] at h; exact Int64.lt_irrefl h
  simp [tw_bef, h, h1]
theorem tw_bef_2 {tm : Nat → Int64} {pr ag : Nat → Int32} {a b : Int32} (h : ¬ tm a.toNatClampNeg < tm b.toNatClampNeg) (h1 : ¬ tm a.toNatClampNeg = tm b.toNatClampNeg) : tw_bef tm pr ag a b = false := by simp [tw_bef, h, h1]
theorem tw_bef_3 {tm : Nat → Int64} {pr ag : Nat → Int32} {a b : Int32} (h1 : tm a.toNatClampNeg = tm b.toNatClampNeg) (h : pr a.toNatClampNeg > pr b.toNatClampNeg) : tw_bef tm pr ag a b = true := by
  have h2 : ¬ pr a.toNatClampNeg = pr b.toNatClampNeg := fun e => by rw [e] at h; exact Int32.lt_irrefl h
  simp [tw_bef, h1, h2]; exact h
theorem tw_bef_4 {tm : Nat → Int64} {pr ag : Nat → Int32} {a b : Int32} (h1 : tm a.toNatClampNeg = tm b.toNatClampNeg) (h : ¬ pr a.toNatClampNeg > pr b.toNatClampNeg) (h2 : ¬ pr a.toNatClampNeg = pr b.toNatClampNeg) : tw_bef tm pr ag a b = false := by
  simp [tw_bef, h1, h2]; exact Int32.not_lt.mp h
theorem tw_bef_5 {tm : Nat → Int64} {pr ag : Nat → Int32} {a b : Int32} (h1 : tm a.toNatClampNeg = tm b.toNatClampNeg) (h2 : pr a.toNatClampNeg = pr b.toNatClampNeg) (h : ag a.toNatClampNeg ≥ ag b.toNatClampNeg) : tw_bef tm pr ag a b = false := by
  simp [tw_bef, h1, h2]; exact h
theorem tw_bef_6 {tm : Nat → Int64} {pr ag : Nat → Int32} {a b : Int32} (h1 : tm a.toNatClampNeg = tm b.toNatClampNeg) (h2 : pr a.toNatClampNeg = pr b.toNatClampNeg) (h : ¬ ag a.toNatClampNeg ≥ ag b.toNatClampNeg) : tw_bef tm pr ag a b = true := by
  simp [tw_bef, h1, h2]; exact Int32.not_le.mp h
section LMtake
variable {p : Program} {l : Launch} {e : Env} {R : Room} {s : State} {m : MethodId} {args : Array Value} {below : List Frame} {meth : Method} {c : Code} {H : Heap} {locs : List Loc} {cells slots : Nat} {Q : State → Prop}
set_option maxHeartbeats 4000000 in
set_option maxRecDepth 100000 in
theorem lpM_take (dC : Nat → ClassId) (dI : Nat → Nat → Nat) (h0 a0 a1 a2 a3 : Nat) (k0 k1 k2 k3 : ClassId) (fl : Int32) (th : Nat → Int32) (tm : Nat → Int64) (pr ag : Nat → Int32) (ck : Int64) (nx : Int32) (hx : p.tables.exec = Jvm.exec) (hb : c.code = bM_take) (hml : c.maxLocals = 3) (hT : ∀ w ∈ tw_T, w.before args s = true) (hown : s.vm.findClass RM = some m.cls) (hP : va_P (dC, dI) tw_cl (tw_wM h0 a0 a1 a2 a3 k0 k1 k2 k3 fl th tm pr ag ck nx) H) (hK : va_K (dC, dI) tw_cl (tw_k k0 k1 k2 k3) s) (hR : 1 ≤ R.frames ∧ 40 ≤ R.locals) (hc : cells + 0 ≤ R.cells ∧ slots + 0 ≤ R.slots) (kk : ∀ ls : Array Slot, lv_has ls 3 [(2, .int (nI 100)), (1, .int (tw_first th tm pr ag ck 100)), (0, .ref h0)] → W p l e R s m args below meth c H locs cells slots Q (F0 m 115 ls [])) : ∀ (k n : Nat), n + k = 100 → ∀ ls : Array Slot, lv_has ls 3 [(2, .int (nI n)), (1, .int (tw_first th tm pr ag ck n)), (0, .ref h0)] → W p l e R s m args below meth c H locs cells slots Q (F0 m 9 ls []) := by
  intro k
  induction k with
  | zero =>
    intro n hn ls hl
    have hn : n = 100 := by omega
    subst hn
    refine lv_iload_n hx hb dM_take_9 rfl (lv_at hl 0 rfl) ?_
    refine lv_bipush (v := 100) hx hb dM_take_10 (by decide) ?_
    refine lv_icmp_ge (tgt := 115) hx hb dM_take_12 (by decide) (fun hc1 => ?_) (fun hc1 => absurd (by decide) hc1)
    exact kk ls hl
  | succ k ih =>
    intro n hn0 ls hl
    have hn : n < 100 := by omega
    refine lv_iload_n hx hb dM_take_9 rfl (lv_at hl 0 rfl) ?_
    refine lv_bipush (v := 100) hx hb dM_take_10 (by decide) ?_
    refine lv_icmp_ge (tgt := 115) hx hb dM_take_12 (by decide) (fun hc1 => absurd hc1 (tw_lt100 hn)) (fun hc1 => ?_)
    refine lv_aload_n hx hb dM_take_15 rfl (lv_at hl 2 rfl) ?_
    refine lv_iload_n hx hb dM_take_16 rfl (lv_at hl 0 rfl) ?_
    refine vp_callSi (W.runV (C := RM) (b := h0) (As := [.int (nI n)]) (rest := []) ⟨hx, hb, hml, hown, hT⟩ (cM_due l dC dI h0 a0 a1 a2 a3 k0 k1 k2 k3 fl th tm pr ag ck nx (nI n) (tw_in100 hn)) (cwV 1 hT (tw_gV tt_260 tt_262 tp_M_due tt_2 tt_263) rfl rfl rfl ⟨rfl, by decide +kernel⟩ ⟨Nat.le_trans (by decide) hR.1, Nat.le_trans (by decide) hR.2⟩) ⟨fun a U g mk q => ⟨q.1, q.2.1, va_K.moved (u := U) (U := U.calling g mk a) (Vm.Alike.refl U.vm) q.2.2⟩, va_recv (q0 := 0) (ci := 1) hK hP rfl rfl, fun U hU hW => ⟨rfl, by rw [hU]; exact hP, va_K.moved hW.alike hK⟩⟩ rfl rfl hl.1 rfl (lv_room (Nat.le_of_ble_eq_true rfl)) dM_take_17 hc) (fun r1 h1 => ?_)
    subst h1
    refine lv_if_ne (tgt := 26) hx hb dM_take_20 (by decide) (fun hc2 => ?_) (fun hc2 => ?_)
    · -- taken at 20: ¬ tw_bz (tw_due th tm ck (nI n)) = 0
      refine lv_iload_n hx hb dM_take_26 rfl (lv_at hl 1 rfl) ?_
      refine lv_if_lt (tgt := 107) hx hb dM_take_27 (by decide) (fun hc3 => ?_) (fun hc3 => ?_)
      · -- taken at 27: tw_first th tm pr ag ck n < 0
        refine lv_iload_n hx hb dM_take_107 rfl (lv_at hl 0 rfl) ?_
        refine lv_istore_n hx hb dM_take_108 rfl hl (by decide) rfl (fun ls hl => ?_)
        have hl : lv_has ls 3 [(1, .int (nI n)), (2, .int (nI n)), (0, .ref h0)] := hl
        refine lv_iinc (k := 1) hx hb dM_take_109 hl rfl (nI_succ _).symm (by decide) rfl (fun ls hl => ?_)
        have hl : lv_has ls 3 [(2, .int (nI (n + 1))), (1, .int (nI n)), (0, .ref h0)] := hl
        refine lv_goto (tgt := 9) hx hb dM_take_112 (by decide) ?_
        rw [tw_first_b (tw_bz1 hc2) ((tw_first_neg (Nat.le_of_lt hn)).mp hc3)] at hl
        exact ih (n + 1) (by omega) ls (lv_sub hl [0, 1, 2] rfl)
      · -- not taken at 27: tw_first th tm pr ag ck n < 0
        have hneg := hc3
        refine lv_aload_n hx hb dM_take_30 rfl (lv_at hl 2 rfl) ?_
        refine va_get (D := (dC, dI)) (ci := 1) (v := .ref a1) (C := RM) (T := FM) (N := 7) hx hb hT in_M hown hK hP 0 rfl rfl 2 (by decide) (hT _ tt_219) (fun _ h9 => h9) rfl dM_take_31 ?_
        refine lv_iload_n hx hb dM_take_34 rfl (lv_at hl 0 rfl) ?_
        refine va_lald hx hb hK hP 2 1 rfl rfl (tw_in100 hn) dM_take_35 ?_
        refine lv_aload_n hx hb dM_take_36 rfl (lv_at hl 2 rfl) ?_
        refine va_get (D := (dC, dI)) (ci := 1) (v := .ref a1) (C := RM) (T := FM) (N := 7) hx hb hT in_M hown hK hP 0 rfl rfl 2 (by decide) (hT _ tt_219) (fun _ h9 => h9) rfl dM_take_37 ?_
        refine lv_iload_n hx hb dM_take_40 rfl (lv_at hl 1 rfl) ?_
        refine va_lald hx hb hK hP 2 1 rfl rfl (tw_first_vp (Nat.le_of_lt hn) (fun z => hneg (( tw_first_neg (Nat.le_of_lt hn)).mpr z))) dM_take_41 ?_
        refine W.lcmp hx hb dM_take_42 ?_
        refine lv_if_lt (tgt := 107) hx hb dM_take_43 (by decide) (fun hc4 => ?_) (fun hc4 => ?_)
        · -- taken at 43: lg_cmp (tm (nI n).toNatClampNeg) (tm (tw_first th tm pr ag ck n).toNatClampNeg) < 0
          refine lv_iload_n hx hb dM_take_107 rfl (lv_at hl 0 rfl) ?_
          refine lv_istore_n hx hb dM_take_108 rfl hl (by decide) rfl (fun ls hl => ?_)
          have hl : lv_has ls 3 [(1, .int (nI n)), (2, .int (nI n)), (0, .ref h0)] := hl
          refine lv_iinc (k := 1) hx hb dM_take_109 hl rfl (nI_succ _).symm (by decide) rfl (fun ls hl => ?_)
          have hl : lv_has ls 3 [(2, .int (nI (n + 1))), (1, .int (nI n)), (0, .ref h0)] := hl
          refine lv_goto (tgt := 9) hx hb dM_take_112 (by decide) ?_
          rw [tw_first_c (tw_bz1 hc2) (tw_bef_1 ((lg_cmp_lt _ _).mp hc4))] at hl
          exact ih (n + 1) (by omega) ls (lv_sub hl [0, 1, 2] rfl)
        · -- not taken at 43: lg_cmp (tm (nI n).toNatClampNeg) (tm (tw_first th tm pr ag ck n).toNatClampNeg) < 0
          refine lv_aload_n hx hb dM_take_46 rfl (lv_at hl 2 rfl) ?_
          refine va_get (D := (dC, dI)) (ci := 1) (v := .ref a1) (C := RM) (T := FM) (N := 7) hx hb hT in_M hown hK hP 0 rfl rfl 2 (by decide) (hT _ tt_219) (fun _ h9 => h9) rfl dM_take_47 ?_
          refine lv_iload_n hx hb dM_take_50 rfl (lv_at hl 0 rfl) ?_
          refine va_lald hx hb hK hP 2 1 rfl rfl (tw_in100 hn) dM_take_51 ?_
          refine lv_aload_n hx hb dM_take_52 rfl (lv_at hl 2 rfl) ?_
          refine va_get (D := (dC, dI)) (ci := 1) (v := .ref a1) (C := RM) (T := FM) (N := 7) hx hb hT in_M hown hK hP 0 rfl rfl 2 (by decide) (hT _ tt_219) (fun _ h9 => h9) rfl dM_take_53 ?_
          refine lv_iload_n hx hb dM_take_56 rfl (lv_at hl 1 rfl) ?_
          refine va_lald hx hb hK hP 2 1 rfl rfl (tw_first_vp (Nat.le_of_lt hn) (fun z => hneg (( tw_first_neg (Nat.le_of_lt hn)).mpr z))) dM_take_57 ?_
          refine W.lcmp hx hb dM_take_58 ?_
          refine lv_if_ne (tgt := 109) hx hb dM_take_59 (by decide) (fun hc5 => ?_) (fun hc5 => ?_)
          · -- taken at 59: ¬ lg_cmp (tm (nI n).toNatClampNeg) (tm (tw_first th tm pr ag ck n).toNatClampNeg) = 0
            refine lv_iinc (k := 0) hx hb dM_take_109 hl rfl (nI_succ _).symm (by decide) rfl (fun ls hl => ?_)
            have hl : lv_has ls 3 [(2, .int (nI (n + 1))), (1, .int (tw_first th tm pr ag ck n)), (0, .ref h0)] := hl
            refine lv_goto (tgt := 9) hx hb dM_take_112 (by decide) ?_
            rw [tw_first_d (fun z => hc3 ((tw_first_neg (Nat.le_of_lt hn)).mpr z)) (tw_bef_2 (fun z => hc4 ((lg_cmp_lt _ _).mpr z)) (fun z => hc5 ((lg_cmp_eq _ _).mpr z)))] at hl
            exact ih (n + 1) (by omega) ls (lv_sub hl [0, 1, 2] rfl)
          · -- not taken at 59: ¬ lg_cmp (tm (nI n).toNatClampNeg) (tm (tw_first th tm pr ag ck n).toNatClampNeg) = 0
            refine lv_aload_n hx hb dM_take_62 rfl (lv_at hl 2 rfl) ?_
            refine va_get (D := (dC, dI)) (ci := 1) (v := .ref a2) (C := RM) (T := FM) (N := 7) hx hb hT in_M hown hK hP 0 rfl rfl 3 (by decide) (hT _ tt_220) (fun _ h9 => h9) rfl dM_take_63 ?_
            refine lv_iload_n hx hb dM_take_66 rfl (lv_at hl 0 rfl) ?_
            refine va_iald hx hb hK hP 3 2 rfl rfl (tw_in100 hn) dM_take_67 ?_
            refine lv_aload_n hx hb dM_take_68 rfl (lv_at hl 2 rfl) ?_
            refine va_get (D := (dC, dI)) (ci := 1) (v := .ref a2) (C := RM) (T := FM) (N := 7) hx hb hT in_M hown hK hP 0 rfl rfl 3 (by decide) (hT _ tt_220) (fun _ h9 => h9) rfl dM_take_69 ?_
            refine lv_iload_n hx hb dM_take_72 rfl (lv_at hl 1 rfl) ?_
            refine va_iald hx hb hK hP 3 2 rfl rfl (tw_first_vp (Nat.le_of_lt hn) (fun z => hneg (( tw_first_neg (Nat.le_of_lt hn)).mpr z))) dM_take_73 ?_
            refine lv_icmp_gt (tgt := 107) hx hb dM_take_74 (by decide) (fun hc6 => ?_) (fun hc6 => ?_)
            · -- taken at 74: pr (nI n).toNatClampNeg > pr (tw_first th tm pr ag ck n).toNatClampNeg
              refine lv_iload_n hx hb dM_take_107 rfl (lv_at hl 0 rfl) ?_
              refine lv_istore_n hx hb dM_take_108 rfl hl (by decide) rfl (fun ls hl => ?_)
              have hl : lv_has ls 3 [(1, .int (nI n)), (2, .int (nI n)), (0, .ref h0)] := hl
              refine lv_iinc (k := 1) hx hb dM_take_109 hl rfl (nI_succ _).symm (by decide) rfl (fun ls hl => ?_)
              have hl : lv_has ls 3 [(2, .int (nI (n + 1))), (1, .int (nI n)), (0, .ref h0)] := hl
              refine lv_goto (tgt := 9) hx hb dM_take_112 (by decide) ?_
              rw [tw_first_c (tw_bz1 hc2) (tw_bef_3 ((lg_cmp_eq _ _).mp hc5) hc6)] at hl
              exact ih (n + 1) (by omega) ls (lv_sub hl [0, 1, 2] rfl)
            · -- not taken at 74: pr (nI n).toNatClampNeg > pr (tw_first th tm pr ag ck n).toNatClampNeg
              refine lv_aload_n hx hb dM_take_77 rfl (lv_at hl 2 rfl) ?_
              refine va_get (D := (dC, dI)) (ci := 1) (v := .ref a2) (C := RM) (T := FM) (N := 7) hx hb hT in_M hown hK hP 0 rfl rfl 3 (by decide) (hT _ tt_220) (fun _ h9 => h9) rfl dM_take_78 ?_
              refine lv_iload_n hx hb dM_take_81 rfl (lv_at hl 0 rfl) ?_
              refine va_iald hx hb hK hP 3 2 rfl rfl (tw_in100 hn) dM_take_82 ?_
              refine lv_aload_n hx hb dM_take_83 rfl (lv_at hl 2 rfl) ?_
              refine va_get (D := (dC, dI)) (ci := 1) (v := .ref a2) (C := RM) (T := FM) (N := 7) hx hb hT in_M hown hK hP 0 rfl rfl 3 (by decide) (hT _ tt_220) (fun _ h9 => h9) rfl dM_take_84 ?_
              refine lv_iload_n hx hb dM_take_87 rfl (lv_at hl 1 rfl) ?_
              refine va_iald hx hb hK hP 3 2 rfl rfl (tw_first_vp (Nat.le_of_lt hn) (fun z => hneg (( tw_first_neg (Nat.le_of_lt hn)).mpr z))) dM_take_88 ?_
              refine lv_icmp_ne (tgt := 109) hx hb dM_take_89 (by decide) (fun hc7 => ?_) (fun hc7 => ?_)
              · -- taken at 89: ¬ pr (nI n).toNatClampNeg = pr (tw_first th tm pr ag ck n).toNatClampNeg
                refine lv_iinc (k := 0) hx hb dM_take_109 hl rfl (nI_succ _).symm (by decide) rfl (fun ls hl => ?_)
                have hl : lv_has ls 3 [(2, .int (nI (n + 1))), (1, .int (tw_first th tm pr ag ck n)), (0, .ref h0)] := hl
                refine lv_goto (tgt := 9) hx hb dM_take_112 (by decide) ?_
                rw [tw_first_d (fun z => hc3 ((tw_first_neg (Nat.le_of_lt hn)).mpr z)) (tw_bef_4 ((lg_cmp_eq _ _).mp hc5) hc6 hc7)] at hl
                exact ih (n + 1) (by omega) ls (lv_sub hl [0, 1, 2] rfl)
              · -- not taken at 89: ¬ pr (nI n).toNatClampNeg = pr (tw_first th tm pr ag ck n).toNatClampNeg
                refine lv_aload_n hx hb dM_take_92 rfl (lv_at hl 2 rfl) ?_
                refine va_get (D := (dC, dI)) (ci := 1) (v := .ref a3) (C := RM) (T := FM) (N := 7) hx hb hT in_M hown hK hP 0 rfl rfl 4 (by decide) (hT _ tt_221) (fun _ h9 => h9) rfl dM_take_93 ?_
                refine lv_iload_n hx hb dM_take_96 rfl (lv_at hl 0 rfl) ?_
                refine va_iald hx hb hK hP 4 3 rfl rfl (tw_in100 hn) dM_take_97 ?_
                refine lv_aload_n hx hb dM_take_98 rfl (lv_at hl 2 rfl) ?_
                refine va_get (D := (dC, dI)) (ci := 1) (v := .ref a3) (C := RM) (T := FM) (N := 7) hx hb hT in_M hown hK hP 0 rfl rfl 4 (by decide) (hT _ tt_221) (fun _ h9 => h9) rfl dM_take_99 ?_
                refine lv_iload_n hx hb dM_take_102 rfl (lv_at hl 1 rfl) ?_
                refine va_iald hx hb hK hP 4 3 rfl rfl (tw_first_vp (Nat.le_of_lt hn) (fun z => hneg (( tw_first_neg (Nat.le_of_lt hn)).mpr z))) dM_take_103 ?_
                refine lv_icmp_ge (tgt := 109) hx hb dM_take_104 (by decide) (fun hc8 => ?_) (fun hc8 => ?_)
                · -- taken at 104: ag (nI n).toNatClampNeg ≥ ag (tw_first th tm pr ag ck n).toNatClampNeg
                  refine lv_iinc (k := 0) hx hb dM_take_109 hl rfl (nI_succ _).symm (by decide) rfl (fun ls hl => ?_)
                  have hl : lv_has ls 3 [(2, .int (nI (n + 1))), (1, .int (tw_first th tm pr ag ck n)), (0, .ref h0)] := hl
                  refine lv_goto (tgt := 9) hx hb dM_take_112 (by decide) ?_
                  rw [tw_first_d (fun z => hc3 ((tw_first_neg (Nat.le_of_lt hn)).mpr z)) (tw_bef_5 ((lg_cmp_eq _ _).mp hc5) hc7 hc8)] at hl
                  exact ih (n + 1) (by omega) ls (lv_sub hl [0, 1, 2] rfl)
                · -- not taken at 104: ag (nI n).toNatClampNeg ≥ ag (tw_first th tm pr ag ck n).toNatClampNeg
                  refine lv_iload_n hx hb dM_take_107 rfl (lv_at hl 0 rfl) ?_
                  refine lv_istore_n hx hb dM_take_108 rfl hl (by decide) rfl (fun ls hl => ?_)
                  have hl : lv_has ls 3 [(1, .int (nI n)), (2, .int (nI n)), (0, .ref h0)] := hl
                  refine lv_iinc (k := 1) hx hb dM_take_109 hl rfl (nI_succ _).symm (by decide) rfl (fun ls hl => ?_)
                  have hl : lv_has ls 3 [(2, .int (nI (n + 1))), (1, .int (nI n)), (0, .ref h0)] := hl
                  refine lv_goto (tgt := 9) hx hb dM_take_112 (by decide) ?_
                  rw [tw_first_c (tw_bz1 hc2) (tw_bef_6 ((lg_cmp_eq _ _).mp hc5) hc7 hc8)] at hl
                  exact ih (n + 1) (by omega) ls (lv_sub hl [0, 1, 2] rfl)
    · -- not taken at 20: ¬ tw_bz (tw_due th tm ck (nI n)) = 0
      refine lv_goto (tgt := 109) hx hb dM_take_23 (by decide) ?_
      refine lv_iinc (k := 0) hx hb dM_take_109 hl rfl (nI_succ _).symm (by decide) rfl (fun ls hl => ?_)
      have hl : lv_has ls 3 [(2, .int (nI (n + 1))), (1, .int (tw_first th tm pr ag ck n)), (0, .ref h0)] := hl
      refine lv_goto (tgt := 9) hx hb dM_take_112 (by decide) ?_
      rw [tw_first_a (tw_bz0 hc2)] at hl
      exact ih (n + 1) (by omega) ls (lv_sub hl [0, 1, 2] rfl)
end LMtake
theorem tw_leastM_b {th : Nat → Int32} {tm : Nat → Int64} {ck : Int64} {n : Nat} (h : ¬ ck < tm (nI n).toNatClampNeg) : tw_least th tm ck n = tw_least th tm ck (n + 1) := by simp [tw_least, h]
theorem tw_leastM_c {th : Nat → Int32} {tm : Nat → Int64} {ck : Int64} {n : Nat} (h1 : ¬ th (nI n).toNatClampNeg = 0) (h2 : ck < tm (nI n).toNatClampNeg) (h3 : tw_least th tm ck n = -1) : tm (nI n).toNatClampNeg = tw_least th tm ck (n + 1) := by simp [tw_least, h1, h2, h3]
theorem tw_leastM_d {th : Nat → Int32} {tm : Nat → Int64} {ck : Int64} {n : Nat} (h1 : ¬ th (nI n).toNatClampNeg = 0) (h2 : ck < tm (nI n).toNatClampNeg) (h3 : tm (nI n).toNatClampNeg < tw_least th tm ck n) : tm (nI n).toNatClampNeg = tw_least th tm ck (n + 1) := by simp [tw_least, h1, h2, h3]
theorem tw_least_neg {th : Nat → Int32} {tm : Nat → Int64} {ck : Int64} (h0 : ∀ k : Nat, 0 ≤ tm k) (n : Nat) : tw_least th tm ck n = -1 ↔ tw_least th tm ck n < 0 := tw_m1 ((tw_least_in h0 n).imp id (fun h => h.1))
section LMleast
variable {p : Program} {l : Launch} {e : Env} {R : Room} {s : State} {m : MethodId} {args : Array Value} {below : List Frame} {meth : Method} {c : Code} {H : Heap} {locs : List Loc} {cells slots : Nat} {Q : State → Prop}
set_option maxHeartbeats 4000000 in
set_option maxRecDepth 100000 in
theorem lpM_least (dC : Nat → ClassId) (dI : Nat → Nat → Nat) (h0 a0 a1 a2 a3 : Nat) (k0 k1 k2 k3 : ClassId) (fl : Int32) (th : Nat → Int32) (tm : Nat → Int64) (pr ag : Nat → Int32) (ck : Int64) (nx : Int32) (hx : p.tables.exec = Jvm.exec) (hb : c.code = bM_least) (hml : c.maxLocals = 4) (hT : ∀ w ∈ tw_T, w.before args s = true) (hown : s.vm.findClass RM = some m.cls) (hP : va_P (dC, dI) tw_cl (tw_wM h0 a0 a1 a2 a3 k0 k1 k2 k3 fl th tm pr ag ck nx) H) (hK : va_K (dC, dI) tw_cl (tw_k k0 k1 k2 k3) s) (h00 : ∀ k : Nat, 0 ≤ tm k) (kk : ∀ ls : Array Slot, lv_has ls 4 [(3, .int (nI 100)), (1, .long (tw_least th tm ck 100)), (0, .ref h0)] → W p l e R s m args below meth c H locs cells slots Q (F0 m 70 ls [])) : ∀ (k n : Nat), n + k = 100 → ∀ ls : Array Slot, lv_has ls 4 [(3, .int (nI n)), (1, .long (tw_least th tm ck n)), (0, .ref h0)] → W p l e R s m args below meth c H locs cells slots Q (F0 m 11 ls []) := by
  intro k
  induction k with
  | zero =>
    intro n hn ls hl
    have hn : n = 100 := by omega
    subst hn
    refine lv_iload_n hx hb dM_least_11 rfl (lv_at hl 0 rfl) ?_
    refine lv_bipush (v := 100) hx hb dM_least_12 (by decide) ?_
    refine lv_icmp_ge (tgt := 70) hx hb dM_least_14 (by decide) (fun hc1 => ?_) (fun hc1 => absurd (by decide) hc1)
    exact kk ls hl
  | succ k ih =>
    intro n hn0 ls hl
    have hn : n < 100 := by omega
    refine lv_iload_n hx hb dM_least_11 rfl (lv_at hl 0 rfl) ?_
    refine lv_bipush (v := 100) hx hb dM_least_12 (by decide) ?_
    refine lv_icmp_ge (tgt := 70) hx hb dM_least_14 (by decide) (fun hc1 => absurd hc1 (tw_lt100 hn)) (fun hc1 => ?_)
    refine lv_aload_n hx hb dM_least_17 rfl (lv_at hl 2 rfl) ?_
    refine va_get (D := (dC, dI)) (ci := 1) (v := .ref a0) (C := RM) (T := FM) (N := 7) hx hb hT in_M hown hK hP 0 rfl rfl 1 (by decide) (hT _ tt_218) (fun _ h9 => h9) rfl dM_least_18 ?_
    refine lv_iload_n hx hb dM_least_21 rfl (lv_at hl 0 rfl) ?_
    refine va_zald hx hb hK hP 1 0 rfl rfl (tw_in100 hn) dM_least_22 ?_
    refine lv_if_eq (tgt := 64) hx hb dM_least_23 (by decide) (fun hc2 => ?_) (fun hc2 => ?_)
    · -- taken at 23: th (nI n).toNatClampNeg = 0
      refine lv_iinc (k := 0) hx hb dM_least_64 hl rfl (nI_succ _).symm (by decide) rfl (fun ls hl => ?_)
      have hl : lv_has ls 4 [(3, .int (nI (n + 1))), (1, .long (tw_least th tm ck n)), (0, .ref h0)] := hl
      refine lv_goto (tgt := 11) hx hb dM_least_67 (by decide) ?_
      rw [tw_least_a hc2] at hl
      exact ih (n + 1) (by omega) ls (lv_sub hl [0, 1, 2] rfl)
    · -- not taken at 23: th (nI n).toNatClampNeg = 0
      refine lv_aload_n hx hb dM_least_26 rfl (lv_at hl 2 rfl) ?_
      refine va_get (D := (dC, dI)) (ci := 1) (v := .ref a1) (C := RM) (T := FM) (N := 7) hx hb hT in_M hown hK hP 0 rfl rfl 2 (by decide) (hT _ tt_219) (fun _ h9 => h9) rfl dM_least_27 ?_
      refine lv_iload_n hx hb dM_least_30 rfl (lv_at hl 0 rfl) ?_
      refine va_lald hx hb hK hP 2 1 rfl rfl (tw_in100 hn) dM_least_31 ?_
      refine lv_aload_n hx hb dM_least_32 rfl (lv_at hl 2 rfl) ?_
      refine va_get (D := (dC, dI)) (ci := 1) (v := .long ck) (C := RM) (T := FM) (N := 7) hx hb hT in_M hown hK hP 0 rfl rfl 6 (by decide) (hT _ tt_223) (fun _ h9 => h9) rfl dM_least_33 ?_
      refine W.lcmp hx hb dM_least_36 ?_
      refine lv_if_le (tgt := 64) hx hb dM_least_37 (by decide) (fun hc3 => ?_) (fun hc3 => ?_)
      · -- taken at 37: lg_cmp (tm (nI n).toNatClampNeg) ck ≤ 0
        refine lv_iinc (k := 0) hx hb dM_least_64 hl rfl (nI_succ _).symm (by decide) rfl (fun ls hl => ?_)
        have hl : lv_has ls 4 [(3, .int (nI (n + 1))), (1, .long (tw_least th tm ck n)), (0, .ref h0)] := hl
        refine lv_goto (tgt := 11) hx hb dM_least_67 (by decide) ?_
        rw [tw_leastM_b (Int64.not_lt.mpr ((lg_cmp_le _ _).mp hc3))] at hl
        exact ih (n + 1) (by omega) ls (lv_sub hl [0, 1, 2] rfl)
      · -- not taken at 37: lg_cmp (tm (nI n).toNatClampNeg) ck ≤ 0
        refine lv_lload_n hx hb dM_least_40 rfl (lv_at hl 1 rfl) ?_
        refine lv_lconst (v := 0) hx hb dM_least_41 (by decide) ?_
        refine W.lcmp hx hb dM_least_42 ?_
        refine lv_if_lt (tgt := 57) hx hb dM_least_43 (by decide) (fun hc4 => ?_) (fun hc4 => ?_)
        · -- taken at 43: lg_cmp (tw_least th tm ck n) 0 < 0
          refine lv_aload_n hx hb dM_least_57 rfl (lv_at hl 2 rfl) ?_
          refine va_get (D := (dC, dI)) (ci := 1) (v := .ref a1) (C := RM) (T := FM) (N := 7) hx hb hT in_M hown hK hP 0 rfl rfl 2 (by decide) (hT _ tt_219) (fun _ h9 => h9) rfl dM_least_58 ?_
          refine lv_iload_n hx hb dM_least_61 rfl (lv_at hl 0 rfl) ?_
          refine va_lald hx hb hK hP 2 1 rfl rfl (tw_in100 hn) dM_least_62 ?_
          refine lv_lstore_n hx hb dM_least_63 rfl hl (by decide) rfl (fun ls hl => ?_)
          have hl : lv_has ls 4 [(1, .long (tm (nI n).toNatClampNeg)), (3, .int (nI n)), (0, .ref h0)] := hl
          refine lv_iinc (k := 1) hx hb dM_least_64 hl rfl (nI_succ _).symm (by decide) rfl (fun ls hl => ?_)
          have hl : lv_has ls 4 [(3, .int (nI (n + 1))), (1, .long (tm (nI n).toNatClampNeg)), (0, .ref h0)] := hl
          refine lv_goto (tgt := 11) hx hb dM_least_67 (by decide) ?_
          rw [tw_leastM_c hc2 ((lg_cmp_gt _ _).mp (Int32.not_le.mp hc3)) ((tw_least_neg h00 n).mpr ((lg_cmp_lt _ _).mp hc4))] at hl
          exact ih (n + 1) (by omega) ls (lv_sub hl [0, 1, 2] rfl)
        · -- not taken at 43: lg_cmp (tw_least th tm ck n) 0 < 0
          refine lv_aload_n hx hb dM_least_46 rfl (lv_at hl 2 rfl) ?_
          refine va_get (D := (dC, dI)) (ci := 1) (v := .ref a1) (C := RM) (T := FM) (N := 7) hx hb hT in_M hown hK hP 0 rfl rfl 2 (by decide) (hT _ tt_219) (fun _ h9 => h9) rfl dM_least_47 ?_
          refine lv_iload_n hx hb dM_least_50 rfl (lv_at hl 0 rfl) ?_
          refine va_lald hx hb hK hP 2 1 rfl rfl (tw_in100 hn) dM_least_51 ?_
          refine lv_lload_n hx hb dM_least_52 rfl (lv_at hl 1 rfl) ?_
          refine W.lcmp hx hb dM_least_53 ?_
          refine lv_if_ge (tgt := 64) hx hb dM_least_54 (by decide) (fun hc5 => ?_) (fun hc5 => ?_)
          · -- taken at 54: lg_cmp (tm (nI n).toNatClampNeg) (tw_least th tm ck n) ≥ 0
            refine lv_iinc (k := 0) hx hb dM_least_64 hl rfl (nI_succ _).symm (by decide) rfl (fun ls hl => ?_)
            have hl : lv_has ls 4 [(3, .int (nI (n + 1))), (1, .long (tw_least th tm ck n)), (0, .ref h0)] := hl
            refine lv_goto (tgt := 11) hx hb dM_least_67 (by decide) ?_
            rw [tw_least_e (fun z => hc4 ((lg_cmp_lt _ _).mpr ((tw_least_neg h00 n).mp z))) (Int64.not_lt.mpr ((lg_cmp_ge _ _).mp hc5))] at hl
            exact ih (n + 1) (by omega) ls (lv_sub hl [0, 1, 2] rfl)
          · -- not taken at 54: lg_cmp (tm (nI n).toNatClampNeg) (tw_least th tm ck n) ≥ 0
            refine lv_aload_n hx hb dM_least_57 rfl (lv_at hl 2 rfl) ?_
            refine va_get (D := (dC, dI)) (ci := 1) (v := .ref a1) (C := RM) (T := FM) (N := 7) hx hb hT in_M hown hK hP 0 rfl rfl 2 (by decide) (hT _ tt_219) (fun _ h9 => h9) rfl dM_least_58 ?_
            refine lv_iload_n hx hb dM_least_61 rfl (lv_at hl 0 rfl) ?_
            refine va_lald hx hb hK hP 2 1 rfl rfl (tw_in100 hn) dM_least_62 ?_
            refine lv_lstore_n hx hb dM_least_63 rfl hl (by decide) rfl (fun ls hl => ?_)
            have hl : lv_has ls 4 [(1, .long (tm (nI n).toNatClampNeg)), (3, .int (nI n)), (0, .ref h0)] := hl
            refine lv_iinc (k := 1) hx hb dM_least_64 hl rfl (nI_succ _).symm (by decide) rfl (fun ls hl => ?_)
            have hl : lv_has ls 4 [(3, .int (nI (n + 1))), (1, .long (tm (nI n).toNatClampNeg)), (0, .ref h0)] := hl
            refine lv_goto (tgt := 11) hx hb dM_least_67 (by decide) ?_
            rw [tw_leastM_d hc2 ((lg_cmp_gt _ _).mp (Int32.not_le.mp hc3)) ((lg_cmp_lt _ _).mp (Int32.not_le.mp hc5))] at hl
            exact ih (n + 1) (by omega) ls (lv_sub hl [0, 1, 2] rfl)
end LMleast
section LMcount
variable {p : Program} {l : Launch} {e : Env} {R : Room} {s : State} {m : MethodId} {args : Array Value} {below : List Frame} {meth : Method} {c : Code} {H : Heap} {locs : List Loc} {cells slots : Nat} {Q : State → Prop}
set_option maxHeartbeats 4000000 in
set_option maxRecDepth 100000 in
theorem lpM_count (dC : Nat → ClassId) (dI : Nat → Nat → Nat) (h0 a0 a1 a2 a3 : Nat) (k0 k1 k2 k3 : ClassId) (fl : Int32) (th : Nat → Int32) (tm : Nat → Int64) (pr ag : Nat → Int32) (ck : Int64) (nx : Int32) (hx : p.tables.exec = Jvm.exec) (hb : c.code = bM_count) (hml : c.maxLocals = 4) (hT : ∀ w ∈ tw_T, w.before args s = true) (hown : s.vm.findClass RM = some m.cls) (hP : va_P (dC, dI) tw_cl (tw_wM h0 a0 a1 a2 a3 k0 k1 k2 k3 fl th tm pr ag ck nx) H) (hK : va_K (dC, dI) tw_cl (tw_k k0 k1 k2 k3) s) (wh : Int32) (kk : ∀ ls : Array Slot, lv_has ls 4 [(3, .int (nI 100)), (2, .int (tw_ther th 100)), (1, .int wh), (0, .ref h0)] → W p l e R s m args below meth c H locs cells slots Q (F0 m 54 ls [])) : ∀ (k n : Nat), n + k = 100 → ∀ ls : Array Slot, lv_has ls 4 [(3, .int (nI n)), (2, .int (tw_ther th n)), (1, .int wh), (0, .ref h0)] → W p l e R s m args below meth c H locs cells slots Q (F0 m 25 ls []) := by
  intro k
  induction k with
  | zero =>
    intro n hn ls hl
    have hn : n = 100 := by omega
    subst hn
    refine lv_iload_n hx hb dM_count_25 rfl (lv_at hl 0 rfl) ?_
    refine lv_bipush (v := 100) hx hb dM_count_26 (by decide) ?_
    refine lv_icmp_ge (tgt := 54) hx hb dM_count_28 (by decide) (fun hc1 => ?_) (fun hc1 => absurd (by decide) hc1)
    exact kk ls hl
  | succ k ih =>
    intro n hn0 ls hl
    have hn : n < 100 := by omega
    refine lv_iload_n hx hb dM_count_25 rfl (lv_at hl 0 rfl) ?_
    refine lv_bipush (v := 100) hx hb dM_count_26 (by decide) ?_
    refine lv_icmp_ge (tgt := 54) hx hb dM_count_28 (by decide) (fun hc1 => absurd hc1 (tw_lt100 hn)) (fun hc1 => ?_)
    refine lv_iload_n hx hb dM_count_31 rfl (lv_at hl 1 rfl) ?_
    refine lv_aload_n hx hb dM_count_32 rfl (lv_at hl 3 rfl) ?_
    refine va_get (D := (dC, dI)) (ci := 1) (v := .ref a0) (C := RM) (T := FM) (N := 7) hx hb hT in_M hown hK hP 0 rfl rfl 1 (by decide) (hT _ tt_218) (fun _ h9 => h9) rfl dM_count_33 ?_
    refine lv_iload_n hx hb dM_count_36 rfl (lv_at hl 0 rfl) ?_
    refine va_zald hx hb hK hP 1 0 rfl rfl (tw_in100 hn) dM_count_37 ?_
    refine lv_if_eq (tgt := 45) hx hb dM_count_38 (by decide) (fun hc2 => ?_) (fun hc2 => ?_)
    · -- taken at 38: th (nI n).toNatClampNeg = 0
      refine lv_iconst (v := 0) hx hb dM_count_45 (by decide) ?_
      refine lv_iadd hx hb dM_count_46 ?_
      refine lv_istore_n hx hb dM_count_47 rfl hl (by decide) rfl (fun ls hl => ?_)
      have hl : lv_has ls 4 [(2, .int ((tw_ther th n) + 0)), (3, .int (nI n)), (1, .int wh), (0, .ref h0)] := hl
      refine lv_iinc (k := 1) hx hb dM_count_48 hl rfl (nI_succ _).symm (by decide) rfl (fun ls hl => ?_)
      have hl : lv_has ls 4 [(3, .int (nI (n + 1))), (2, .int ((tw_ther th n) + 0)), (1, .int wh), (0, .ref h0)] := hl
      refine lv_goto (tgt := 25) hx hb dM_count_51 (by decide) ?_
      rw [tw_ther_f0 hc2] at hl
      exact ih (n + 1) (by omega) ls (lv_sub hl [0, 1, 2, 3] rfl)
    · -- not taken at 38: th (nI n).toNatClampNeg = 0
      refine lv_iconst (v := 1) hx hb dM_count_41 (by decide) ?_
      refine lv_goto (tgt := 46) hx hb dM_count_42 (by decide) ?_
      refine lv_iadd hx hb dM_count_46 ?_
      refine lv_istore_n hx hb dM_count_47 rfl hl (by decide) rfl (fun ls hl => ?_)
      have hl : lv_has ls 4 [(2, .int ((tw_ther th n) + 1)), (3, .int (nI n)), (1, .int wh), (0, .ref h0)] := hl
      refine lv_iinc (k := 1) hx hb dM_count_48 hl rfl (nI_succ _).symm (by decide) rfl (fun ls hl => ?_)
      have hl : lv_has ls 4 [(3, .int (nI (n + 1))), (2, .int ((tw_ther th n) + 1)), (1, .int wh), (0, .ref h0)] := hl
      refine lv_goto (tgt := 25) hx hb dM_count_51 (by decide) ?_
      rw [tw_ther_t hc2] at hl
      exact ih (n + 1) (by omega) ls (lv_sub hl [0, 1, 2, 3] rfl)
end LMcount
