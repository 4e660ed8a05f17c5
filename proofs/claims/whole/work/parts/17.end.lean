set_option maxHeartbeats 4000000 in
set_option maxRecDepth 100000 in
theorem whole_start {p : Program} {e : Env} {s : State} {m : MethodId} {below : List Frame} {meth : Method} {c : Code} (l : Launch) (hfl : l.flags = pinnedFlags ++ [noTraceFlag]) {b L : Nat} {xs : Nat → Int32} (hL : L ≤ 2560) (C0 : lw_At p s m meth c b L xs) : W p l e room_1 s m #[Value.ref b] below meth c s.heap [] 0 0 (lw_Z below #[Value.ref b] s) (entryFrame m ([Value.ref b] : List Value).toArray 8) := by
  obtain ⟨hx, hb, hr, hml, hown, hts, hX, hbl, hlocks, hgv⟩ := C0
  obtain ⟨hZ, hNc⟩ := tw_Z0 hts hgv
  have hT : ∀ w ∈ tw_T, w.before #[Value.ref b] s = true := fun w h => hts w (List.mem_filter.mp h).1
  have hbA : ¬ tw_AL s b := Nat.not_le.mpr hbl
  have hA : ∀ q : Nat, s.heap.size ≤ q → tw_AL s q := fun q h => h
  obtain ⟨cX, iX, hKX⟩ := u_known (C := RX) (T := FX) (N := 6) (n := 6) hT in_X (hT _ tt_9)
  obtain ⟨cM, iM, hKM⟩ := u_known (C := RM) (T := FM) (N := 7) (n := 7) hT in_M (hT _ tt_212)
  obtain ⟨dC, dI, hK⟩ : ∃ (dC : Nat → ClassId) (dI : Nat → Nat → Nat), va_K (dC, dI) tw_cl [] s :=
    ⟨fun c => match c with | 0 => cX | _ => cM, fun c => match c with | 0 => iX | _ => iM, fun c q hq => by
      match c, hq with
      | 0, hq => cases hq; exact hKX
      | 1, hq => cases hq; exact hKM
      | n + 2, hq => simp at hq, fun k q hk => by simp at hk⟩
  have hP : va_P (dC, dI) tw_cl [] s.heap := fun k q hk => by simp at hk
  have hD : va_D (tw_AL s) [] := ⟨fun i j p q hi _ _ => by simp at hi, fun k q hk => by simp at hk⟩
  have hS : va_S (tw_AL s) s.heap s.heap [] := va_S.rf
  have hl := lv_entry ([.ref b]) (n := 8) (Nat.le_of_ble_eq_true rfl)
  rw [lg_entry_eq]
  generalize (lg_sl ([.ref b]) ++ List.replicate (8 - (lg_sl ([.ref b])).length) Slot.unset).toArray = ls at hl ⊢
  have hl : lv_has ls 8 [(0, .ref b)] := hl
  refine va_new (ci := 0) (fs := [.null, .null, .null, .null, .long 0, .int 0]) (C := RX) (T := FX) (N := 6) hx hb hT in_X TX tX_ok hown (hT _ tt_8) (hT _ tt_9) (hT _ tt_1) hK hP hD hS hA rfl (fun j hj => by rcases (show j = 0 ∨ j = 1 ∨ j = 2 ∨ j = 3 ∨ j = 4 ∨ j = 5 by omega) with rfl | rfl | rfl | rfl | rfl | rfl <;> rfl) (Nat.le_of_ble_eq_true rfl) (Nat.le_of_ble_eq_true rfl) dL_law_0 (fun xh H hP hD hS => ?_)
  have hP : va_P (dC, dI) tw_cl [(xh, .inr (0, [.null, .null, .null, .null, .long 0, .int 0]))] H := hP
  have hD : va_D (tw_AL s) [(xh, .inr (0, [.null, .null, .null, .null, .long 0, .int 0]))] := hD
  refine lv_dup hx hb dL_law_3 rfl ?_
  have hPc := hP.sub (ws' := [(xh, .inr (0, [.null, .null, .null, .null, .long 0, .int 0]))]) [0] rfl
  have hDc := hD.sub (ws' := [(xh, .inr (0, [.null, .null, .null, .null, .long 0, .int 0]))]) [0] (by decide) rfl
  have hKc := hK.sub (tys' := []) [] rfl
  have hFc := va_free (wc := [(xh, .inr (0, [.null, .null, .null, .null, .long 0, .int 0]))]) hD hS hA [0] rfl
  refine va_callv (va_runI (As := []) (rest := [.ref xh]) ⟨hx, hb, hml, hown, hT⟩ (cX_init l dC dI xh H.size) (cwI 0 hT (tw_gI tt_12) rfl rfl rfl (hT _ tt_1) (hT _ tt_10) (hT _ tt_11) rfl (by decide +kernel) ⟨Nat.le_of_ble_eq_true rfl, Nat.le_of_ble_eq_true rfl⟩) ⟨fun a U g mk q => by obtain ⟨q0, q1, qP, qK, qD⟩ := q; exact ⟨q0, q1, qP, va_K.moved (u := U) (U := U.calling g mk a) (Vm.Alike.refl U.vm) qK, qD⟩, fun U hU hW => ⟨rfl, by rw [hU], by rw [hU]; exact hPc, va_K.moved hW.alike hKc, hDc.weaken (fun _ _ _ _ => trivial)⟩⟩ rfl rfl hl.1 rfl (lv_room (Nat.le_of_ble_eq_true rfl)) dL_law_4 ⟨Nat.le_of_ble_eq_true rfl, Nat.le_of_ble_eq_true rfl⟩) hS (fun q _ h => hFc q h) hFc (fun u9 t9 H1 locs ht9 hvm9 hw9 hB9 hz9 hk9 hS => ?_)
  obtain ⟨xa0, xa1, xa2, xa3, kx0, kx1, kx2, kx3, hP1, hK1, hD1⟩ := hB9
  rw [ht9] at hP1
  have hK1 := va_K.moved hvm9.symm hK1
  obtain ⟨hP, hD⟩ := va_join (wr := []) (w1 := (tw_wX xh xa0 xa1 xa2 xa3 kx0 kx1 kx2 kx3 (fun _ => 0) (fun _ => 0) (fun _ => 0) (fun _ => 0) 0 0)) hP hD [0] [] rfl rfl (by decide) (by decide) hk9 hFc hP1 hD1
  have hK := hK.app hK1
  generalize H1 = H at hP hS ⊢
  have hP : va_P (dC, dI) tw_cl [(xh, .inr (0, [.ref xa0, .ref xa1, .ref xa2, .ref xa3, .long 0, .int 0])), (xa0, .inl (kx0, 100, .inl (fun _ => 0))), (xa1, .inl (kx1, 100, .inr (.inl (fun _ => 0)))), (xa2, .inl (kx2, 100, .inl (fun _ => 0))), (xa3, .inl (kx3, 100, .inl (fun _ => 0)))] H := hP
  have hD : va_D (tw_AL s) [(xh, .inr (0, [.ref xa0, .ref xa1, .ref xa2, .ref xa3, .long 0, .int 0])), (xa0, .inl (kx0, 100, .inl (fun _ => 0))), (xa1, .inl (kx1, 100, .inr (.inl (fun _ => 0)))), (xa2, .inl (kx2, 100, .inl (fun _ => 0))), (xa3, .inl (kx3, 100, .inl (fun _ => 0)))] := hD
  have hK : va_K (dC, dI) tw_cl [(kx0, .boolean), (kx1, .long), (kx2, .int), (kx3, .int)] s := hK
  refine lv_astore_n hx hb dL_law_7 rfl hl (by decide) rfl (fun ls hl => ?_)
  have hl : lv_has ls 8 [(1, .ref xh), (0, .ref b)] := hl
  refine va_new (ci := 1) (fs := [.int 0, .null, .null, .null, .null, .int 0, .long 0]) (C := RM) (T := FM) (N := 7) hx hb hT in_M TM tM_ok hown (hT _ tt_211) (hT _ tt_212) (hT _ tt_2) hK hP hD hS hA rfl (fun j hj => by rcases (show j = 0 ∨ j = 1 ∨ j = 2 ∨ j = 3 ∨ j = 4 ∨ j = 5 ∨ j = 6 by omega) with rfl | rfl | rfl | rfl | rfl | rfl | rfl <;> rfl) (Nat.le_of_ble_eq_true rfl) (Nat.le_of_ble_eq_true rfl) dL_law_8 (fun mh H hP hD hS => ?_)
  have hP : va_P (dC, dI) tw_cl [(xh, .inr (0, [.ref xa0, .ref xa1, .ref xa2, .ref xa3, .long 0, .int 0])), (xa0, .inl (kx0, 100, .inl (fun _ => 0))), (xa1, .inl (kx1, 100, .inr (.inl (fun _ => 0)))), (xa2, .inl (kx2, 100, .inl (fun _ => 0))), (xa3, .inl (kx3, 100, .inl (fun _ => 0))), (mh, .inr (1, [.int 0, .null, .null, .null, .null, .int 0, .long 0]))] H := hP
  have hD : va_D (tw_AL s) [(xh, .inr (0, [.ref xa0, .ref xa1, .ref xa2, .ref xa3, .long 0, .int 0])), (xa0, .inl (kx0, 100, .inl (fun _ => 0))), (xa1, .inl (kx1, 100, .inr (.inl (fun _ => 0)))), (xa2, .inl (kx2, 100, .inl (fun _ => 0))), (xa3, .inl (kx3, 100, .inl (fun _ => 0))), (mh, .inr (1, [.int 0, .null, .null, .null, .null, .int 0, .long 0]))] := hD
  refine lv_dup hx hb dL_law_11 rfl ?_
  have hPc := hP.sub (ws' := [(mh, .inr (1, [.int 0, .null, .null, .null, .null, .int 0, .long 0]))]) [5] rfl
  have hDc := hD.sub (ws' := [(mh, .inr (1, [.int 0, .null, .null, .null, .null, .int 0, .long 0]))]) [5] (by decide) rfl
  have hKc := hK.sub (tys' := []) [] rfl
  have hFc := va_free (wc := [(mh, .inr (1, [.int 0, .null, .null, .null, .null, .int 0, .long 0]))]) hD hS hA [5] rfl
  refine va_callv (va_runI (As := []) (rest := [.ref mh]) ⟨hx, hb, hml, hown, hT⟩ (cM_init l dC dI mh H.size) (cwI 0 hT (tw_gI tt_215) rfl rfl rfl (hT _ tt_2) (hT _ tt_213) (hT _ tt_214) rfl (by decide +kernel) ⟨Nat.le_of_ble_eq_true rfl, Nat.le_of_ble_eq_true rfl⟩) ⟨fun a U g mk q => by obtain ⟨q0, q1, qP, qK, qD⟩ := q; exact ⟨q0, q1, qP, va_K.moved (u := U) (U := U.calling g mk a) (Vm.Alike.refl U.vm) qK, qD⟩, fun U hU hW => ⟨rfl, by rw [hU], by rw [hU]; exact hPc, va_K.moved hW.alike hKc, hDc.weaken (fun _ _ _ _ => trivial)⟩⟩ rfl rfl hl.1 rfl (lv_room (Nat.le_of_ble_eq_true rfl)) dL_law_12 ⟨Nat.le_of_ble_eq_true rfl, Nat.le_of_ble_eq_true rfl⟩) hS (fun q _ h => hFc q h) hFc (fun u9 t9 H1 locs ht9 hvm9 hw9 hB9 hz9 hk9 hS => ?_)
  obtain ⟨ma0, ma1, ma2, ma3, km0, km1, km2, km3, hP1, hK1, hD1⟩ := hB9
  rw [ht9] at hP1
  have hK1 := va_K.moved hvm9.symm hK1
  obtain ⟨hP, hD⟩ := va_join (wr := [(xh, .inr (0, [.ref xa0, .ref xa1, .ref xa2, .ref xa3, .long 0, .int 0])), (xa0, .inl (kx0, 100, .inl (fun _ => 0))), (xa1, .inl (kx1, 100, .inr (.inl (fun _ => 0)))), (xa2, .inl (kx2, 100, .inl (fun _ => 0))), (xa3, .inl (kx3, 100, .inl (fun _ => 0)))]) (w1 := (tw_wM mh ma0 ma1 ma2 ma3 km0 km1 km2 km3 0 (fun _ => 0) (fun _ => 0) (fun _ => 0) (fun _ => 0) 0 0)) hP hD [5] [0, 1, 2, 3, 4] rfl rfl (by decide) (by decide) hk9 hFc hP1 hD1
  have hK := hK.app hK1
  generalize H1 = H at hP hS ⊢
  have hP : va_P (dC, dI) tw_cl [(xh, .inr (0, [.ref xa0, .ref xa1, .ref xa2, .ref xa3, .long 0, .int 0])), (xa0, .inl (kx0, 100, .inl (fun _ => 0))), (xa1, .inl (kx1, 100, .inr (.inl (fun _ => 0)))), (xa2, .inl (kx2, 100, .inl (fun _ => 0))), (xa3, .inl (kx3, 100, .inl (fun _ => 0))), (mh, .inr (1, [.int 0, .ref ma0, .ref ma1, .ref ma2, .ref ma3, .int 0, .long 0])), (ma0, .inl (km0, 100, .inl (fun _ => 0))), (ma1, .inl (km1, 100, .inr (.inl (fun _ => 0)))), (ma2, .inl (km2, 100, .inl (fun _ => 0))), (ma3, .inl (km3, 100, .inl (fun _ => 0)))] H := hP
  have hD : va_D (tw_AL s) [(xh, .inr (0, [.ref xa0, .ref xa1, .ref xa2, .ref xa3, .long 0, .int 0])), (xa0, .inl (kx0, 100, .inl (fun _ => 0))), (xa1, .inl (kx1, 100, .inr (.inl (fun _ => 0)))), (xa2, .inl (kx2, 100, .inl (fun _ => 0))), (xa3, .inl (kx3, 100, .inl (fun _ => 0))), (mh, .inr (1, [.int 0, .ref ma0, .ref ma1, .ref ma2, .ref ma3, .int 0, .long 0])), (ma0, .inl (km0, 100, .inl (fun _ => 0))), (ma1, .inl (km1, 100, .inr (.inl (fun _ => 0)))), (ma2, .inl (km2, 100, .inl (fun _ => 0))), (ma3, .inl (km3, 100, .inl (fun _ => 0)))] := hD
  have hK : va_K (dC, dI) tw_cl [(kx0, .boolean), (kx1, .long), (kx2, .int), (kx3, .int), (km0, .boolean), (km1, .long), (km2, .int), (km3, .int)] s := hK
  refine lv_astore_n hx hb dL_law_15 rfl hl (by decide) rfl (fun ls hl => ?_)
  have hl : lv_has ls 8 [(2, .ref mh), (1, .ref xh), (0, .ref b)] := hl
  refine lv_iconst (v := 1) hx hb dL_law_16 (by decide) ?_
  refine va_newa (atype := .long) (ty := .long) (a0 := (1, .inr (.inl (fun _ => 0)))) (N' := 1) hx hb (hT _ tt_36) rfl hK hP hD hS hA (fun _ => rfl) (by decide) (by decide) (by decide) (Nat.le_of_ble_eq_true rfl) (Nat.le_of_ble_eq_true rfl) dL_law_17 (fun ao k4 H hK hP hD hS => ?_)
  have hP : va_P (dC, dI) tw_cl [(xh, .inr (0, [.ref xa0, .ref xa1, .ref xa2, .ref xa3, .long 0, .int 0])), (xa0, .inl (kx0, 100, .inl (fun _ => 0))), (xa1, .inl (kx1, 100, .inr (.inl (fun _ => 0)))), (xa2, .inl (kx2, 100, .inl (fun _ => 0))), (xa3, .inl (kx3, 100, .inl (fun _ => 0))), (mh, .inr (1, [.int 0, .ref ma0, .ref ma1, .ref ma2, .ref ma3, .int 0, .long 0])), (ma0, .inl (km0, 100, .inl (fun _ => 0))), (ma1, .inl (km1, 100, .inr (.inl (fun _ => 0)))), (ma2, .inl (km2, 100, .inl (fun _ => 0))), (ma3, .inl (km3, 100, .inl (fun _ => 0))), (ao, .inl (k4, 1, .inr (.inl (fun _ => 0))))] H := hP
  have hD : va_D (tw_AL s) [(xh, .inr (0, [.ref xa0, .ref xa1, .ref xa2, .ref xa3, .long 0, .int 0])), (xa0, .inl (kx0, 100, .inl (fun _ => 0))), (xa1, .inl (kx1, 100, .inr (.inl (fun _ => 0)))), (xa2, .inl (kx2, 100, .inl (fun _ => 0))), (xa3, .inl (kx3, 100, .inl (fun _ => 0))), (mh, .inr (1, [.int 0, .ref ma0, .ref ma1, .ref ma2, .ref ma3, .int 0, .long 0])), (ma0, .inl (km0, 100, .inl (fun _ => 0))), (ma1, .inl (km1, 100, .inr (.inl (fun _ => 0)))), (ma2, .inl (km2, 100, .inl (fun _ => 0))), (ma3, .inl (km3, 100, .inl (fun _ => 0))), (ao, .inl (k4, 1, .inr (.inl (fun _ => 0))))] := hD
  have hK : va_K (dC, dI) tw_cl (tw_kL kx0 kx1 kx2 kx3 km0 km1 km2 km3 k4) s := hK
  refine lv_astore_n hx hb dL_law_19 rfl hl (by decide) rfl (fun ls hl => ?_)
  have hl : lv_has ls 8 [(3, .ref ao), (2, .ref mh), (1, .ref xh), (0, .ref b)] := hl
  refine lv_iconst (v := 0) hx hb dL_law_20 (by decide) ?_
  refine lv_istore hx hb dL_law_21 hl (by decide) rfl (fun ls hl => ?_)
  have hl : lv_has ls 8 [(4, .int 0), (3, .ref ao), (2, .ref mh), (1, .ref xh), (0, .ref b)] := hl
  refine W.widen (k := 11) (n := 814) (Nat.le_of_ble_eq_true rfl) (Nat.le_of_ble_eq_true rfl) ?_
  exact lp_law hx hb hml hr hlocks hT hown hfl hX hbl hZ hNc hL hK 512 0 (by omega) (by omega) 0 (fun _ => 0) (fun _ => 0) (fun _ => 0) (fun _ => 0) 0 0 (fun _ => 0) H _ ls 11 814 (by decide) (by decide) ⟨fun _ => ⟨show (0 : Int64) ≤ 0 by decide, show (0 : Int64) ≤ 70368744177664 by decide⟩, by decide, by decide⟩ hP hD hS (lv_sub hl [0, 4, 3, 2, 1] rfl)
set_option maxHeartbeats 4000000 in
theorem lw_walk (l : Launch) (hfl : l.flags = pinnedFlags ++ [noTraceFlag]) (b : Addr) (xs : List Int32) : MetFree l x (headSpec (Jvm.Cond.code x code maxLocals ret :: tables_1) room_1) (lw_P b xs) (fun _ _ _ _ _ => True) lw_Q := by
  refine MetFree.of_bodyS (code := code) (maxLocals := maxLocals) (ret := ret) (by decide) ?_ ?_
  · intro args s m h hn
    obtain ⟨meth, c, h1, h2, h3, h4, h5, h6, -, -⟩ := Cond.code_spec hn (atoms_spec (ws := Jvm.Cond.code x code maxLocals ret :: tables_1) h _ List.mem_cons_self)
    exact ⟨meth, c, h1, h2, h3, h4, h5, h6⟩
  · intro p e s m args below meth c s₁ B hml0 hP _
    obtain ⟨rfl, hx, hbd, hgv⟩ := hP
    obtain ⟨scr, harrAt, hlist, hof, hsmall⟩ := hx
    obtain ⟨hcb, hkn, -, -⟩ := State.arrayAt?_spec harrAt
    have hown : s.vm.findClass R_law = some m.cls := findClass_of_methodNamed B.named
    have hts0 : ∀ c ∈ (Jvm.Cond.code x code maxLocals ret :: tables_1), c.before #[Value.ref b] s = true := atoms_spec (ws := Jvm.Cond.code x code maxLocals ret :: tables_1) B.pre
    have hts : ∀ w ∈ lw_tbl, w.before #[Value.ref b] s = true := k2_hts_sels lw_privs (fun w hw => hts0 w (List.mem_cons_of_mem _ hw)) lw_privs_ok
    have hml : c.maxLocals = 8 := B.maxLocals_eq (hts0 _ List.mem_cons_self)
    have X₀ : Stand p l e room_1 s m #[Value.ref b] below meth c s₁ [] 0 0 := Stand.of_body B
    have hh0 : s₁.heap = s.heap := by rw [B.state]; rfl
    have hsz : scr.slots.size = xs.length := by rw [← Array.length_toList, hlist, List.length_map]
    have hval : ∀ j : Nat, j < xs.length → scr.slots[j]? = some (.int (xs.getD j 0)) := fun j hj => by
      rw [← Array.getElem?_toList, hlist]
      simp [hj]
    have hbl : b < s.heap.size := (Array.getElem?_eq_some_iff.mp hcb).1
    have hX : va_X b xs.length (fun j => xs.getD j 0) s s.heap := ⟨scr, hcb, hof, hkn, hsz, hval⟩
    have K : W p l e room_1 s m #[Value.ref b] below meth c s₁.heap [] 0 0 (lw_Z below #[Value.ref b] s) (entryFrame m ([Value.ref b] : List Value).toArray 8) := by
      rw [hh0]
      exact whole_start l hfl hbd ⟨B.exec, B.bytes, B.returns, hml, hown, hts, hX, hbl, B.notSynchronized, hgv⟩
    obtain ⟨t, a1, o, b1, b2, b3⟩ := K s₁ rfl X₀
    exact ⟨t, o, a1, b1, b2, b3⟩
theorem lw_pre_spec {args : Array Value} {s : State} (h : (Jvm.Cond.and given_1 narrow_1).before args s = true) (hr : rest_1_c.before args s = true) : ∃ (b : Addr) (xs : List Int32), lw_P b xs args s := by
  have hs := flat_of_before _ h
  have hq := flat_of_before _ hr
  have hc : (Cond.count 1).before args s = true := hs _ (by decide +kernel)
  have harr : (Cond.arrayOf (.arg 0) .int).before args s = true := hs _ (by decide +kernel)
  have hle : (Cond.le (.length (.arg 0)) (.int 2560)).before args s = true := hs _ (by decide +kernel)
  have hlen : (Cond.isInt (.length (.arg 0))).before args s = true := hq _ (by decide +kernel)
  have hall : (Cond.all (.arg 0) (.isInt (.elem (.arg 0) (.index 0)))).before args s = true := hq _ (by decide +kernel)
  obtain ⟨b, xs, hb, hx⟩ := State.ints_of_pre rfl harr hlen hall
  have hsm : xs.length < 2 ^ 31 := hx.choose_spec.2.2.2
  have hev : (Term.length (.arg 0)).eval args s none [] s = some (.int xs.length.toInt32) := hx.length_eval hb
  have hv := Cond.le_ints hev (show (Term.int 2560).eval args s none [] s = some (.int 2560) from rfl)
  have hd : xs.length.toInt32 ≤ 2560 := by
    simpa [Cond.before, Cond.holds, hv] using hle
  have hN : xs.length ≤ 2560 := (Int32.ofNat_le_ofNat hsm (by decide)).mp (show Int32.ofNat xs.length ≤ Int32.ofNat 2560 from hd)
  exact ⟨b, xs, Cond.one_arg hc (show args[0]? = some (.ref b) from hb), hx, hN, h⟩
theorem lw_comes (l : Launch) (hfl : l.flags = pinnedFlags ++ [noTraceFlag]) : Comes l x (Jvm.Cond.code x code maxLocals ret :: tables_1) room_1 (fun tb e args s => Calls_1 tb e args s ∧ rest_1 tb e args s ∧ Pre_1 tb e args s)
    (fun _ _ args s o t => lw_Q args s o t) := by
  intro p e ha hc hk s m args below hf hfit hheap happ hpre
  obtain ⟨b, xs, hP⟩ := lw_pre_spec hpre.2.2 hpre.2.1
  obtain ⟨k, o, h1, h2, h3, hQ⟩ := lw_walk l hfl b xs p e ha hc hk s m args below hf ((Spec.applies_iff_loose hf).mp happ).1 hP trivial
  exact ⟨k, o, h1, h2, h3, hQ⟩
theorem lw_frame {s t : State} {o : Outcome} {args : Array Value} (h : Framed s o t [] 1044 9060) :
    Framed s o t (fieldLocs frame_1_writes args s ++ arrayLocs frame_1_arrays args s ++ staticLocs frame_1_statics s) 1044 9060 := h
theorem lw_limb (L : Cond) (hL : ∀ (args : Array Value) (s t : State), L.after args s (.returned (some (.int 1))) t = true) :
    ArmFor flags0 classFile x code maxLocals ret World_1 tables_1 room_1 Calls_1 rest_1 Pre_1
      (fun tb e a s o t => postC L tb e a s o t ∧ Framed s o t (fieldLocs frame_1_writes a s ++ arrayLocs frame_1_arrays a s ++ staticLocs frame_1_statics s) 1044 9060) := by
  intro l hfl _ _ p e ha hc hk s m args below hf hfit hheap happ hpre
  obtain ⟨k, o, h1, h2, h3, rfl, hF⟩ := lw_comes l hfl p e ha hc hk s m args below hf hfit hheap happ hpre
  exact ⟨k, _, h1, h2, h3, hL args s _, lw_frame hF⟩
theorem i_vc : Claimed_1_1 ∧ Claimed_1_2 := ⟨lw_limb limb_1_1 (fun args s t => by simp [limb_1_1, Cond.after, Cond.holds, Cond.value]), lw_limb limb_1_2 (fun args s t => Cond.after_iff.mpr (by
  first | (rw [show limb_1_2 = Cond.eq .result (.int 1) from rfl, Cond.eq_ints (x := 1) (y := 1) rfl rfl]; simp; done) | (simp [limb_1_2, Cond.value, Term.eval]; done)))⟩
