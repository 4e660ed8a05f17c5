/-! The law's cases: class and reference hold the same picture, answer alike, and hold the same picture again. Rows laid by our own program (wip/gen/gl.py). -/
abbrev tw_wL (xh xa0 xa1 xa2 xa3 : Nat) (kx0 kx1 kx2 kx3 : ClassId) (mh ma0 ma1 ma2 ma3 : Nat) (km0 km1 km2 km3 : ClassId) (ao : Nat) (k4 : ClassId) (fl : Int32) (th : Nat → Int32) (tm : Nat → Int64) (pr ag : Nat → Int32) (ck : Int64) (nx : Int32) (ou : Nat → Int64) : va_W := [(xh, .inr (0, [.ref xa0, .ref xa1, .ref xa2, .ref xa3, .long ck, .int nx])), (xa0, .inl (kx0, 100, .inl th)), (xa1, .inl (kx1, 100, .inr (.inl tm))), (xa2, .inl (kx2, 100, .inl pr)), (xa3, .inl (kx3, 100, .inl ag)), (mh, .inr (1, [.int fl, .ref ma0, .ref ma1, .ref ma2, .ref ma3, .int nx, .long ck])), (ma0, .inl (km0, 100, .inl th)), (ma1, .inl (km1, 100, .inr (.inl tm))), (ma2, .inl (km2, 100, .inl pr)), (ma3, .inl (km3, 100, .inl ag)), (ao, .inl (k4, 1, .inr (.inl ou)))]
abbrev tw_kL (kx0 kx1 kx2 kx3 km0 km1 km2 km3 k4 : ClassId) : List (ClassId × FieldType) := [(kx0, .boolean), (kx1, .long), (kx2, .int), (kx3, .int), (km0, .boolean), (km1, .long), (km2, .int), (km3, .int), (k4, .long)]
abbrev tw_AL (s : State) : Nat → Prop := fun q => s.heap.size ≤ q
def tw_Inv (tm : Nat → Int64) (ck : Int64) : Prop := (∀ k : Nat, 0 ≤ tm k ∧ tm k ≤ 70368744177664) ∧ 0 ≤ ck ∧ ck ≤ 70368744177664
theorem tw_Inv.up {tm : Nat → Int64} {ck : Int64} (h : tw_Inv tm ck) (j : Nat) {t : Int64} (h0 : 0 ≤ t) (h1 : t ≤ 70368744177664) : tw_Inv (vp_updL tm j t) ck := by
  refine ⟨fun k => ?_, h.2⟩
  unfold vp_updL
  split
  · exact ⟨h0, h1⟩
  · exact h.1 k
theorem tw_Inv.least {th : Nat → Int32} {tm : Nat → Int64} {ck : Int64} (h : tw_Inv tm ck) (hf : ¬ tw_least th tm ck 100 = -1) : tw_Inv tm (tw_least th tm ck 100) := by
  rcases tw_least_in (th := th) (ck := ck) (fun k => (h.1 k).1) 100 with h1 | ⟨h1, k, h2⟩
  · exact absurd h1 hf
  · exact ⟨h.1, h1, by rw [h2]; exact (h.1 k).2⟩
theorem tw_sin1 {i L : Nat} (h : i + 5 ≤ L) (hL : L ≤ 2560) : vp_in (nI i + 1) L := by
  have e : nI i + 1 = nI (i + 1) := by
    rw [show (1 : Int32) = nI 1 from rfl, nI_add]
  rw [e]
  exact vp_in_nI (by omega) (by omega)
theorem tw_sin2 {i L : Nat} (h : i + 5 ≤ L) (hL : L ≤ 2560) : vp_in (nI i + 2) L := by
  have e : nI i + 2 = nI (i + 2) := by
    rw [show (2 : Int32) = nI 2 from rfl, nI_add]
  rw [e]
  exact vp_in_nI (by omega) (by omega)
theorem tw_sin3 {i L : Nat} (h : i + 5 ≤ L) (hL : L ≤ 2560) : vp_in (nI i + 3) L := by
  have e : nI i + 3 = nI (i + 3) := by
    rw [show (3 : Int32) = nI 3 from rfl, nI_add]
  rw [e]
  exact vp_in_nI (by omega) (by omega)
theorem tw_sin4 {i L : Nat} (h : i + 5 ≤ L) (hL : L ≤ 2560) : vp_in (nI i + 4) L := by
  have e : nI i + 4 = nI (i + 4) := by
    rw [show (4 : Int32) = nI 4 from rfl, nI_add]
  rw [e]
  exact vp_in_nI (by omega) (by omega)
theorem tw_nat {x : Int64} (h0 : 0 ≤ x) (h1 : x ≤ 70368744177664) : ∃ k : Nat, k ≤ 70368744177664 ∧ x = lN k := by
  obtain ⟨k, hk, rfl⟩ := pk_lOf (Int64.not_lt.mpr h0)
  refine ⟨k, ?_, rfl⟩
  rw [show (70368744177664 : Int64) = lN 70368744177664 from rfl] at h1
  exact (pk_lLE hk (by decide)).mp h1
theorem tw_go {ck n : Int64} (h0 : 0 ≤ ck) (h1 : ck ≤ 70368744177664) (h2 : 0 ≤ n) (h3 : n ≤ 17592186044416) : (n ≤ 70368744177664 - ck ↔ ck + n ≤ 70368744177664) ∧ 0 ≤ ck + n := by
  obtain ⟨a, ha, rfl⟩ := tw_nat h0 h1
  obtain ⟨k, hk, rfl⟩ := tw_nat h2 (Int64.le_trans h3 (by decide))
  rw [show (70368744177664 : Int64) = lN 70368744177664 from rfl, lN_sub ha, lN_add, pk_lLE (by omega) (by omega), pk_lLE (by omega) (by omega)]
  refine ⟨by omega, ?_⟩
  rw [show (0 : Int64) = lN 0 from rfl, pk_lLE (by omega) (by omega)]
  omega
section LLset
variable {p : Program} {l : Launch} {e : Env} {s : State} {m : MethodId} {below : List Frame} {meth : Method} {c : Code} {H : Heap} {locs : List Loc} {cells slots : Nat} {Q : State → Prop} {ls : Array Slot} {b L i : Nat} {xs : Nat → Int32}
variable {dC : Nat → ClassId} {dI : Nat → Nat → Nat} {xh xa0 xa1 xa2 xa3 : Nat} {kx0 kx1 kx2 kx3 : ClassId} {mh ma0 ma1 ma2 ma3 : Nat} {km0 km1 km2 km3 : ClassId} {ao : Nat} {k4 : ClassId} {fl : Int32} {th : Nat → Int32} {tm : Nat → Int64} {pr ag : Nat → Int32} {ck : Int64} {nx : Int32} {ou : Nat → Int64}
set_option maxHeartbeats 4000000 in
set_option maxRecDepth 100000 in
theorem ll_set (hx : p.tables.exec = Jvm.exec) (hb : c.code = bL_law) (hml : c.maxLocals = 8) (hT : ∀ w ∈ tw_T, w.before #[Value.ref b] s = true) (hown : s.vm.findClass RL = some m.cls) (hfl : l.flags = pinnedFlags ++ [noTraceFlag]) (hX : va_X b L xs s s.heap) (hbl : b < s.heap.size) (hZ : tw_Z s s.heap) (hNc : va_Nc tw_nse tw_iae s) (hL : L ≤ 2560) (hi : i + 5 ≤ L) (hc : cells + 1 ≤ 1044 ∧ slots + 6 ≤ 9060) (hI : tw_Inv tm ck) (hP : va_P (dC, dI) tw_cl (tw_wL xh xa0 xa1 xa2 xa3 kx0 kx1 kx2 kx3 mh ma0 ma1 ma2 ma3 km0 km1 km2 km3 ao k4 fl th tm pr ag ck nx ou) H) (hD : va_D (tw_AL s) (tw_wL xh xa0 xa1 xa2 xa3 kx0 kx1 kx2 kx3 mh ma0 ma1 ma2 ma3 km0 km1 km2 km3 ao k4 fl th tm pr ag ck nx ou)) (hK : va_K (dC, dI) tw_cl (tw_kL kx0 kx1 kx2 kx3 km0 km1 km2 km3 k4) s) (hS : va_S (tw_AL s) s.heap H locs) (hl : lv_has ls 8 [(4, .int (nI i)), (0, .ref b), (1, .ref xh), (2, .ref mh), (3, .ref ao)]) {j1 j2 j3 j4 : Int32} (e1 : xs (nI i + 1).toNatClampNeg = j1) (e2 : xs (nI i + 2).toNatClampNeg = j2) (e3 : xs (nI i + 3).toNatClampNeg = j3) (e4 : xs (nI i + 4).toNatClampNeg = j4) (hj : vp_in j1 100) (ht0 : 0 ≤ (j2.toInt64 <<< ((32 : Int32).toInt64 &&& 63)) ||| (j3.toInt64 &&& 4294967295)) (ht1 : (j2.toInt64 <<< ((32 : Int32).toInt64 &&& 63)) ||| (j3.toInt64 &&& 4294967295) ≤ 70368744177664) (kk : ∀ (fl' : Int32) (th' : Nat → Int32) (tm' : Nat → Int64) (pr' ag' : Nat → Int32) (ck' : Int64) (nx' : Int32) (ou' : Nat → Int64) (H' : Heap) (locs' : List Loc) (ls' : Array Slot), tw_Inv tm' ck' → va_P (dC, dI) tw_cl (tw_wL xh xa0 xa1 xa2 xa3 kx0 kx1 kx2 kx3 mh ma0 ma1 ma2 ma3 km0 km1 km2 km3 ao k4 fl' (th') (tm') (pr') (ag') (ck') (nx') (ou')) H' → va_D (tw_AL s) (tw_wL xh xa0 xa1 xa2 xa3 kx0 kx1 kx2 kx3 mh ma0 ma1 ma2 ma3 km0 km1 km2 km3 ao k4 (fl') (th') (tm') (pr') (ag') (ck') (nx') (ou')) → va_S (tw_AL s) s.heap H' locs' → lv_has ls' 8 [(4, .int (nI i)), (0, .ref b), (1, .ref xh), (2, .ref mh), (3, .ref ao)] → W p l e room_1 s m #[Value.ref b] below meth c H' locs' (cells + 1) (slots + 6) Q (F0 m 563 ls' [])) : W p l e room_1 s m #[Value.ref b] below meth c H locs cells slots Q (F0 m 84 ls []) := by
  have hA : ∀ q : Nat, s.heap.size ≤ q → tw_AL s q := fun q h => h
  have hbA : ¬ tw_AL s b := Nat.not_le.mpr hbl
  refine lv_aload_n hx hb dL_law_84 rfl (lv_at hl 2 rfl) ?_
  refine lv_aload_n hx hb dL_law_85 rfl (lv_at hl 1 rfl) ?_
  refine lv_iload hx hb dL_law_86 (lv_at hl 0 rfl) ?_
  refine lv_iconst (v := 1) hx hb dL_law_88 (by decide) ?_
  refine lv_iadd hx hb dL_law_89 ?_
  refine va_sld hx hb hX hbl hbA hS (tw_sin1 hi hL) dL_law_90 ?_
  rw [e1]
  refine lv_aload_n hx hb dL_law_91 rfl (lv_at hl 1 rfl) ?_
  refine lv_iload hx hb dL_law_92 (lv_at hl 0 rfl) ?_
  refine lv_iconst (v := 2) hx hb dL_law_94 (by decide) ?_
  refine lv_iadd hx hb dL_law_95 ?_
  refine va_sld hx hb hX hbl hbA hS (tw_sin2 hi hL) dL_law_96 ?_
  rw [e2]
  refine lv_i2l hx hb dL_law_97 rfl ?_
  refine lv_bipush (v := 32) hx hb dL_law_98 (by decide) ?_
  refine lv_lshl hx hb dL_law_100 rfl ?_
  refine lv_aload_n hx hb dL_law_101 rfl (lv_at hl 1 rfl) ?_
  refine lv_iload hx hb dL_law_102 (lv_at hl 0 rfl) ?_
  refine lv_iconst (v := 3) hx hb dL_law_104 (by decide) ?_
  refine lv_iadd hx hb dL_law_105 ?_
  refine va_sld hx hb hX hbl hbA hS (tw_sin3 hi hL) dL_law_106 ?_
  rw [e3]
  refine lv_i2l hx hb dL_law_107 rfl ?_
  refine lv_ldc2 (v := 4294967295) hx hb hown (hT _ tt_292) dL_law_108 ?_
  refine lv_land hx hb dL_law_111 ?_
  refine lv_lor hx hb dL_law_112 ?_
  refine lv_aload_n hx hb dL_law_113 rfl (lv_at hl 1 rfl) ?_
  refine lv_iload hx hb dL_law_114 (lv_at hl 0 rfl) ?_
  refine lv_iconst (v := 4) hx hb dL_law_116 (by decide) ?_
  refine lv_iadd hx hb dL_law_117 ?_
  refine va_sld hx hb hX hbl hbA hS (tw_sin4 hi hL) dL_law_118 ?_
  rw [e4]
  refine lv_aload_n hx hb dL_law_119 rfl (lv_at hl 4 rfl) ?_
  have hPc := hP.sub (ws' := (tw_wH xh xa0 xa1 xa2 xa3 kx0 kx1 kx2 kx3 th tm pr ag ck nx ao k4 ou)) [0, 1, 2, 3, 4, 10] rfl
  have hDc := hD.sub (ws' := (tw_wH xh xa0 xa1 xa2 xa3 kx0 kx1 kx2 kx3 th tm pr ag ck nx ao k4 ou)) [0, 1, 2, 3, 4, 10] (by decide) rfl
  have hKc := hK.sub (tys' := tw_kH kx0 kx1 kx2 kx3 k4) [0, 1, 2, 3, 8] rfl
  have hFc := va_free (wc := (tw_wH xh xa0 xa1 xa2 xa3 kx0 kx1 kx2 kx3 th tm pr ag ck nx ao k4 ou)) hD hS hA [0, 1, 2, 3, 4, 10] rfl
  refine va_calli (xt_runSW (n := 5) (As := [.ref xh, .int j1, .long ((j2.toInt64 <<< ((32 : Int32).toInt64 &&& 63)) ||| (j3.toInt64 &&& 4294967295)), .int j4, .ref ao]) (rest := []) ⟨hx, hb, hml, hown, hT⟩ (cL_set l dC dI xh xa0 xa1 xa2 xa3 kx0 kx1 kx2 kx3 th tm pr ag ck nx ao k4 ou H.size j1 hj _ ht0 ht1 j4) rfl (tw_gS tt_47 tt_48 tt_0 tt_49) rfl rfl ⟨rfl, by decide +kernel⟩ ⟨Nat.le_of_ble_eq_true rfl, Nat.le_of_ble_eq_true rfl⟩ ⟨fun a U g mk q => by obtain ⟨q0, q1, qP, qK, qD⟩ := q; exact ⟨q0, q1, qP, va_K.moved (u := U) (U := U.calling g mk a) (Vm.Alike.refl U.vm) qK, qD⟩, fun U hU hW => ⟨rfl, by rw [hU], by rw [hU]; exact hPc, va_K.moved hW.alike hKc, hDc.weaken (fun _ _ _ _ => trivial)⟩⟩ rfl rfl hl.1 rfl (lv_room (Nat.le_of_ble_eq_true rfl)) dL_law_120 ⟨Nat.le_trans (Nat.le_succ _) hc.1, Nat.le_trans (Nat.le_add_right _ 6) hc.2⟩) hS (fun q _ h => hFc q h) hFc (fun r9 u9 t9 H1 locs ht9 hvm9 hw9 hB9 hz9 hk9 hS => ?_)
  obtain ⟨hP1, hD1⟩ := hB9
  rw [ht9] at hP1
  have hw9 : r9 = 0 := hw9
  subst r9
  obtain ⟨hP, hD⟩ := va_join (wr := (tw_wM mh ma0 ma1 ma2 ma3 km0 km1 km2 km3 fl th tm pr ag ck nx)) (w1 := (tw_wH xh xa0 xa1 xa2 xa3 kx0 kx1 kx2 kx3 (upd th j1.toNatClampNeg (vp_nar .boolean 1)) (vp_updL tm j1.toNatClampNeg ((j2.toInt64 <<< ((32 : Int32).toInt64 &&& 63)) ||| (j3.toInt64 &&& 4294967295))) (upd pr j1.toNatClampNeg j4) (upd ag j1.toNatClampNeg nx) ck (nx + 1) ao k4 (vp_updL ou (0 : Int32).toNatClampNeg ((upd ag j1.toNatClampNeg nx j1.toNatClampNeg).toInt64)))) hP hD [0, 1, 2, 3, 4, 10] [5, 6, 7, 8, 9] rfl rfl (by decide) (by decide) hk9 hFc hP1 hD1
  generalize H1 = H at hP hS ⊢
  have hP := hP.sub (ws' := [(xh, .inr (0, [.ref xa0, .ref xa1, .ref xa2, .ref xa3, .long ck, .int (nx + 1)])), (xa0, .inl (kx0, 100, .inl (upd th j1.toNatClampNeg (vp_nar .boolean 1)))), (xa1, .inl (kx1, 100, .inr (.inl (vp_updL tm j1.toNatClampNeg ((j2.toInt64 <<< ((32 : Int32).toInt64 &&& 63)) ||| (j3.toInt64 &&& 4294967295)))))), (xa2, .inl (kx2, 100, .inl (upd pr j1.toNatClampNeg j4))), (xa3, .inl (kx3, 100, .inl (upd ag j1.toNatClampNeg nx))), (mh, .inr (1, [.int fl, .ref ma0, .ref ma1, .ref ma2, .ref ma3, .int nx, .long ck])), (ma0, .inl (km0, 100, .inl th)), (ma1, .inl (km1, 100, .inr (.inl tm))), (ma2, .inl (km2, 100, .inl pr)), (ma3, .inl (km3, 100, .inl ag)), (ao, .inl (k4, 1, .inr (.inl (vp_updL ou (0 : Int32).toNatClampNeg ((upd ag j1.toNatClampNeg nx j1.toNatClampNeg).toInt64)))))]) [5, 6, 7, 8, 9, 0, 1, 2, 3, 4, 10] rfl
  have hD := hD.sub (ws' := [(xh, .inr (0, [.ref xa0, .ref xa1, .ref xa2, .ref xa3, .long ck, .int (nx + 1)])), (xa0, .inl (kx0, 100, .inl (upd th j1.toNatClampNeg (vp_nar .boolean 1)))), (xa1, .inl (kx1, 100, .inr (.inl (vp_updL tm j1.toNatClampNeg ((j2.toInt64 <<< ((32 : Int32).toInt64 &&& 63)) ||| (j3.toInt64 &&& 4294967295)))))), (xa2, .inl (kx2, 100, .inl (upd pr j1.toNatClampNeg j4))), (xa3, .inl (kx3, 100, .inl (upd ag j1.toNatClampNeg nx))), (mh, .inr (1, [.int fl, .ref ma0, .ref ma1, .ref ma2, .ref ma3, .int nx, .long ck])), (ma0, .inl (km0, 100, .inl th)), (ma1, .inl (km1, 100, .inr (.inl tm))), (ma2, .inl (km2, 100, .inl pr)), (ma3, .inl (km3, 100, .inl ag)), (ao, .inl (k4, 1, .inr (.inl (vp_updL ou (0 : Int32).toNatClampNeg ((upd ag j1.toNatClampNeg nx j1.toNatClampNeg).toInt64)))))]) [5, 6, 7, 8, 9, 0, 1, 2, 3, 4, 10] (by decide) rfl
  refine lv_istore hx hb dL_law_123 hl (by decide) rfl (fun ls hl => ?_)
  have hl : lv_has ls 8 [(5, .int 0), (4, .int (nI i)), (0, .ref b), (1, .ref xh), (2, .ref mh), (3, .ref ao)] := hl
  refine lv_aload_n hx hb dL_law_125 rfl (lv_at hl 4 rfl) ?_
  refine lv_aload_n hx hb dL_law_126 rfl (lv_at hl 2 rfl) ?_
  refine lv_iload hx hb dL_law_127 (lv_at hl 1 rfl) ?_
  refine lv_iconst (v := 1) hx hb dL_law_129 (by decide) ?_
  refine lv_iadd hx hb dL_law_130 ?_
  refine va_sld hx hb hX hbl hbA hS (tw_sin1 hi hL) dL_law_131 ?_
  rw [e1]
  refine lv_aload_n hx hb dL_law_132 rfl (lv_at hl 2 rfl) ?_
  refine lv_iload hx hb dL_law_133 (lv_at hl 1 rfl) ?_
  refine lv_iconst (v := 2) hx hb dL_law_135 (by decide) ?_
  refine lv_iadd hx hb dL_law_136 ?_
  refine va_sld hx hb hX hbl hbA hS (tw_sin2 hi hL) dL_law_137 ?_
  rw [e2]
  refine lv_i2l hx hb dL_law_138 rfl ?_
  refine lv_bipush (v := 32) hx hb dL_law_139 (by decide) ?_
  refine lv_lshl hx hb dL_law_141 rfl ?_
  refine lv_aload_n hx hb dL_law_142 rfl (lv_at hl 2 rfl) ?_
  refine lv_iload hx hb dL_law_143 (lv_at hl 1 rfl) ?_
  refine lv_iconst (v := 3) hx hb dL_law_145 (by decide) ?_
  refine lv_iadd hx hb dL_law_146 ?_
  refine va_sld hx hb hX hbl hbA hS (tw_sin3 hi hL) dL_law_147 ?_
  rw [e3]
  refine lv_i2l hx hb dL_law_148 rfl ?_
  refine lv_ldc2 (v := 4294967295) hx hb hown (hT _ tt_292) dL_law_149 ?_
  refine lv_land hx hb dL_law_152 ?_
  refine lv_lor hx hb dL_law_153 ?_
  refine lv_aload_n hx hb dL_law_154 rfl (lv_at hl 2 rfl) ?_
  refine lv_iload hx hb dL_law_155 (lv_at hl 1 rfl) ?_
  refine lv_iconst (v := 4) hx hb dL_law_157 (by decide) ?_
  refine lv_iadd hx hb dL_law_158 ?_
  refine va_sld hx hb hX hbl hbA hS (tw_sin4 hi hL) dL_law_159 ?_
  rw [e4]
  have hPc := hP.sub (ws' := (tw_wM mh ma0 ma1 ma2 ma3 km0 km1 km2 km3 fl th tm pr ag ck nx)) [5, 6, 7, 8, 9] rfl
  have hDc := hD.sub (ws' := (tw_wM mh ma0 ma1 ma2 ma3 km0 km1 km2 km3 fl th tm pr ag ck nx)) [5, 6, 7, 8, 9] (by decide) rfl
  have hKc := hK.sub (tys' := tw_k km0 km1 km2 km3) [4, 5, 6, 7] rfl
  have hFc := va_free (wc := (tw_wM mh ma0 ma1 ma2 ma3 km0 km1 km2 km3 fl th tm pr ag ck nx)) hD hS hA [5, 6, 7, 8, 9] rfl
  refine va_calli (va_runV (C := RM) (b := mh) (As := [.int j1, .long ((j2.toInt64 <<< ((32 : Int32).toInt64 &&& 63)) ||| (j3.toInt64 &&& 4294967295)), .int j4]) (rest := []) ⟨hx, hb, hml, hown, hT⟩ (cM_set l dC dI mh ma0 ma1 ma2 ma3 km0 km1 km2 km3 fl th tm pr ag ck nx H.size j1 hj _ ht0 ht1 j4) (cwV 3 hT (tw_gV tt_243 tt_244 tt_245 tt_2 tt_246) rfl rfl rfl ⟨rfl, by decide +kernel⟩ ⟨Nat.le_of_ble_eq_true rfl, Nat.le_of_ble_eq_true rfl⟩) ⟨fun a U g mk q => by obtain ⟨q0, q1, qP, qK, qD⟩ := q; exact ⟨q0, q1, qP, va_K.moved (u := U) (U := U.calling g mk a) (Vm.Alike.refl U.vm) qK, qD⟩, va_recv (q0 := 0) (ci := 1) hKc hPc rfl rfl, fun U hU hW => ⟨rfl, by rw [hU], by rw [hU]; exact hPc, va_K.moved hW.alike hKc, hDc.weaken (fun _ _ _ _ => trivial)⟩⟩ rfl rfl hl.1 rfl (lv_room (Nat.le_of_ble_eq_true rfl)) dL_law_160 ⟨Nat.le_trans (Nat.le_succ _) hc.1, Nat.le_trans (Nat.le_add_right _ 6) hc.2⟩) hS (fun q _ h => hFc q h) hFc (fun r9 u9 t9 H1 locs ht9 hvm9 hw9 hB9 hz9 hk9 hS => ?_)
  obtain ⟨hP1, hD1⟩ := hB9
  rw [ht9] at hP1
  have hw9 : r9 = upd ag j1.toNatClampNeg nx j1.toNatClampNeg := hw9
  subst r9
  obtain ⟨hP, hD⟩ := va_join (wr := [(xh, .inr (0, [.ref xa0, .ref xa1, .ref xa2, .ref xa3, .long ck, .int (nx + 1)])), (xa0, .inl (kx0, 100, .inl (upd th j1.toNatClampNeg (vp_nar .boolean 1)))), (xa1, .inl (kx1, 100, .inr (.inl (vp_updL tm j1.toNatClampNeg ((j2.toInt64 <<< ((32 : Int32).toInt64 &&& 63)) ||| (j3.toInt64 &&& 4294967295)))))), (xa2, .inl (kx2, 100, .inl (upd pr j1.toNatClampNeg j4))), (xa3, .inl (kx3, 100, .inl (upd ag j1.toNatClampNeg nx))), (ao, .inl (k4, 1, .inr (.inl (vp_updL ou (0 : Int32).toNatClampNeg ((upd ag j1.toNatClampNeg nx j1.toNatClampNeg).toInt64)))))]) (w1 := (tw_wM mh ma0 ma1 ma2 ma3 km0 km1 km2 km3 0 (upd th j1.toNatClampNeg (vp_nar .boolean 1)) (vp_updL tm j1.toNatClampNeg ((j2.toInt64 <<< ((32 : Int32).toInt64 &&& 63)) ||| (j3.toInt64 &&& 4294967295))) (upd pr j1.toNatClampNeg j4) (upd ag j1.toNatClampNeg nx) ck (nx + 1))) hP hD [5, 6, 7, 8, 9] [0, 1, 2, 3, 4, 10] rfl rfl (by decide) (by decide) hk9 hFc hP1 hD1
  generalize H1 = H at hP hS ⊢
  have hP := hP.sub (ws' := [(xh, .inr (0, [.ref xa0, .ref xa1, .ref xa2, .ref xa3, .long ck, .int (nx + 1)])), (xa0, .inl (kx0, 100, .inl (upd th j1.toNatClampNeg (vp_nar .boolean 1)))), (xa1, .inl (kx1, 100, .inr (.inl (vp_updL tm j1.toNatClampNeg ((j2.toInt64 <<< ((32 : Int32).toInt64 &&& 63)) ||| (j3.toInt64 &&& 4294967295)))))), (xa2, .inl (kx2, 100, .inl (upd pr j1.toNatClampNeg j4))), (xa3, .inl (kx3, 100, .inl (upd ag j1.toNatClampNeg nx))), (mh, .inr (1, [.int 0, .ref ma0, .ref ma1, .ref ma2, .ref ma3, .int (nx + 1), .long ck])), (ma0, .inl (km0, 100, .inl (upd th j1.toNatClampNeg (vp_nar .boolean 1)))), (ma1, .inl (km1, 100, .inr (.inl (vp_updL tm j1.toNatClampNeg ((j2.toInt64 <<< ((32 : Int32).toInt64 &&& 63)) ||| (j3.toInt64 &&& 4294967295)))))), (ma2, .inl (km2, 100, .inl (upd pr j1.toNatClampNeg j4))), (ma3, .inl (km3, 100, .inl (upd ag j1.toNatClampNeg nx))), (ao, .inl (k4, 1, .inr (.inl (vp_updL ou (0 : Int32).toNatClampNeg ((upd ag j1.toNatClampNeg nx j1.toNatClampNeg).toInt64)))))]) [0, 1, 2, 3, 4, 6, 7, 8, 9, 10, 5] rfl
  have hD := hD.sub (ws' := [(xh, .inr (0, [.ref xa0, .ref xa1, .ref xa2, .ref xa3, .long ck, .int (nx + 1)])), (xa0, .inl (kx0, 100, .inl (upd th j1.toNatClampNeg (vp_nar .boolean 1)))), (xa1, .inl (kx1, 100, .inr (.inl (vp_updL tm j1.toNatClampNeg ((j2.toInt64 <<< ((32 : Int32).toInt64 &&& 63)) ||| (j3.toInt64 &&& 4294967295)))))), (xa2, .inl (kx2, 100, .inl (upd pr j1.toNatClampNeg j4))), (xa3, .inl (kx3, 100, .inl (upd ag j1.toNatClampNeg nx))), (mh, .inr (1, [.int 0, .ref ma0, .ref ma1, .ref ma2, .ref ma3, .int (nx + 1), .long ck])), (ma0, .inl (km0, 100, .inl (upd th j1.toNatClampNeg (vp_nar .boolean 1)))), (ma1, .inl (km1, 100, .inr (.inl (vp_updL tm j1.toNatClampNeg ((j2.toInt64 <<< ((32 : Int32).toInt64 &&& 63)) ||| (j3.toInt64 &&& 4294967295)))))), (ma2, .inl (km2, 100, .inl (upd pr j1.toNatClampNeg j4))), (ma3, .inl (km3, 100, .inl (upd ag j1.toNatClampNeg nx))), (ao, .inl (k4, 1, .inr (.inl (vp_updL ou (0 : Int32).toNatClampNeg ((upd ag j1.toNatClampNeg nx j1.toNatClampNeg).toInt64)))))]) [0, 1, 2, 3, 4, 6, 7, 8, 9, 10, 5] (by decide) rfl
  refine lv_istore hx hb dL_law_163 hl (by decide) rfl (fun ls hl => ?_)
  have hl : lv_has ls 8 [(6, .int (upd ag j1.toNatClampNeg nx j1.toNatClampNeg)), (5, .int 0), (4, .int (nI i)), (0, .ref b), (1, .ref xh), (2, .ref mh), (3, .ref ao)] := hl
  refine lv_aload_n hx hb dL_law_165 rfl (lv_at hl 5 rfl) ?_
  have hPc := hP.sub (ws' := (tw_wM mh ma0 ma1 ma2 ma3 km0 km1 km2 km3 0 (upd th j1.toNatClampNeg (vp_nar .boolean 1)) (vp_updL tm j1.toNatClampNeg ((j2.toInt64 <<< ((32 : Int32).toInt64 &&& 63)) ||| (j3.toInt64 &&& 4294967295))) (upd pr j1.toNatClampNeg j4) (upd ag j1.toNatClampNeg nx) ck (nx + 1))) [5, 6, 7, 8, 9] rfl
  have hKc := hK.sub (tys' := tw_k km0 km1 km2 km3) [4, 5, 6, 7] rfl
  refine vp_callSi (W.runV (C := RM) (b := mh) (As := []) (rest := []) ⟨hx, hb, hml, hown, hT⟩ (cM_thrown l dC dI mh ma0 ma1 ma2 ma3 km0 km1 km2 km3 0 (upd th j1.toNatClampNeg (vp_nar .boolean 1)) (vp_updL tm j1.toNatClampNeg ((j2.toInt64 <<< ((32 : Int32).toInt64 &&& 63)) ||| (j3.toInt64 &&& 4294967295))) (upd pr j1.toNatClampNeg j4) (upd ag j1.toNatClampNeg nx) ck (nx + 1)) (cwV 0 hT (tw_gV tt_239 tt_240 tt_241 tt_2 tt_242) rfl rfl rfl ⟨rfl, by decide +kernel⟩ ⟨Nat.le_of_ble_eq_true rfl, Nat.le_of_ble_eq_true rfl⟩) ⟨fun a U g mk q => ⟨q.1, q.2.1, va_K.moved (u := U) (U := U.calling g mk a) (Vm.Alike.refl U.vm) q.2.2⟩, va_recv (q0 := 0) (ci := 1) hKc hPc rfl rfl, fun U hU hW => ⟨rfl, by rw [hU]; exact hPc, va_K.moved hW.alike hKc⟩⟩ rfl rfl hl.1 rfl (lv_room (Nat.le_of_ble_eq_true rfl)) dL_law_166 ⟨Nat.le_trans (Nat.le_succ _) hc.1, Nat.le_trans (Nat.le_add_right _ 6) hc.2⟩) (fun r8 h8 => ?_)
  subst r8
  refine lv_iload hx hb dL_law_169 (lv_at hl 1 rfl) ?_
  refine lv_icmp_eq (tgt := 176) hx hb dL_law_171 (by decide) (fun hc1 => ?_) (fun hc1 => absurd (rfl : (0 : Int32) = 0) hc1)
  refine lv_iload hx hb dL_law_176 (lv_at hl 1 rfl) ?_
  refine lv_if_ne (tgt := 193) hx hb dL_law_178 (by decide) (fun hc2 => absurd rfl hc2) (fun hc2 => ?_)
  refine lv_aload_n hx hb dL_law_181 rfl (lv_at hl 6 rfl) ?_
  refine lv_iconst (v := 0) hx hb dL_law_182 (by decide) ?_
  refine va_lald hx hb hK hP 10 8 rfl rfl (by unfold vp_in; decide) dL_law_183 ?_
  refine lv_iload hx hb dL_law_184 (lv_at hl 0 rfl) ?_
  refine lv_i2l hx hb dL_law_186 rfl ?_
  refine W.lcmp hx hb dL_law_187 ?_
  refine lv_if_eq (tgt := 193) hx hb dL_law_188 (by decide) (fun hc3 => ?_) (fun hc3 => absurd ((lg_cmp_eq _ _).mpr pk_uLs) hc3)
  refine lv_goto (tgt := 563) hx hb dL_law_193 (by decide) ?_
  refine W.widen (k := cells + 1) (n := slots + 6) (Nat.le_succ _) (Nat.le_add_right _ 6) ?_
  exact kk 0 (upd th j1.toNatClampNeg (vp_nar .boolean 1)) (vp_updL tm j1.toNatClampNeg ((j2.toInt64 <<< ((32 : Int32).toInt64 &&& 63)) ||| (j3.toInt64 &&& 4294967295))) (upd pr j1.toNatClampNeg j4) (upd ag j1.toNatClampNeg nx) ck (nx + 1) (vp_updL ou (0 : Int32).toNatClampNeg ((upd ag j1.toNatClampNeg nx j1.toNatClampNeg).toInt64)) H _ ls (hI.up _ ht0 ht1) hP hD hS (lv_sub hl [2, 3, 4, 5, 6] rfl)
end LLset
section LLsetB
variable {p : Program} {l : Launch} {e : Env} {s : State} {m : MethodId} {below : List Frame} {meth : Method} {c : Code} {H : Heap} {locs : List Loc} {cells slots : Nat} {Q : State → Prop} {ls : Array Slot} {b L i : Nat} {xs : Nat → Int32}
variable {dC : Nat → ClassId} {dI : Nat → Nat → Nat} {xh xa0 xa1 xa2 xa3 : Nat} {kx0 kx1 kx2 kx3 : ClassId} {mh ma0 ma1 ma2 ma3 : Nat} {km0 km1 km2 km3 : ClassId} {ao : Nat} {k4 : ClassId} {fl : Int32} {th : Nat → Int32} {tm : Nat → Int64} {pr ag : Nat → Int32} {ck : Int64} {nx : Int32} {ou : Nat → Int64}
set_option maxHeartbeats 4000000 in
set_option maxRecDepth 100000 in
theorem ll_setB (hx : p.tables.exec = Jvm.exec) (hb : c.code = bL_law) (hml : c.maxLocals = 8) (hT : ∀ w ∈ tw_T, w.before #[Value.ref b] s = true) (hown : s.vm.findClass RL = some m.cls) (hfl : l.flags = pinnedFlags ++ [noTraceFlag]) (hX : va_X b L xs s s.heap) (hbl : b < s.heap.size) (hZ : tw_Z s s.heap) (hNc : va_Nc tw_nse tw_iae s) (hL : L ≤ 2560) (hi : i + 5 ≤ L) (hc : cells + 1 ≤ 1044 ∧ slots + 6 ≤ 9060) (hI : tw_Inv tm ck) (hP : va_P (dC, dI) tw_cl (tw_wL xh xa0 xa1 xa2 xa3 kx0 kx1 kx2 kx3 mh ma0 ma1 ma2 ma3 km0 km1 km2 km3 ao k4 fl th tm pr ag ck nx ou) H) (hD : va_D (tw_AL s) (tw_wL xh xa0 xa1 xa2 xa3 kx0 kx1 kx2 kx3 mh ma0 ma1 ma2 ma3 km0 km1 km2 km3 ao k4 fl th tm pr ag ck nx ou)) (hK : va_K (dC, dI) tw_cl (tw_kL kx0 kx1 kx2 kx3 km0 km1 km2 km3 k4) s) (hS : va_S (tw_AL s) s.heap H locs) (hl : lv_has ls 8 [(4, .int (nI i)), (0, .ref b), (1, .ref xh), (2, .ref mh), (3, .ref ao)]) {j1 j2 j3 j4 : Int32} (e1 : xs (nI i + 1).toNatClampNeg = j1) (e2 : xs (nI i + 2).toNatClampNeg = j2) (e3 : xs (nI i + 3).toNatClampNeg = j3) (e4 : xs (nI i + 4).toNatClampNeg = j4) (hbad : ¬ (vp_in j1 100 ∧ 0 ≤ (j2.toInt64 <<< ((32 : Int32).toInt64 &&& 63)) ||| (j3.toInt64 &&& 4294967295) ∧ (j2.toInt64 <<< ((32 : Int32).toInt64 &&& 63)) ||| (j3.toInt64 &&& 4294967295) ≤ 70368744177664)) (kk : ∀ (fl' : Int32) (th' : Nat → Int32) (tm' : Nat → Int64) (pr' ag' : Nat → Int32) (ck' : Int64) (nx' : Int32) (ou' : Nat → Int64) (H' : Heap) (locs' : List Loc) (ls' : Array Slot), tw_Inv tm' ck' → va_P (dC, dI) tw_cl (tw_wL xh xa0 xa1 xa2 xa3 kx0 kx1 kx2 kx3 mh ma0 ma1 ma2 ma3 km0 km1 km2 km3 ao k4 fl' (th') (tm') (pr') (ag') (ck') (nx') (ou')) H' → va_D (tw_AL s) (tw_wL xh xa0 xa1 xa2 xa3 kx0 kx1 kx2 kx3 mh ma0 ma1 ma2 ma3 km0 km1 km2 km3 ao k4 (fl') (th') (tm') (pr') (ag') (ck') (nx') (ou')) → va_S (tw_AL s) s.heap H' locs' → lv_has ls' 8 [(4, .int (nI i)), (0, .ref b), (1, .ref xh), (2, .ref mh), (3, .ref ao)] → W p l e room_1 s m #[Value.ref b] below meth c H' locs' (cells + 1) (slots + 6) Q (F0 m 563 ls' [])) : W p l e room_1 s m #[Value.ref b] below meth c H locs cells slots Q (F0 m 84 ls []) := by
  have hA : ∀ q : Nat, s.heap.size ≤ q → tw_AL s q := fun q h => h
  have hbA : ¬ tw_AL s b := Nat.not_le.mpr hbl
  refine lv_aload_n hx hb dL_law_84 rfl (lv_at hl 2 rfl) ?_
  refine lv_aload_n hx hb dL_law_85 rfl (lv_at hl 1 rfl) ?_
  refine lv_iload hx hb dL_law_86 (lv_at hl 0 rfl) ?_
  refine lv_iconst (v := 1) hx hb dL_law_88 (by decide) ?_
  refine lv_iadd hx hb dL_law_89 ?_
  refine va_sld hx hb hX hbl hbA hS (tw_sin1 hi hL) dL_law_90 ?_
  rw [e1]
  refine lv_aload_n hx hb dL_law_91 rfl (lv_at hl 1 rfl) ?_
  refine lv_iload hx hb dL_law_92 (lv_at hl 0 rfl) ?_
  refine lv_iconst (v := 2) hx hb dL_law_94 (by decide) ?_
  refine lv_iadd hx hb dL_law_95 ?_
  refine va_sld hx hb hX hbl hbA hS (tw_sin2 hi hL) dL_law_96 ?_
  rw [e2]
  refine lv_i2l hx hb dL_law_97 rfl ?_
  refine lv_bipush (v := 32) hx hb dL_law_98 (by decide) ?_
  refine lv_lshl hx hb dL_law_100 rfl ?_
  refine lv_aload_n hx hb dL_law_101 rfl (lv_at hl 1 rfl) ?_
  refine lv_iload hx hb dL_law_102 (lv_at hl 0 rfl) ?_
  refine lv_iconst (v := 3) hx hb dL_law_104 (by decide) ?_
  refine lv_iadd hx hb dL_law_105 ?_
  refine va_sld hx hb hX hbl hbA hS (tw_sin3 hi hL) dL_law_106 ?_
  rw [e3]
  refine lv_i2l hx hb dL_law_107 rfl ?_
  refine lv_ldc2 (v := 4294967295) hx hb hown (hT _ tt_292) dL_law_108 ?_
  refine lv_land hx hb dL_law_111 ?_
  refine lv_lor hx hb dL_law_112 ?_
  refine lv_aload_n hx hb dL_law_113 rfl (lv_at hl 1 rfl) ?_
  refine lv_iload hx hb dL_law_114 (lv_at hl 0 rfl) ?_
  refine lv_iconst (v := 4) hx hb dL_law_116 (by decide) ?_
  refine lv_iadd hx hb dL_law_117 ?_
  refine va_sld hx hb hX hbl hbA hS (tw_sin4 hi hL) dL_law_118 ?_
  rw [e4]
  refine lv_aload_n hx hb dL_law_119 rfl (lv_at hl 4 rfl) ?_
  have hPc := hP.sub (ws' := (tw_wH xh xa0 xa1 xa2 xa3 kx0 kx1 kx2 kx3 th tm pr ag ck nx ao k4 ou)) [0, 1, 2, 3, 4, 10] rfl
  have hDc := hD.sub (ws' := (tw_wH xh xa0 xa1 xa2 xa3 kx0 kx1 kx2 kx3 th tm pr ag ck nx ao k4 ou)) [0, 1, 2, 3, 4, 10] (by decide) rfl
  have hKc := hK.sub (tys' := tw_kH kx0 kx1 kx2 kx3 k4) [0, 1, 2, 3, 8] rfl
  have hFc := va_free (wc := (tw_wH xh xa0 xa1 xa2 xa3 kx0 kx1 kx2 kx3 th tm pr ag ck nx ao k4 ou)) hD hS hA [0, 1, 2, 3, 4, 10] rfl
  have hZH : ∀ U : State, U.heap = H → s.WarmedH U.vm → tw_Z U U.heap := fun U hU hW => by rw [hU]; exact hZ.move hW (fun a ha => hS.2.1 a ha (Nat.not_le.mpr ha))
  refine va_calli (xt_runSW (n := 5) (As := [.ref xh, .int j1, .long ((j2.toInt64 <<< ((32 : Int32).toInt64 &&& 63)) ||| (j3.toInt64 &&& 4294967295)), .int j4, .ref ao]) (rest := []) ⟨hx, hb, hml, hown, hT⟩ (cL_setB l hfl dC dI xh xa0 xa1 xa2 xa3 kx0 kx1 kx2 kx3 th tm pr ag ck nx ao k4 ou H.size j1 _ j4 hbad) rfl (tw_gS tt_47 tt_48 tt_0 tt_49) rfl rfl ⟨rfl, by decide +kernel⟩ ⟨Nat.le_of_ble_eq_true rfl, Nat.le_of_ble_eq_true rfl⟩ ⟨fun a U g mk q => by obtain ⟨q0, q1, qP, qK, qD, qZ⟩ := q; exact ⟨q0, q1, qP, va_K.moved (u := U) (U := U.calling g mk a) (Vm.Alike.refl U.vm) qK, qD, qZ.call⟩, fun U hU hW => ⟨rfl, by rw [hU], by rw [hU]; exact hPc, va_K.moved hW.alike hKc, hDc.weaken (fun _ _ _ _ => trivial), hZH U hU hW⟩⟩ rfl rfl hl.1 rfl (lv_room (Nat.le_of_ble_eq_true rfl)) dL_law_120 hc) hS (fun q _ h => hFc q h) hFc (fun r9 u9 t9 H1 locs ht9 hvm9 hw9 hB9 hz9 hk9 hS => ?_)
  obtain ⟨hP1, hD1⟩ := hB9
  rw [ht9] at hP1
  have hw9 : r9 = 1 := hw9
  subst r9
  obtain ⟨hP, hD⟩ := va_join (wr := (tw_wM mh ma0 ma1 ma2 ma3 km0 km1 km2 km3 fl th tm pr ag ck nx)) (w1 := (tw_wH xh xa0 xa1 xa2 xa3 kx0 kx1 kx2 kx3 th tm pr ag ck nx ao k4 ou)) hP hD [0, 1, 2, 3, 4, 10] [5, 6, 7, 8, 9] rfl rfl (by decide) (by decide) hk9 hFc hP1 hD1
  generalize H1 = H at hP hS ⊢
  have hP := hP.sub (ws' := [(xh, .inr (0, [.ref xa0, .ref xa1, .ref xa2, .ref xa3, .long ck, .int nx])), (xa0, .inl (kx0, 100, .inl th)), (xa1, .inl (kx1, 100, .inr (.inl tm))), (xa2, .inl (kx2, 100, .inl pr)), (xa3, .inl (kx3, 100, .inl ag)), (mh, .inr (1, [.int fl, .ref ma0, .ref ma1, .ref ma2, .ref ma3, .int nx, .long ck])), (ma0, .inl (km0, 100, .inl th)), (ma1, .inl (km1, 100, .inr (.inl tm))), (ma2, .inl (km2, 100, .inl pr)), (ma3, .inl (km3, 100, .inl ag)), (ao, .inl (k4, 1, .inr (.inl ou)))]) [5, 6, 7, 8, 9, 0, 1, 2, 3, 4, 10] rfl
  have hD := hD.sub (ws' := [(xh, .inr (0, [.ref xa0, .ref xa1, .ref xa2, .ref xa3, .long ck, .int nx])), (xa0, .inl (kx0, 100, .inl th)), (xa1, .inl (kx1, 100, .inr (.inl tm))), (xa2, .inl (kx2, 100, .inl pr)), (xa3, .inl (kx3, 100, .inl ag)), (mh, .inr (1, [.int fl, .ref ma0, .ref ma1, .ref ma2, .ref ma3, .int nx, .long ck])), (ma0, .inl (km0, 100, .inl th)), (ma1, .inl (km1, 100, .inr (.inl tm))), (ma2, .inl (km2, 100, .inl pr)), (ma3, .inl (km3, 100, .inl ag)), (ao, .inl (k4, 1, .inr (.inl ou)))]) [5, 6, 7, 8, 9, 0, 1, 2, 3, 4, 10] (by decide) rfl
  refine lv_istore hx hb dL_law_123 hl (by decide) rfl (fun ls hl => ?_)
  have hl : lv_has ls 8 [(5, .int 1), (4, .int (nI i)), (0, .ref b), (1, .ref xh), (2, .ref mh), (3, .ref ao)] := hl
  refine lv_aload_n hx hb dL_law_125 rfl (lv_at hl 4 rfl) ?_
  refine lv_aload_n hx hb dL_law_126 rfl (lv_at hl 2 rfl) ?_
  refine lv_iload hx hb dL_law_127 (lv_at hl 1 rfl) ?_
  refine lv_iconst (v := 1) hx hb dL_law_129 (by decide) ?_
  refine lv_iadd hx hb dL_law_130 ?_
  refine va_sld hx hb hX hbl hbA hS (tw_sin1 hi hL) dL_law_131 ?_
  rw [e1]
  refine lv_aload_n hx hb dL_law_132 rfl (lv_at hl 2 rfl) ?_
  refine lv_iload hx hb dL_law_133 (lv_at hl 1 rfl) ?_
  refine lv_iconst (v := 2) hx hb dL_law_135 (by decide) ?_
  refine lv_iadd hx hb dL_law_136 ?_
  refine va_sld hx hb hX hbl hbA hS (tw_sin2 hi hL) dL_law_137 ?_
  rw [e2]
  refine lv_i2l hx hb dL_law_138 rfl ?_
  refine lv_bipush (v := 32) hx hb dL_law_139 (by decide) ?_
  refine lv_lshl hx hb dL_law_141 rfl ?_
  refine lv_aload_n hx hb dL_law_142 rfl (lv_at hl 2 rfl) ?_
  refine lv_iload hx hb dL_law_143 (lv_at hl 1 rfl) ?_
  refine lv_iconst (v := 3) hx hb dL_law_145 (by decide) ?_
  refine lv_iadd hx hb dL_law_146 ?_
  refine va_sld hx hb hX hbl hbA hS (tw_sin3 hi hL) dL_law_147 ?_
  rw [e3]
  refine lv_i2l hx hb dL_law_148 rfl ?_
  refine lv_ldc2 (v := 4294967295) hx hb hown (hT _ tt_292) dL_law_149 ?_
  refine lv_land hx hb dL_law_152 ?_
  refine lv_lor hx hb dL_law_153 ?_
  refine lv_aload_n hx hb dL_law_154 rfl (lv_at hl 2 rfl) ?_
  refine lv_iload hx hb dL_law_155 (lv_at hl 1 rfl) ?_
  refine lv_iconst (v := 4) hx hb dL_law_157 (by decide) ?_
  refine lv_iadd hx hb dL_law_158 ?_
  refine va_sld hx hb hX hbl hbA hS (tw_sin4 hi hL) dL_law_159 ?_
  rw [e4]
  have hPc := hP.sub (ws' := (tw_wM mh ma0 ma1 ma2 ma3 km0 km1 km2 km3 fl th tm pr ag ck nx)) [5, 6, 7, 8, 9] rfl
  have hDc := hD.sub (ws' := (tw_wM mh ma0 ma1 ma2 ma3 km0 km1 km2 km3 fl th tm pr ag ck nx)) [5, 6, 7, 8, 9] (by decide) rfl
  have hKc := hK.sub (tys' := tw_k km0 km1 km2 km3) [4, 5, 6, 7] rfl
  have hFc := va_free (wc := (tw_wM mh ma0 ma1 ma2 ma3 km0 km1 km2 km3 fl th tm pr ag ck nx)) hD hS hA [5, 6, 7, 8, 9] rfl
  refine va_calli (va_runV (C := RM) (b := mh) (As := [.int j1, .long ((j2.toInt64 <<< ((32 : Int32).toInt64 &&& 63)) ||| (j3.toInt64 &&& 4294967295)), .int j4]) (rest := []) ⟨hx, hb, hml, hown, hT⟩ (cM_setB l dC dI mh ma0 ma1 ma2 ma3 km0 km1 km2 km3 fl th tm pr ag ck nx H.size j1 _ j4 hbad) (cwV 3 hT (tw_gV tt_243 tt_244 tt_245 tt_2 tt_246) rfl rfl rfl ⟨rfl, by decide +kernel⟩ ⟨Nat.le_of_ble_eq_true rfl, Nat.le_of_ble_eq_true rfl⟩) ⟨fun a U g mk q => by obtain ⟨q0, q1, qP, qK, qD⟩ := q; exact ⟨q0, q1, qP, va_K.moved (u := U) (U := U.calling g mk a) (Vm.Alike.refl U.vm) qK, qD⟩, va_recv (q0 := 0) (ci := 1) hKc hPc rfl rfl, fun U hU hW => ⟨rfl, by rw [hU], by rw [hU]; exact hPc, va_K.moved hW.alike hKc, hDc.weaken (fun _ _ _ _ => trivial)⟩⟩ rfl rfl hl.1 rfl (lv_room (Nat.le_of_ble_eq_true rfl)) dL_law_160 hc) hS (fun q _ h => hFc q h) hFc (fun r9 u9 t9 H1 locs ht9 hvm9 hw9 hB9 hz9 hk9 hS => ?_)
  obtain ⟨hP1, hD1⟩ := hB9
  rw [ht9] at hP1
  have hw9 : r9 = 0 := hw9
  subst r9
  obtain ⟨hP, hD⟩ := va_join (wr := [(xh, .inr (0, [.ref xa0, .ref xa1, .ref xa2, .ref xa3, .long ck, .int nx])), (xa0, .inl (kx0, 100, .inl th)), (xa1, .inl (kx1, 100, .inr (.inl tm))), (xa2, .inl (kx2, 100, .inl pr)), (xa3, .inl (kx3, 100, .inl ag)), (ao, .inl (k4, 1, .inr (.inl ou)))]) (w1 := (tw_wM mh ma0 ma1 ma2 ma3 km0 km1 km2 km3 1 th tm pr ag ck nx)) hP hD [5, 6, 7, 8, 9] [0, 1, 2, 3, 4, 10] rfl rfl (by decide) (by decide) hk9 hFc hP1 hD1
  generalize H1 = H at hP hS ⊢
  have hP := hP.sub (ws' := [(xh, .inr (0, [.ref xa0, .ref xa1, .ref xa2, .ref xa3, .long ck, .int nx])), (xa0, .inl (kx0, 100, .inl th)), (xa1, .inl (kx1, 100, .inr (.inl tm))), (xa2, .inl (kx2, 100, .inl pr)), (xa3, .inl (kx3, 100, .inl ag)), (mh, .inr (1, [.int 1, .ref ma0, .ref ma1, .ref ma2, .ref ma3, .int nx, .long ck])), (ma0, .inl (km0, 100, .inl th)), (ma1, .inl (km1, 100, .inr (.inl tm))), (ma2, .inl (km2, 100, .inl pr)), (ma3, .inl (km3, 100, .inl ag)), (ao, .inl (k4, 1, .inr (.inl ou)))]) [0, 1, 2, 3, 4, 6, 7, 8, 9, 10, 5] rfl
  have hD := hD.sub (ws' := [(xh, .inr (0, [.ref xa0, .ref xa1, .ref xa2, .ref xa3, .long ck, .int nx])), (xa0, .inl (kx0, 100, .inl th)), (xa1, .inl (kx1, 100, .inr (.inl tm))), (xa2, .inl (kx2, 100, .inl pr)), (xa3, .inl (kx3, 100, .inl ag)), (mh, .inr (1, [.int 1, .ref ma0, .ref ma1, .ref ma2, .ref ma3, .int nx, .long ck])), (ma0, .inl (km0, 100, .inl th)), (ma1, .inl (km1, 100, .inr (.inl tm))), (ma2, .inl (km2, 100, .inl pr)), (ma3, .inl (km3, 100, .inl ag)), (ao, .inl (k4, 1, .inr (.inl ou)))]) [0, 1, 2, 3, 4, 6, 7, 8, 9, 10, 5] (by decide) rfl
  refine lv_istore hx hb dL_law_163 hl (by decide) rfl (fun ls hl => ?_)
  have hl : lv_has ls 8 [(6, .int 0), (5, .int 1), (4, .int (nI i)), (0, .ref b), (1, .ref xh), (2, .ref mh), (3, .ref ao)] := hl
  refine lv_aload_n hx hb dL_law_165 rfl (lv_at hl 5 rfl) ?_
  have hPc := hP.sub (ws' := (tw_wM mh ma0 ma1 ma2 ma3 km0 km1 km2 km3 1 th tm pr ag ck nx)) [5, 6, 7, 8, 9] rfl
  have hKc := hK.sub (tys' := tw_k km0 km1 km2 km3) [4, 5, 6, 7] rfl
  refine vp_callSi (W.runV (C := RM) (b := mh) (As := []) (rest := []) ⟨hx, hb, hml, hown, hT⟩ (cM_thrown l dC dI mh ma0 ma1 ma2 ma3 km0 km1 km2 km3 1 th tm pr ag ck nx) (cwV 0 hT (tw_gV tt_239 tt_240 tt_241 tt_2 tt_242) rfl rfl rfl ⟨rfl, by decide +kernel⟩ ⟨Nat.le_of_ble_eq_true rfl, Nat.le_of_ble_eq_true rfl⟩) ⟨fun a U g mk q => ⟨q.1, q.2.1, va_K.moved (u := U) (U := U.calling g mk a) (Vm.Alike.refl U.vm) q.2.2⟩, va_recv (q0 := 0) (ci := 1) hKc hPc rfl rfl, fun U hU hW => ⟨rfl, by rw [hU]; exact hPc, va_K.moved hW.alike hKc⟩⟩ rfl rfl hl.1 rfl (lv_room (Nat.le_of_ble_eq_true rfl)) dL_law_166 hc) (fun r8 h8 => ?_)
  subst r8
  refine lv_iload hx hb dL_law_169 (lv_at hl 1 rfl) ?_
  refine lv_icmp_eq (tgt := 176) hx hb dL_law_171 (by decide) (fun hc1 => ?_) (fun hc1 => absurd (rfl : (1 : Int32) = 1) hc1)
  refine lv_iload hx hb dL_law_176 (lv_at hl 1 rfl) ?_
  refine lv_if_ne (tgt := 193) hx hb dL_law_178 (by decide) (fun hc2 => ?_) (fun hc2 => absurd hc2 (by decide))
  refine lv_goto (tgt := 563) hx hb dL_law_193 (by decide) ?_
  exact kk 1 th tm pr ag ck nx ou H _ ls hI hP hD hS (lv_sub hl [2, 3, 4, 5, 6] rfl)
end LLsetB
section LLdrop
variable {p : Program} {l : Launch} {e : Env} {s : State} {m : MethodId} {below : List Frame} {meth : Method} {c : Code} {H : Heap} {locs : List Loc} {cells slots : Nat} {Q : State → Prop} {ls : Array Slot} {b L i : Nat} {xs : Nat → Int32}
variable {dC : Nat → ClassId} {dI : Nat → Nat → Nat} {xh xa0 xa1 xa2 xa3 : Nat} {kx0 kx1 kx2 kx3 : ClassId} {mh ma0 ma1 ma2 ma3 : Nat} {km0 km1 km2 km3 : ClassId} {ao : Nat} {k4 : ClassId} {fl : Int32} {th : Nat → Int32} {tm : Nat → Int64} {pr ag : Nat → Int32} {ck : Int64} {nx : Int32} {ou : Nat → Int64}
set_option maxHeartbeats 4000000 in
set_option maxRecDepth 100000 in
theorem ll_drop (hx : p.tables.exec = Jvm.exec) (hb : c.code = bL_law) (hml : c.maxLocals = 8) (hT : ∀ w ∈ tw_T, w.before #[Value.ref b] s = true) (hown : s.vm.findClass RL = some m.cls) (hfl : l.flags = pinnedFlags ++ [noTraceFlag]) (hX : va_X b L xs s s.heap) (hbl : b < s.heap.size) (hZ : tw_Z s s.heap) (hNc : va_Nc tw_nse tw_iae s) (hL : L ≤ 2560) (hi : i + 5 ≤ L) (hc : cells + 1 ≤ 1044 ∧ slots + 6 ≤ 9060) (hI : tw_Inv tm ck) (hP : va_P (dC, dI) tw_cl (tw_wL xh xa0 xa1 xa2 xa3 kx0 kx1 kx2 kx3 mh ma0 ma1 ma2 ma3 km0 km1 km2 km3 ao k4 fl th tm pr ag ck nx ou) H) (hD : va_D (tw_AL s) (tw_wL xh xa0 xa1 xa2 xa3 kx0 kx1 kx2 kx3 mh ma0 ma1 ma2 ma3 km0 km1 km2 km3 ao k4 fl th tm pr ag ck nx ou)) (hK : va_K (dC, dI) tw_cl (tw_kL kx0 kx1 kx2 kx3 km0 km1 km2 km3 k4) s) (hS : va_S (tw_AL s) s.heap H locs) (hl : lv_has ls 8 [(4, .int (nI i)), (0, .ref b), (1, .ref xh), (2, .ref mh), (3, .ref ao)]) {j1 : Int32} (e1 : xs (nI i + 1).toNatClampNeg = j1) (hj : vp_in j1 100) (ht : ¬ th j1.toNatClampNeg = 0) (kk : ∀ (fl' : Int32) (th' : Nat → Int32) (tm' : Nat → Int64) (pr' ag' : Nat → Int32) (ck' : Int64) (nx' : Int32) (ou' : Nat → Int64) (H' : Heap) (locs' : List Loc) (ls' : Array Slot), tw_Inv tm' ck' → va_P (dC, dI) tw_cl (tw_wL xh xa0 xa1 xa2 xa3 kx0 kx1 kx2 kx3 mh ma0 ma1 ma2 ma3 km0 km1 km2 km3 ao k4 fl' (th') (tm') (pr') (ag') (ck') (nx') (ou')) H' → va_D (tw_AL s) (tw_wL xh xa0 xa1 xa2 xa3 kx0 kx1 kx2 kx3 mh ma0 ma1 ma2 ma3 km0 km1 km2 km3 ao k4 (fl') (th') (tm') (pr') (ag') (ck') (nx') (ou')) → va_S (tw_AL s) s.heap H' locs' → lv_has ls' 8 [(4, .int (nI i)), (0, .ref b), (1, .ref xh), (2, .ref mh), (3, .ref ao)] → W p l e room_1 s m #[Value.ref b] below meth c H' locs' (cells + 1) (slots + 6) Q (F0 m 563 ls' [])) : W p l e room_1 s m #[Value.ref b] below meth c H locs cells slots Q (F0 m 196 ls []) := by
  have hA : ∀ q : Nat, s.heap.size ≤ q → tw_AL s q := fun q h => h
  have hbA : ¬ tw_AL s b := Nat.not_le.mpr hbl
  refine lv_aload_n hx hb dL_law_196 rfl (lv_at hl 2 rfl) ?_
  refine lv_aload_n hx hb dL_law_197 rfl (lv_at hl 1 rfl) ?_
  refine lv_iload hx hb dL_law_198 (lv_at hl 0 rfl) ?_
  refine lv_iconst (v := 1) hx hb dL_law_200 (by decide) ?_
  refine lv_iadd hx hb dL_law_201 ?_
  refine va_sld hx hb hX hbl hbA hS (tw_sin1 hi hL) dL_law_202 ?_
  rw [e1]
  refine lv_aload_n hx hb dL_law_203 rfl (lv_at hl 4 rfl) ?_
  have hPc := hP.sub (ws' := (tw_wH xh xa0 xa1 xa2 xa3 kx0 kx1 kx2 kx3 th tm pr ag ck nx ao k4 ou)) [0, 1, 2, 3, 4, 10] rfl
  have hDc := hD.sub (ws' := (tw_wH xh xa0 xa1 xa2 xa3 kx0 kx1 kx2 kx3 th tm pr ag ck nx ao k4 ou)) [0, 1, 2, 3, 4, 10] (by decide) rfl
  have hKc := hK.sub (tys' := tw_kH kx0 kx1 kx2 kx3 k4) [0, 1, 2, 3, 8] rfl
  have hFc := va_free (wc := (tw_wH xh xa0 xa1 xa2 xa3 kx0 kx1 kx2 kx3 th tm pr ag ck nx ao k4 ou)) hD hS hA [0, 1, 2, 3, 4, 10] rfl
  refine va_calli (xt_runSW (n := 3) (As := [.ref xh, .int j1, .ref ao]) (rest := []) ⟨hx, hb, hml, hown, hT⟩ (cL_drop l dC dI xh xa0 xa1 xa2 xa3 kx0 kx1 kx2 kx3 th tm pr ag ck nx ao k4 ou H.size j1 hj ht) rfl (tw_gS tt_127 tt_128 tt_0 tt_129) rfl rfl ⟨rfl, by decide +kernel⟩ ⟨Nat.le_of_ble_eq_true rfl, Nat.le_of_ble_eq_true rfl⟩ ⟨fun a U g mk q => by obtain ⟨q0, q1, qP, qK, qD⟩ := q; exact ⟨q0, q1, qP, va_K.moved (u := U) (U := U.calling g mk a) (Vm.Alike.refl U.vm) qK, qD⟩, fun U hU hW => ⟨rfl, by rw [hU], by rw [hU]; exact hPc, va_K.moved hW.alike hKc, hDc.weaken (fun _ _ _ _ => trivial)⟩⟩ rfl rfl hl.1 rfl (lv_room (Nat.le_of_ble_eq_true rfl)) dL_law_204 ⟨Nat.le_trans (Nat.le_succ _) hc.1, Nat.le_trans (Nat.le_add_right _ 6) hc.2⟩) hS (fun q _ h => hFc q h) hFc (fun r9 u9 t9 H1 locs ht9 hvm9 hw9 hB9 hz9 hk9 hS => ?_)
  obtain ⟨hP1, hD1⟩ := hB9
  rw [ht9] at hP1
  have hw9 : r9 = 0 := hw9
  subst r9
  obtain ⟨hP, hD⟩ := va_join (wr := (tw_wM mh ma0 ma1 ma2 ma3 km0 km1 km2 km3 fl th tm pr ag ck nx)) (w1 := (tw_wH xh xa0 xa1 xa2 xa3 kx0 kx1 kx2 kx3 (upd th j1.toNatClampNeg (vp_nar .boolean 0)) tm pr ag ck nx ao k4 (vp_updL ou (0 : Int32).toNatClampNeg (tm j1.toNatClampNeg)))) hP hD [0, 1, 2, 3, 4, 10] [5, 6, 7, 8, 9] rfl rfl (by decide) (by decide) hk9 hFc hP1 hD1
  generalize H1 = H at hP hS ⊢
  have hP := hP.sub (ws' := [(xh, .inr (0, [.ref xa0, .ref xa1, .ref xa2, .ref xa3, .long ck, .int nx])), (xa0, .inl (kx0, 100, .inl (upd th j1.toNatClampNeg (vp_nar .boolean 0)))), (xa1, .inl (kx1, 100, .inr (.inl tm))), (xa2, .inl (kx2, 100, .inl pr)), (xa3, .inl (kx3, 100, .inl ag)), (mh, .inr (1, [.int fl, .ref ma0, .ref ma1, .ref ma2, .ref ma3, .int nx, .long ck])), (ma0, .inl (km0, 100, .inl th)), (ma1, .inl (km1, 100, .inr (.inl tm))), (ma2, .inl (km2, 100, .inl pr)), (ma3, .inl (km3, 100, .inl ag)), (ao, .inl (k4, 1, .inr (.inl (vp_updL ou (0 : Int32).toNatClampNeg (tm j1.toNatClampNeg)))))]) [5, 6, 7, 8, 9, 0, 1, 2, 3, 4, 10] rfl
  have hD := hD.sub (ws' := [(xh, .inr (0, [.ref xa0, .ref xa1, .ref xa2, .ref xa3, .long ck, .int nx])), (xa0, .inl (kx0, 100, .inl (upd th j1.toNatClampNeg (vp_nar .boolean 0)))), (xa1, .inl (kx1, 100, .inr (.inl tm))), (xa2, .inl (kx2, 100, .inl pr)), (xa3, .inl (kx3, 100, .inl ag)), (mh, .inr (1, [.int fl, .ref ma0, .ref ma1, .ref ma2, .ref ma3, .int nx, .long ck])), (ma0, .inl (km0, 100, .inl th)), (ma1, .inl (km1, 100, .inr (.inl tm))), (ma2, .inl (km2, 100, .inl pr)), (ma3, .inl (km3, 100, .inl ag)), (ao, .inl (k4, 1, .inr (.inl (vp_updL ou (0 : Int32).toNatClampNeg (tm j1.toNatClampNeg)))))]) [5, 6, 7, 8, 9, 0, 1, 2, 3, 4, 10] (by decide) rfl
  refine lv_istore hx hb dL_law_207 hl (by decide) rfl (fun ls hl => ?_)
  have hl : lv_has ls 8 [(5, .int 0), (4, .int (nI i)), (0, .ref b), (1, .ref xh), (2, .ref mh), (3, .ref ao)] := hl
  refine lv_aload_n hx hb dL_law_209 rfl (lv_at hl 4 rfl) ?_
  refine lv_aload_n hx hb dL_law_210 rfl (lv_at hl 2 rfl) ?_
  refine lv_iload hx hb dL_law_211 (lv_at hl 1 rfl) ?_
  refine lv_iconst (v := 1) hx hb dL_law_213 (by decide) ?_
  refine lv_iadd hx hb dL_law_214 ?_
  refine va_sld hx hb hX hbl hbA hS (tw_sin1 hi hL) dL_law_215 ?_
  rw [e1]
  have hPc := hP.sub (ws' := (tw_wM mh ma0 ma1 ma2 ma3 km0 km1 km2 km3 fl th tm pr ag ck nx)) [5, 6, 7, 8, 9] rfl
  have hDc := hD.sub (ws' := (tw_wM mh ma0 ma1 ma2 ma3 km0 km1 km2 km3 fl th tm pr ag ck nx)) [5, 6, 7, 8, 9] (by decide) rfl
  have hKc := hK.sub (tys' := tw_k km0 km1 km2 km3) [4, 5, 6, 7] rfl
  have hFc := va_free (wc := (tw_wM mh ma0 ma1 ma2 ma3 km0 km1 km2 km3 fl th tm pr ag ck nx)) hD hS hA [5, 6, 7, 8, 9] rfl
  refine va_calll (va_runV (C := RM) (b := mh) (As := [.int j1]) (rest := []) ⟨hx, hb, hml, hown, hT⟩ (cM_drop l dC dI mh ma0 ma1 ma2 ma3 km0 km1 km2 km3 fl th tm pr ag ck nx H.size j1 hj ht) (cwV 1 hT (tw_gV tt_252 tt_253 tt_254 tt_2 tt_255) rfl rfl rfl ⟨rfl, by decide +kernel⟩ ⟨Nat.le_of_ble_eq_true rfl, Nat.le_of_ble_eq_true rfl⟩) ⟨fun a U g mk q => by obtain ⟨q0, q1, qP, qK, qD⟩ := q; exact ⟨q0, q1, qP, va_K.moved (u := U) (U := U.calling g mk a) (Vm.Alike.refl U.vm) qK, qD⟩, va_recv (q0 := 0) (ci := 1) hKc hPc rfl rfl, fun U hU hW => ⟨rfl, by rw [hU], by rw [hU]; exact hPc, va_K.moved hW.alike hKc, hDc.weaken (fun _ _ _ _ => trivial)⟩⟩ rfl rfl hl.1 rfl (lv_room (Nat.le_of_ble_eq_true rfl)) dL_law_216 ⟨Nat.le_trans (Nat.le_succ _) hc.1, Nat.le_trans (Nat.le_add_right _ 6) hc.2⟩) hS (fun q _ h => hFc q h) hFc (fun r9 u9 t9 H1 locs ht9 hvm9 hw9 hB9 hz9 hk9 hS => ?_)
  obtain ⟨hP1, hD1⟩ := hB9
  rw [ht9] at hP1
  have hw9 : r9 = tm j1.toNatClampNeg := hw9
  subst r9
  obtain ⟨hP, hD⟩ := va_join (wr := [(xh, .inr (0, [.ref xa0, .ref xa1, .ref xa2, .ref xa3, .long ck, .int nx])), (xa0, .inl (kx0, 100, .inl (upd th j1.toNatClampNeg (vp_nar .boolean 0)))), (xa1, .inl (kx1, 100, .inr (.inl tm))), (xa2, .inl (kx2, 100, .inl pr)), (xa3, .inl (kx3, 100, .inl ag)), (ao, .inl (k4, 1, .inr (.inl (vp_updL ou (0 : Int32).toNatClampNeg (tm j1.toNatClampNeg)))))]) (w1 := (tw_wM mh ma0 ma1 ma2 ma3 km0 km1 km2 km3 0 (upd th j1.toNatClampNeg (vp_nar .boolean 0)) tm pr ag ck nx)) hP hD [5, 6, 7, 8, 9] [0, 1, 2, 3, 4, 10] rfl rfl (by decide) (by decide) hk9 hFc hP1 hD1
  generalize H1 = H at hP hS ⊢
  have hP := hP.sub (ws' := [(xh, .inr (0, [.ref xa0, .ref xa1, .ref xa2, .ref xa3, .long ck, .int nx])), (xa0, .inl (kx0, 100, .inl (upd th j1.toNatClampNeg (vp_nar .boolean 0)))), (xa1, .inl (kx1, 100, .inr (.inl tm))), (xa2, .inl (kx2, 100, .inl pr)), (xa3, .inl (kx3, 100, .inl ag)), (mh, .inr (1, [.int 0, .ref ma0, .ref ma1, .ref ma2, .ref ma3, .int nx, .long ck])), (ma0, .inl (km0, 100, .inl (upd th j1.toNatClampNeg (vp_nar .boolean 0)))), (ma1, .inl (km1, 100, .inr (.inl tm))), (ma2, .inl (km2, 100, .inl pr)), (ma3, .inl (km3, 100, .inl ag)), (ao, .inl (k4, 1, .inr (.inl (vp_updL ou (0 : Int32).toNatClampNeg (tm j1.toNatClampNeg)))))]) [0, 1, 2, 3, 4, 6, 7, 8, 9, 10, 5] rfl
  have hD := hD.sub (ws' := [(xh, .inr (0, [.ref xa0, .ref xa1, .ref xa2, .ref xa3, .long ck, .int nx])), (xa0, .inl (kx0, 100, .inl (upd th j1.toNatClampNeg (vp_nar .boolean 0)))), (xa1, .inl (kx1, 100, .inr (.inl tm))), (xa2, .inl (kx2, 100, .inl pr)), (xa3, .inl (kx3, 100, .inl ag)), (mh, .inr (1, [.int 0, .ref ma0, .ref ma1, .ref ma2, .ref ma3, .int nx, .long ck])), (ma0, .inl (km0, 100, .inl (upd th j1.toNatClampNeg (vp_nar .boolean 0)))), (ma1, .inl (km1, 100, .inr (.inl tm))), (ma2, .inl (km2, 100, .inl pr)), (ma3, .inl (km3, 100, .inl ag)), (ao, .inl (k4, 1, .inr (.inl (vp_updL ou (0 : Int32).toNatClampNeg (tm j1.toNatClampNeg)))))]) [0, 1, 2, 3, 4, 6, 7, 8, 9, 10, 5] (by decide) rfl
  refine lv_lstore hx hb dL_law_219 hl (by decide) rfl (fun ls hl => ?_)
  have hl : lv_has ls 8 [(6, .long (tm j1.toNatClampNeg)), (5, .int 0), (4, .int (nI i)), (0, .ref b), (1, .ref xh), (2, .ref mh), (3, .ref ao)] := hl
  refine lv_aload_n hx hb dL_law_221 rfl (lv_at hl 5 rfl) ?_
  have hPc := hP.sub (ws' := (tw_wM mh ma0 ma1 ma2 ma3 km0 km1 km2 km3 0 (upd th j1.toNatClampNeg (vp_nar .boolean 0)) tm pr ag ck nx)) [5, 6, 7, 8, 9] rfl
  have hKc := hK.sub (tys' := tw_k km0 km1 km2 km3) [4, 5, 6, 7] rfl
  refine vp_callSi (W.runV (C := RM) (b := mh) (As := []) (rest := []) ⟨hx, hb, hml, hown, hT⟩ (cM_thrown l dC dI mh ma0 ma1 ma2 ma3 km0 km1 km2 km3 0 (upd th j1.toNatClampNeg (vp_nar .boolean 0)) tm pr ag ck nx) (cwV 0 hT (tw_gV tt_239 tt_240 tt_241 tt_2 tt_242) rfl rfl rfl ⟨rfl, by decide +kernel⟩ ⟨Nat.le_of_ble_eq_true rfl, Nat.le_of_ble_eq_true rfl⟩) ⟨fun a U g mk q => ⟨q.1, q.2.1, va_K.moved (u := U) (U := U.calling g mk a) (Vm.Alike.refl U.vm) q.2.2⟩, va_recv (q0 := 0) (ci := 1) hKc hPc rfl rfl, fun U hU hW => ⟨rfl, by rw [hU]; exact hPc, va_K.moved hW.alike hKc⟩⟩ rfl rfl hl.1 rfl (lv_room (Nat.le_of_ble_eq_true rfl)) dL_law_222 ⟨Nat.le_trans (Nat.le_succ _) hc.1, Nat.le_trans (Nat.le_add_right _ 6) hc.2⟩) (fun r8 h8 => ?_)
  subst r8
  refine lv_iload hx hb dL_law_225 (lv_at hl 1 rfl) ?_
  refine lv_icmp_eq (tgt := 232) hx hb dL_law_227 (by decide) (fun hc1 => ?_) (fun hc1 => absurd (rfl : (0 : Int32) = 0) hc1)
  refine lv_iload hx hb dL_law_232 (lv_at hl 1 rfl) ?_
  refine lv_if_ne (tgt := 248) hx hb dL_law_234 (by decide) (fun hc2 => absurd rfl hc2) (fun hc2 => ?_)
  refine lv_aload_n hx hb dL_law_237 rfl (lv_at hl 6 rfl) ?_
  refine lv_iconst (v := 0) hx hb dL_law_238 (by decide) ?_
  refine va_lald hx hb hK hP 10 8 rfl rfl (by unfold vp_in; decide) dL_law_239 ?_
  refine lv_lload hx hb dL_law_240 (lv_at hl 0 rfl) ?_
  refine W.lcmp hx hb dL_law_242 ?_
  refine lv_if_eq (tgt := 248) hx hb dL_law_243 (by decide) (fun hc3 => ?_) (fun hc3 => absurd ((lg_cmp_eq _ _).mpr pk_uLs) hc3)
  refine lv_goto (tgt := 563) hx hb dL_law_248 (by decide) ?_
  refine W.widen (k := cells + 1) (n := slots + 6) (Nat.le_succ _) (Nat.le_add_right _ 6) ?_
  exact kk 0 (upd th j1.toNatClampNeg (vp_nar .boolean 0)) tm pr ag ck nx (vp_updL ou (0 : Int32).toNatClampNeg (tm j1.toNatClampNeg)) H _ ls hI hP hD hS (lv_sub hl [2, 3, 4, 5, 6] rfl)
end LLdrop
section LLdropA
variable {p : Program} {l : Launch} {e : Env} {s : State} {m : MethodId} {below : List Frame} {meth : Method} {c : Code} {H : Heap} {locs : List Loc} {cells slots : Nat} {Q : State → Prop} {ls : Array Slot} {b L i : Nat} {xs : Nat → Int32}
variable {dC : Nat → ClassId} {dI : Nat → Nat → Nat} {xh xa0 xa1 xa2 xa3 : Nat} {kx0 kx1 kx2 kx3 : ClassId} {mh ma0 ma1 ma2 ma3 : Nat} {km0 km1 km2 km3 : ClassId} {ao : Nat} {k4 : ClassId} {fl : Int32} {th : Nat → Int32} {tm : Nat → Int64} {pr ag : Nat → Int32} {ck : Int64} {nx : Int32} {ou : Nat → Int64}
set_option maxHeartbeats 4000000 in
set_option maxRecDepth 100000 in
theorem ll_dropA (hx : p.tables.exec = Jvm.exec) (hb : c.code = bL_law) (hml : c.maxLocals = 8) (hT : ∀ w ∈ tw_T, w.before #[Value.ref b] s = true) (hown : s.vm.findClass RL = some m.cls) (hfl : l.flags = pinnedFlags ++ [noTraceFlag]) (hX : va_X b L xs s s.heap) (hbl : b < s.heap.size) (hZ : tw_Z s s.heap) (hNc : va_Nc tw_nse tw_iae s) (hL : L ≤ 2560) (hi : i + 5 ≤ L) (hc : cells + 1 ≤ 1044 ∧ slots + 6 ≤ 9060) (hI : tw_Inv tm ck) (hP : va_P (dC, dI) tw_cl (tw_wL xh xa0 xa1 xa2 xa3 kx0 kx1 kx2 kx3 mh ma0 ma1 ma2 ma3 km0 km1 km2 km3 ao k4 fl th tm pr ag ck nx ou) H) (hD : va_D (tw_AL s) (tw_wL xh xa0 xa1 xa2 xa3 kx0 kx1 kx2 kx3 mh ma0 ma1 ma2 ma3 km0 km1 km2 km3 ao k4 fl th tm pr ag ck nx ou)) (hK : va_K (dC, dI) tw_cl (tw_kL kx0 kx1 kx2 kx3 km0 km1 km2 km3 k4) s) (hS : va_S (tw_AL s) s.heap H locs) (hl : lv_has ls 8 [(4, .int (nI i)), (0, .ref b), (1, .ref xh), (2, .ref mh), (3, .ref ao)]) {j1 : Int32} (e1 : xs (nI i + 1).toNatClampNeg = j1) (hj : ¬ vp_in j1 100) (kk : ∀ (fl' : Int32) (th' : Nat → Int32) (tm' : Nat → Int64) (pr' ag' : Nat → Int32) (ck' : Int64) (nx' : Int32) (ou' : Nat → Int64) (H' : Heap) (locs' : List Loc) (ls' : Array Slot), tw_Inv tm' ck' → va_P (dC, dI) tw_cl (tw_wL xh xa0 xa1 xa2 xa3 kx0 kx1 kx2 kx3 mh ma0 ma1 ma2 ma3 km0 km1 km2 km3 ao k4 fl' (th') (tm') (pr') (ag') (ck') (nx') (ou')) H' → va_D (tw_AL s) (tw_wL xh xa0 xa1 xa2 xa3 kx0 kx1 kx2 kx3 mh ma0 ma1 ma2 ma3 km0 km1 km2 km3 ao k4 (fl') (th') (tm') (pr') (ag') (ck') (nx') (ou')) → va_S (tw_AL s) s.heap H' locs' → lv_has ls' 8 [(4, .int (nI i)), (0, .ref b), (1, .ref xh), (2, .ref mh), (3, .ref ao)] → W p l e room_1 s m #[Value.ref b] below meth c H' locs' (cells + 1) (slots + 6) Q (F0 m 563 ls' [])) : W p l e room_1 s m #[Value.ref b] below meth c H locs cells slots Q (F0 m 196 ls []) := by
  have hA : ∀ q : Nat, s.heap.size ≤ q → tw_AL s q := fun q h => h
  have hbA : ¬ tw_AL s b := Nat.not_le.mpr hbl
  refine lv_aload_n hx hb dL_law_196 rfl (lv_at hl 2 rfl) ?_
  refine lv_aload_n hx hb dL_law_197 rfl (lv_at hl 1 rfl) ?_
  refine lv_iload hx hb dL_law_198 (lv_at hl 0 rfl) ?_
  refine lv_iconst (v := 1) hx hb dL_law_200 (by decide) ?_
  refine lv_iadd hx hb dL_law_201 ?_
  refine va_sld hx hb hX hbl hbA hS (tw_sin1 hi hL) dL_law_202 ?_
  rw [e1]
  refine lv_aload_n hx hb dL_law_203 rfl (lv_at hl 4 rfl) ?_
  have hPc := hP.sub (ws' := (tw_wH xh xa0 xa1 xa2 xa3 kx0 kx1 kx2 kx3 th tm pr ag ck nx ao k4 ou)) [0, 1, 2, 3, 4, 10] rfl
  have hDc := hD.sub (ws' := (tw_wH xh xa0 xa1 xa2 xa3 kx0 kx1 kx2 kx3 th tm pr ag ck nx ao k4 ou)) [0, 1, 2, 3, 4, 10] (by decide) rfl
  have hKc := hK.sub (tys' := tw_kH kx0 kx1 kx2 kx3 k4) [0, 1, 2, 3, 8] rfl
  have hFc := va_free (wc := (tw_wH xh xa0 xa1 xa2 xa3 kx0 kx1 kx2 kx3 th tm pr ag ck nx ao k4 ou)) hD hS hA [0, 1, 2, 3, 4, 10] rfl
  have hZH : ∀ U : State, U.heap = H → s.WarmedH U.vm → tw_Z U U.heap := fun U hU hW => by rw [hU]; exact hZ.move hW (fun a ha => hS.2.1 a ha (Nat.not_le.mpr ha))
  refine va_calli (xt_runSW (n := 3) (As := [.ref xh, .int j1, .ref ao]) (rest := []) ⟨hx, hb, hml, hown, hT⟩ (cL_dropA l hfl dC dI xh xa0 xa1 xa2 xa3 kx0 kx1 kx2 kx3 th tm pr ag ck nx ao k4 ou H.size j1 hj) rfl (tw_gS tt_127 tt_128 tt_0 tt_129) rfl rfl ⟨rfl, by decide +kernel⟩ ⟨Nat.le_of_ble_eq_true rfl, Nat.le_of_ble_eq_true rfl⟩ ⟨fun a U g mk q => by obtain ⟨q0, q1, qP, qK, qD, qZ⟩ := q; exact ⟨q0, q1, qP, va_K.moved (u := U) (U := U.calling g mk a) (Vm.Alike.refl U.vm) qK, qD, qZ.call⟩, fun U hU hW => ⟨rfl, by rw [hU], by rw [hU]; exact hPc, va_K.moved hW.alike hKc, hDc.weaken (fun _ _ _ _ => trivial), hZH U hU hW⟩⟩ rfl rfl hl.1 rfl (lv_room (Nat.le_of_ble_eq_true rfl)) dL_law_204 hc) hS (fun q _ h => hFc q h) hFc (fun r9 u9 t9 H1 locs ht9 hvm9 hw9 hB9 hz9 hk9 hS => ?_)
  obtain ⟨hP1, hD1⟩ := hB9
  rw [ht9] at hP1
  have hw9 : r9 = 1 := hw9
  subst r9
  obtain ⟨hP, hD⟩ := va_join (wr := (tw_wM mh ma0 ma1 ma2 ma3 km0 km1 km2 km3 fl th tm pr ag ck nx)) (w1 := (tw_wH xh xa0 xa1 xa2 xa3 kx0 kx1 kx2 kx3 th tm pr ag ck nx ao k4 ou)) hP hD [0, 1, 2, 3, 4, 10] [5, 6, 7, 8, 9] rfl rfl (by decide) (by decide) hk9 hFc hP1 hD1
  generalize H1 = H at hP hS ⊢
  have hP := hP.sub (ws' := [(xh, .inr (0, [.ref xa0, .ref xa1, .ref xa2, .ref xa3, .long ck, .int nx])), (xa0, .inl (kx0, 100, .inl th)), (xa1, .inl (kx1, 100, .inr (.inl tm))), (xa2, .inl (kx2, 100, .inl pr)), (xa3, .inl (kx3, 100, .inl ag)), (mh, .inr (1, [.int fl, .ref ma0, .ref ma1, .ref ma2, .ref ma3, .int nx, .long ck])), (ma0, .inl (km0, 100, .inl th)), (ma1, .inl (km1, 100, .inr (.inl tm))), (ma2, .inl (km2, 100, .inl pr)), (ma3, .inl (km3, 100, .inl ag)), (ao, .inl (k4, 1, .inr (.inl ou)))]) [5, 6, 7, 8, 9, 0, 1, 2, 3, 4, 10] rfl
  have hD := hD.sub (ws' := [(xh, .inr (0, [.ref xa0, .ref xa1, .ref xa2, .ref xa3, .long ck, .int nx])), (xa0, .inl (kx0, 100, .inl th)), (xa1, .inl (kx1, 100, .inr (.inl tm))), (xa2, .inl (kx2, 100, .inl pr)), (xa3, .inl (kx3, 100, .inl ag)), (mh, .inr (1, [.int fl, .ref ma0, .ref ma1, .ref ma2, .ref ma3, .int nx, .long ck])), (ma0, .inl (km0, 100, .inl th)), (ma1, .inl (km1, 100, .inr (.inl tm))), (ma2, .inl (km2, 100, .inl pr)), (ma3, .inl (km3, 100, .inl ag)), (ao, .inl (k4, 1, .inr (.inl ou)))]) [5, 6, 7, 8, 9, 0, 1, 2, 3, 4, 10] (by decide) rfl
  refine lv_istore hx hb dL_law_207 hl (by decide) rfl (fun ls hl => ?_)
  have hl : lv_has ls 8 [(5, .int 1), (4, .int (nI i)), (0, .ref b), (1, .ref xh), (2, .ref mh), (3, .ref ao)] := hl
  refine lv_aload_n hx hb dL_law_209 rfl (lv_at hl 4 rfl) ?_
  refine lv_aload_n hx hb dL_law_210 rfl (lv_at hl 2 rfl) ?_
  refine lv_iload hx hb dL_law_211 (lv_at hl 1 rfl) ?_
  refine lv_iconst (v := 1) hx hb dL_law_213 (by decide) ?_
  refine lv_iadd hx hb dL_law_214 ?_
  refine va_sld hx hb hX hbl hbA hS (tw_sin1 hi hL) dL_law_215 ?_
  rw [e1]
  have hPc := hP.sub (ws' := (tw_wM mh ma0 ma1 ma2 ma3 km0 km1 km2 km3 fl th tm pr ag ck nx)) [5, 6, 7, 8, 9] rfl
  have hDc := hD.sub (ws' := (tw_wM mh ma0 ma1 ma2 ma3 km0 km1 km2 km3 fl th tm pr ag ck nx)) [5, 6, 7, 8, 9] (by decide) rfl
  have hKc := hK.sub (tys' := tw_k km0 km1 km2 km3) [4, 5, 6, 7] rfl
  have hFc := va_free (wc := (tw_wM mh ma0 ma1 ma2 ma3 km0 km1 km2 km3 fl th tm pr ag ck nx)) hD hS hA [5, 6, 7, 8, 9] rfl
  refine va_calll (va_runV (C := RM) (b := mh) (As := [.int j1]) (rest := []) ⟨hx, hb, hml, hown, hT⟩ (cM_dropA l dC dI mh ma0 ma1 ma2 ma3 km0 km1 km2 km3 fl th tm pr ag ck nx H.size j1 hj) (cwV 1 hT (tw_gV tt_252 tt_253 tt_254 tt_2 tt_255) rfl rfl rfl ⟨rfl, by decide +kernel⟩ ⟨Nat.le_of_ble_eq_true rfl, Nat.le_of_ble_eq_true rfl⟩) ⟨fun a U g mk q => by obtain ⟨q0, q1, qP, qK, qD⟩ := q; exact ⟨q0, q1, qP, va_K.moved (u := U) (U := U.calling g mk a) (Vm.Alike.refl U.vm) qK, qD⟩, va_recv (q0 := 0) (ci := 1) hKc hPc rfl rfl, fun U hU hW => ⟨rfl, by rw [hU], by rw [hU]; exact hPc, va_K.moved hW.alike hKc, hDc.weaken (fun _ _ _ _ => trivial)⟩⟩ rfl rfl hl.1 rfl (lv_room (Nat.le_of_ble_eq_true rfl)) dL_law_216 hc) hS (fun q _ h => hFc q h) hFc (fun r9 u9 t9 H1 locs ht9 hvm9 hw9 hB9 hz9 hk9 hS => ?_)
  obtain ⟨hP1, hD1⟩ := hB9
  rw [ht9] at hP1
  have hw9 : r9 = 0 := hw9
  subst r9
  obtain ⟨hP, hD⟩ := va_join (wr := [(xh, .inr (0, [.ref xa0, .ref xa1, .ref xa2, .ref xa3, .long ck, .int nx])), (xa0, .inl (kx0, 100, .inl th)), (xa1, .inl (kx1, 100, .inr (.inl tm))), (xa2, .inl (kx2, 100, .inl pr)), (xa3, .inl (kx3, 100, .inl ag)), (ao, .inl (k4, 1, .inr (.inl ou)))]) (w1 := (tw_wM mh ma0 ma1 ma2 ma3 km0 km1 km2 km3 1 th tm pr ag ck nx)) hP hD [5, 6, 7, 8, 9] [0, 1, 2, 3, 4, 10] rfl rfl (by decide) (by decide) hk9 hFc hP1 hD1
  generalize H1 = H at hP hS ⊢
  have hP := hP.sub (ws' := [(xh, .inr (0, [.ref xa0, .ref xa1, .ref xa2, .ref xa3, .long ck, .int nx])), (xa0, .inl (kx0, 100, .inl th)), (xa1, .inl (kx1, 100, .inr (.inl tm))), (xa2, .inl (kx2, 100, .inl pr)), (xa3, .inl (kx3, 100, .inl ag)), (mh, .inr (1, [.int 1, .ref ma0, .ref ma1, .ref ma2, .ref ma3, .int nx, .long ck])), (ma0, .inl (km0, 100, .inl th)), (ma1, .inl (km1, 100, .inr (.inl tm))), (ma2, .inl (km2, 100, .inl pr)), (ma3, .inl (km3, 100, .inl ag)), (ao, .inl (k4, 1, .inr (.inl ou)))]) [0, 1, 2, 3, 4, 6, 7, 8, 9, 10, 5] rfl
  have hD := hD.sub (ws' := [(xh, .inr (0, [.ref xa0, .ref xa1, .ref xa2, .ref xa3, .long ck, .int nx])), (xa0, .inl (kx0, 100, .inl th)), (xa1, .inl (kx1, 100, .inr (.inl tm))), (xa2, .inl (kx2, 100, .inl pr)), (xa3, .inl (kx3, 100, .inl ag)), (mh, .inr (1, [.int 1, .ref ma0, .ref ma1, .ref ma2, .ref ma3, .int nx, .long ck])), (ma0, .inl (km0, 100, .inl th)), (ma1, .inl (km1, 100, .inr (.inl tm))), (ma2, .inl (km2, 100, .inl pr)), (ma3, .inl (km3, 100, .inl ag)), (ao, .inl (k4, 1, .inr (.inl ou)))]) [0, 1, 2, 3, 4, 6, 7, 8, 9, 10, 5] (by decide) rfl
  refine lv_lstore hx hb dL_law_219 hl (by decide) rfl (fun ls hl => ?_)
  have hl : lv_has ls 8 [(6, .long 0), (5, .int 1), (4, .int (nI i)), (0, .ref b), (1, .ref xh), (2, .ref mh), (3, .ref ao)] := hl
  refine lv_aload_n hx hb dL_law_221 rfl (lv_at hl 5 rfl) ?_
  have hPc := hP.sub (ws' := (tw_wM mh ma0 ma1 ma2 ma3 km0 km1 km2 km3 1 th tm pr ag ck nx)) [5, 6, 7, 8, 9] rfl
  have hKc := hK.sub (tys' := tw_k km0 km1 km2 km3) [4, 5, 6, 7] rfl
  refine vp_callSi (W.runV (C := RM) (b := mh) (As := []) (rest := []) ⟨hx, hb, hml, hown, hT⟩ (cM_thrown l dC dI mh ma0 ma1 ma2 ma3 km0 km1 km2 km3 1 th tm pr ag ck nx) (cwV 0 hT (tw_gV tt_239 tt_240 tt_241 tt_2 tt_242) rfl rfl rfl ⟨rfl, by decide +kernel⟩ ⟨Nat.le_of_ble_eq_true rfl, Nat.le_of_ble_eq_true rfl⟩) ⟨fun a U g mk q => ⟨q.1, q.2.1, va_K.moved (u := U) (U := U.calling g mk a) (Vm.Alike.refl U.vm) q.2.2⟩, va_recv (q0 := 0) (ci := 1) hKc hPc rfl rfl, fun U hU hW => ⟨rfl, by rw [hU]; exact hPc, va_K.moved hW.alike hKc⟩⟩ rfl rfl hl.1 rfl (lv_room (Nat.le_of_ble_eq_true rfl)) dL_law_222 hc) (fun r8 h8 => ?_)
  subst r8
  refine lv_iload hx hb dL_law_225 (lv_at hl 1 rfl) ?_
  refine lv_icmp_eq (tgt := 232) hx hb dL_law_227 (by decide) (fun hc1 => ?_) (fun hc1 => absurd (rfl : (1 : Int32) = 1) hc1)
  refine lv_iload hx hb dL_law_232 (lv_at hl 1 rfl) ?_
  refine lv_if_ne (tgt := 248) hx hb dL_law_234 (by decide) (fun hc2 => ?_) (fun hc2 => absurd hc2 (by decide))
  refine lv_goto (tgt := 563) hx hb dL_law_248 (by decide) ?_
  exact kk 1 th tm pr ag ck nx ou H _ ls hI hP hD hS (lv_sub hl [2, 3, 4, 5, 6] rfl)
end LLdropA
section LLdropN
variable {p : Program} {l : Launch} {e : Env} {s : State} {m : MethodId} {below : List Frame} {meth : Method} {c : Code} {H : Heap} {locs : List Loc} {cells slots : Nat} {Q : State → Prop} {ls : Array Slot} {b L i : Nat} {xs : Nat → Int32}
variable {dC : Nat → ClassId} {dI : Nat → Nat → Nat} {xh xa0 xa1 xa2 xa3 : Nat} {kx0 kx1 kx2 kx3 : ClassId} {mh ma0 ma1 ma2 ma3 : Nat} {km0 km1 km2 km3 : ClassId} {ao : Nat} {k4 : ClassId} {fl : Int32} {th : Nat → Int32} {tm : Nat → Int64} {pr ag : Nat → Int32} {ck : Int64} {nx : Int32} {ou : Nat → Int64}
set_option maxHeartbeats 4000000 in
set_option maxRecDepth 100000 in
theorem ll_dropN (hx : p.tables.exec = Jvm.exec) (hb : c.code = bL_law) (hml : c.maxLocals = 8) (hT : ∀ w ∈ tw_T, w.before #[Value.ref b] s = true) (hown : s.vm.findClass RL = some m.cls) (hfl : l.flags = pinnedFlags ++ [noTraceFlag]) (hX : va_X b L xs s s.heap) (hbl : b < s.heap.size) (hZ : tw_Z s s.heap) (hNc : va_Nc tw_nse tw_iae s) (hL : L ≤ 2560) (hi : i + 5 ≤ L) (hc : cells + 1 ≤ 1044 ∧ slots + 6 ≤ 9060) (hI : tw_Inv tm ck) (hP : va_P (dC, dI) tw_cl (tw_wL xh xa0 xa1 xa2 xa3 kx0 kx1 kx2 kx3 mh ma0 ma1 ma2 ma3 km0 km1 km2 km3 ao k4 fl th tm pr ag ck nx ou) H) (hD : va_D (tw_AL s) (tw_wL xh xa0 xa1 xa2 xa3 kx0 kx1 kx2 kx3 mh ma0 ma1 ma2 ma3 km0 km1 km2 km3 ao k4 fl th tm pr ag ck nx ou)) (hK : va_K (dC, dI) tw_cl (tw_kL kx0 kx1 kx2 kx3 km0 km1 km2 km3 k4) s) (hS : va_S (tw_AL s) s.heap H locs) (hl : lv_has ls 8 [(4, .int (nI i)), (0, .ref b), (1, .ref xh), (2, .ref mh), (3, .ref ao)]) {j1 : Int32} (e1 : xs (nI i + 1).toNatClampNeg = j1) (hj : vp_in j1 100) (ht : th j1.toNatClampNeg = 0) (kk : ∀ (fl' : Int32) (th' : Nat → Int32) (tm' : Nat → Int64) (pr' ag' : Nat → Int32) (ck' : Int64) (nx' : Int32) (ou' : Nat → Int64) (H' : Heap) (locs' : List Loc) (ls' : Array Slot), tw_Inv tm' ck' → va_P (dC, dI) tw_cl (tw_wL xh xa0 xa1 xa2 xa3 kx0 kx1 kx2 kx3 mh ma0 ma1 ma2 ma3 km0 km1 km2 km3 ao k4 fl' (th') (tm') (pr') (ag') (ck') (nx') (ou')) H' → va_D (tw_AL s) (tw_wL xh xa0 xa1 xa2 xa3 kx0 kx1 kx2 kx3 mh ma0 ma1 ma2 ma3 km0 km1 km2 km3 ao k4 (fl') (th') (tm') (pr') (ag') (ck') (nx') (ou')) → va_S (tw_AL s) s.heap H' locs' → lv_has ls' 8 [(4, .int (nI i)), (0, .ref b), (1, .ref xh), (2, .ref mh), (3, .ref ao)] → W p l e room_1 s m #[Value.ref b] below meth c H' locs' (cells + 1) (slots + 6) Q (F0 m 563 ls' [])) : W p l e room_1 s m #[Value.ref b] below meth c H locs cells slots Q (F0 m 196 ls []) := by
  have hA : ∀ q : Nat, s.heap.size ≤ q → tw_AL s q := fun q h => h
  have hbA : ¬ tw_AL s b := Nat.not_le.mpr hbl
  refine lv_aload_n hx hb dL_law_196 rfl (lv_at hl 2 rfl) ?_
  refine lv_aload_n hx hb dL_law_197 rfl (lv_at hl 1 rfl) ?_
  refine lv_iload hx hb dL_law_198 (lv_at hl 0 rfl) ?_
  refine lv_iconst (v := 1) hx hb dL_law_200 (by decide) ?_
  refine lv_iadd hx hb dL_law_201 ?_
  refine va_sld hx hb hX hbl hbA hS (tw_sin1 hi hL) dL_law_202 ?_
  rw [e1]
  refine lv_aload_n hx hb dL_law_203 rfl (lv_at hl 4 rfl) ?_
  have hPc := hP.sub (ws' := (tw_wH xh xa0 xa1 xa2 xa3 kx0 kx1 kx2 kx3 th tm pr ag ck nx ao k4 ou)) [0, 1, 2, 3, 4, 10] rfl
  have hDc := hD.sub (ws' := (tw_wH xh xa0 xa1 xa2 xa3 kx0 kx1 kx2 kx3 th tm pr ag ck nx ao k4 ou)) [0, 1, 2, 3, 4, 10] (by decide) rfl
  have hKc := hK.sub (tys' := tw_kH kx0 kx1 kx2 kx3 k4) [0, 1, 2, 3, 8] rfl
  have hFc := va_free (wc := (tw_wH xh xa0 xa1 xa2 xa3 kx0 kx1 kx2 kx3 th tm pr ag ck nx ao k4 ou)) hD hS hA [0, 1, 2, 3, 4, 10] rfl
  have hZH : ∀ U : State, U.heap = H → s.WarmedH U.vm → tw_Z U U.heap := fun U hU hW => by rw [hU]; exact hZ.move hW (fun a ha => hS.2.1 a ha (Nat.not_le.mpr ha))
  refine va_calli (xt_runSW (n := 3) (As := [.ref xh, .int j1, .ref ao]) (rest := []) ⟨hx, hb, hml, hown, hT⟩ (cL_dropN l hfl dC dI xh xa0 xa1 xa2 xa3 kx0 kx1 kx2 kx3 th tm pr ag ck nx ao k4 ou H.size j1 hj ht) rfl (tw_gS tt_127 tt_128 tt_0 tt_129) rfl rfl ⟨rfl, by decide +kernel⟩ ⟨Nat.le_of_ble_eq_true rfl, Nat.le_of_ble_eq_true rfl⟩ ⟨fun a U g mk q => by obtain ⟨q0, q1, qP, qK, qD, qZ, qN⟩ := q; exact ⟨q0, q1, qP, va_K.moved (u := U) (U := U.calling g mk a) (Vm.Alike.refl U.vm) qK, qD, qZ.call, va_Nc.moved (Vm.Alike.refl U.vm) qN⟩, fun U hU hW => ⟨rfl, by rw [hU], by rw [hU]; exact hPc, va_K.moved hW.alike hKc, hDc.weaken (fun _ _ _ _ => trivial), hZH U hU hW, hNc.moved hW.alike⟩⟩ rfl rfl hl.1 rfl (lv_room (Nat.le_of_ble_eq_true rfl)) dL_law_204 hc) hS (fun q _ h => hFc q h) hFc (fun r9 u9 t9 H1 locs ht9 hvm9 hw9 hB9 hz9 hk9 hS => ?_)
  obtain ⟨hP1, hD1⟩ := hB9
  rw [ht9] at hP1
  have hw9 : r9 = 2 := hw9
  subst r9
  obtain ⟨hP, hD⟩ := va_join (wr := (tw_wM mh ma0 ma1 ma2 ma3 km0 km1 km2 km3 fl th tm pr ag ck nx)) (w1 := (tw_wH xh xa0 xa1 xa2 xa3 kx0 kx1 kx2 kx3 th tm pr ag ck nx ao k4 ou)) hP hD [0, 1, 2, 3, 4, 10] [5, 6, 7, 8, 9] rfl rfl (by decide) (by decide) hk9 hFc hP1 hD1
  generalize H1 = H at hP hS ⊢
  have hP := hP.sub (ws' := [(xh, .inr (0, [.ref xa0, .ref xa1, .ref xa2, .ref xa3, .long ck, .int nx])), (xa0, .inl (kx0, 100, .inl th)), (xa1, .inl (kx1, 100, .inr (.inl tm))), (xa2, .inl (kx2, 100, .inl pr)), (xa3, .inl (kx3, 100, .inl ag)), (mh, .inr (1, [.int fl, .ref ma0, .ref ma1, .ref ma2, .ref ma3, .int nx, .long ck])), (ma0, .inl (km0, 100, .inl th)), (ma1, .inl (km1, 100, .inr (.inl tm))), (ma2, .inl (km2, 100, .inl pr)), (ma3, .inl (km3, 100, .inl ag)), (ao, .inl (k4, 1, .inr (.inl ou)))]) [5, 6, 7, 8, 9, 0, 1, 2, 3, 4, 10] rfl
  have hD := hD.sub (ws' := [(xh, .inr (0, [.ref xa0, .ref xa1, .ref xa2, .ref xa3, .long ck, .int nx])), (xa0, .inl (kx0, 100, .inl th)), (xa1, .inl (kx1, 100, .inr (.inl tm))), (xa2, .inl (kx2, 100, .inl pr)), (xa3, .inl (kx3, 100, .inl ag)), (mh, .inr (1, [.int fl, .ref ma0, .ref ma1, .ref ma2, .ref ma3, .int nx, .long ck])), (ma0, .inl (km0, 100, .inl th)), (ma1, .inl (km1, 100, .inr (.inl tm))), (ma2, .inl (km2, 100, .inl pr)), (ma3, .inl (km3, 100, .inl ag)), (ao, .inl (k4, 1, .inr (.inl ou)))]) [5, 6, 7, 8, 9, 0, 1, 2, 3, 4, 10] (by decide) rfl
  refine lv_istore hx hb dL_law_207 hl (by decide) rfl (fun ls hl => ?_)
  have hl : lv_has ls 8 [(5, .int 2), (4, .int (nI i)), (0, .ref b), (1, .ref xh), (2, .ref mh), (3, .ref ao)] := hl
  refine lv_aload_n hx hb dL_law_209 rfl (lv_at hl 4 rfl) ?_
  refine lv_aload_n hx hb dL_law_210 rfl (lv_at hl 2 rfl) ?_
  refine lv_iload hx hb dL_law_211 (lv_at hl 1 rfl) ?_
  refine lv_iconst (v := 1) hx hb dL_law_213 (by decide) ?_
  refine lv_iadd hx hb dL_law_214 ?_
  refine va_sld hx hb hX hbl hbA hS (tw_sin1 hi hL) dL_law_215 ?_
  rw [e1]
  have hPc := hP.sub (ws' := (tw_wM mh ma0 ma1 ma2 ma3 km0 km1 km2 km3 fl th tm pr ag ck nx)) [5, 6, 7, 8, 9] rfl
  have hDc := hD.sub (ws' := (tw_wM mh ma0 ma1 ma2 ma3 km0 km1 km2 km3 fl th tm pr ag ck nx)) [5, 6, 7, 8, 9] (by decide) rfl
  have hKc := hK.sub (tys' := tw_k km0 km1 km2 km3) [4, 5, 6, 7] rfl
  have hFc := va_free (wc := (tw_wM mh ma0 ma1 ma2 ma3 km0 km1 km2 km3 fl th tm pr ag ck nx)) hD hS hA [5, 6, 7, 8, 9] rfl
  refine va_calll (va_runV (C := RM) (b := mh) (As := [.int j1]) (rest := []) ⟨hx, hb, hml, hown, hT⟩ (cM_dropN l dC dI mh ma0 ma1 ma2 ma3 km0 km1 km2 km3 fl th tm pr ag ck nx H.size j1 hj ht) (cwV 1 hT (tw_gV tt_252 tt_253 tt_254 tt_2 tt_255) rfl rfl rfl ⟨rfl, by decide +kernel⟩ ⟨Nat.le_of_ble_eq_true rfl, Nat.le_of_ble_eq_true rfl⟩) ⟨fun a U g mk q => by obtain ⟨q0, q1, qP, qK, qD⟩ := q; exact ⟨q0, q1, qP, va_K.moved (u := U) (U := U.calling g mk a) (Vm.Alike.refl U.vm) qK, qD⟩, va_recv (q0 := 0) (ci := 1) hKc hPc rfl rfl, fun U hU hW => ⟨rfl, by rw [hU], by rw [hU]; exact hPc, va_K.moved hW.alike hKc, hDc.weaken (fun _ _ _ _ => trivial)⟩⟩ rfl rfl hl.1 rfl (lv_room (Nat.le_of_ble_eq_true rfl)) dL_law_216 hc) hS (fun q _ h => hFc q h) hFc (fun r9 u9 t9 H1 locs ht9 hvm9 hw9 hB9 hz9 hk9 hS => ?_)
  obtain ⟨hP1, hD1⟩ := hB9
  rw [ht9] at hP1
  have hw9 : r9 = 0 := hw9
  subst r9
  obtain ⟨hP, hD⟩ := va_join (wr := [(xh, .inr (0, [.ref xa0, .ref xa1, .ref xa2, .ref xa3, .long ck, .int nx])), (xa0, .inl (kx0, 100, .inl th)), (xa1, .inl (kx1, 100, .inr (.inl tm))), (xa2, .inl (kx2, 100, .inl pr)), (xa3, .inl (kx3, 100, .inl ag)), (ao, .inl (k4, 1, .inr (.inl ou)))]) (w1 := (tw_wM mh ma0 ma1 ma2 ma3 km0 km1 km2 km3 2 th tm pr ag ck nx)) hP hD [5, 6, 7, 8, 9] [0, 1, 2, 3, 4, 10] rfl rfl (by decide) (by decide) hk9 hFc hP1 hD1
  generalize H1 = H at hP hS ⊢
  have hP := hP.sub (ws' := [(xh, .inr (0, [.ref xa0, .ref xa1, .ref xa2, .ref xa3, .long ck, .int nx])), (xa0, .inl (kx0, 100, .inl th)), (xa1, .inl (kx1, 100, .inr (.inl tm))), (xa2, .inl (kx2, 100, .inl pr)), (xa3, .inl (kx3, 100, .inl ag)), (mh, .inr (1, [.int 2, .ref ma0, .ref ma1, .ref ma2, .ref ma3, .int nx, .long ck])), (ma0, .inl (km0, 100, .inl th)), (ma1, .inl (km1, 100, .inr (.inl tm))), (ma2, .inl (km2, 100, .inl pr)), (ma3, .inl (km3, 100, .inl ag)), (ao, .inl (k4, 1, .inr (.inl ou)))]) [0, 1, 2, 3, 4, 6, 7, 8, 9, 10, 5] rfl
  have hD := hD.sub (ws' := [(xh, .inr (0, [.ref xa0, .ref xa1, .ref xa2, .ref xa3, .long ck, .int nx])), (xa0, .inl (kx0, 100, .inl th)), (xa1, .inl (kx1, 100, .inr (.inl tm))), (xa2, .inl (kx2, 100, .inl pr)), (xa3, .inl (kx3, 100, .inl ag)), (mh, .inr (1, [.int 2, .ref ma0, .ref ma1, .ref ma2, .ref ma3, .int nx, .long ck])), (ma0, .inl (km0, 100, .inl th)), (ma1, .inl (km1, 100, .inr (.inl tm))), (ma2, .inl (km2, 100, .inl pr)), (ma3, .inl (km3, 100, .inl ag)), (ao, .inl (k4, 1, .inr (.inl ou)))]) [0, 1, 2, 3, 4, 6, 7, 8, 9, 10, 5] (by decide) rfl
  refine lv_lstore hx hb dL_law_219 hl (by decide) rfl (fun ls hl => ?_)
  have hl : lv_has ls 8 [(6, .long 0), (5, .int 2), (4, .int (nI i)), (0, .ref b), (1, .ref xh), (2, .ref mh), (3, .ref ao)] := hl
  refine lv_aload_n hx hb dL_law_221 rfl (lv_at hl 5 rfl) ?_
  have hPc := hP.sub (ws' := (tw_wM mh ma0 ma1 ma2 ma3 km0 km1 km2 km3 2 th tm pr ag ck nx)) [5, 6, 7, 8, 9] rfl
  have hKc := hK.sub (tys' := tw_k km0 km1 km2 km3) [4, 5, 6, 7] rfl
  refine vp_callSi (W.runV (C := RM) (b := mh) (As := []) (rest := []) ⟨hx, hb, hml, hown, hT⟩ (cM_thrown l dC dI mh ma0 ma1 ma2 ma3 km0 km1 km2 km3 2 th tm pr ag ck nx) (cwV 0 hT (tw_gV tt_239 tt_240 tt_241 tt_2 tt_242) rfl rfl rfl ⟨rfl, by decide +kernel⟩ ⟨Nat.le_of_ble_eq_true rfl, Nat.le_of_ble_eq_true rfl⟩) ⟨fun a U g mk q => ⟨q.1, q.2.1, va_K.moved (u := U) (U := U.calling g mk a) (Vm.Alike.refl U.vm) q.2.2⟩, va_recv (q0 := 0) (ci := 1) hKc hPc rfl rfl, fun U hU hW => ⟨rfl, by rw [hU]; exact hPc, va_K.moved hW.alike hKc⟩⟩ rfl rfl hl.1 rfl (lv_room (Nat.le_of_ble_eq_true rfl)) dL_law_222 hc) (fun r8 h8 => ?_)
  subst r8
  refine lv_iload hx hb dL_law_225 (lv_at hl 1 rfl) ?_
  refine lv_icmp_eq (tgt := 232) hx hb dL_law_227 (by decide) (fun hc1 => ?_) (fun hc1 => absurd (rfl : (2 : Int32) = 2) hc1)
  refine lv_iload hx hb dL_law_232 (lv_at hl 1 rfl) ?_
  refine lv_if_ne (tgt := 248) hx hb dL_law_234 (by decide) (fun hc2 => ?_) (fun hc2 => absurd hc2 (by decide))
  refine lv_goto (tgt := 563) hx hb dL_law_248 (by decide) ?_
  exact kk 2 th tm pr ag ck nx ou H _ ls hI hP hD hS (lv_sub hl [2, 3, 4, 5, 6] rfl)
end LLdropN
section LLtake
variable {p : Program} {l : Launch} {e : Env} {s : State} {m : MethodId} {below : List Frame} {meth : Method} {c : Code} {H : Heap} {locs : List Loc} {cells slots : Nat} {Q : State → Prop} {ls : Array Slot} {b L i : Nat} {xs : Nat → Int32}
variable {dC : Nat → ClassId} {dI : Nat → Nat → Nat} {xh xa0 xa1 xa2 xa3 : Nat} {kx0 kx1 kx2 kx3 : ClassId} {mh ma0 ma1 ma2 ma3 : Nat} {km0 km1 km2 km3 : ClassId} {ao : Nat} {k4 : ClassId} {fl : Int32} {th : Nat → Int32} {tm : Nat → Int64} {pr ag : Nat → Int32} {ck : Int64} {nx : Int32} {ou : Nat → Int64}
set_option maxHeartbeats 4000000 in
set_option maxRecDepth 100000 in
theorem ll_take (hx : p.tables.exec = Jvm.exec) (hb : c.code = bL_law) (hml : c.maxLocals = 8) (hT : ∀ w ∈ tw_T, w.before #[Value.ref b] s = true) (hown : s.vm.findClass RL = some m.cls) (hfl : l.flags = pinnedFlags ++ [noTraceFlag]) (hX : va_X b L xs s s.heap) (hbl : b < s.heap.size) (hZ : tw_Z s s.heap) (hNc : va_Nc tw_nse tw_iae s) (hL : L ≤ 2560) (hi : i + 5 ≤ L) (hc : cells + 1 ≤ 1044 ∧ slots + 6 ≤ 9060) (hI : tw_Inv tm ck) (hP : va_P (dC, dI) tw_cl (tw_wL xh xa0 xa1 xa2 xa3 kx0 kx1 kx2 kx3 mh ma0 ma1 ma2 ma3 km0 km1 km2 km3 ao k4 fl th tm pr ag ck nx ou) H) (hD : va_D (tw_AL s) (tw_wL xh xa0 xa1 xa2 xa3 kx0 kx1 kx2 kx3 mh ma0 ma1 ma2 ma3 km0 km1 km2 km3 ao k4 fl th tm pr ag ck nx ou)) (hK : va_K (dC, dI) tw_cl (tw_kL kx0 kx1 kx2 kx3 km0 km1 km2 km3 k4) s) (hS : va_S (tw_AL s) s.heap H locs) (hl : lv_has ls 8 [(4, .int (nI i)), (0, .ref b), (1, .ref xh), (2, .ref mh), (3, .ref ao)]) (hf : ¬ tw_first th tm pr ag ck 100 = -1) (kk : ∀ (fl' : Int32) (th' : Nat → Int32) (tm' : Nat → Int64) (pr' ag' : Nat → Int32) (ck' : Int64) (nx' : Int32) (ou' : Nat → Int64) (H' : Heap) (locs' : List Loc) (ls' : Array Slot), tw_Inv tm' ck' → va_P (dC, dI) tw_cl (tw_wL xh xa0 xa1 xa2 xa3 kx0 kx1 kx2 kx3 mh ma0 ma1 ma2 ma3 km0 km1 km2 km3 ao k4 fl' (th') (tm') (pr') (ag') (ck') (nx') (ou')) H' → va_D (tw_AL s) (tw_wL xh xa0 xa1 xa2 xa3 kx0 kx1 kx2 kx3 mh ma0 ma1 ma2 ma3 km0 km1 km2 km3 ao k4 (fl') (th') (tm') (pr') (ag') (ck') (nx') (ou')) → va_S (tw_AL s) s.heap H' locs' → lv_has ls' 8 [(4, .int (nI i)), (0, .ref b), (1, .ref xh), (2, .ref mh), (3, .ref ao)] → W p l e room_1 s m #[Value.ref b] below meth c H' locs' (cells + 1) (slots + 6) Q (F0 m 563 ls' [])) : W p l e room_1 s m #[Value.ref b] below meth c H locs cells slots Q (F0 m 251 ls []) := by
  have hA : ∀ q : Nat, s.heap.size ≤ q → tw_AL s q := fun q h => h
  have hbA : ¬ tw_AL s b := Nat.not_le.mpr hbl
  refine lv_aload_n hx hb dL_law_251 rfl (lv_at hl 2 rfl) ?_
  refine lv_aload_n hx hb dL_law_252 rfl (lv_at hl 4 rfl) ?_
  have hPc := hP.sub (ws' := (tw_wH xh xa0 xa1 xa2 xa3 kx0 kx1 kx2 kx3 th tm pr ag ck nx ao k4 ou)) [0, 1, 2, 3, 4, 10] rfl
  have hDc := hD.sub (ws' := (tw_wH xh xa0 xa1 xa2 xa3 kx0 kx1 kx2 kx3 th tm pr ag ck nx ao k4 ou)) [0, 1, 2, 3, 4, 10] (by decide) rfl
  have hKc := hK.sub (tys' := tw_kH kx0 kx1 kx2 kx3 k4) [0, 1, 2, 3, 8] rfl
  have hFc := va_free (wc := (tw_wH xh xa0 xa1 xa2 xa3 kx0 kx1 kx2 kx3 th tm pr ag ck nx ao k4 ou)) hD hS hA [0, 1, 2, 3, 4, 10] rfl
  refine va_calli (xt_runSW (n := 2) (As := [.ref xh, .ref ao]) (rest := []) ⟨hx, hb, hml, hown, hT⟩ (cL_take l dC dI xh xa0 xa1 xa2 xa3 kx0 kx1 kx2 kx3 th tm pr ag ck nx ao k4 ou H.size hf) rfl (tw_gS tt_151 tt_152 tt_0 tt_153) rfl rfl ⟨rfl, by decide +kernel⟩ ⟨Nat.le_of_ble_eq_true rfl, Nat.le_of_ble_eq_true rfl⟩ ⟨fun a U g mk q => by obtain ⟨q0, q1, qP, qK, qD⟩ := q; exact ⟨q0, q1, qP, va_K.moved (u := U) (U := U.calling g mk a) (Vm.Alike.refl U.vm) qK, qD⟩, fun U hU hW => ⟨rfl, by rw [hU], by rw [hU]; exact hPc, va_K.moved hW.alike hKc, hDc.weaken (fun _ _ _ _ => trivial)⟩⟩ rfl rfl hl.1 rfl (lv_room (Nat.le_of_ble_eq_true rfl)) dL_law_253 ⟨Nat.le_trans (Nat.le_succ _) hc.1, Nat.le_trans (Nat.le_add_right _ 6) hc.2⟩) hS (fun q _ h => hFc q h) hFc (fun r9 u9 t9 H1 locs ht9 hvm9 hw9 hB9 hz9 hk9 hS => ?_)
  obtain ⟨hP1, hD1⟩ := hB9
  rw [ht9] at hP1
  have hw9 : r9 = 0 := hw9
  subst r9
  obtain ⟨hP, hD⟩ := va_join (wr := (tw_wM mh ma0 ma1 ma2 ma3 km0 km1 km2 km3 fl th tm pr ag ck nx)) (w1 := (tw_wH xh xa0 xa1 xa2 xa3 kx0 kx1 kx2 kx3 (upd th (tw_first th tm pr ag ck 100).toNatClampNeg (vp_nar .boolean 0)) tm pr ag ck nx ao k4 (vp_updL ou (0 : Int32).toNatClampNeg ((tw_first th tm pr ag ck 100).toInt64)))) hP hD [0, 1, 2, 3, 4, 10] [5, 6, 7, 8, 9] rfl rfl (by decide) (by decide) hk9 hFc hP1 hD1
  generalize H1 = H at hP hS ⊢
  have hP := hP.sub (ws' := [(xh, .inr (0, [.ref xa0, .ref xa1, .ref xa2, .ref xa3, .long ck, .int nx])), (xa0, .inl (kx0, 100, .inl (upd th (tw_first th tm pr ag ck 100).toNatClampNeg (vp_nar .boolean 0)))), (xa1, .inl (kx1, 100, .inr (.inl tm))), (xa2, .inl (kx2, 100, .inl pr)), (xa3, .inl (kx3, 100, .inl ag)), (mh, .inr (1, [.int fl, .ref ma0, .ref ma1, .ref ma2, .ref ma3, .int nx, .long ck])), (ma0, .inl (km0, 100, .inl th)), (ma1, .inl (km1, 100, .inr (.inl tm))), (ma2, .inl (km2, 100, .inl pr)), (ma3, .inl (km3, 100, .inl ag)), (ao, .inl (k4, 1, .inr (.inl (vp_updL ou (0 : Int32).toNatClampNeg ((tw_first th tm pr ag ck 100).toInt64)))))]) [5, 6, 7, 8, 9, 0, 1, 2, 3, 4, 10] rfl
  have hD := hD.sub (ws' := [(xh, .inr (0, [.ref xa0, .ref xa1, .ref xa2, .ref xa3, .long ck, .int nx])), (xa0, .inl (kx0, 100, .inl (upd th (tw_first th tm pr ag ck 100).toNatClampNeg (vp_nar .boolean 0)))), (xa1, .inl (kx1, 100, .inr (.inl tm))), (xa2, .inl (kx2, 100, .inl pr)), (xa3, .inl (kx3, 100, .inl ag)), (mh, .inr (1, [.int fl, .ref ma0, .ref ma1, .ref ma2, .ref ma3, .int nx, .long ck])), (ma0, .inl (km0, 100, .inl th)), (ma1, .inl (km1, 100, .inr (.inl tm))), (ma2, .inl (km2, 100, .inl pr)), (ma3, .inl (km3, 100, .inl ag)), (ao, .inl (k4, 1, .inr (.inl (vp_updL ou (0 : Int32).toNatClampNeg ((tw_first th tm pr ag ck 100).toInt64)))))]) [5, 6, 7, 8, 9, 0, 1, 2, 3, 4, 10] (by decide) rfl
  refine lv_istore hx hb dL_law_256 hl (by decide) rfl (fun ls hl => ?_)
  have hl : lv_has ls 8 [(5, .int 0), (4, .int (nI i)), (0, .ref b), (1, .ref xh), (2, .ref mh), (3, .ref ao)] := hl
  refine lv_aload_n hx hb dL_law_258 rfl (lv_at hl 4 rfl) ?_
  have hPc := hP.sub (ws' := (tw_wM mh ma0 ma1 ma2 ma3 km0 km1 km2 km3 fl th tm pr ag ck nx)) [5, 6, 7, 8, 9] rfl
  have hDc := hD.sub (ws' := (tw_wM mh ma0 ma1 ma2 ma3 km0 km1 km2 km3 fl th tm pr ag ck nx)) [5, 6, 7, 8, 9] (by decide) rfl
  have hKc := hK.sub (tys' := tw_k km0 km1 km2 km3) [4, 5, 6, 7] rfl
  have hFc := va_free (wc := (tw_wM mh ma0 ma1 ma2 ma3 km0 km1 km2 km3 fl th tm pr ag ck nx)) hD hS hA [5, 6, 7, 8, 9] rfl
  refine va_calli (va_runV (C := RM) (b := mh) (As := []) (rest := []) ⟨hx, hb, hml, hown, hT⟩ (cM_take l dC dI mh ma0 ma1 ma2 ma3 km0 km1 km2 km3 fl th tm pr ag ck nx H.size hf) (cwV 0 hT (tw_gV tt_256 tt_257 tt_258 tt_2 tt_259) rfl rfl rfl ⟨rfl, by decide +kernel⟩ ⟨Nat.le_of_ble_eq_true rfl, Nat.le_of_ble_eq_true rfl⟩) ⟨fun a U g mk q => by obtain ⟨q0, q1, qP, qK, qD⟩ := q; exact ⟨q0, q1, qP, va_K.moved (u := U) (U := U.calling g mk a) (Vm.Alike.refl U.vm) qK, qD⟩, va_recv (q0 := 0) (ci := 1) hKc hPc rfl rfl, fun U hU hW => ⟨rfl, by rw [hU], by rw [hU]; exact hPc, va_K.moved hW.alike hKc, hDc.weaken (fun _ _ _ _ => trivial)⟩⟩ rfl rfl hl.1 rfl (lv_room (Nat.le_of_ble_eq_true rfl)) dL_law_259 ⟨Nat.le_trans (Nat.le_succ _) hc.1, Nat.le_trans (Nat.le_add_right _ 6) hc.2⟩) hS (fun q _ h => hFc q h) hFc (fun r9 u9 t9 H1 locs ht9 hvm9 hw9 hB9 hz9 hk9 hS => ?_)
  obtain ⟨hP1, hD1⟩ := hB9
  rw [ht9] at hP1
  have hw9 : r9 = tw_first th tm pr ag ck 100 := hw9
  subst r9
  obtain ⟨hP, hD⟩ := va_join (wr := [(xh, .inr (0, [.ref xa0, .ref xa1, .ref xa2, .ref xa3, .long ck, .int nx])), (xa0, .inl (kx0, 100, .inl (upd th (tw_first th tm pr ag ck 100).toNatClampNeg (vp_nar .boolean 0)))), (xa1, .inl (kx1, 100, .inr (.inl tm))), (xa2, .inl (kx2, 100, .inl pr)), (xa3, .inl (kx3, 100, .inl ag)), (ao, .inl (k4, 1, .inr (.inl (vp_updL ou (0 : Int32).toNatClampNeg ((tw_first th tm pr ag ck 100).toInt64)))))]) (w1 := (tw_wM mh ma0 ma1 ma2 ma3 km0 km1 km2 km3 0 (upd th (tw_first th tm pr ag ck 100).toNatClampNeg (vp_nar .boolean 0)) tm pr ag ck nx)) hP hD [5, 6, 7, 8, 9] [0, 1, 2, 3, 4, 10] rfl rfl (by decide) (by decide) hk9 hFc hP1 hD1
  generalize H1 = H at hP hS ⊢
  have hP := hP.sub (ws' := [(xh, .inr (0, [.ref xa0, .ref xa1, .ref xa2, .ref xa3, .long ck, .int nx])), (xa0, .inl (kx0, 100, .inl (upd th (tw_first th tm pr ag ck 100).toNatClampNeg (vp_nar .boolean 0)))), (xa1, .inl (kx1, 100, .inr (.inl tm))), (xa2, .inl (kx2, 100, .inl pr)), (xa3, .inl (kx3, 100, .inl ag)), (mh, .inr (1, [.int 0, .ref ma0, .ref ma1, .ref ma2, .ref ma3, .int nx, .long ck])), (ma0, .inl (km0, 100, .inl (upd th (tw_first th tm pr ag ck 100).toNatClampNeg (vp_nar .boolean 0)))), (ma1, .inl (km1, 100, .inr (.inl tm))), (ma2, .inl (km2, 100, .inl pr)), (ma3, .inl (km3, 100, .inl ag)), (ao, .inl (k4, 1, .inr (.inl (vp_updL ou (0 : Int32).toNatClampNeg ((tw_first th tm pr ag ck 100).toInt64)))))]) [0, 1, 2, 3, 4, 6, 7, 8, 9, 10, 5] rfl
  have hD := hD.sub (ws' := [(xh, .inr (0, [.ref xa0, .ref xa1, .ref xa2, .ref xa3, .long ck, .int nx])), (xa0, .inl (kx0, 100, .inl (upd th (tw_first th tm pr ag ck 100).toNatClampNeg (vp_nar .boolean 0)))), (xa1, .inl (kx1, 100, .inr (.inl tm))), (xa2, .inl (kx2, 100, .inl pr)), (xa3, .inl (kx3, 100, .inl ag)), (mh, .inr (1, [.int 0, .ref ma0, .ref ma1, .ref ma2, .ref ma3, .int nx, .long ck])), (ma0, .inl (km0, 100, .inl (upd th (tw_first th tm pr ag ck 100).toNatClampNeg (vp_nar .boolean 0)))), (ma1, .inl (km1, 100, .inr (.inl tm))), (ma2, .inl (km2, 100, .inl pr)), (ma3, .inl (km3, 100, .inl ag)), (ao, .inl (k4, 1, .inr (.inl (vp_updL ou (0 : Int32).toNatClampNeg ((tw_first th tm pr ag ck 100).toInt64)))))]) [0, 1, 2, 3, 4, 6, 7, 8, 9, 10, 5] (by decide) rfl
  refine lv_istore hx hb dL_law_262 hl (by decide) rfl (fun ls hl => ?_)
  have hl : lv_has ls 8 [(6, .int (tw_first th tm pr ag ck 100)), (5, .int 0), (4, .int (nI i)), (0, .ref b), (1, .ref xh), (2, .ref mh), (3, .ref ao)] := hl
  refine lv_aload_n hx hb dL_law_264 rfl (lv_at hl 5 rfl) ?_
  have hPc := hP.sub (ws' := (tw_wM mh ma0 ma1 ma2 ma3 km0 km1 km2 km3 0 (upd th (tw_first th tm pr ag ck 100).toNatClampNeg (vp_nar .boolean 0)) tm pr ag ck nx)) [5, 6, 7, 8, 9] rfl
  have hKc := hK.sub (tys' := tw_k km0 km1 km2 km3) [4, 5, 6, 7] rfl
  refine vp_callSi (W.runV (C := RM) (b := mh) (As := []) (rest := []) ⟨hx, hb, hml, hown, hT⟩ (cM_thrown l dC dI mh ma0 ma1 ma2 ma3 km0 km1 km2 km3 0 (upd th (tw_first th tm pr ag ck 100).toNatClampNeg (vp_nar .boolean 0)) tm pr ag ck nx) (cwV 0 hT (tw_gV tt_239 tt_240 tt_241 tt_2 tt_242) rfl rfl rfl ⟨rfl, by decide +kernel⟩ ⟨Nat.le_of_ble_eq_true rfl, Nat.le_of_ble_eq_true rfl⟩) ⟨fun a U g mk q => ⟨q.1, q.2.1, va_K.moved (u := U) (U := U.calling g mk a) (Vm.Alike.refl U.vm) q.2.2⟩, va_recv (q0 := 0) (ci := 1) hKc hPc rfl rfl, fun U hU hW => ⟨rfl, by rw [hU]; exact hPc, va_K.moved hW.alike hKc⟩⟩ rfl rfl hl.1 rfl (lv_room (Nat.le_of_ble_eq_true rfl)) dL_law_265 ⟨Nat.le_trans (Nat.le_succ _) hc.1, Nat.le_trans (Nat.le_add_right _ 6) hc.2⟩) (fun r8 h8 => ?_)
  subst r8
  refine lv_iload hx hb dL_law_268 (lv_at hl 1 rfl) ?_
  refine lv_icmp_eq (tgt := 275) hx hb dL_law_270 (by decide) (fun hc1 => ?_) (fun hc1 => absurd (rfl : (0 : Int32) = 0) hc1)
  refine lv_iload hx hb dL_law_275 (lv_at hl 1 rfl) ?_
  refine lv_if_ne (tgt := 292) hx hb dL_law_277 (by decide) (fun hc2 => absurd rfl hc2) (fun hc2 => ?_)
  refine lv_aload_n hx hb dL_law_280 rfl (lv_at hl 6 rfl) ?_
  refine lv_iconst (v := 0) hx hb dL_law_281 (by decide) ?_
  refine va_lald hx hb hK hP 10 8 rfl rfl (by unfold vp_in; decide) dL_law_282 ?_
  refine lv_iload hx hb dL_law_283 (lv_at hl 0 rfl) ?_
  refine lv_i2l hx hb dL_law_285 rfl ?_
  refine W.lcmp hx hb dL_law_286 ?_
  refine lv_if_eq (tgt := 292) hx hb dL_law_287 (by decide) (fun hc3 => ?_) (fun hc3 => absurd ((lg_cmp_eq _ _).mpr pk_uLs) hc3)
  refine lv_goto (tgt := 563) hx hb dL_law_292 (by decide) ?_
  refine W.widen (k := cells + 1) (n := slots + 6) (Nat.le_succ _) (Nat.le_add_right _ 6) ?_
  exact kk 0 (upd th (tw_first th tm pr ag ck 100).toNatClampNeg (vp_nar .boolean 0)) tm pr ag ck nx (vp_updL ou (0 : Int32).toNatClampNeg ((tw_first th tm pr ag ck 100).toInt64)) H _ ls hI hP hD hS (lv_sub hl [2, 3, 4, 5, 6] rfl)
end LLtake
section LLtakeB
variable {p : Program} {l : Launch} {e : Env} {s : State} {m : MethodId} {below : List Frame} {meth : Method} {c : Code} {H : Heap} {locs : List Loc} {cells slots : Nat} {Q : State → Prop} {ls : Array Slot} {b L i : Nat} {xs : Nat → Int32}
variable {dC : Nat → ClassId} {dI : Nat → Nat → Nat} {xh xa0 xa1 xa2 xa3 : Nat} {kx0 kx1 kx2 kx3 : ClassId} {mh ma0 ma1 ma2 ma3 : Nat} {km0 km1 km2 km3 : ClassId} {ao : Nat} {k4 : ClassId} {fl : Int32} {th : Nat → Int32} {tm : Nat → Int64} {pr ag : Nat → Int32} {ck : Int64} {nx : Int32} {ou : Nat → Int64}
set_option maxHeartbeats 4000000 in
set_option maxRecDepth 100000 in
theorem ll_takeB (hx : p.tables.exec = Jvm.exec) (hb : c.code = bL_law) (hml : c.maxLocals = 8) (hT : ∀ w ∈ tw_T, w.before #[Value.ref b] s = true) (hown : s.vm.findClass RL = some m.cls) (hfl : l.flags = pinnedFlags ++ [noTraceFlag]) (hX : va_X b L xs s s.heap) (hbl : b < s.heap.size) (hZ : tw_Z s s.heap) (hNc : va_Nc tw_nse tw_iae s) (hL : L ≤ 2560) (hi : i + 5 ≤ L) (hc : cells + 1 ≤ 1044 ∧ slots + 6 ≤ 9060) (hI : tw_Inv tm ck) (hP : va_P (dC, dI) tw_cl (tw_wL xh xa0 xa1 xa2 xa3 kx0 kx1 kx2 kx3 mh ma0 ma1 ma2 ma3 km0 km1 km2 km3 ao k4 fl th tm pr ag ck nx ou) H) (hD : va_D (tw_AL s) (tw_wL xh xa0 xa1 xa2 xa3 kx0 kx1 kx2 kx3 mh ma0 ma1 ma2 ma3 km0 km1 km2 km3 ao k4 fl th tm pr ag ck nx ou)) (hK : va_K (dC, dI) tw_cl (tw_kL kx0 kx1 kx2 kx3 km0 km1 km2 km3 k4) s) (hS : va_S (tw_AL s) s.heap H locs) (hl : lv_has ls 8 [(4, .int (nI i)), (0, .ref b), (1, .ref xh), (2, .ref mh), (3, .ref ao)]) (hf : tw_first th tm pr ag ck 100 = -1) (kk : ∀ (fl' : Int32) (th' : Nat → Int32) (tm' : Nat → Int64) (pr' ag' : Nat → Int32) (ck' : Int64) (nx' : Int32) (ou' : Nat → Int64) (H' : Heap) (locs' : List Loc) (ls' : Array Slot), tw_Inv tm' ck' → va_P (dC, dI) tw_cl (tw_wL xh xa0 xa1 xa2 xa3 kx0 kx1 kx2 kx3 mh ma0 ma1 ma2 ma3 km0 km1 km2 km3 ao k4 fl' (th') (tm') (pr') (ag') (ck') (nx') (ou')) H' → va_D (tw_AL s) (tw_wL xh xa0 xa1 xa2 xa3 kx0 kx1 kx2 kx3 mh ma0 ma1 ma2 ma3 km0 km1 km2 km3 ao k4 (fl') (th') (tm') (pr') (ag') (ck') (nx') (ou')) → va_S (tw_AL s) s.heap H' locs' → lv_has ls' 8 [(4, .int (nI i)), (0, .ref b), (1, .ref xh), (2, .ref mh), (3, .ref ao)] → W p l e room_1 s m #[Value.ref b] below meth c H' locs' (cells + 1) (slots + 6) Q (F0 m 563 ls' [])) : W p l e room_1 s m #[Value.ref b] below meth c H locs cells slots Q (F0 m 251 ls []) := by
  have hA : ∀ q : Nat, s.heap.size ≤ q → tw_AL s q := fun q h => h
  have hbA : ¬ tw_AL s b := Nat.not_le.mpr hbl
  refine lv_aload_n hx hb dL_law_251 rfl (lv_at hl 2 rfl) ?_
  refine lv_aload_n hx hb dL_law_252 rfl (lv_at hl 4 rfl) ?_
  have hPc := hP.sub (ws' := (tw_wH xh xa0 xa1 xa2 xa3 kx0 kx1 kx2 kx3 th tm pr ag ck nx ao k4 ou)) [0, 1, 2, 3, 4, 10] rfl
  have hDc := hD.sub (ws' := (tw_wH xh xa0 xa1 xa2 xa3 kx0 kx1 kx2 kx3 th tm pr ag ck nx ao k4 ou)) [0, 1, 2, 3, 4, 10] (by decide) rfl
  have hKc := hK.sub (tys' := tw_kH kx0 kx1 kx2 kx3 k4) [0, 1, 2, 3, 8] rfl
  have hFc := va_free (wc := (tw_wH xh xa0 xa1 xa2 xa3 kx0 kx1 kx2 kx3 th tm pr ag ck nx ao k4 ou)) hD hS hA [0, 1, 2, 3, 4, 10] rfl
  have hZH : ∀ U : State, U.heap = H → s.WarmedH U.vm → tw_Z U U.heap := fun U hU hW => by rw [hU]; exact hZ.move hW (fun a ha => hS.2.1 a ha (Nat.not_le.mpr ha))
  refine va_calli (xt_runSW (n := 2) (As := [.ref xh, .ref ao]) (rest := []) ⟨hx, hb, hml, hown, hT⟩ (cL_takeB l hfl dC dI xh xa0 xa1 xa2 xa3 kx0 kx1 kx2 kx3 th tm pr ag ck nx ao k4 ou H.size hf) rfl (tw_gS tt_151 tt_152 tt_0 tt_153) rfl rfl ⟨rfl, by decide +kernel⟩ ⟨Nat.le_of_ble_eq_true rfl, Nat.le_of_ble_eq_true rfl⟩ ⟨fun a U g mk q => by obtain ⟨q0, q1, qP, qK, qD, qZ⟩ := q; exact ⟨q0, q1, qP, va_K.moved (u := U) (U := U.calling g mk a) (Vm.Alike.refl U.vm) qK, qD, qZ.call⟩, fun U hU hW => ⟨rfl, by rw [hU], by rw [hU]; exact hPc, va_K.moved hW.alike hKc, hDc.weaken (fun _ _ _ _ => trivial), hZH U hU hW⟩⟩ rfl rfl hl.1 rfl (lv_room (Nat.le_of_ble_eq_true rfl)) dL_law_253 hc) hS (fun q _ h => hFc q h) hFc (fun r9 u9 t9 H1 locs ht9 hvm9 hw9 hB9 hz9 hk9 hS => ?_)
  obtain ⟨hP1, hD1⟩ := hB9
  rw [ht9] at hP1
  have hw9 : r9 = 1 := hw9
  subst r9
  obtain ⟨hP, hD⟩ := va_join (wr := (tw_wM mh ma0 ma1 ma2 ma3 km0 km1 km2 km3 fl th tm pr ag ck nx)) (w1 := (tw_wH xh xa0 xa1 xa2 xa3 kx0 kx1 kx2 kx3 th tm pr ag ck nx ao k4 ou)) hP hD [0, 1, 2, 3, 4, 10] [5, 6, 7, 8, 9] rfl rfl (by decide) (by decide) hk9 hFc hP1 hD1
  generalize H1 = H at hP hS ⊢
  have hP := hP.sub (ws' := [(xh, .inr (0, [.ref xa0, .ref xa1, .ref xa2, .ref xa3, .long ck, .int nx])), (xa0, .inl (kx0, 100, .inl th)), (xa1, .inl (kx1, 100, .inr (.inl tm))), (xa2, .inl (kx2, 100, .inl pr)), (xa3, .inl (kx3, 100, .inl ag)), (mh, .inr (1, [.int fl, .ref ma0, .ref ma1, .ref ma2, .ref ma3, .int nx, .long ck])), (ma0, .inl (km0, 100, .inl th)), (ma1, .inl (km1, 100, .inr (.inl tm))), (ma2, .inl (km2, 100, .inl pr)), (ma3, .inl (km3, 100, .inl ag)), (ao, .inl (k4, 1, .inr (.inl ou)))]) [5, 6, 7, 8, 9, 0, 1, 2, 3, 4, 10] rfl
  have hD := hD.sub (ws' := [(xh, .inr (0, [.ref xa0, .ref xa1, .ref xa2, .ref xa3, .long ck, .int nx])), (xa0, .inl (kx0, 100, .inl th)), (xa1, .inl (kx1, 100, .inr (.inl tm))), (xa2, .inl (kx2, 100, .inl pr)), (xa3, .inl (kx3, 100, .inl ag)), (mh, .inr (1, [.int fl, .ref ma0, .ref ma1, .ref ma2, .ref ma3, .int nx, .long ck])), (ma0, .inl (km0, 100, .inl th)), (ma1, .inl (km1, 100, .inr (.inl tm))), (ma2, .inl (km2, 100, .inl pr)), (ma3, .inl (km3, 100, .inl ag)), (ao, .inl (k4, 1, .inr (.inl ou)))]) [5, 6, 7, 8, 9, 0, 1, 2, 3, 4, 10] (by decide) rfl
  refine lv_istore hx hb dL_law_256 hl (by decide) rfl (fun ls hl => ?_)
  have hl : lv_has ls 8 [(5, .int 1), (4, .int (nI i)), (0, .ref b), (1, .ref xh), (2, .ref mh), (3, .ref ao)] := hl
  refine lv_aload_n hx hb dL_law_258 rfl (lv_at hl 4 rfl) ?_
  have hPc := hP.sub (ws' := (tw_wM mh ma0 ma1 ma2 ma3 km0 km1 km2 km3 fl th tm pr ag ck nx)) [5, 6, 7, 8, 9] rfl
  have hDc := hD.sub (ws' := (tw_wM mh ma0 ma1 ma2 ma3 km0 km1 km2 km3 fl th tm pr ag ck nx)) [5, 6, 7, 8, 9] (by decide) rfl
  have hKc := hK.sub (tys' := tw_k km0 km1 km2 km3) [4, 5, 6, 7] rfl
  have hFc := va_free (wc := (tw_wM mh ma0 ma1 ma2 ma3 km0 km1 km2 km3 fl th tm pr ag ck nx)) hD hS hA [5, 6, 7, 8, 9] rfl
  refine va_calli (va_runV (C := RM) (b := mh) (As := []) (rest := []) ⟨hx, hb, hml, hown, hT⟩ (cM_takeB l dC dI mh ma0 ma1 ma2 ma3 km0 km1 km2 km3 fl th tm pr ag ck nx H.size hf) (cwV 0 hT (tw_gV tt_256 tt_257 tt_258 tt_2 tt_259) rfl rfl rfl ⟨rfl, by decide +kernel⟩ ⟨Nat.le_of_ble_eq_true rfl, Nat.le_of_ble_eq_true rfl⟩) ⟨fun a U g mk q => by obtain ⟨q0, q1, qP, qK, qD⟩ := q; exact ⟨q0, q1, qP, va_K.moved (u := U) (U := U.calling g mk a) (Vm.Alike.refl U.vm) qK, qD⟩, va_recv (q0 := 0) (ci := 1) hKc hPc rfl rfl, fun U hU hW => ⟨rfl, by rw [hU], by rw [hU]; exact hPc, va_K.moved hW.alike hKc, hDc.weaken (fun _ _ _ _ => trivial)⟩⟩ rfl rfl hl.1 rfl (lv_room (Nat.le_of_ble_eq_true rfl)) dL_law_259 hc) hS (fun q _ h => hFc q h) hFc (fun r9 u9 t9 H1 locs ht9 hvm9 hw9 hB9 hz9 hk9 hS => ?_)
  obtain ⟨hP1, hD1⟩ := hB9
  rw [ht9] at hP1
  have hw9 : r9 = 0 := hw9
  subst r9
  obtain ⟨hP, hD⟩ := va_join (wr := [(xh, .inr (0, [.ref xa0, .ref xa1, .ref xa2, .ref xa3, .long ck, .int nx])), (xa0, .inl (kx0, 100, .inl th)), (xa1, .inl (kx1, 100, .inr (.inl tm))), (xa2, .inl (kx2, 100, .inl pr)), (xa3, .inl (kx3, 100, .inl ag)), (ao, .inl (k4, 1, .inr (.inl ou)))]) (w1 := (tw_wM mh ma0 ma1 ma2 ma3 km0 km1 km2 km3 1 th tm pr ag ck nx)) hP hD [5, 6, 7, 8, 9] [0, 1, 2, 3, 4, 10] rfl rfl (by decide) (by decide) hk9 hFc hP1 hD1
  generalize H1 = H at hP hS ⊢
  have hP := hP.sub (ws' := [(xh, .inr (0, [.ref xa0, .ref xa1, .ref xa2, .ref xa3, .long ck, .int nx])), (xa0, .inl (kx0, 100, .inl th)), (xa1, .inl (kx1, 100, .inr (.inl tm))), (xa2, .inl (kx2, 100, .inl pr)), (xa3, .inl (kx3, 100, .inl ag)), (mh, .inr (1, [.int 1, .ref ma0, .ref ma1, .ref ma2, .ref ma3, .int nx, .long ck])), (ma0, .inl (km0, 100, .inl th)), (ma1, .inl (km1, 100, .inr (.inl tm))), (ma2, .inl (km2, 100, .inl pr)), (ma3, .inl (km3, 100, .inl ag)), (ao, .inl (k4, 1, .inr (.inl ou)))]) [0, 1, 2, 3, 4, 6, 7, 8, 9, 10, 5] rfl
  have hD := hD.sub (ws' := [(xh, .inr (0, [.ref xa0, .ref xa1, .ref xa2, .ref xa3, .long ck, .int nx])), (xa0, .inl (kx0, 100, .inl th)), (xa1, .inl (kx1, 100, .inr (.inl tm))), (xa2, .inl (kx2, 100, .inl pr)), (xa3, .inl (kx3, 100, .inl ag)), (mh, .inr (1, [.int 1, .ref ma0, .ref ma1, .ref ma2, .ref ma3, .int nx, .long ck])), (ma0, .inl (km0, 100, .inl th)), (ma1, .inl (km1, 100, .inr (.inl tm))), (ma2, .inl (km2, 100, .inl pr)), (ma3, .inl (km3, 100, .inl ag)), (ao, .inl (k4, 1, .inr (.inl ou)))]) [0, 1, 2, 3, 4, 6, 7, 8, 9, 10, 5] (by decide) rfl
  refine lv_istore hx hb dL_law_262 hl (by decide) rfl (fun ls hl => ?_)
  have hl : lv_has ls 8 [(6, .int 0), (5, .int 1), (4, .int (nI i)), (0, .ref b), (1, .ref xh), (2, .ref mh), (3, .ref ao)] := hl
  refine lv_aload_n hx hb dL_law_264 rfl (lv_at hl 5 rfl) ?_
  have hPc := hP.sub (ws' := (tw_wM mh ma0 ma1 ma2 ma3 km0 km1 km2 km3 1 th tm pr ag ck nx)) [5, 6, 7, 8, 9] rfl
  have hKc := hK.sub (tys' := tw_k km0 km1 km2 km3) [4, 5, 6, 7] rfl
  refine vp_callSi (W.runV (C := RM) (b := mh) (As := []) (rest := []) ⟨hx, hb, hml, hown, hT⟩ (cM_thrown l dC dI mh ma0 ma1 ma2 ma3 km0 km1 km2 km3 1 th tm pr ag ck nx) (cwV 0 hT (tw_gV tt_239 tt_240 tt_241 tt_2 tt_242) rfl rfl rfl ⟨rfl, by decide +kernel⟩ ⟨Nat.le_of_ble_eq_true rfl, Nat.le_of_ble_eq_true rfl⟩) ⟨fun a U g mk q => ⟨q.1, q.2.1, va_K.moved (u := U) (U := U.calling g mk a) (Vm.Alike.refl U.vm) q.2.2⟩, va_recv (q0 := 0) (ci := 1) hKc hPc rfl rfl, fun U hU hW => ⟨rfl, by rw [hU]; exact hPc, va_K.moved hW.alike hKc⟩⟩ rfl rfl hl.1 rfl (lv_room (Nat.le_of_ble_eq_true rfl)) dL_law_265 hc) (fun r8 h8 => ?_)
  subst r8
  refine lv_iload hx hb dL_law_268 (lv_at hl 1 rfl) ?_
  refine lv_icmp_eq (tgt := 275) hx hb dL_law_270 (by decide) (fun hc1 => ?_) (fun hc1 => absurd (rfl : (1 : Int32) = 1) hc1)
  refine lv_iload hx hb dL_law_275 (lv_at hl 1 rfl) ?_
  refine lv_if_ne (tgt := 292) hx hb dL_law_277 (by decide) (fun hc2 => ?_) (fun hc2 => absurd hc2 (by decide))
  refine lv_goto (tgt := 563) hx hb dL_law_292 (by decide) ?_
  exact kk 1 th tm pr ag ck nx ou H _ ls hI hP hD hS (lv_sub hl [2, 3, 4, 5, 6] rfl)
end LLtakeB
section LLleast
variable {p : Program} {l : Launch} {e : Env} {s : State} {m : MethodId} {below : List Frame} {meth : Method} {c : Code} {H : Heap} {locs : List Loc} {cells slots : Nat} {Q : State → Prop} {ls : Array Slot} {b L i : Nat} {xs : Nat → Int32}
variable {dC : Nat → ClassId} {dI : Nat → Nat → Nat} {xh xa0 xa1 xa2 xa3 : Nat} {kx0 kx1 kx2 kx3 : ClassId} {mh ma0 ma1 ma2 ma3 : Nat} {km0 km1 km2 km3 : ClassId} {ao : Nat} {k4 : ClassId} {fl : Int32} {th : Nat → Int32} {tm : Nat → Int64} {pr ag : Nat → Int32} {ck : Int64} {nx : Int32} {ou : Nat → Int64}
set_option maxHeartbeats 4000000 in
set_option maxRecDepth 100000 in
theorem ll_least (hx : p.tables.exec = Jvm.exec) (hb : c.code = bL_law) (hml : c.maxLocals = 8) (hT : ∀ w ∈ tw_T, w.before #[Value.ref b] s = true) (hown : s.vm.findClass RL = some m.cls) (hfl : l.flags = pinnedFlags ++ [noTraceFlag]) (hX : va_X b L xs s s.heap) (hbl : b < s.heap.size) (hZ : tw_Z s s.heap) (hNc : va_Nc tw_nse tw_iae s) (hL : L ≤ 2560) (hi : i + 5 ≤ L) (hc : cells + 1 ≤ 1044 ∧ slots + 6 ≤ 9060) (hI : tw_Inv tm ck) (hP : va_P (dC, dI) tw_cl (tw_wL xh xa0 xa1 xa2 xa3 kx0 kx1 kx2 kx3 mh ma0 ma1 ma2 ma3 km0 km1 km2 km3 ao k4 fl th tm pr ag ck nx ou) H) (hD : va_D (tw_AL s) (tw_wL xh xa0 xa1 xa2 xa3 kx0 kx1 kx2 kx3 mh ma0 ma1 ma2 ma3 km0 km1 km2 km3 ao k4 fl th tm pr ag ck nx ou)) (hK : va_K (dC, dI) tw_cl (tw_kL kx0 kx1 kx2 kx3 km0 km1 km2 km3 k4) s) (hS : va_S (tw_AL s) s.heap H locs) (hl : lv_has ls 8 [(4, .int (nI i)), (0, .ref b), (1, .ref xh), (2, .ref mh), (3, .ref ao)])  (kk : ∀ (fl' : Int32) (th' : Nat → Int32) (tm' : Nat → Int64) (pr' ag' : Nat → Int32) (ck' : Int64) (nx' : Int32) (ou' : Nat → Int64) (H' : Heap) (locs' : List Loc) (ls' : Array Slot), tw_Inv tm' ck' → va_P (dC, dI) tw_cl (tw_wL xh xa0 xa1 xa2 xa3 kx0 kx1 kx2 kx3 mh ma0 ma1 ma2 ma3 km0 km1 km2 km3 ao k4 fl' (th') (tm') (pr') (ag') (ck') (nx') (ou')) H' → va_D (tw_AL s) (tw_wL xh xa0 xa1 xa2 xa3 kx0 kx1 kx2 kx3 mh ma0 ma1 ma2 ma3 km0 km1 km2 km3 ao k4 (fl') (th') (tm') (pr') (ag') (ck') (nx') (ou')) → va_S (tw_AL s) s.heap H' locs' → lv_has ls' 8 [(4, .int (nI i)), (0, .ref b), (1, .ref xh), (2, .ref mh), (3, .ref ao)] → W p l e room_1 s m #[Value.ref b] below meth c H' locs' (cells + 1) (slots + 6) Q (F0 m 563 ls' [])) : W p l e room_1 s m #[Value.ref b] below meth c H locs cells slots Q (F0 m 295 ls []) := by
  have hA : ∀ q : Nat, s.heap.size ≤ q → tw_AL s q := fun q h => h
  have hbA : ¬ tw_AL s b := Nat.not_le.mpr hbl
  refine lv_aload_n hx hb dL_law_295 rfl (lv_at hl 2 rfl) ?_
  have hPc := hP.sub (ws' := (tw_wX xh xa0 xa1 xa2 xa3 kx0 kx1 kx2 kx3 th tm pr ag ck nx)) [0, 1, 2, 3, 4] rfl
  have hKc := hK.sub (tys' := tw_k kx0 kx1 kx2 kx3) [0, 1, 2, 3] rfl
  refine vp_callSl (W.runV (C := RX) (b := xh) (As := []) (rest := []) ⟨hx, hb, hml, hown, hT⟩ (cX_least l dC dI xh xa0 xa1 xa2 xa3 kx0 kx1 kx2 kx3 th tm pr ag ck nx) (cwV 0 hT (tw_gV tt_38 tt_39 tt_40 tt_1 tt_41) rfl rfl rfl ⟨rfl, by decide +kernel⟩ ⟨Nat.le_of_ble_eq_true rfl, Nat.le_of_ble_eq_true rfl⟩) ⟨fun a U g mk q => ⟨q.1, q.2.1, va_K.moved (u := U) (U := U.calling g mk a) (Vm.Alike.refl U.vm) q.2.2⟩, va_recv (q0 := 0) (ci := 0) hKc hPc rfl rfl, fun U hU hW => ⟨rfl, by rw [hU]; exact hPc, va_K.moved hW.alike hKc⟩⟩ rfl rfl hl.1 rfl (lv_room (Nat.le_of_ble_eq_true rfl)) dL_law_296 ⟨Nat.le_trans (Nat.le_succ _) hc.1, Nat.le_trans (Nat.le_add_right _ 6) hc.2⟩) (fun r8 h8 => ?_)
  subst r8
  refine lv_aload_n hx hb dL_law_299 rfl (lv_at hl 3 rfl) ?_
  have hPc := hP.sub (ws' := (tw_wM mh ma0 ma1 ma2 ma3 km0 km1 km2 km3 fl th tm pr ag ck nx)) [5, 6, 7, 8, 9] rfl
  have hDc := hD.sub (ws' := (tw_wM mh ma0 ma1 ma2 ma3 km0 km1 km2 km3 fl th tm pr ag ck nx)) [5, 6, 7, 8, 9] (by decide) rfl
  have hKc := hK.sub (tys' := tw_k km0 km1 km2 km3) [4, 5, 6, 7] rfl
  have hFc := va_free (wc := (tw_wM mh ma0 ma1 ma2 ma3 km0 km1 km2 km3 fl th tm pr ag ck nx)) hD hS hA [5, 6, 7, 8, 9] rfl
  refine va_calll (va_runV (C := RM) (b := mh) (As := []) (rest := [.long (tw_least th tm ck 100)]) ⟨hx, hb, hml, hown, hT⟩ (cM_least l dC dI mh ma0 ma1 ma2 ma3 km0 km1 km2 km3 fl th tm pr ag ck nx H.size (fun k => (hI.1 k).1)) (cwV 0 hT (tw_gV tt_264 tt_265 tt_266 tt_2 tt_267) rfl rfl rfl ⟨rfl, by decide +kernel⟩ ⟨Nat.le_of_ble_eq_true rfl, Nat.le_of_ble_eq_true rfl⟩) ⟨fun a U g mk q => by obtain ⟨q0, q1, qP, qK, qD⟩ := q; exact ⟨q0, q1, qP, va_K.moved (u := U) (U := U.calling g mk a) (Vm.Alike.refl U.vm) qK, qD⟩, va_recv (q0 := 0) (ci := 1) hKc hPc rfl rfl, fun U hU hW => ⟨rfl, by rw [hU], by rw [hU]; exact hPc, va_K.moved hW.alike hKc, hDc.weaken (fun _ _ _ _ => trivial)⟩⟩ rfl rfl hl.1 rfl (lv_room (Nat.le_of_ble_eq_true rfl)) dL_law_300 ⟨Nat.le_trans (Nat.le_succ _) hc.1, Nat.le_trans (Nat.le_add_right _ 6) hc.2⟩) hS (fun q _ h => hFc q h) hFc (fun r9 u9 t9 H1 locs ht9 hvm9 hw9 hB9 hz9 hk9 hS => ?_)
  obtain ⟨hP1, hD1⟩ := hB9
  rw [ht9] at hP1
  have hw9 : r9 = tw_least th tm ck 100 := hw9
  subst r9
  obtain ⟨hP, hD⟩ := va_join (wr := [(xh, .inr (0, [.ref xa0, .ref xa1, .ref xa2, .ref xa3, .long ck, .int nx])), (xa0, .inl (kx0, 100, .inl th)), (xa1, .inl (kx1, 100, .inr (.inl tm))), (xa2, .inl (kx2, 100, .inl pr)), (xa3, .inl (kx3, 100, .inl ag)), (ao, .inl (k4, 1, .inr (.inl ou)))]) (w1 := (tw_wM mh ma0 ma1 ma2 ma3 km0 km1 km2 km3 0 th tm pr ag ck nx)) hP hD [5, 6, 7, 8, 9] [0, 1, 2, 3, 4, 10] rfl rfl (by decide) (by decide) hk9 hFc hP1 hD1
  generalize H1 = H at hP hS ⊢
  have hP := hP.sub (ws' := [(xh, .inr (0, [.ref xa0, .ref xa1, .ref xa2, .ref xa3, .long ck, .int nx])), (xa0, .inl (kx0, 100, .inl th)), (xa1, .inl (kx1, 100, .inr (.inl tm))), (xa2, .inl (kx2, 100, .inl pr)), (xa3, .inl (kx3, 100, .inl ag)), (mh, .inr (1, [.int 0, .ref ma0, .ref ma1, .ref ma2, .ref ma3, .int nx, .long ck])), (ma0, .inl (km0, 100, .inl th)), (ma1, .inl (km1, 100, .inr (.inl tm))), (ma2, .inl (km2, 100, .inl pr)), (ma3, .inl (km3, 100, .inl ag)), (ao, .inl (k4, 1, .inr (.inl ou)))]) [0, 1, 2, 3, 4, 6, 7, 8, 9, 10, 5] rfl
  have hD := hD.sub (ws' := [(xh, .inr (0, [.ref xa0, .ref xa1, .ref xa2, .ref xa3, .long ck, .int nx])), (xa0, .inl (kx0, 100, .inl th)), (xa1, .inl (kx1, 100, .inr (.inl tm))), (xa2, .inl (kx2, 100, .inl pr)), (xa3, .inl (kx3, 100, .inl ag)), (mh, .inr (1, [.int 0, .ref ma0, .ref ma1, .ref ma2, .ref ma3, .int nx, .long ck])), (ma0, .inl (km0, 100, .inl th)), (ma1, .inl (km1, 100, .inr (.inl tm))), (ma2, .inl (km2, 100, .inl pr)), (ma3, .inl (km3, 100, .inl ag)), (ao, .inl (k4, 1, .inr (.inl ou)))]) [0, 1, 2, 3, 4, 6, 7, 8, 9, 10, 5] (by decide) rfl
  refine W.lcmp hx hb dL_law_303 ?_
  refine lv_if_eq (tgt := 563) hx hb dL_law_304 (by decide) (fun hc1 => ?_) (fun hc1 => absurd ((lg_cmp_eq _ _).mpr rfl) hc1)
  refine W.widen (k := cells + 1) (n := slots + 6) (Nat.le_succ _) (Nat.le_add_right _ 6) ?_
  exact kk 0 th tm pr ag ck nx ou H _ ls hI hP hD hS (lv_sub hl [0, 1, 2, 3, 4] rfl)
end LLleast
section LLgo
variable {p : Program} {l : Launch} {e : Env} {s : State} {m : MethodId} {below : List Frame} {meth : Method} {c : Code} {H : Heap} {locs : List Loc} {cells slots : Nat} {Q : State → Prop} {ls : Array Slot} {b L i : Nat} {xs : Nat → Int32}
variable {dC : Nat → ClassId} {dI : Nat → Nat → Nat} {xh xa0 xa1 xa2 xa3 : Nat} {kx0 kx1 kx2 kx3 : ClassId} {mh ma0 ma1 ma2 ma3 : Nat} {km0 km1 km2 km3 : ClassId} {ao : Nat} {k4 : ClassId} {fl : Int32} {th : Nat → Int32} {tm : Nat → Int64} {pr ag : Nat → Int32} {ck : Int64} {nx : Int32} {ou : Nat → Int64}
set_option maxHeartbeats 4000000 in
set_option maxRecDepth 100000 in
theorem ll_go (hx : p.tables.exec = Jvm.exec) (hb : c.code = bL_law) (hml : c.maxLocals = 8) (hT : ∀ w ∈ tw_T, w.before #[Value.ref b] s = true) (hown : s.vm.findClass RL = some m.cls) (hfl : l.flags = pinnedFlags ++ [noTraceFlag]) (hX : va_X b L xs s s.heap) (hbl : b < s.heap.size) (hZ : tw_Z s s.heap) (hNc : va_Nc tw_nse tw_iae s) (hL : L ≤ 2560) (hi : i + 5 ≤ L) (hc : cells + 1 ≤ 1044 ∧ slots + 6 ≤ 9060) (hI : tw_Inv tm ck) (hP : va_P (dC, dI) tw_cl (tw_wL xh xa0 xa1 xa2 xa3 kx0 kx1 kx2 kx3 mh ma0 ma1 ma2 ma3 km0 km1 km2 km3 ao k4 fl th tm pr ag ck nx ou) H) (hD : va_D (tw_AL s) (tw_wL xh xa0 xa1 xa2 xa3 kx0 kx1 kx2 kx3 mh ma0 ma1 ma2 ma3 km0 km1 km2 km3 ao k4 fl th tm pr ag ck nx ou)) (hK : va_K (dC, dI) tw_cl (tw_kL kx0 kx1 kx2 kx3 km0 km1 km2 km3 k4) s) (hS : va_S (tw_AL s) s.heap H locs) (hl : lv_has ls 8 [(4, .int (nI i)), (0, .ref b), (1, .ref xh), (2, .ref mh), (3, .ref ao)]) {j1 j2 : Int32} (e1 : xs (nI i + 1).toNatClampNeg = j1) (e2 : xs (nI i + 2).toNatClampNeg = j2) (h1 : 0 ≤ (j1.toInt64 <<< ((32 : Int32).toInt64 &&& 63)) ||| (j2.toInt64 &&& 4294967295)) (h2 : (j1.toInt64 <<< ((32 : Int32).toInt64 &&& 63)) ||| (j2.toInt64 &&& 4294967295) ≤ 17592186044416) (h3 : ck + ((j1.toInt64 <<< ((32 : Int32).toInt64 &&& 63)) ||| (j2.toInt64 &&& 4294967295)) ≤ 70368744177664) (kk : ∀ (fl' : Int32) (th' : Nat → Int32) (tm' : Nat → Int64) (pr' ag' : Nat → Int32) (ck' : Int64) (nx' : Int32) (ou' : Nat → Int64) (H' : Heap) (locs' : List Loc) (ls' : Array Slot), tw_Inv tm' ck' → va_P (dC, dI) tw_cl (tw_wL xh xa0 xa1 xa2 xa3 kx0 kx1 kx2 kx3 mh ma0 ma1 ma2 ma3 km0 km1 km2 km3 ao k4 fl' (th') (tm') (pr') (ag') (ck') (nx') (ou')) H' → va_D (tw_AL s) (tw_wL xh xa0 xa1 xa2 xa3 kx0 kx1 kx2 kx3 mh ma0 ma1 ma2 ma3 km0 km1 km2 km3 ao k4 (fl') (th') (tm') (pr') (ag') (ck') (nx') (ou')) → va_S (tw_AL s) s.heap H' locs' → lv_has ls' 8 [(4, .int (nI i)), (0, .ref b), (1, .ref xh), (2, .ref mh), (3, .ref ao)] → W p l e room_1 s m #[Value.ref b] below meth c H' locs' (cells + 1) (slots + 6) Q (F0 m 563 ls' [])) : W p l e room_1 s m #[Value.ref b] below meth c H locs cells slots Q (F0 m 309 ls []) := by
  have hA : ∀ q : Nat, s.heap.size ≤ q → tw_AL s q := fun q h => h
  have hbA : ¬ tw_AL s b := Nat.not_le.mpr hbl
  refine lv_aload_n hx hb dL_law_309 rfl (lv_at hl 2 rfl) ?_
  refine lv_aload_n hx hb dL_law_310 rfl (lv_at hl 1 rfl) ?_
  refine lv_iload hx hb dL_law_311 (lv_at hl 0 rfl) ?_
  refine lv_iconst (v := 1) hx hb dL_law_313 (by decide) ?_
  refine lv_iadd hx hb dL_law_314 ?_
  refine va_sld hx hb hX hbl hbA hS (tw_sin1 hi hL) dL_law_315 ?_
  rw [e1]
  refine lv_i2l hx hb dL_law_316 rfl ?_
  refine lv_bipush (v := 32) hx hb dL_law_317 (by decide) ?_
  refine lv_lshl hx hb dL_law_319 rfl ?_
  refine lv_aload_n hx hb dL_law_320 rfl (lv_at hl 1 rfl) ?_
  refine lv_iload hx hb dL_law_321 (lv_at hl 0 rfl) ?_
  refine lv_iconst (v := 2) hx hb dL_law_323 (by decide) ?_
  refine lv_iadd hx hb dL_law_324 ?_
  refine va_sld hx hb hX hbl hbA hS (tw_sin2 hi hL) dL_law_325 ?_
  rw [e2]
  refine lv_i2l hx hb dL_law_326 rfl ?_
  refine lv_ldc2 (v := 4294967295) hx hb hown (hT _ tt_292) dL_law_327 ?_
  refine lv_land hx hb dL_law_330 ?_
  refine lv_lor hx hb dL_law_331 ?_
  refine lv_aload_n hx hb dL_law_332 rfl (lv_at hl 4 rfl) ?_
  have hPc := hP.sub (ws' := (tw_wH xh xa0 xa1 xa2 xa3 kx0 kx1 kx2 kx3 th tm pr ag ck nx ao k4 ou)) [0, 1, 2, 3, 4, 10] rfl
  have hDc := hD.sub (ws' := (tw_wH xh xa0 xa1 xa2 xa3 kx0 kx1 kx2 kx3 th tm pr ag ck nx ao k4 ou)) [0, 1, 2, 3, 4, 10] (by decide) rfl
  have hKc := hK.sub (tys' := tw_kH kx0 kx1 kx2 kx3 k4) [0, 1, 2, 3, 8] rfl
  have hFc := va_free (wc := (tw_wH xh xa0 xa1 xa2 xa3 kx0 kx1 kx2 kx3 th tm pr ag ck nx ao k4 ou)) hD hS hA [0, 1, 2, 3, 4, 10] rfl
  refine va_calli (xt_runSW (n := 3) (As := [.ref xh, .long ((j1.toInt64 <<< ((32 : Int32).toInt64 &&& 63)) ||| (j2.toInt64 &&& 4294967295)), .ref ao]) (rest := []) ⟨hx, hb, hml, hown, hT⟩ (cL_go l dC dI xh xa0 xa1 xa2 xa3 kx0 kx1 kx2 kx3 th tm pr ag ck nx ao k4 ou H.size _ h1 h2 ((tw_go hI.2.1 hI.2.2 h1 h2).1.mpr h3)) rfl (tw_gS tt_167 tt_168 tt_0 tt_169) rfl rfl ⟨rfl, by decide +kernel⟩ ⟨Nat.le_of_ble_eq_true rfl, Nat.le_of_ble_eq_true rfl⟩ ⟨fun a U g mk q => by obtain ⟨q0, q1, qP, qK, qD⟩ := q; exact ⟨q0, q1, qP, va_K.moved (u := U) (U := U.calling g mk a) (Vm.Alike.refl U.vm) qK, qD⟩, fun U hU hW => ⟨rfl, by rw [hU], by rw [hU]; exact hPc, va_K.moved hW.alike hKc, hDc.weaken (fun _ _ _ _ => trivial)⟩⟩ rfl rfl hl.1 rfl (lv_room (Nat.le_of_ble_eq_true rfl)) dL_law_333 ⟨Nat.le_trans (Nat.le_succ _) hc.1, Nat.le_trans (Nat.le_add_right _ 6) hc.2⟩) hS (fun q _ h => hFc q h) hFc (fun r9 u9 t9 H1 locs ht9 hvm9 hw9 hB9 hz9 hk9 hS => ?_)
  obtain ⟨hP1, hD1⟩ := hB9
  rw [ht9] at hP1
  have hw9 : r9 = 0 := hw9
  subst r9
  obtain ⟨hP, hD⟩ := va_join (wr := (tw_wM mh ma0 ma1 ma2 ma3 km0 km1 km2 km3 fl th tm pr ag ck nx)) (w1 := (tw_wH xh xa0 xa1 xa2 xa3 kx0 kx1 kx2 kx3 th tm pr ag (ck + ((j1.toInt64 <<< ((32 : Int32).toInt64 &&& 63)) ||| (j2.toInt64 &&& 4294967295))) nx ao k4 (vp_updL ou (0 : Int32).toNatClampNeg ((tw_dues th tm (ck + ((j1.toInt64 <<< ((32 : Int32).toInt64 &&& 63)) ||| (j2.toInt64 &&& 4294967295))) 100).toInt64)))) hP hD [0, 1, 2, 3, 4, 10] [5, 6, 7, 8, 9] rfl rfl (by decide) (by decide) hk9 hFc hP1 hD1
  generalize H1 = H at hP hS ⊢
  have hP := hP.sub (ws' := [(xh, .inr (0, [.ref xa0, .ref xa1, .ref xa2, .ref xa3, .long (ck + ((j1.toInt64 <<< ((32 : Int32).toInt64 &&& 63)) ||| (j2.toInt64 &&& 4294967295))), .int nx])), (xa0, .inl (kx0, 100, .inl th)), (xa1, .inl (kx1, 100, .inr (.inl tm))), (xa2, .inl (kx2, 100, .inl pr)), (xa3, .inl (kx3, 100, .inl ag)), (mh, .inr (1, [.int fl, .ref ma0, .ref ma1, .ref ma2, .ref ma3, .int nx, .long ck])), (ma0, .inl (km0, 100, .inl th)), (ma1, .inl (km1, 100, .inr (.inl tm))), (ma2, .inl (km2, 100, .inl pr)), (ma3, .inl (km3, 100, .inl ag)), (ao, .inl (k4, 1, .inr (.inl (vp_updL ou (0 : Int32).toNatClampNeg ((tw_dues th tm (ck + ((j1.toInt64 <<< ((32 : Int32).toInt64 &&& 63)) ||| (j2.toInt64 &&& 4294967295))) 100).toInt64)))))]) [5, 6, 7, 8, 9, 0, 1, 2, 3, 4, 10] rfl
  have hD := hD.sub (ws' := [(xh, .inr (0, [.ref xa0, .ref xa1, .ref xa2, .ref xa3, .long (ck + ((j1.toInt64 <<< ((32 : Int32).toInt64 &&& 63)) ||| (j2.toInt64 &&& 4294967295))), .int nx])), (xa0, .inl (kx0, 100, .inl th)), (xa1, .inl (kx1, 100, .inr (.inl tm))), (xa2, .inl (kx2, 100, .inl pr)), (xa3, .inl (kx3, 100, .inl ag)), (mh, .inr (1, [.int fl, .ref ma0, .ref ma1, .ref ma2, .ref ma3, .int nx, .long ck])), (ma0, .inl (km0, 100, .inl th)), (ma1, .inl (km1, 100, .inr (.inl tm))), (ma2, .inl (km2, 100, .inl pr)), (ma3, .inl (km3, 100, .inl ag)), (ao, .inl (k4, 1, .inr (.inl (vp_updL ou (0 : Int32).toNatClampNeg ((tw_dues th tm (ck + ((j1.toInt64 <<< ((32 : Int32).toInt64 &&& 63)) ||| (j2.toInt64 &&& 4294967295))) 100).toInt64)))))]) [5, 6, 7, 8, 9, 0, 1, 2, 3, 4, 10] (by decide) rfl
  refine lv_istore hx hb dL_law_336 hl (by decide) rfl (fun ls hl => ?_)
  have hl : lv_has ls 8 [(5, .int 0), (4, .int (nI i)), (0, .ref b), (1, .ref xh), (2, .ref mh), (3, .ref ao)] := hl
  refine lv_aload_n hx hb dL_law_338 rfl (lv_at hl 4 rfl) ?_
  refine lv_aload_n hx hb dL_law_339 rfl (lv_at hl 2 rfl) ?_
  refine lv_iload hx hb dL_law_340 (lv_at hl 1 rfl) ?_
  refine lv_iconst (v := 1) hx hb dL_law_342 (by decide) ?_
  refine lv_iadd hx hb dL_law_343 ?_
  refine va_sld hx hb hX hbl hbA hS (tw_sin1 hi hL) dL_law_344 ?_
  rw [e1]
  refine lv_i2l hx hb dL_law_345 rfl ?_
  refine lv_bipush (v := 32) hx hb dL_law_346 (by decide) ?_
  refine lv_lshl hx hb dL_law_348 rfl ?_
  refine lv_aload_n hx hb dL_law_349 rfl (lv_at hl 2 rfl) ?_
  refine lv_iload hx hb dL_law_350 (lv_at hl 1 rfl) ?_
  refine lv_iconst (v := 2) hx hb dL_law_352 (by decide) ?_
  refine lv_iadd hx hb dL_law_353 ?_
  refine va_sld hx hb hX hbl hbA hS (tw_sin2 hi hL) dL_law_354 ?_
  rw [e2]
  refine lv_i2l hx hb dL_law_355 rfl ?_
  refine lv_ldc2 (v := 4294967295) hx hb hown (hT _ tt_292) dL_law_356 ?_
  refine lv_land hx hb dL_law_359 ?_
  refine lv_lor hx hb dL_law_360 ?_
  have hPc := hP.sub (ws' := (tw_wM mh ma0 ma1 ma2 ma3 km0 km1 km2 km3 fl th tm pr ag ck nx)) [5, 6, 7, 8, 9] rfl
  have hDc := hD.sub (ws' := (tw_wM mh ma0 ma1 ma2 ma3 km0 km1 km2 km3 fl th tm pr ag ck nx)) [5, 6, 7, 8, 9] (by decide) rfl
  have hKc := hK.sub (tys' := tw_k km0 km1 km2 km3) [4, 5, 6, 7] rfl
  have hFc := va_free (wc := (tw_wM mh ma0 ma1 ma2 ma3 km0 km1 km2 km3 fl th tm pr ag ck nx)) hD hS hA [5, 6, 7, 8, 9] rfl
  refine va_calli (va_runV (C := RM) (b := mh) (As := [.long ((j1.toInt64 <<< ((32 : Int32).toInt64 &&& 63)) ||| (j2.toInt64 &&& 4294967295))]) (rest := []) ⟨hx, hb, hml, hown, hT⟩ (cM_go l dC dI mh ma0 ma1 ma2 ma3 km0 km1 km2 km3 fl th tm pr ag ck nx H.size _ h1 h2 h3) (cwV 1 hT (tw_gV tt_269 tt_270 tt_271 tt_2 tt_272) rfl rfl rfl ⟨rfl, by decide +kernel⟩ ⟨Nat.le_of_ble_eq_true rfl, Nat.le_of_ble_eq_true rfl⟩) ⟨fun a U g mk q => by obtain ⟨q0, q1, qP, qK, qD⟩ := q; exact ⟨q0, q1, qP, va_K.moved (u := U) (U := U.calling g mk a) (Vm.Alike.refl U.vm) qK, qD⟩, va_recv (q0 := 0) (ci := 1) hKc hPc rfl rfl, fun U hU hW => ⟨rfl, by rw [hU], by rw [hU]; exact hPc, va_K.moved hW.alike hKc, hDc.weaken (fun _ _ _ _ => trivial)⟩⟩ rfl rfl hl.1 rfl (lv_room (Nat.le_of_ble_eq_true rfl)) dL_law_361 ⟨Nat.le_trans (Nat.le_succ _) hc.1, Nat.le_trans (Nat.le_add_right _ 6) hc.2⟩) hS (fun q _ h => hFc q h) hFc (fun r9 u9 t9 H1 locs ht9 hvm9 hw9 hB9 hz9 hk9 hS => ?_)
  obtain ⟨hP1, hD1⟩ := hB9
  rw [ht9] at hP1
  have hw9 : r9 = tw_dues th tm (ck + ((j1.toInt64 <<< ((32 : Int32).toInt64 &&& 63)) ||| (j2.toInt64 &&& 4294967295))) 100 := hw9
  subst r9
  obtain ⟨hP, hD⟩ := va_join (wr := [(xh, .inr (0, [.ref xa0, .ref xa1, .ref xa2, .ref xa3, .long (ck + ((j1.toInt64 <<< ((32 : Int32).toInt64 &&& 63)) ||| (j2.toInt64 &&& 4294967295))), .int nx])), (xa0, .inl (kx0, 100, .inl th)), (xa1, .inl (kx1, 100, .inr (.inl tm))), (xa2, .inl (kx2, 100, .inl pr)), (xa3, .inl (kx3, 100, .inl ag)), (ao, .inl (k4, 1, .inr (.inl (vp_updL ou (0 : Int32).toNatClampNeg ((tw_dues th tm (ck + ((j1.toInt64 <<< ((32 : Int32).toInt64 &&& 63)) ||| (j2.toInt64 &&& 4294967295))) 100).toInt64)))))]) (w1 := (tw_wM mh ma0 ma1 ma2 ma3 km0 km1 km2 km3 0 th tm pr ag (ck + ((j1.toInt64 <<< ((32 : Int32).toInt64 &&& 63)) ||| (j2.toInt64 &&& 4294967295))) nx)) hP hD [5, 6, 7, 8, 9] [0, 1, 2, 3, 4, 10] rfl rfl (by decide) (by decide) hk9 hFc hP1 hD1
  generalize H1 = H at hP hS ⊢
  have hP := hP.sub (ws' := [(xh, .inr (0, [.ref xa0, .ref xa1, .ref xa2, .ref xa3, .long (ck + ((j1.toInt64 <<< ((32 : Int32).toInt64 &&& 63)) ||| (j2.toInt64 &&& 4294967295))), .int nx])), (xa0, .inl (kx0, 100, .inl th)), (xa1, .inl (kx1, 100, .inr (.inl tm))), (xa2, .inl (kx2, 100, .inl pr)), (xa3, .inl (kx3, 100, .inl ag)), (mh, .inr (1, [.int 0, .ref ma0, .ref ma1, .ref ma2, .ref ma3, .int nx, .long (ck + ((j1.toInt64 <<< ((32 : Int32).toInt64 &&& 63)) ||| (j2.toInt64 &&& 4294967295)))])), (ma0, .inl (km0, 100, .inl th)), (ma1, .inl (km1, 100, .inr (.inl tm))), (ma2, .inl (km2, 100, .inl pr)), (ma3, .inl (km3, 100, .inl ag)), (ao, .inl (k4, 1, .inr (.inl (vp_updL ou (0 : Int32).toNatClampNeg ((tw_dues th tm (ck + ((j1.toInt64 <<< ((32 : Int32).toInt64 &&& 63)) ||| (j2.toInt64 &&& 4294967295))) 100).toInt64)))))]) [0, 1, 2, 3, 4, 6, 7, 8, 9, 10, 5] rfl
  have hD := hD.sub (ws' := [(xh, .inr (0, [.ref xa0, .ref xa1, .ref xa2, .ref xa3, .long (ck + ((j1.toInt64 <<< ((32 : Int32).toInt64 &&& 63)) ||| (j2.toInt64 &&& 4294967295))), .int nx])), (xa0, .inl (kx0, 100, .inl th)), (xa1, .inl (kx1, 100, .inr (.inl tm))), (xa2, .inl (kx2, 100, .inl pr)), (xa3, .inl (kx3, 100, .inl ag)), (mh, .inr (1, [.int 0, .ref ma0, .ref ma1, .ref ma2, .ref ma3, .int nx, .long (ck + ((j1.toInt64 <<< ((32 : Int32).toInt64 &&& 63)) ||| (j2.toInt64 &&& 4294967295)))])), (ma0, .inl (km0, 100, .inl th)), (ma1, .inl (km1, 100, .inr (.inl tm))), (ma2, .inl (km2, 100, .inl pr)), (ma3, .inl (km3, 100, .inl ag)), (ao, .inl (k4, 1, .inr (.inl (vp_updL ou (0 : Int32).toNatClampNeg ((tw_dues th tm (ck + ((j1.toInt64 <<< ((32 : Int32).toInt64 &&& 63)) ||| (j2.toInt64 &&& 4294967295))) 100).toInt64)))))]) [0, 1, 2, 3, 4, 6, 7, 8, 9, 10, 5] (by decide) rfl
  refine lv_istore hx hb dL_law_364 hl (by decide) rfl (fun ls hl => ?_)
  have hl : lv_has ls 8 [(6, .int (tw_dues th tm (ck + ((j1.toInt64 <<< ((32 : Int32).toInt64 &&& 63)) ||| (j2.toInt64 &&& 4294967295))) 100)), (5, .int 0), (4, .int (nI i)), (0, .ref b), (1, .ref xh), (2, .ref mh), (3, .ref ao)] := hl
  refine lv_aload_n hx hb dL_law_366 rfl (lv_at hl 5 rfl) ?_
  have hPc := hP.sub (ws' := (tw_wM mh ma0 ma1 ma2 ma3 km0 km1 km2 km3 0 th tm pr ag (ck + ((j1.toInt64 <<< ((32 : Int32).toInt64 &&& 63)) ||| (j2.toInt64 &&& 4294967295))) nx)) [5, 6, 7, 8, 9] rfl
  have hKc := hK.sub (tys' := tw_k km0 km1 km2 km3) [4, 5, 6, 7] rfl
  refine vp_callSi (W.runV (C := RM) (b := mh) (As := []) (rest := []) ⟨hx, hb, hml, hown, hT⟩ (cM_thrown l dC dI mh ma0 ma1 ma2 ma3 km0 km1 km2 km3 0 th tm pr ag (ck + ((j1.toInt64 <<< ((32 : Int32).toInt64 &&& 63)) ||| (j2.toInt64 &&& 4294967295))) nx) (cwV 0 hT (tw_gV tt_239 tt_240 tt_241 tt_2 tt_242) rfl rfl rfl ⟨rfl, by decide +kernel⟩ ⟨Nat.le_of_ble_eq_true rfl, Nat.le_of_ble_eq_true rfl⟩) ⟨fun a U g mk q => ⟨q.1, q.2.1, va_K.moved (u := U) (U := U.calling g mk a) (Vm.Alike.refl U.vm) q.2.2⟩, va_recv (q0 := 0) (ci := 1) hKc hPc rfl rfl, fun U hU hW => ⟨rfl, by rw [hU]; exact hPc, va_K.moved hW.alike hKc⟩⟩ rfl rfl hl.1 rfl (lv_room (Nat.le_of_ble_eq_true rfl)) dL_law_367 ⟨Nat.le_trans (Nat.le_succ _) hc.1, Nat.le_trans (Nat.le_add_right _ 6) hc.2⟩) (fun r8 h8 => ?_)
  subst r8
  refine lv_iload hx hb dL_law_370 (lv_at hl 1 rfl) ?_
  refine lv_icmp_eq (tgt := 377) hx hb dL_law_372 (by decide) (fun hc1 => ?_) (fun hc1 => absurd (rfl : (0 : Int32) = 0) hc1)
  refine lv_iload hx hb dL_law_377 (lv_at hl 1 rfl) ?_
  refine lv_if_ne (tgt := 394) hx hb dL_law_379 (by decide) (fun hc2 => absurd rfl hc2) (fun hc2 => ?_)
  refine lv_aload_n hx hb dL_law_382 rfl (lv_at hl 6 rfl) ?_
  refine lv_iconst (v := 0) hx hb dL_law_383 (by decide) ?_
  refine va_lald hx hb hK hP 10 8 rfl rfl (by unfold vp_in; decide) dL_law_384 ?_
  refine lv_iload hx hb dL_law_385 (lv_at hl 0 rfl) ?_
  refine lv_i2l hx hb dL_law_387 rfl ?_
  refine W.lcmp hx hb dL_law_388 ?_
  refine lv_if_eq (tgt := 394) hx hb dL_law_389 (by decide) (fun hc3 => ?_) (fun hc3 => absurd ((lg_cmp_eq _ _).mpr pk_uLs) hc3)
  refine lv_goto (tgt := 563) hx hb dL_law_394 (by decide) ?_
  refine W.widen (k := cells + 1) (n := slots + 6) (Nat.le_succ _) (Nat.le_add_right _ 6) ?_
  exact kk 0 th tm pr ag (ck + ((j1.toInt64 <<< ((32 : Int32).toInt64 &&& 63)) ||| (j2.toInt64 &&& 4294967295))) nx (vp_updL ou (0 : Int32).toNatClampNeg ((tw_dues th tm (ck + ((j1.toInt64 <<< ((32 : Int32).toInt64 &&& 63)) ||| (j2.toInt64 &&& 4294967295))) 100).toInt64)) H _ ls ⟨hI.1, (tw_go hI.2.1 hI.2.2 h1 h2).2, h3⟩ hP hD hS (lv_sub hl [2, 3, 4, 5, 6] rfl)
end LLgo
section LLgoB
variable {p : Program} {l : Launch} {e : Env} {s : State} {m : MethodId} {below : List Frame} {meth : Method} {c : Code} {H : Heap} {locs : List Loc} {cells slots : Nat} {Q : State → Prop} {ls : Array Slot} {b L i : Nat} {xs : Nat → Int32}
variable {dC : Nat → ClassId} {dI : Nat → Nat → Nat} {xh xa0 xa1 xa2 xa3 : Nat} {kx0 kx1 kx2 kx3 : ClassId} {mh ma0 ma1 ma2 ma3 : Nat} {km0 km1 km2 km3 : ClassId} {ao : Nat} {k4 : ClassId} {fl : Int32} {th : Nat → Int32} {tm : Nat → Int64} {pr ag : Nat → Int32} {ck : Int64} {nx : Int32} {ou : Nat → Int64}
set_option maxHeartbeats 4000000 in
set_option maxRecDepth 100000 in
theorem ll_goB (hx : p.tables.exec = Jvm.exec) (hb : c.code = bL_law) (hml : c.maxLocals = 8) (hT : ∀ w ∈ tw_T, w.before #[Value.ref b] s = true) (hown : s.vm.findClass RL = some m.cls) (hfl : l.flags = pinnedFlags ++ [noTraceFlag]) (hX : va_X b L xs s s.heap) (hbl : b < s.heap.size) (hZ : tw_Z s s.heap) (hNc : va_Nc tw_nse tw_iae s) (hL : L ≤ 2560) (hi : i + 5 ≤ L) (hc : cells + 1 ≤ 1044 ∧ slots + 6 ≤ 9060) (hI : tw_Inv tm ck) (hP : va_P (dC, dI) tw_cl (tw_wL xh xa0 xa1 xa2 xa3 kx0 kx1 kx2 kx3 mh ma0 ma1 ma2 ma3 km0 km1 km2 km3 ao k4 fl th tm pr ag ck nx ou) H) (hD : va_D (tw_AL s) (tw_wL xh xa0 xa1 xa2 xa3 kx0 kx1 kx2 kx3 mh ma0 ma1 ma2 ma3 km0 km1 km2 km3 ao k4 fl th tm pr ag ck nx ou)) (hK : va_K (dC, dI) tw_cl (tw_kL kx0 kx1 kx2 kx3 km0 km1 km2 km3 k4) s) (hS : va_S (tw_AL s) s.heap H locs) (hl : lv_has ls 8 [(4, .int (nI i)), (0, .ref b), (1, .ref xh), (2, .ref mh), (3, .ref ao)]) {j1 j2 : Int32} (e1 : xs (nI i + 1).toNatClampNeg = j1) (e2 : xs (nI i + 2).toNatClampNeg = j2) (hbad : ¬ (0 ≤ (j1.toInt64 <<< ((32 : Int32).toInt64 &&& 63)) ||| (j2.toInt64 &&& 4294967295) ∧ (j1.toInt64 <<< ((32 : Int32).toInt64 &&& 63)) ||| (j2.toInt64 &&& 4294967295) ≤ 17592186044416 ∧ ck + ((j1.toInt64 <<< ((32 : Int32).toInt64 &&& 63)) ||| (j2.toInt64 &&& 4294967295)) ≤ 70368744177664)) (kk : ∀ (fl' : Int32) (th' : Nat → Int32) (tm' : Nat → Int64) (pr' ag' : Nat → Int32) (ck' : Int64) (nx' : Int32) (ou' : Nat → Int64) (H' : Heap) (locs' : List Loc) (ls' : Array Slot), tw_Inv tm' ck' → va_P (dC, dI) tw_cl (tw_wL xh xa0 xa1 xa2 xa3 kx0 kx1 kx2 kx3 mh ma0 ma1 ma2 ma3 km0 km1 km2 km3 ao k4 fl' (th') (tm') (pr') (ag') (ck') (nx') (ou')) H' → va_D (tw_AL s) (tw_wL xh xa0 xa1 xa2 xa3 kx0 kx1 kx2 kx3 mh ma0 ma1 ma2 ma3 km0 km1 km2 km3 ao k4 (fl') (th') (tm') (pr') (ag') (ck') (nx') (ou')) → va_S (tw_AL s) s.heap H' locs' → lv_has ls' 8 [(4, .int (nI i)), (0, .ref b), (1, .ref xh), (2, .ref mh), (3, .ref ao)] → W p l e room_1 s m #[Value.ref b] below meth c H' locs' (cells + 1) (slots + 6) Q (F0 m 563 ls' [])) : W p l e room_1 s m #[Value.ref b] below meth c H locs cells slots Q (F0 m 309 ls []) := by
  have hA : ∀ q : Nat, s.heap.size ≤ q → tw_AL s q := fun q h => h
  have hbA : ¬ tw_AL s b := Nat.not_le.mpr hbl
  refine lv_aload_n hx hb dL_law_309 rfl (lv_at hl 2 rfl) ?_
  refine lv_aload_n hx hb dL_law_310 rfl (lv_at hl 1 rfl) ?_
  refine lv_iload hx hb dL_law_311 (lv_at hl 0 rfl) ?_
  refine lv_iconst (v := 1) hx hb dL_law_313 (by decide) ?_
  refine lv_iadd hx hb dL_law_314 ?_
  refine va_sld hx hb hX hbl hbA hS (tw_sin1 hi hL) dL_law_315 ?_
  rw [e1]
  refine lv_i2l hx hb dL_law_316 rfl ?_
  refine lv_bipush (v := 32) hx hb dL_law_317 (by decide) ?_
  refine lv_lshl hx hb dL_law_319 rfl ?_
  refine lv_aload_n hx hb dL_law_320 rfl (lv_at hl 1 rfl) ?_
  refine lv_iload hx hb dL_law_321 (lv_at hl 0 rfl) ?_
  refine lv_iconst (v := 2) hx hb dL_law_323 (by decide) ?_
  refine lv_iadd hx hb dL_law_324 ?_
  refine va_sld hx hb hX hbl hbA hS (tw_sin2 hi hL) dL_law_325 ?_
  rw [e2]
  refine lv_i2l hx hb dL_law_326 rfl ?_
  refine lv_ldc2 (v := 4294967295) hx hb hown (hT _ tt_292) dL_law_327 ?_
  refine lv_land hx hb dL_law_330 ?_
  refine lv_lor hx hb dL_law_331 ?_
  refine lv_aload_n hx hb dL_law_332 rfl (lv_at hl 4 rfl) ?_
  have hPc := hP.sub (ws' := (tw_wH xh xa0 xa1 xa2 xa3 kx0 kx1 kx2 kx3 th tm pr ag ck nx ao k4 ou)) [0, 1, 2, 3, 4, 10] rfl
  have hDc := hD.sub (ws' := (tw_wH xh xa0 xa1 xa2 xa3 kx0 kx1 kx2 kx3 th tm pr ag ck nx ao k4 ou)) [0, 1, 2, 3, 4, 10] (by decide) rfl
  have hKc := hK.sub (tys' := tw_kH kx0 kx1 kx2 kx3 k4) [0, 1, 2, 3, 8] rfl
  have hFc := va_free (wc := (tw_wH xh xa0 xa1 xa2 xa3 kx0 kx1 kx2 kx3 th tm pr ag ck nx ao k4 ou)) hD hS hA [0, 1, 2, 3, 4, 10] rfl
  have hZH : ∀ U : State, U.heap = H → s.WarmedH U.vm → tw_Z U U.heap := fun U hU hW => by rw [hU]; exact hZ.move hW (fun a ha => hS.2.1 a ha (Nat.not_le.mpr ha))
  refine va_calli (xt_runSW (n := 3) (As := [.ref xh, .long ((j1.toInt64 <<< ((32 : Int32).toInt64 &&& 63)) ||| (j2.toInt64 &&& 4294967295)), .ref ao]) (rest := []) ⟨hx, hb, hml, hown, hT⟩ (cL_goB l hfl dC dI xh xa0 xa1 xa2 xa3 kx0 kx1 kx2 kx3 th tm pr ag ck nx ao k4 ou H.size _ (fun z => hbad ⟨z.1, z.2.1, (tw_go hI.2.1 hI.2.2 z.1 z.2.1).1.mp z.2.2⟩)) rfl (tw_gS tt_167 tt_168 tt_0 tt_169) rfl rfl ⟨rfl, by decide +kernel⟩ ⟨Nat.le_of_ble_eq_true rfl, Nat.le_of_ble_eq_true rfl⟩ ⟨fun a U g mk q => by obtain ⟨q0, q1, qP, qK, qD, qZ⟩ := q; exact ⟨q0, q1, qP, va_K.moved (u := U) (U := U.calling g mk a) (Vm.Alike.refl U.vm) qK, qD, qZ.call⟩, fun U hU hW => ⟨rfl, by rw [hU], by rw [hU]; exact hPc, va_K.moved hW.alike hKc, hDc.weaken (fun _ _ _ _ => trivial), hZH U hU hW⟩⟩ rfl rfl hl.1 rfl (lv_room (Nat.le_of_ble_eq_true rfl)) dL_law_333 hc) hS (fun q _ h => hFc q h) hFc (fun r9 u9 t9 H1 locs ht9 hvm9 hw9 hB9 hz9 hk9 hS => ?_)
  obtain ⟨hP1, hD1⟩ := hB9
  rw [ht9] at hP1
  have hw9 : r9 = 1 := hw9
  subst r9
  obtain ⟨hP, hD⟩ := va_join (wr := (tw_wM mh ma0 ma1 ma2 ma3 km0 km1 km2 km3 fl th tm pr ag ck nx)) (w1 := (tw_wH xh xa0 xa1 xa2 xa3 kx0 kx1 kx2 kx3 th tm pr ag ck nx ao k4 ou)) hP hD [0, 1, 2, 3, 4, 10] [5, 6, 7, 8, 9] rfl rfl (by decide) (by decide) hk9 hFc hP1 hD1
  generalize H1 = H at hP hS ⊢
  have hP := hP.sub (ws' := [(xh, .inr (0, [.ref xa0, .ref xa1, .ref xa2, .ref xa3, .long ck, .int nx])), (xa0, .inl (kx0, 100, .inl th)), (xa1, .inl (kx1, 100, .inr (.inl tm))), (xa2, .inl (kx2, 100, .inl pr)), (xa3, .inl (kx3, 100, .inl ag)), (mh, .inr (1, [.int fl, .ref ma0, .ref ma1, .ref ma2, .ref ma3, .int nx, .long ck])), (ma0, .inl (km0, 100, .inl th)), (ma1, .inl (km1, 100, .inr (.inl tm))), (ma2, .inl (km2, 100, .inl pr)), (ma3, .inl (km3, 100, .inl ag)), (ao, .inl (k4, 1, .inr (.inl ou)))]) [5, 6, 7, 8, 9, 0, 1, 2, 3, 4, 10] rfl
  have hD := hD.sub (ws' := [(xh, .inr (0, [.ref xa0, .ref xa1, .ref xa2, .ref xa3, .long ck, .int nx])), (xa0, .inl (kx0, 100, .inl th)), (xa1, .inl (kx1, 100, .inr (.inl tm))), (xa2, .inl (kx2, 100, .inl pr)), (xa3, .inl (kx3, 100, .inl ag)), (mh, .inr (1, [.int fl, .ref ma0, .ref ma1, .ref ma2, .ref ma3, .int nx, .long ck])), (ma0, .inl (km0, 100, .inl th)), (ma1, .inl (km1, 100, .inr (.inl tm))), (ma2, .inl (km2, 100, .inl pr)), (ma3, .inl (km3, 100, .inl ag)), (ao, .inl (k4, 1, .inr (.inl ou)))]) [5, 6, 7, 8, 9, 0, 1, 2, 3, 4, 10] (by decide) rfl
  refine lv_istore hx hb dL_law_336 hl (by decide) rfl (fun ls hl => ?_)
  have hl : lv_has ls 8 [(5, .int 1), (4, .int (nI i)), (0, .ref b), (1, .ref xh), (2, .ref mh), (3, .ref ao)] := hl
  refine lv_aload_n hx hb dL_law_338 rfl (lv_at hl 4 rfl) ?_
  refine lv_aload_n hx hb dL_law_339 rfl (lv_at hl 2 rfl) ?_
  refine lv_iload hx hb dL_law_340 (lv_at hl 1 rfl) ?_
  refine lv_iconst (v := 1) hx hb dL_law_342 (by decide) ?_
  refine lv_iadd hx hb dL_law_343 ?_
  refine va_sld hx hb hX hbl hbA hS (tw_sin1 hi hL) dL_law_344 ?_
  rw [e1]
  refine lv_i2l hx hb dL_law_345 rfl ?_
  refine lv_bipush (v := 32) hx hb dL_law_346 (by decide) ?_
  refine lv_lshl hx hb dL_law_348 rfl ?_
  refine lv_aload_n hx hb dL_law_349 rfl (lv_at hl 2 rfl) ?_
  refine lv_iload hx hb dL_law_350 (lv_at hl 1 rfl) ?_
  refine lv_iconst (v := 2) hx hb dL_law_352 (by decide) ?_
  refine lv_iadd hx hb dL_law_353 ?_
  refine va_sld hx hb hX hbl hbA hS (tw_sin2 hi hL) dL_law_354 ?_
  rw [e2]
  refine lv_i2l hx hb dL_law_355 rfl ?_
  refine lv_ldc2 (v := 4294967295) hx hb hown (hT _ tt_292) dL_law_356 ?_
  refine lv_land hx hb dL_law_359 ?_
  refine lv_lor hx hb dL_law_360 ?_
  have hPc := hP.sub (ws' := (tw_wM mh ma0 ma1 ma2 ma3 km0 km1 km2 km3 fl th tm pr ag ck nx)) [5, 6, 7, 8, 9] rfl
  have hDc := hD.sub (ws' := (tw_wM mh ma0 ma1 ma2 ma3 km0 km1 km2 km3 fl th tm pr ag ck nx)) [5, 6, 7, 8, 9] (by decide) rfl
  have hKc := hK.sub (tys' := tw_k km0 km1 km2 km3) [4, 5, 6, 7] rfl
  have hFc := va_free (wc := (tw_wM mh ma0 ma1 ma2 ma3 km0 km1 km2 km3 fl th tm pr ag ck nx)) hD hS hA [5, 6, 7, 8, 9] rfl
  refine va_calli (va_runV (C := RM) (b := mh) (As := [.long ((j1.toInt64 <<< ((32 : Int32).toInt64 &&& 63)) ||| (j2.toInt64 &&& 4294967295))]) (rest := []) ⟨hx, hb, hml, hown, hT⟩ (cM_goB l dC dI mh ma0 ma1 ma2 ma3 km0 km1 km2 km3 fl th tm pr ag ck nx H.size _ hbad) (cwV 1 hT (tw_gV tt_269 tt_270 tt_271 tt_2 tt_272) rfl rfl rfl ⟨rfl, by decide +kernel⟩ ⟨Nat.le_of_ble_eq_true rfl, Nat.le_of_ble_eq_true rfl⟩) ⟨fun a U g mk q => by obtain ⟨q0, q1, qP, qK, qD⟩ := q; exact ⟨q0, q1, qP, va_K.moved (u := U) (U := U.calling g mk a) (Vm.Alike.refl U.vm) qK, qD⟩, va_recv (q0 := 0) (ci := 1) hKc hPc rfl rfl, fun U hU hW => ⟨rfl, by rw [hU], by rw [hU]; exact hPc, va_K.moved hW.alike hKc, hDc.weaken (fun _ _ _ _ => trivial)⟩⟩ rfl rfl hl.1 rfl (lv_room (Nat.le_of_ble_eq_true rfl)) dL_law_361 hc) hS (fun q _ h => hFc q h) hFc (fun r9 u9 t9 H1 locs ht9 hvm9 hw9 hB9 hz9 hk9 hS => ?_)
  obtain ⟨hP1, hD1⟩ := hB9
  rw [ht9] at hP1
  have hw9 : r9 = 0 := hw9
  subst r9
  obtain ⟨hP, hD⟩ := va_join (wr := [(xh, .inr (0, [.ref xa0, .ref xa1, .ref xa2, .ref xa3, .long ck, .int nx])), (xa0, .inl (kx0, 100, .inl th)), (xa1, .inl (kx1, 100, .inr (.inl tm))), (xa2, .inl (kx2, 100, .inl pr)), (xa3, .inl (kx3, 100, .inl ag)), (ao, .inl (k4, 1, .inr (.inl ou)))]) (w1 := (tw_wM mh ma0 ma1 ma2 ma3 km0 km1 km2 km3 1 th tm pr ag ck nx)) hP hD [5, 6, 7, 8, 9] [0, 1, 2, 3, 4, 10] rfl rfl (by decide) (by decide) hk9 hFc hP1 hD1
  generalize H1 = H at hP hS ⊢
  have hP := hP.sub (ws' := [(xh, .inr (0, [.ref xa0, .ref xa1, .ref xa2, .ref xa3, .long ck, .int nx])), (xa0, .inl (kx0, 100, .inl th)), (xa1, .inl (kx1, 100, .inr (.inl tm))), (xa2, .inl (kx2, 100, .inl pr)), (xa3, .inl (kx3, 100, .inl ag)), (mh, .inr (1, [.int 1, .ref ma0, .ref ma1, .ref ma2, .ref ma3, .int nx, .long ck])), (ma0, .inl (km0, 100, .inl th)), (ma1, .inl (km1, 100, .inr (.inl tm))), (ma2, .inl (km2, 100, .inl pr)), (ma3, .inl (km3, 100, .inl ag)), (ao, .inl (k4, 1, .inr (.inl ou)))]) [0, 1, 2, 3, 4, 6, 7, 8, 9, 10, 5] rfl
  have hD := hD.sub (ws' := [(xh, .inr (0, [.ref xa0, .ref xa1, .ref xa2, .ref xa3, .long ck, .int nx])), (xa0, .inl (kx0, 100, .inl th)), (xa1, .inl (kx1, 100, .inr (.inl tm))), (xa2, .inl (kx2, 100, .inl pr)), (xa3, .inl (kx3, 100, .inl ag)), (mh, .inr (1, [.int 1, .ref ma0, .ref ma1, .ref ma2, .ref ma3, .int nx, .long ck])), (ma0, .inl (km0, 100, .inl th)), (ma1, .inl (km1, 100, .inr (.inl tm))), (ma2, .inl (km2, 100, .inl pr)), (ma3, .inl (km3, 100, .inl ag)), (ao, .inl (k4, 1, .inr (.inl ou)))]) [0, 1, 2, 3, 4, 6, 7, 8, 9, 10, 5] (by decide) rfl
  refine lv_istore hx hb dL_law_364 hl (by decide) rfl (fun ls hl => ?_)
  have hl : lv_has ls 8 [(6, .int 0), (5, .int 1), (4, .int (nI i)), (0, .ref b), (1, .ref xh), (2, .ref mh), (3, .ref ao)] := hl
  refine lv_aload_n hx hb dL_law_366 rfl (lv_at hl 5 rfl) ?_
  have hPc := hP.sub (ws' := (tw_wM mh ma0 ma1 ma2 ma3 km0 km1 km2 km3 1 th tm pr ag ck nx)) [5, 6, 7, 8, 9] rfl
  have hKc := hK.sub (tys' := tw_k km0 km1 km2 km3) [4, 5, 6, 7] rfl
  refine vp_callSi (W.runV (C := RM) (b := mh) (As := []) (rest := []) ⟨hx, hb, hml, hown, hT⟩ (cM_thrown l dC dI mh ma0 ma1 ma2 ma3 km0 km1 km2 km3 1 th tm pr ag ck nx) (cwV 0 hT (tw_gV tt_239 tt_240 tt_241 tt_2 tt_242) rfl rfl rfl ⟨rfl, by decide +kernel⟩ ⟨Nat.le_of_ble_eq_true rfl, Nat.le_of_ble_eq_true rfl⟩) ⟨fun a U g mk q => ⟨q.1, q.2.1, va_K.moved (u := U) (U := U.calling g mk a) (Vm.Alike.refl U.vm) q.2.2⟩, va_recv (q0 := 0) (ci := 1) hKc hPc rfl rfl, fun U hU hW => ⟨rfl, by rw [hU]; exact hPc, va_K.moved hW.alike hKc⟩⟩ rfl rfl hl.1 rfl (lv_room (Nat.le_of_ble_eq_true rfl)) dL_law_367 hc) (fun r8 h8 => ?_)
  subst r8
  refine lv_iload hx hb dL_law_370 (lv_at hl 1 rfl) ?_
  refine lv_icmp_eq (tgt := 377) hx hb dL_law_372 (by decide) (fun hc1 => ?_) (fun hc1 => absurd (rfl : (1 : Int32) = 1) hc1)
  refine lv_iload hx hb dL_law_377 (lv_at hl 1 rfl) ?_
  refine lv_if_ne (tgt := 394) hx hb dL_law_379 (by decide) (fun hc2 => ?_) (fun hc2 => absurd hc2 (by decide))
  refine lv_goto (tgt := 563) hx hb dL_law_394 (by decide) ?_
  exact kk 1 th tm pr ag ck nx ou H _ ls hI hP hD hS (lv_sub hl [2, 3, 4, 5, 6] rfl)
end LLgoB
section LLskip
variable {p : Program} {l : Launch} {e : Env} {s : State} {m : MethodId} {below : List Frame} {meth : Method} {c : Code} {H : Heap} {locs : List Loc} {cells slots : Nat} {Q : State → Prop} {ls : Array Slot} {b L i : Nat} {xs : Nat → Int32}
variable {dC : Nat → ClassId} {dI : Nat → Nat → Nat} {xh xa0 xa1 xa2 xa3 : Nat} {kx0 kx1 kx2 kx3 : ClassId} {mh ma0 ma1 ma2 ma3 : Nat} {km0 km1 km2 km3 : ClassId} {ao : Nat} {k4 : ClassId} {fl : Int32} {th : Nat → Int32} {tm : Nat → Int64} {pr ag : Nat → Int32} {ck : Int64} {nx : Int32} {ou : Nat → Int64}
set_option maxHeartbeats 4000000 in
set_option maxRecDepth 100000 in
theorem ll_skip (hx : p.tables.exec = Jvm.exec) (hb : c.code = bL_law) (hml : c.maxLocals = 8) (hT : ∀ w ∈ tw_T, w.before #[Value.ref b] s = true) (hown : s.vm.findClass RL = some m.cls) (hfl : l.flags = pinnedFlags ++ [noTraceFlag]) (hX : va_X b L xs s s.heap) (hbl : b < s.heap.size) (hZ : tw_Z s s.heap) (hNc : va_Nc tw_nse tw_iae s) (hL : L ≤ 2560) (hi : i + 5 ≤ L) (hc : cells + 1 ≤ 1044 ∧ slots + 6 ≤ 9060) (hI : tw_Inv tm ck) (hP : va_P (dC, dI) tw_cl (tw_wL xh xa0 xa1 xa2 xa3 kx0 kx1 kx2 kx3 mh ma0 ma1 ma2 ma3 km0 km1 km2 km3 ao k4 fl th tm pr ag ck nx ou) H) (hD : va_D (tw_AL s) (tw_wL xh xa0 xa1 xa2 xa3 kx0 kx1 kx2 kx3 mh ma0 ma1 ma2 ma3 km0 km1 km2 km3 ao k4 fl th tm pr ag ck nx ou)) (hK : va_K (dC, dI) tw_cl (tw_kL kx0 kx1 kx2 kx3 km0 km1 km2 km3 k4) s) (hS : va_S (tw_AL s) s.heap H locs) (hl : lv_has ls 8 [(4, .int (nI i)), (0, .ref b), (1, .ref xh), (2, .ref mh), (3, .ref ao)]) (hf : ¬ tw_least th tm ck 100 = -1) (kk : ∀ (fl' : Int32) (th' : Nat → Int32) (tm' : Nat → Int64) (pr' ag' : Nat → Int32) (ck' : Int64) (nx' : Int32) (ou' : Nat → Int64) (H' : Heap) (locs' : List Loc) (ls' : Array Slot), tw_Inv tm' ck' → va_P (dC, dI) tw_cl (tw_wL xh xa0 xa1 xa2 xa3 kx0 kx1 kx2 kx3 mh ma0 ma1 ma2 ma3 km0 km1 km2 km3 ao k4 fl' (th') (tm') (pr') (ag') (ck') (nx') (ou')) H' → va_D (tw_AL s) (tw_wL xh xa0 xa1 xa2 xa3 kx0 kx1 kx2 kx3 mh ma0 ma1 ma2 ma3 km0 km1 km2 km3 ao k4 (fl') (th') (tm') (pr') (ag') (ck') (nx') (ou')) → va_S (tw_AL s) s.heap H' locs' → lv_has ls' 8 [(4, .int (nI i)), (0, .ref b), (1, .ref xh), (2, .ref mh), (3, .ref ao)] → W p l e room_1 s m #[Value.ref b] below meth c H' locs' (cells + 1) (slots + 6) Q (F0 m 563 ls' [])) : W p l e room_1 s m #[Value.ref b] below meth c H locs cells slots Q (F0 m 397 ls []) := by
  have hA : ∀ q : Nat, s.heap.size ≤ q → tw_AL s q := fun q h => h
  have hbA : ¬ tw_AL s b := Nat.not_le.mpr hbl
  refine lv_aload_n hx hb dL_law_397 rfl (lv_at hl 2 rfl) ?_
  refine lv_aload_n hx hb dL_law_398 rfl (lv_at hl 4 rfl) ?_
  have hPc := hP.sub (ws' := (tw_wH xh xa0 xa1 xa2 xa3 kx0 kx1 kx2 kx3 th tm pr ag ck nx ao k4 ou)) [0, 1, 2, 3, 4, 10] rfl
  have hDc := hD.sub (ws' := (tw_wH xh xa0 xa1 xa2 xa3 kx0 kx1 kx2 kx3 th tm pr ag ck nx ao k4 ou)) [0, 1, 2, 3, 4, 10] (by decide) rfl
  have hKc := hK.sub (tys' := tw_kH kx0 kx1 kx2 kx3 k4) [0, 1, 2, 3, 8] rfl
  have hFc := va_free (wc := (tw_wH xh xa0 xa1 xa2 xa3 kx0 kx1 kx2 kx3 th tm pr ag ck nx ao k4 ou)) hD hS hA [0, 1, 2, 3, 4, 10] rfl
  refine va_calli (xt_runSW (n := 2) (As := [.ref xh, .ref ao]) (rest := []) ⟨hx, hb, hml, hown, hT⟩ (cL_skip l dC dI xh xa0 xa1 xa2 xa3 kx0 kx1 kx2 kx3 th tm pr ag ck nx ao k4 ou H.size hf) rfl (tw_gS tt_181 tt_182 tt_0 tt_183) rfl rfl ⟨rfl, by decide +kernel⟩ ⟨Nat.le_of_ble_eq_true rfl, Nat.le_of_ble_eq_true rfl⟩ ⟨fun a U g mk q => by obtain ⟨q0, q1, qP, qK, qD⟩ := q; exact ⟨q0, q1, qP, va_K.moved (u := U) (U := U.calling g mk a) (Vm.Alike.refl U.vm) qK, qD⟩, fun U hU hW => ⟨rfl, by rw [hU], by rw [hU]; exact hPc, va_K.moved hW.alike hKc, hDc.weaken (fun _ _ _ _ => trivial)⟩⟩ rfl rfl hl.1 rfl (lv_room (Nat.le_of_ble_eq_true rfl)) dL_law_399 ⟨Nat.le_trans (Nat.le_succ _) hc.1, Nat.le_trans (Nat.le_add_right _ 6) hc.2⟩) hS (fun q _ h => hFc q h) hFc (fun r9 u9 t9 H1 locs ht9 hvm9 hw9 hB9 hz9 hk9 hS => ?_)
  obtain ⟨hP1, hD1⟩ := hB9
  rw [ht9] at hP1
  have hw9 : r9 = 0 := hw9
  subst r9
  obtain ⟨hP, hD⟩ := va_join (wr := (tw_wM mh ma0 ma1 ma2 ma3 km0 km1 km2 km3 fl th tm pr ag ck nx)) (w1 := (tw_wH xh xa0 xa1 xa2 xa3 kx0 kx1 kx2 kx3 th tm pr ag (tw_least th tm ck 100) nx ao k4 (vp_updL ou (0 : Int32).toNatClampNeg ((tw_dues th tm (tw_least th tm ck 100) 100).toInt64)))) hP hD [0, 1, 2, 3, 4, 10] [5, 6, 7, 8, 9] rfl rfl (by decide) (by decide) hk9 hFc hP1 hD1
  generalize H1 = H at hP hS ⊢
  have hP := hP.sub (ws' := [(xh, .inr (0, [.ref xa0, .ref xa1, .ref xa2, .ref xa3, .long (tw_least th tm ck 100), .int nx])), (xa0, .inl (kx0, 100, .inl th)), (xa1, .inl (kx1, 100, .inr (.inl tm))), (xa2, .inl (kx2, 100, .inl pr)), (xa3, .inl (kx3, 100, .inl ag)), (mh, .inr (1, [.int fl, .ref ma0, .ref ma1, .ref ma2, .ref ma3, .int nx, .long ck])), (ma0, .inl (km0, 100, .inl th)), (ma1, .inl (km1, 100, .inr (.inl tm))), (ma2, .inl (km2, 100, .inl pr)), (ma3, .inl (km3, 100, .inl ag)), (ao, .inl (k4, 1, .inr (.inl (vp_updL ou (0 : Int32).toNatClampNeg ((tw_dues th tm (tw_least th tm ck 100) 100).toInt64)))))]) [5, 6, 7, 8, 9, 0, 1, 2, 3, 4, 10] rfl
  have hD := hD.sub (ws' := [(xh, .inr (0, [.ref xa0, .ref xa1, .ref xa2, .ref xa3, .long (tw_least th tm ck 100), .int nx])), (xa0, .inl (kx0, 100, .inl th)), (xa1, .inl (kx1, 100, .inr (.inl tm))), (xa2, .inl (kx2, 100, .inl pr)), (xa3, .inl (kx3, 100, .inl ag)), (mh, .inr (1, [.int fl, .ref ma0, .ref ma1, .ref ma2, .ref ma3, .int nx, .long ck])), (ma0, .inl (km0, 100, .inl th)), (ma1, .inl (km1, 100, .inr (.inl tm))), (ma2, .inl (km2, 100, .inl pr)), (ma3, .inl (km3, 100, .inl ag)), (ao, .inl (k4, 1, .inr (.inl (vp_updL ou (0 : Int32).toNatClampNeg ((tw_dues th tm (tw_least th tm ck 100) 100).toInt64)))))]) [5, 6, 7, 8, 9, 0, 1, 2, 3, 4, 10] (by decide) rfl
  refine lv_istore hx hb dL_law_402 hl (by decide) rfl (fun ls hl => ?_)
  have hl : lv_has ls 8 [(5, .int 0), (4, .int (nI i)), (0, .ref b), (1, .ref xh), (2, .ref mh), (3, .ref ao)] := hl
  refine lv_aload_n hx hb dL_law_404 rfl (lv_at hl 4 rfl) ?_
  have hPc := hP.sub (ws' := (tw_wM mh ma0 ma1 ma2 ma3 km0 km1 km2 km3 fl th tm pr ag ck nx)) [5, 6, 7, 8, 9] rfl
  have hDc := hD.sub (ws' := (tw_wM mh ma0 ma1 ma2 ma3 km0 km1 km2 km3 fl th tm pr ag ck nx)) [5, 6, 7, 8, 9] (by decide) rfl
  have hKc := hK.sub (tys' := tw_k km0 km1 km2 km3) [4, 5, 6, 7] rfl
  have hFc := va_free (wc := (tw_wM mh ma0 ma1 ma2 ma3 km0 km1 km2 km3 fl th tm pr ag ck nx)) hD hS hA [5, 6, 7, 8, 9] rfl
  refine va_calli (va_runV (C := RM) (b := mh) (As := []) (rest := []) ⟨hx, hb, hml, hown, hT⟩ (cM_skip l dC dI mh ma0 ma1 ma2 ma3 km0 km1 km2 km3 fl th tm pr ag ck nx H.size (fun k => (hI.1 k).1) hf) (cwV 0 hT (tw_gV tt_278 tt_279 tt_280 tt_2 tt_281) rfl rfl rfl ⟨rfl, by decide +kernel⟩ ⟨Nat.le_of_ble_eq_true rfl, Nat.le_of_ble_eq_true rfl⟩) ⟨fun a U g mk q => by obtain ⟨q0, q1, qP, qK, qD⟩ := q; exact ⟨q0, q1, qP, va_K.moved (u := U) (U := U.calling g mk a) (Vm.Alike.refl U.vm) qK, qD⟩, va_recv (q0 := 0) (ci := 1) hKc hPc rfl rfl, fun U hU hW => ⟨rfl, by rw [hU], by rw [hU]; exact hPc, va_K.moved hW.alike hKc, hDc.weaken (fun _ _ _ _ => trivial)⟩⟩ rfl rfl hl.1 rfl (lv_room (Nat.le_of_ble_eq_true rfl)) dL_law_405 ⟨Nat.le_trans (Nat.le_succ _) hc.1, Nat.le_trans (Nat.le_add_right _ 6) hc.2⟩) hS (fun q _ h => hFc q h) hFc (fun r9 u9 t9 H1 locs ht9 hvm9 hw9 hB9 hz9 hk9 hS => ?_)
  obtain ⟨hP1, hD1⟩ := hB9
  rw [ht9] at hP1
  have hw9 : r9 = tw_dues th tm (tw_least th tm ck 100) 100 := hw9
  subst r9
  obtain ⟨hP, hD⟩ := va_join (wr := [(xh, .inr (0, [.ref xa0, .ref xa1, .ref xa2, .ref xa3, .long (tw_least th tm ck 100), .int nx])), (xa0, .inl (kx0, 100, .inl th)), (xa1, .inl (kx1, 100, .inr (.inl tm))), (xa2, .inl (kx2, 100, .inl pr)), (xa3, .inl (kx3, 100, .inl ag)), (ao, .inl (k4, 1, .inr (.inl (vp_updL ou (0 : Int32).toNatClampNeg ((tw_dues th tm (tw_least th tm ck 100) 100).toInt64)))))]) (w1 := (tw_wM mh ma0 ma1 ma2 ma3 km0 km1 km2 km3 0 th tm pr ag (tw_least th tm ck 100) nx)) hP hD [5, 6, 7, 8, 9] [0, 1, 2, 3, 4, 10] rfl rfl (by decide) (by decide) hk9 hFc hP1 hD1
  generalize H1 = H at hP hS ⊢
  have hP := hP.sub (ws' := [(xh, .inr (0, [.ref xa0, .ref xa1, .ref xa2, .ref xa3, .long (tw_least th tm ck 100), .int nx])), (xa0, .inl (kx0, 100, .inl th)), (xa1, .inl (kx1, 100, .inr (.inl tm))), (xa2, .inl (kx2, 100, .inl pr)), (xa3, .inl (kx3, 100, .inl ag)), (mh, .inr (1, [.int 0, .ref ma0, .ref ma1, .ref ma2, .ref ma3, .int nx, .long (tw_least th tm ck 100)])), (ma0, .inl (km0, 100, .inl th)), (ma1, .inl (km1, 100, .inr (.inl tm))), (ma2, .inl (km2, 100, .inl pr)), (ma3, .inl (km3, 100, .inl ag)), (ao, .inl (k4, 1, .inr (.inl (vp_updL ou (0 : Int32).toNatClampNeg ((tw_dues th tm (tw_least th tm ck 100) 100).toInt64)))))]) [0, 1, 2, 3, 4, 6, 7, 8, 9, 10, 5] rfl
  have hD := hD.sub (ws' := [(xh, .inr (0, [.ref xa0, .ref xa1, .ref xa2, .ref xa3, .long (tw_least th tm ck 100), .int nx])), (xa0, .inl (kx0, 100, .inl th)), (xa1, .inl (kx1, 100, .inr (.inl tm))), (xa2, .inl (kx2, 100, .inl pr)), (xa3, .inl (kx3, 100, .inl ag)), (mh, .inr (1, [.int 0, .ref ma0, .ref ma1, .ref ma2, .ref ma3, .int nx, .long (tw_least th tm ck 100)])), (ma0, .inl (km0, 100, .inl th)), (ma1, .inl (km1, 100, .inr (.inl tm))), (ma2, .inl (km2, 100, .inl pr)), (ma3, .inl (km3, 100, .inl ag)), (ao, .inl (k4, 1, .inr (.inl (vp_updL ou (0 : Int32).toNatClampNeg ((tw_dues th tm (tw_least th tm ck 100) 100).toInt64)))))]) [0, 1, 2, 3, 4, 6, 7, 8, 9, 10, 5] (by decide) rfl
  refine lv_istore hx hb dL_law_408 hl (by decide) rfl (fun ls hl => ?_)
  have hl : lv_has ls 8 [(6, .int (tw_dues th tm (tw_least th tm ck 100) 100)), (5, .int 0), (4, .int (nI i)), (0, .ref b), (1, .ref xh), (2, .ref mh), (3, .ref ao)] := hl
  refine lv_aload_n hx hb dL_law_410 rfl (lv_at hl 5 rfl) ?_
  have hPc := hP.sub (ws' := (tw_wM mh ma0 ma1 ma2 ma3 km0 km1 km2 km3 0 th tm pr ag (tw_least th tm ck 100) nx)) [5, 6, 7, 8, 9] rfl
  have hKc := hK.sub (tys' := tw_k km0 km1 km2 km3) [4, 5, 6, 7] rfl
  refine vp_callSi (W.runV (C := RM) (b := mh) (As := []) (rest := []) ⟨hx, hb, hml, hown, hT⟩ (cM_thrown l dC dI mh ma0 ma1 ma2 ma3 km0 km1 km2 km3 0 th tm pr ag (tw_least th tm ck 100) nx) (cwV 0 hT (tw_gV tt_239 tt_240 tt_241 tt_2 tt_242) rfl rfl rfl ⟨rfl, by decide +kernel⟩ ⟨Nat.le_of_ble_eq_true rfl, Nat.le_of_ble_eq_true rfl⟩) ⟨fun a U g mk q => ⟨q.1, q.2.1, va_K.moved (u := U) (U := U.calling g mk a) (Vm.Alike.refl U.vm) q.2.2⟩, va_recv (q0 := 0) (ci := 1) hKc hPc rfl rfl, fun U hU hW => ⟨rfl, by rw [hU]; exact hPc, va_K.moved hW.alike hKc⟩⟩ rfl rfl hl.1 rfl (lv_room (Nat.le_of_ble_eq_true rfl)) dL_law_411 ⟨Nat.le_trans (Nat.le_succ _) hc.1, Nat.le_trans (Nat.le_add_right _ 6) hc.2⟩) (fun r8 h8 => ?_)
  subst r8
  refine lv_iload hx hb dL_law_414 (lv_at hl 1 rfl) ?_
  refine lv_icmp_eq (tgt := 421) hx hb dL_law_416 (by decide) (fun hc1 => ?_) (fun hc1 => absurd (rfl : (0 : Int32) = 0) hc1)
  refine lv_iload hx hb dL_law_421 (lv_at hl 1 rfl) ?_
  refine lv_if_ne (tgt := 438) hx hb dL_law_423 (by decide) (fun hc2 => absurd rfl hc2) (fun hc2 => ?_)
  refine lv_aload_n hx hb dL_law_426 rfl (lv_at hl 6 rfl) ?_
  refine lv_iconst (v := 0) hx hb dL_law_427 (by decide) ?_
  refine va_lald hx hb hK hP 10 8 rfl rfl (by unfold vp_in; decide) dL_law_428 ?_
  refine lv_iload hx hb dL_law_429 (lv_at hl 0 rfl) ?_
  refine lv_i2l hx hb dL_law_431 rfl ?_
  refine W.lcmp hx hb dL_law_432 ?_
  refine lv_if_eq (tgt := 438) hx hb dL_law_433 (by decide) (fun hc3 => ?_) (fun hc3 => absurd ((lg_cmp_eq _ _).mpr pk_uLs) hc3)
  refine lv_goto (tgt := 563) hx hb dL_law_438 (by decide) ?_
  refine W.widen (k := cells + 1) (n := slots + 6) (Nat.le_succ _) (Nat.le_add_right _ 6) ?_
  exact kk 0 th tm pr ag (tw_least th tm ck 100) nx (vp_updL ou (0 : Int32).toNatClampNeg ((tw_dues th tm (tw_least th tm ck 100) 100).toInt64)) H _ ls (hI.least hf) hP hD hS (lv_sub hl [2, 3, 4, 5, 6] rfl)
end LLskip
section LLskipB
variable {p : Program} {l : Launch} {e : Env} {s : State} {m : MethodId} {below : List Frame} {meth : Method} {c : Code} {H : Heap} {locs : List Loc} {cells slots : Nat} {Q : State → Prop} {ls : Array Slot} {b L i : Nat} {xs : Nat → Int32}
variable {dC : Nat → ClassId} {dI : Nat → Nat → Nat} {xh xa0 xa1 xa2 xa3 : Nat} {kx0 kx1 kx2 kx3 : ClassId} {mh ma0 ma1 ma2 ma3 : Nat} {km0 km1 km2 km3 : ClassId} {ao : Nat} {k4 : ClassId} {fl : Int32} {th : Nat → Int32} {tm : Nat → Int64} {pr ag : Nat → Int32} {ck : Int64} {nx : Int32} {ou : Nat → Int64}
set_option maxHeartbeats 4000000 in
set_option maxRecDepth 100000 in
theorem ll_skipB (hx : p.tables.exec = Jvm.exec) (hb : c.code = bL_law) (hml : c.maxLocals = 8) (hT : ∀ w ∈ tw_T, w.before #[Value.ref b] s = true) (hown : s.vm.findClass RL = some m.cls) (hfl : l.flags = pinnedFlags ++ [noTraceFlag]) (hX : va_X b L xs s s.heap) (hbl : b < s.heap.size) (hZ : tw_Z s s.heap) (hNc : va_Nc tw_nse tw_iae s) (hL : L ≤ 2560) (hi : i + 5 ≤ L) (hc : cells + 1 ≤ 1044 ∧ slots + 6 ≤ 9060) (hI : tw_Inv tm ck) (hP : va_P (dC, dI) tw_cl (tw_wL xh xa0 xa1 xa2 xa3 kx0 kx1 kx2 kx3 mh ma0 ma1 ma2 ma3 km0 km1 km2 km3 ao k4 fl th tm pr ag ck nx ou) H) (hD : va_D (tw_AL s) (tw_wL xh xa0 xa1 xa2 xa3 kx0 kx1 kx2 kx3 mh ma0 ma1 ma2 ma3 km0 km1 km2 km3 ao k4 fl th tm pr ag ck nx ou)) (hK : va_K (dC, dI) tw_cl (tw_kL kx0 kx1 kx2 kx3 km0 km1 km2 km3 k4) s) (hS : va_S (tw_AL s) s.heap H locs) (hl : lv_has ls 8 [(4, .int (nI i)), (0, .ref b), (1, .ref xh), (2, .ref mh), (3, .ref ao)]) (hf : tw_least th tm ck 100 = -1) (kk : ∀ (fl' : Int32) (th' : Nat → Int32) (tm' : Nat → Int64) (pr' ag' : Nat → Int32) (ck' : Int64) (nx' : Int32) (ou' : Nat → Int64) (H' : Heap) (locs' : List Loc) (ls' : Array Slot), tw_Inv tm' ck' → va_P (dC, dI) tw_cl (tw_wL xh xa0 xa1 xa2 xa3 kx0 kx1 kx2 kx3 mh ma0 ma1 ma2 ma3 km0 km1 km2 km3 ao k4 fl' (th') (tm') (pr') (ag') (ck') (nx') (ou')) H' → va_D (tw_AL s) (tw_wL xh xa0 xa1 xa2 xa3 kx0 kx1 kx2 kx3 mh ma0 ma1 ma2 ma3 km0 km1 km2 km3 ao k4 (fl') (th') (tm') (pr') (ag') (ck') (nx') (ou')) → va_S (tw_AL s) s.heap H' locs' → lv_has ls' 8 [(4, .int (nI i)), (0, .ref b), (1, .ref xh), (2, .ref mh), (3, .ref ao)] → W p l e room_1 s m #[Value.ref b] below meth c H' locs' (cells + 1) (slots + 6) Q (F0 m 563 ls' [])) : W p l e room_1 s m #[Value.ref b] below meth c H locs cells slots Q (F0 m 397 ls []) := by
  have hA : ∀ q : Nat, s.heap.size ≤ q → tw_AL s q := fun q h => h
  have hbA : ¬ tw_AL s b := Nat.not_le.mpr hbl
  refine lv_aload_n hx hb dL_law_397 rfl (lv_at hl 2 rfl) ?_
  refine lv_aload_n hx hb dL_law_398 rfl (lv_at hl 4 rfl) ?_
  have hPc := hP.sub (ws' := (tw_wH xh xa0 xa1 xa2 xa3 kx0 kx1 kx2 kx3 th tm pr ag ck nx ao k4 ou)) [0, 1, 2, 3, 4, 10] rfl
  have hDc := hD.sub (ws' := (tw_wH xh xa0 xa1 xa2 xa3 kx0 kx1 kx2 kx3 th tm pr ag ck nx ao k4 ou)) [0, 1, 2, 3, 4, 10] (by decide) rfl
  have hKc := hK.sub (tys' := tw_kH kx0 kx1 kx2 kx3 k4) [0, 1, 2, 3, 8] rfl
  have hFc := va_free (wc := (tw_wH xh xa0 xa1 xa2 xa3 kx0 kx1 kx2 kx3 th tm pr ag ck nx ao k4 ou)) hD hS hA [0, 1, 2, 3, 4, 10] rfl
  have hZH : ∀ U : State, U.heap = H → s.WarmedH U.vm → tw_Z U U.heap := fun U hU hW => by rw [hU]; exact hZ.move hW (fun a ha => hS.2.1 a ha (Nat.not_le.mpr ha))
  refine va_calli (xt_runSW (n := 2) (As := [.ref xh, .ref ao]) (rest := []) ⟨hx, hb, hml, hown, hT⟩ (cL_skipB l hfl dC dI xh xa0 xa1 xa2 xa3 kx0 kx1 kx2 kx3 th tm pr ag ck nx ao k4 ou H.size hf) rfl (tw_gS tt_181 tt_182 tt_0 tt_183) rfl rfl ⟨rfl, by decide +kernel⟩ ⟨Nat.le_of_ble_eq_true rfl, Nat.le_of_ble_eq_true rfl⟩ ⟨fun a U g mk q => by obtain ⟨q0, q1, qP, qK, qD, qZ⟩ := q; exact ⟨q0, q1, qP, va_K.moved (u := U) (U := U.calling g mk a) (Vm.Alike.refl U.vm) qK, qD, qZ.call⟩, fun U hU hW => ⟨rfl, by rw [hU], by rw [hU]; exact hPc, va_K.moved hW.alike hKc, hDc.weaken (fun _ _ _ _ => trivial), hZH U hU hW⟩⟩ rfl rfl hl.1 rfl (lv_room (Nat.le_of_ble_eq_true rfl)) dL_law_399 hc) hS (fun q _ h => hFc q h) hFc (fun r9 u9 t9 H1 locs ht9 hvm9 hw9 hB9 hz9 hk9 hS => ?_)
  obtain ⟨hP1, hD1⟩ := hB9
  rw [ht9] at hP1
  have hw9 : r9 = 1 := hw9
  subst r9
  obtain ⟨hP, hD⟩ := va_join (wr := (tw_wM mh ma0 ma1 ma2 ma3 km0 km1 km2 km3 fl th tm pr ag ck nx)) (w1 := (tw_wH xh xa0 xa1 xa2 xa3 kx0 kx1 kx2 kx3 th tm pr ag ck nx ao k4 ou)) hP hD [0, 1, 2, 3, 4, 10] [5, 6, 7, 8, 9] rfl rfl (by decide) (by decide) hk9 hFc hP1 hD1
  generalize H1 = H at hP hS ⊢
  have hP := hP.sub (ws' := [(xh, .inr (0, [.ref xa0, .ref xa1, .ref xa2, .ref xa3, .long ck, .int nx])), (xa0, .inl (kx0, 100, .inl th)), (xa1, .inl (kx1, 100, .inr (.inl tm))), (xa2, .inl (kx2, 100, .inl pr)), (xa3, .inl (kx3, 100, .inl ag)), (mh, .inr (1, [.int fl, .ref ma0, .ref ma1, .ref ma2, .ref ma3, .int nx, .long ck])), (ma0, .inl (km0, 100, .inl th)), (ma1, .inl (km1, 100, .inr (.inl tm))), (ma2, .inl (km2, 100, .inl pr)), (ma3, .inl (km3, 100, .inl ag)), (ao, .inl (k4, 1, .inr (.inl ou)))]) [5, 6, 7, 8, 9, 0, 1, 2, 3, 4, 10] rfl
  have hD := hD.sub (ws' := [(xh, .inr (0, [.ref xa0, .ref xa1, .ref xa2, .ref xa3, .long ck, .int nx])), (xa0, .inl (kx0, 100, .inl th)), (xa1, .inl (kx1, 100, .inr (.inl tm))), (xa2, .inl (kx2, 100, .inl pr)), (xa3, .inl (kx3, 100, .inl ag)), (mh, .inr (1, [.int fl, .ref ma0, .ref ma1, .ref ma2, .ref ma3, .int nx, .long ck])), (ma0, .inl (km0, 100, .inl th)), (ma1, .inl (km1, 100, .inr (.inl tm))), (ma2, .inl (km2, 100, .inl pr)), (ma3, .inl (km3, 100, .inl ag)), (ao, .inl (k4, 1, .inr (.inl ou)))]) [5, 6, 7, 8, 9, 0, 1, 2, 3, 4, 10] (by decide) rfl
  refine lv_istore hx hb dL_law_402 hl (by decide) rfl (fun ls hl => ?_)
  have hl : lv_has ls 8 [(5, .int 1), (4, .int (nI i)), (0, .ref b), (1, .ref xh), (2, .ref mh), (3, .ref ao)] := hl
  refine lv_aload_n hx hb dL_law_404 rfl (lv_at hl 4 rfl) ?_
  have hPc := hP.sub (ws' := (tw_wM mh ma0 ma1 ma2 ma3 km0 km1 km2 km3 fl th tm pr ag ck nx)) [5, 6, 7, 8, 9] rfl
  have hDc := hD.sub (ws' := (tw_wM mh ma0 ma1 ma2 ma3 km0 km1 km2 km3 fl th tm pr ag ck nx)) [5, 6, 7, 8, 9] (by decide) rfl
  have hKc := hK.sub (tys' := tw_k km0 km1 km2 km3) [4, 5, 6, 7] rfl
  have hFc := va_free (wc := (tw_wM mh ma0 ma1 ma2 ma3 km0 km1 km2 km3 fl th tm pr ag ck nx)) hD hS hA [5, 6, 7, 8, 9] rfl
  refine va_calli (va_runV (C := RM) (b := mh) (As := []) (rest := []) ⟨hx, hb, hml, hown, hT⟩ (cM_skipB l dC dI mh ma0 ma1 ma2 ma3 km0 km1 km2 km3 fl th tm pr ag ck nx H.size (fun k => (hI.1 k).1) hf) (cwV 0 hT (tw_gV tt_278 tt_279 tt_280 tt_2 tt_281) rfl rfl rfl ⟨rfl, by decide +kernel⟩ ⟨Nat.le_of_ble_eq_true rfl, Nat.le_of_ble_eq_true rfl⟩) ⟨fun a U g mk q => by obtain ⟨q0, q1, qP, qK, qD⟩ := q; exact ⟨q0, q1, qP, va_K.moved (u := U) (U := U.calling g mk a) (Vm.Alike.refl U.vm) qK, qD⟩, va_recv (q0 := 0) (ci := 1) hKc hPc rfl rfl, fun U hU hW => ⟨rfl, by rw [hU], by rw [hU]; exact hPc, va_K.moved hW.alike hKc, hDc.weaken (fun _ _ _ _ => trivial)⟩⟩ rfl rfl hl.1 rfl (lv_room (Nat.le_of_ble_eq_true rfl)) dL_law_405 hc) hS (fun q _ h => hFc q h) hFc (fun r9 u9 t9 H1 locs ht9 hvm9 hw9 hB9 hz9 hk9 hS => ?_)
  obtain ⟨hP1, hD1⟩ := hB9
  rw [ht9] at hP1
  have hw9 : r9 = 0 := hw9
  subst r9
  obtain ⟨hP, hD⟩ := va_join (wr := [(xh, .inr (0, [.ref xa0, .ref xa1, .ref xa2, .ref xa3, .long ck, .int nx])), (xa0, .inl (kx0, 100, .inl th)), (xa1, .inl (kx1, 100, .inr (.inl tm))), (xa2, .inl (kx2, 100, .inl pr)), (xa3, .inl (kx3, 100, .inl ag)), (ao, .inl (k4, 1, .inr (.inl ou)))]) (w1 := (tw_wM mh ma0 ma1 ma2 ma3 km0 km1 km2 km3 1 th tm pr ag ck nx)) hP hD [5, 6, 7, 8, 9] [0, 1, 2, 3, 4, 10] rfl rfl (by decide) (by decide) hk9 hFc hP1 hD1
  generalize H1 = H at hP hS ⊢
  have hP := hP.sub (ws' := [(xh, .inr (0, [.ref xa0, .ref xa1, .ref xa2, .ref xa3, .long ck, .int nx])), (xa0, .inl (kx0, 100, .inl th)), (xa1, .inl (kx1, 100, .inr (.inl tm))), (xa2, .inl (kx2, 100, .inl pr)), (xa3, .inl (kx3, 100, .inl ag)), (mh, .inr (1, [.int 1, .ref ma0, .ref ma1, .ref ma2, .ref ma3, .int nx, .long ck])), (ma0, .inl (km0, 100, .inl th)), (ma1, .inl (km1, 100, .inr (.inl tm))), (ma2, .inl (km2, 100, .inl pr)), (ma3, .inl (km3, 100, .inl ag)), (ao, .inl (k4, 1, .inr (.inl ou)))]) [0, 1, 2, 3, 4, 6, 7, 8, 9, 10, 5] rfl
  have hD := hD.sub (ws' := [(xh, .inr (0, [.ref xa0, .ref xa1, .ref xa2, .ref xa3, .long ck, .int nx])), (xa0, .inl (kx0, 100, .inl th)), (xa1, .inl (kx1, 100, .inr (.inl tm))), (xa2, .inl (kx2, 100, .inl pr)), (xa3, .inl (kx3, 100, .inl ag)), (mh, .inr (1, [.int 1, .ref ma0, .ref ma1, .ref ma2, .ref ma3, .int nx, .long ck])), (ma0, .inl (km0, 100, .inl th)), (ma1, .inl (km1, 100, .inr (.inl tm))), (ma2, .inl (km2, 100, .inl pr)), (ma3, .inl (km3, 100, .inl ag)), (ao, .inl (k4, 1, .inr (.inl ou)))]) [0, 1, 2, 3, 4, 6, 7, 8, 9, 10, 5] (by decide) rfl
  refine lv_istore hx hb dL_law_408 hl (by decide) rfl (fun ls hl => ?_)
  have hl : lv_has ls 8 [(6, .int 0), (5, .int 1), (4, .int (nI i)), (0, .ref b), (1, .ref xh), (2, .ref mh), (3, .ref ao)] := hl
  refine lv_aload_n hx hb dL_law_410 rfl (lv_at hl 5 rfl) ?_
  have hPc := hP.sub (ws' := (tw_wM mh ma0 ma1 ma2 ma3 km0 km1 km2 km3 1 th tm pr ag ck nx)) [5, 6, 7, 8, 9] rfl
  have hKc := hK.sub (tys' := tw_k km0 km1 km2 km3) [4, 5, 6, 7] rfl
  refine vp_callSi (W.runV (C := RM) (b := mh) (As := []) (rest := []) ⟨hx, hb, hml, hown, hT⟩ (cM_thrown l dC dI mh ma0 ma1 ma2 ma3 km0 km1 km2 km3 1 th tm pr ag ck nx) (cwV 0 hT (tw_gV tt_239 tt_240 tt_241 tt_2 tt_242) rfl rfl rfl ⟨rfl, by decide +kernel⟩ ⟨Nat.le_of_ble_eq_true rfl, Nat.le_of_ble_eq_true rfl⟩) ⟨fun a U g mk q => ⟨q.1, q.2.1, va_K.moved (u := U) (U := U.calling g mk a) (Vm.Alike.refl U.vm) q.2.2⟩, va_recv (q0 := 0) (ci := 1) hKc hPc rfl rfl, fun U hU hW => ⟨rfl, by rw [hU]; exact hPc, va_K.moved hW.alike hKc⟩⟩ rfl rfl hl.1 rfl (lv_room (Nat.le_of_ble_eq_true rfl)) dL_law_411 hc) (fun r8 h8 => ?_)
  subst r8
  refine lv_iload hx hb dL_law_414 (lv_at hl 1 rfl) ?_
  refine lv_icmp_eq (tgt := 421) hx hb dL_law_416 (by decide) (fun hc1 => ?_) (fun hc1 => absurd (rfl : (1 : Int32) = 1) hc1)
  refine lv_iload hx hb dL_law_421 (lv_at hl 1 rfl) ?_
  refine lv_if_ne (tgt := 438) hx hb dL_law_423 (by decide) (fun hc2 => ?_) (fun hc2 => absurd hc2 (by decide))
  refine lv_goto (tgt := 563) hx hb dL_law_438 (by decide) ?_
  exact kk 1 th tm pr ag ck nx ou H _ ls hI hP hD hS (lv_sub hl [2, 3, 4, 5, 6] rfl)
end LLskipB
section LLtimer0
variable {p : Program} {l : Launch} {e : Env} {s : State} {m : MethodId} {below : List Frame} {meth : Method} {c : Code} {H : Heap} {locs : List Loc} {cells slots : Nat} {Q : State → Prop} {ls : Array Slot} {b L i : Nat} {xs : Nat → Int32}
variable {dC : Nat → ClassId} {dI : Nat → Nat → Nat} {xh xa0 xa1 xa2 xa3 : Nat} {kx0 kx1 kx2 kx3 : ClassId} {mh ma0 ma1 ma2 ma3 : Nat} {km0 km1 km2 km3 : ClassId} {ao : Nat} {k4 : ClassId} {fl : Int32} {th : Nat → Int32} {tm : Nat → Int64} {pr ag : Nat → Int32} {ck : Int64} {nx : Int32} {ou : Nat → Int64}
set_option maxHeartbeats 4000000 in
set_option maxRecDepth 100000 in
theorem ll_timer0 (hx : p.tables.exec = Jvm.exec) (hb : c.code = bL_law) (hml : c.maxLocals = 8) (hT : ∀ w ∈ tw_T, w.before #[Value.ref b] s = true) (hown : s.vm.findClass RL = some m.cls) (hfl : l.flags = pinnedFlags ++ [noTraceFlag]) (hX : va_X b L xs s s.heap) (hbl : b < s.heap.size) (hZ : tw_Z s s.heap) (hNc : va_Nc tw_nse tw_iae s) (hL : L ≤ 2560) (hi : i + 5 ≤ L) (hc : cells + 1 ≤ 1044 ∧ slots + 6 ≤ 9060) (hI : tw_Inv tm ck) (hP : va_P (dC, dI) tw_cl (tw_wL xh xa0 xa1 xa2 xa3 kx0 kx1 kx2 kx3 mh ma0 ma1 ma2 ma3 km0 km1 km2 km3 ao k4 fl th tm pr ag ck nx ou) H) (hD : va_D (tw_AL s) (tw_wL xh xa0 xa1 xa2 xa3 kx0 kx1 kx2 kx3 mh ma0 ma1 ma2 ma3 km0 km1 km2 km3 ao k4 fl th tm pr ag ck nx ou)) (hK : va_K (dC, dI) tw_cl (tw_kL kx0 kx1 kx2 kx3 km0 km1 km2 km3 k4) s) (hS : va_S (tw_AL s) s.heap H locs) (hl : lv_has ls 8 [(4, .int (nI i)), (0, .ref b), (1, .ref xh), (2, .ref mh), (3, .ref ao)]) {j1 : Int32} (e1 : xs (nI i + 1).toNatClampNeg = j1) (e2 : xs (nI i + 2).toNatClampNeg = 0) (hj : vp_in j1 100) (kk : ∀ (fl' : Int32) (th' : Nat → Int32) (tm' : Nat → Int64) (pr' ag' : Nat → Int32) (ck' : Int64) (nx' : Int32) (ou' : Nat → Int64) (H' : Heap) (locs' : List Loc) (ls' : Array Slot), tw_Inv tm' ck' → va_P (dC, dI) tw_cl (tw_wL xh xa0 xa1 xa2 xa3 kx0 kx1 kx2 kx3 mh ma0 ma1 ma2 ma3 km0 km1 km2 km3 ao k4 fl' (th') (tm') (pr') (ag') (ck') (nx') (ou')) H' → va_D (tw_AL s) (tw_wL xh xa0 xa1 xa2 xa3 kx0 kx1 kx2 kx3 mh ma0 ma1 ma2 ma3 km0 km1 km2 km3 ao k4 (fl') (th') (tm') (pr') (ag') (ck') (nx') (ou')) → va_S (tw_AL s) s.heap H' locs' → lv_has ls' 8 [(4, .int (nI i)), (0, .ref b), (1, .ref xh), (2, .ref mh), (3, .ref ao)] → W p l e room_1 s m #[Value.ref b] below meth c H' locs' (cells + 1) (slots + 6) Q (F0 m 563 ls' [])) : W p l e room_1 s m #[Value.ref b] below meth c H locs cells slots Q (F0 m 441 ls []) := by
  have hA : ∀ q : Nat, s.heap.size ≤ q → tw_AL s q := fun q h => h
  have hbA : ¬ tw_AL s b := Nat.not_le.mpr hbl
  refine lv_aload_n hx hb dL_law_441 rfl (lv_at hl 2 rfl) ?_
  refine lv_aload_n hx hb dL_law_442 rfl (lv_at hl 1 rfl) ?_
  refine lv_iload hx hb dL_law_443 (lv_at hl 0 rfl) ?_
  refine lv_iconst (v := 1) hx hb dL_law_445 (by decide) ?_
  refine lv_iadd hx hb dL_law_446 ?_
  refine va_sld hx hb hX hbl hbA hS (tw_sin1 hi hL) dL_law_447 ?_
  rw [e1]
  refine lv_aload_n hx hb dL_law_448 rfl (lv_at hl 1 rfl) ?_
  refine lv_iload hx hb dL_law_449 (lv_at hl 0 rfl) ?_
  refine lv_iconst (v := 2) hx hb dL_law_451 (by decide) ?_
  refine lv_iadd hx hb dL_law_452 ?_
  refine va_sld hx hb hX hbl hbA hS (tw_sin2 hi hL) dL_law_453 ?_
  rw [e2]
  refine lv_aload_n hx hb dL_law_454 rfl (lv_at hl 4 rfl) ?_
  have hPc := hP.sub (ws' := (tw_wH xh xa0 xa1 xa2 xa3 kx0 kx1 kx2 kx3 th tm pr ag ck nx ao k4 ou)) [0, 1, 2, 3, 4, 10] rfl
  have hDc := hD.sub (ws' := (tw_wH xh xa0 xa1 xa2 xa3 kx0 kx1 kx2 kx3 th tm pr ag ck nx ao k4 ou)) [0, 1, 2, 3, 4, 10] (by decide) rfl
  have hKc := hK.sub (tys' := tw_kH kx0 kx1 kx2 kx3 k4) [0, 1, 2, 3, 8] rfl
  have hFc := va_free (wc := (tw_wH xh xa0 xa1 xa2 xa3 kx0 kx1 kx2 kx3 th tm pr ag ck nx ao k4 ou)) hD hS hA [0, 1, 2, 3, 4, 10] rfl
  refine va_calli (xt_runSW (n := 4) (As := [.ref xh, .int j1, .int 0, .ref ao]) (rest := []) ⟨hx, hb, hml, hown, hT⟩ (cL_timer0 l dC dI xh xa0 xa1 xa2 xa3 kx0 kx1 kx2 kx3 th tm pr ag ck nx ao k4 ou H.size j1 hj) rfl (tw_gS tt_190 tt_191 tt_0 tt_192) rfl rfl ⟨rfl, by decide +kernel⟩ ⟨Nat.le_of_ble_eq_true rfl, Nat.le_of_ble_eq_true rfl⟩ ⟨fun a U g mk q => by obtain ⟨q0, q1, qP, qK, qD⟩ := q; exact ⟨q0, q1, qP, va_K.moved (u := U) (U := U.calling g mk a) (Vm.Alike.refl U.vm) qK, qD⟩, fun U hU hW => ⟨rfl, by rw [hU], by rw [hU]; exact hPc, va_K.moved hW.alike hKc, hDc.weaken (fun _ _ _ _ => trivial)⟩⟩ rfl rfl hl.1 rfl (lv_room (Nat.le_of_ble_eq_true rfl)) dL_law_455 ⟨Nat.le_trans (Nat.le_succ _) hc.1, Nat.le_trans (Nat.le_add_right _ 6) hc.2⟩) hS (fun q _ h => hFc q h) hFc (fun r9 u9 t9 H1 locs ht9 hvm9 hw9 hB9 hz9 hk9 hS => ?_)
  obtain ⟨hP1, hD1⟩ := hB9
  rw [ht9] at hP1
  have hw9 : r9 = 0 := hw9
  subst r9
  obtain ⟨hP, hD⟩ := va_join (wr := (tw_wM mh ma0 ma1 ma2 ma3 km0 km1 km2 km3 fl th tm pr ag ck nx)) (w1 := (tw_wH xh xa0 xa1 xa2 xa3 kx0 kx1 kx2 kx3 th tm pr ag ck nx ao k4 (vp_updL ou (0 : Int32).toNatClampNeg (if th j1.toNatClampNeg = 0 then 0 else if tw_due th tm ck j1 = true then 2 else 1)))) hP hD [0, 1, 2, 3, 4, 10] [5, 6, 7, 8, 9] rfl rfl (by decide) (by decide) hk9 hFc hP1 hD1
  generalize H1 = H at hP hS ⊢
  have hP := hP.sub (ws' := [(xh, .inr (0, [.ref xa0, .ref xa1, .ref xa2, .ref xa3, .long ck, .int nx])), (xa0, .inl (kx0, 100, .inl th)), (xa1, .inl (kx1, 100, .inr (.inl tm))), (xa2, .inl (kx2, 100, .inl pr)), (xa3, .inl (kx3, 100, .inl ag)), (mh, .inr (1, [.int fl, .ref ma0, .ref ma1, .ref ma2, .ref ma3, .int nx, .long ck])), (ma0, .inl (km0, 100, .inl th)), (ma1, .inl (km1, 100, .inr (.inl tm))), (ma2, .inl (km2, 100, .inl pr)), (ma3, .inl (km3, 100, .inl ag)), (ao, .inl (k4, 1, .inr (.inl (vp_updL ou (0 : Int32).toNatClampNeg (if th j1.toNatClampNeg = 0 then 0 else if tw_due th tm ck j1 = true then 2 else 1)))))]) [5, 6, 7, 8, 9, 0, 1, 2, 3, 4, 10] rfl
  have hD := hD.sub (ws' := [(xh, .inr (0, [.ref xa0, .ref xa1, .ref xa2, .ref xa3, .long ck, .int nx])), (xa0, .inl (kx0, 100, .inl th)), (xa1, .inl (kx1, 100, .inr (.inl tm))), (xa2, .inl (kx2, 100, .inl pr)), (xa3, .inl (kx3, 100, .inl ag)), (mh, .inr (1, [.int fl, .ref ma0, .ref ma1, .ref ma2, .ref ma3, .int nx, .long ck])), (ma0, .inl (km0, 100, .inl th)), (ma1, .inl (km1, 100, .inr (.inl tm))), (ma2, .inl (km2, 100, .inl pr)), (ma3, .inl (km3, 100, .inl ag)), (ao, .inl (k4, 1, .inr (.inl (vp_updL ou (0 : Int32).toNatClampNeg (if th j1.toNatClampNeg = 0 then 0 else if tw_due th tm ck j1 = true then 2 else 1)))))]) [5, 6, 7, 8, 9, 0, 1, 2, 3, 4, 10] (by decide) rfl
  refine lv_istore hx hb dL_law_458 hl (by decide) rfl (fun ls hl => ?_)
  have hl : lv_has ls 8 [(5, .int 0), (4, .int (nI i)), (0, .ref b), (1, .ref xh), (2, .ref mh), (3, .ref ao)] := hl
  refine lv_aload_n hx hb dL_law_460 rfl (lv_at hl 4 rfl) ?_
  refine lv_aload_n hx hb dL_law_461 rfl (lv_at hl 2 rfl) ?_
  refine lv_iload hx hb dL_law_462 (lv_at hl 1 rfl) ?_
  refine lv_iconst (v := 1) hx hb dL_law_464 (by decide) ?_
  refine lv_iadd hx hb dL_law_465 ?_
  refine va_sld hx hb hX hbl hbA hS (tw_sin1 hi hL) dL_law_466 ?_
  rw [e1]
  refine lv_aload_n hx hb dL_law_467 rfl (lv_at hl 2 rfl) ?_
  refine lv_iload hx hb dL_law_468 (lv_at hl 1 rfl) ?_
  refine lv_iconst (v := 2) hx hb dL_law_470 (by decide) ?_
  refine lv_iadd hx hb dL_law_471 ?_
  refine va_sld hx hb hX hbl hbA hS (tw_sin2 hi hL) dL_law_472 ?_
  rw [e2]
  have hPc := hP.sub (ws' := (tw_wM mh ma0 ma1 ma2 ma3 km0 km1 km2 km3 fl th tm pr ag ck nx)) [5, 6, 7, 8, 9] rfl
  have hDc := hD.sub (ws' := (tw_wM mh ma0 ma1 ma2 ma3 km0 km1 km2 km3 fl th tm pr ag ck nx)) [5, 6, 7, 8, 9] (by decide) rfl
  have hKc := hK.sub (tys' := tw_k km0 km1 km2 km3) [4, 5, 6, 7] rfl
  have hFc := va_free (wc := (tw_wM mh ma0 ma1 ma2 ma3 km0 km1 km2 km3 fl th tm pr ag ck nx)) hD hS hA [5, 6, 7, 8, 9] rfl
  refine va_calll (va_runV (C := RM) (b := mh) (As := [.int j1, .int 0]) (rest := []) ⟨hx, hb, hml, hown, hT⟩ (cM_timer0 l dC dI mh ma0 ma1 ma2 ma3 km0 km1 km2 km3 fl th tm pr ag ck nx H.size j1 hj) (cwV 2 hT (tw_gV tt_283 tt_284 tt_285 tt_2 tt_286) rfl rfl rfl ⟨rfl, by decide +kernel⟩ ⟨Nat.le_of_ble_eq_true rfl, Nat.le_of_ble_eq_true rfl⟩) ⟨fun a U g mk q => by obtain ⟨q0, q1, qP, qK, qD⟩ := q; exact ⟨q0, q1, qP, va_K.moved (u := U) (U := U.calling g mk a) (Vm.Alike.refl U.vm) qK, qD⟩, va_recv (q0 := 0) (ci := 1) hKc hPc rfl rfl, fun U hU hW => ⟨rfl, by rw [hU], by rw [hU]; exact hPc, va_K.moved hW.alike hKc, hDc.weaken (fun _ _ _ _ => trivial)⟩⟩ rfl rfl hl.1 rfl (lv_room (Nat.le_of_ble_eq_true rfl)) dL_law_473 ⟨Nat.le_trans (Nat.le_succ _) hc.1, Nat.le_trans (Nat.le_add_right _ 6) hc.2⟩) hS (fun q _ h => hFc q h) hFc (fun r9 u9 t9 H1 locs ht9 hvm9 hw9 hB9 hz9 hk9 hS => ?_)
  obtain ⟨hP1, hD1⟩ := hB9
  rw [ht9] at hP1
  have hw9 : r9 = (if th j1.toNatClampNeg = 0 then 0 else if tw_due th tm ck j1 = true then 2 else 1) := hw9
  subst r9
  obtain ⟨hP, hD⟩ := va_join (wr := [(xh, .inr (0, [.ref xa0, .ref xa1, .ref xa2, .ref xa3, .long ck, .int nx])), (xa0, .inl (kx0, 100, .inl th)), (xa1, .inl (kx1, 100, .inr (.inl tm))), (xa2, .inl (kx2, 100, .inl pr)), (xa3, .inl (kx3, 100, .inl ag)), (ao, .inl (k4, 1, .inr (.inl (vp_updL ou (0 : Int32).toNatClampNeg (if th j1.toNatClampNeg = 0 then 0 else if tw_due th tm ck j1 = true then 2 else 1)))))]) (w1 := (tw_wM mh ma0 ma1 ma2 ma3 km0 km1 km2 km3 0 th tm pr ag ck nx)) hP hD [5, 6, 7, 8, 9] [0, 1, 2, 3, 4, 10] rfl rfl (by decide) (by decide) hk9 hFc hP1 hD1
  generalize H1 = H at hP hS ⊢
  have hP := hP.sub (ws' := [(xh, .inr (0, [.ref xa0, .ref xa1, .ref xa2, .ref xa3, .long ck, .int nx])), (xa0, .inl (kx0, 100, .inl th)), (xa1, .inl (kx1, 100, .inr (.inl tm))), (xa2, .inl (kx2, 100, .inl pr)), (xa3, .inl (kx3, 100, .inl ag)), (mh, .inr (1, [.int 0, .ref ma0, .ref ma1, .ref ma2, .ref ma3, .int nx, .long ck])), (ma0, .inl (km0, 100, .inl th)), (ma1, .inl (km1, 100, .inr (.inl tm))), (ma2, .inl (km2, 100, .inl pr)), (ma3, .inl (km3, 100, .inl ag)), (ao, .inl (k4, 1, .inr (.inl (vp_updL ou (0 : Int32).toNatClampNeg (if th j1.toNatClampNeg = 0 then 0 else if tw_due th tm ck j1 = true then 2 else 1)))))]) [0, 1, 2, 3, 4, 6, 7, 8, 9, 10, 5] rfl
  have hD := hD.sub (ws' := [(xh, .inr (0, [.ref xa0, .ref xa1, .ref xa2, .ref xa3, .long ck, .int nx])), (xa0, .inl (kx0, 100, .inl th)), (xa1, .inl (kx1, 100, .inr (.inl tm))), (xa2, .inl (kx2, 100, .inl pr)), (xa3, .inl (kx3, 100, .inl ag)), (mh, .inr (1, [.int 0, .ref ma0, .ref ma1, .ref ma2, .ref ma3, .int nx, .long ck])), (ma0, .inl (km0, 100, .inl th)), (ma1, .inl (km1, 100, .inr (.inl tm))), (ma2, .inl (km2, 100, .inl pr)), (ma3, .inl (km3, 100, .inl ag)), (ao, .inl (k4, 1, .inr (.inl (vp_updL ou (0 : Int32).toNatClampNeg (if th j1.toNatClampNeg = 0 then 0 else if tw_due th tm ck j1 = true then 2 else 1)))))]) [0, 1, 2, 3, 4, 6, 7, 8, 9, 10, 5] (by decide) rfl
  refine lv_lstore hx hb dL_law_476 hl (by decide) rfl (fun ls hl => ?_)
  have hl : lv_has ls 8 [(6, .long (if th j1.toNatClampNeg = 0 then 0 else if tw_due th tm ck j1 = true then 2 else 1)), (5, .int 0), (4, .int (nI i)), (0, .ref b), (1, .ref xh), (2, .ref mh), (3, .ref ao)] := hl
  refine lv_aload_n hx hb dL_law_478 rfl (lv_at hl 5 rfl) ?_
  have hPc := hP.sub (ws' := (tw_wM mh ma0 ma1 ma2 ma3 km0 km1 km2 km3 0 th tm pr ag ck nx)) [5, 6, 7, 8, 9] rfl
  have hKc := hK.sub (tys' := tw_k km0 km1 km2 km3) [4, 5, 6, 7] rfl
  refine vp_callSi (W.runV (C := RM) (b := mh) (As := []) (rest := []) ⟨hx, hb, hml, hown, hT⟩ (cM_thrown l dC dI mh ma0 ma1 ma2 ma3 km0 km1 km2 km3 0 th tm pr ag ck nx) (cwV 0 hT (tw_gV tt_239 tt_240 tt_241 tt_2 tt_242) rfl rfl rfl ⟨rfl, by decide +kernel⟩ ⟨Nat.le_of_ble_eq_true rfl, Nat.le_of_ble_eq_true rfl⟩) ⟨fun a U g mk q => ⟨q.1, q.2.1, va_K.moved (u := U) (U := U.calling g mk a) (Vm.Alike.refl U.vm) q.2.2⟩, va_recv (q0 := 0) (ci := 1) hKc hPc rfl rfl, fun U hU hW => ⟨rfl, by rw [hU]; exact hPc, va_K.moved hW.alike hKc⟩⟩ rfl rfl hl.1 rfl (lv_room (Nat.le_of_ble_eq_true rfl)) dL_law_479 ⟨Nat.le_trans (Nat.le_succ _) hc.1, Nat.le_trans (Nat.le_add_right _ 6) hc.2⟩) (fun r8 h8 => ?_)
  subst r8
  refine lv_iload hx hb dL_law_482 (lv_at hl 1 rfl) ?_
  refine lv_icmp_eq (tgt := 489) hx hb dL_law_484 (by decide) (fun hc1 => ?_) (fun hc1 => absurd (rfl : (0 : Int32) = 0) hc1)
  refine lv_iload hx hb dL_law_489 (lv_at hl 1 rfl) ?_
  refine lv_if_ne (tgt := 505) hx hb dL_law_491 (by decide) (fun hc2 => absurd rfl hc2) (fun hc2 => ?_)
  refine lv_aload_n hx hb dL_law_494 rfl (lv_at hl 6 rfl) ?_
  refine lv_iconst (v := 0) hx hb dL_law_495 (by decide) ?_
  refine va_lald hx hb hK hP 10 8 rfl rfl (by unfold vp_in; decide) dL_law_496 ?_
  refine lv_lload hx hb dL_law_497 (lv_at hl 0 rfl) ?_
  refine W.lcmp hx hb dL_law_499 ?_
  refine lv_if_eq (tgt := 505) hx hb dL_law_500 (by decide) (fun hc3 => ?_) (fun hc3 => absurd ((lg_cmp_eq _ _).mpr pk_uLs) hc3)
  refine lv_goto (tgt := 563) hx hb dL_law_505 (by decide) ?_
  refine W.widen (k := cells + 1) (n := slots + 6) (Nat.le_succ _) (Nat.le_add_right _ 6) ?_
  exact kk 0 th tm pr ag ck nx (vp_updL ou (0 : Int32).toNatClampNeg (if th j1.toNatClampNeg = 0 then 0 else if tw_due th tm ck j1 = true then 2 else 1)) H _ ls hI hP hD hS (lv_sub hl [2, 3, 4, 5, 6] rfl)
end LLtimer0
section LLtimer1
variable {p : Program} {l : Launch} {e : Env} {s : State} {m : MethodId} {below : List Frame} {meth : Method} {c : Code} {H : Heap} {locs : List Loc} {cells slots : Nat} {Q : State → Prop} {ls : Array Slot} {b L i : Nat} {xs : Nat → Int32}
variable {dC : Nat → ClassId} {dI : Nat → Nat → Nat} {xh xa0 xa1 xa2 xa3 : Nat} {kx0 kx1 kx2 kx3 : ClassId} {mh ma0 ma1 ma2 ma3 : Nat} {km0 km1 km2 km3 : ClassId} {ao : Nat} {k4 : ClassId} {fl : Int32} {th : Nat → Int32} {tm : Nat → Int64} {pr ag : Nat → Int32} {ck : Int64} {nx : Int32} {ou : Nat → Int64}
set_option maxHeartbeats 4000000 in
set_option maxRecDepth 100000 in
theorem ll_timer1 (hx : p.tables.exec = Jvm.exec) (hb : c.code = bL_law) (hml : c.maxLocals = 8) (hT : ∀ w ∈ tw_T, w.before #[Value.ref b] s = true) (hown : s.vm.findClass RL = some m.cls) (hfl : l.flags = pinnedFlags ++ [noTraceFlag]) (hX : va_X b L xs s s.heap) (hbl : b < s.heap.size) (hZ : tw_Z s s.heap) (hNc : va_Nc tw_nse tw_iae s) (hL : L ≤ 2560) (hi : i + 5 ≤ L) (hc : cells + 1 ≤ 1044 ∧ slots + 6 ≤ 9060) (hI : tw_Inv tm ck) (hP : va_P (dC, dI) tw_cl (tw_wL xh xa0 xa1 xa2 xa3 kx0 kx1 kx2 kx3 mh ma0 ma1 ma2 ma3 km0 km1 km2 km3 ao k4 fl th tm pr ag ck nx ou) H) (hD : va_D (tw_AL s) (tw_wL xh xa0 xa1 xa2 xa3 kx0 kx1 kx2 kx3 mh ma0 ma1 ma2 ma3 km0 km1 km2 km3 ao k4 fl th tm pr ag ck nx ou)) (hK : va_K (dC, dI) tw_cl (tw_kL kx0 kx1 kx2 kx3 km0 km1 km2 km3 k4) s) (hS : va_S (tw_AL s) s.heap H locs) (hl : lv_has ls 8 [(4, .int (nI i)), (0, .ref b), (1, .ref xh), (2, .ref mh), (3, .ref ao)]) {j1 : Int32} (e1 : xs (nI i + 1).toNatClampNeg = j1) (e2 : xs (nI i + 2).toNatClampNeg = 1) (hj : vp_in j1 100) (kk : ∀ (fl' : Int32) (th' : Nat → Int32) (tm' : Nat → Int64) (pr' ag' : Nat → Int32) (ck' : Int64) (nx' : Int32) (ou' : Nat → Int64) (H' : Heap) (locs' : List Loc) (ls' : Array Slot), tw_Inv tm' ck' → va_P (dC, dI) tw_cl (tw_wL xh xa0 xa1 xa2 xa3 kx0 kx1 kx2 kx3 mh ma0 ma1 ma2 ma3 km0 km1 km2 km3 ao k4 fl' (th') (tm') (pr') (ag') (ck') (nx') (ou')) H' → va_D (tw_AL s) (tw_wL xh xa0 xa1 xa2 xa3 kx0 kx1 kx2 kx3 mh ma0 ma1 ma2 ma3 km0 km1 km2 km3 ao k4 (fl') (th') (tm') (pr') (ag') (ck') (nx') (ou')) → va_S (tw_AL s) s.heap H' locs' → lv_has ls' 8 [(4, .int (nI i)), (0, .ref b), (1, .ref xh), (2, .ref mh), (3, .ref ao)] → W p l e room_1 s m #[Value.ref b] below meth c H' locs' (cells + 1) (slots + 6) Q (F0 m 563 ls' [])) : W p l e room_1 s m #[Value.ref b] below meth c H locs cells slots Q (F0 m 441 ls []) := by
  have hA : ∀ q : Nat, s.heap.size ≤ q → tw_AL s q := fun q h => h
  have hbA : ¬ tw_AL s b := Nat.not_le.mpr hbl
  refine lv_aload_n hx hb dL_law_441 rfl (lv_at hl 2 rfl) ?_
  refine lv_aload_n hx hb dL_law_442 rfl (lv_at hl 1 rfl) ?_
  refine lv_iload hx hb dL_law_443 (lv_at hl 0 rfl) ?_
  refine lv_iconst (v := 1) hx hb dL_law_445 (by decide) ?_
  refine lv_iadd hx hb dL_law_446 ?_
  refine va_sld hx hb hX hbl hbA hS (tw_sin1 hi hL) dL_law_447 ?_
  rw [e1]
  refine lv_aload_n hx hb dL_law_448 rfl (lv_at hl 1 rfl) ?_
  refine lv_iload hx hb dL_law_449 (lv_at hl 0 rfl) ?_
  refine lv_iconst (v := 2) hx hb dL_law_451 (by decide) ?_
  refine lv_iadd hx hb dL_law_452 ?_
  refine va_sld hx hb hX hbl hbA hS (tw_sin2 hi hL) dL_law_453 ?_
  rw [e2]
  refine lv_aload_n hx hb dL_law_454 rfl (lv_at hl 4 rfl) ?_
  have hPc := hP.sub (ws' := (tw_wH xh xa0 xa1 xa2 xa3 kx0 kx1 kx2 kx3 th tm pr ag ck nx ao k4 ou)) [0, 1, 2, 3, 4, 10] rfl
  have hDc := hD.sub (ws' := (tw_wH xh xa0 xa1 xa2 xa3 kx0 kx1 kx2 kx3 th tm pr ag ck nx ao k4 ou)) [0, 1, 2, 3, 4, 10] (by decide) rfl
  have hKc := hK.sub (tys' := tw_kH kx0 kx1 kx2 kx3 k4) [0, 1, 2, 3, 8] rfl
  have hFc := va_free (wc := (tw_wH xh xa0 xa1 xa2 xa3 kx0 kx1 kx2 kx3 th tm pr ag ck nx ao k4 ou)) hD hS hA [0, 1, 2, 3, 4, 10] rfl
  refine va_calli (xt_runSW (n := 4) (As := [.ref xh, .int j1, .int 1, .ref ao]) (rest := []) ⟨hx, hb, hml, hown, hT⟩ (cL_timer1 l dC dI xh xa0 xa1 xa2 xa3 kx0 kx1 kx2 kx3 th tm pr ag ck nx ao k4 ou H.size j1 hj) rfl (tw_gS tt_190 tt_191 tt_0 tt_192) rfl rfl ⟨rfl, by decide +kernel⟩ ⟨Nat.le_of_ble_eq_true rfl, Nat.le_of_ble_eq_true rfl⟩ ⟨fun a U g mk q => by obtain ⟨q0, q1, qP, qK, qD⟩ := q; exact ⟨q0, q1, qP, va_K.moved (u := U) (U := U.calling g mk a) (Vm.Alike.refl U.vm) qK, qD⟩, fun U hU hW => ⟨rfl, by rw [hU], by rw [hU]; exact hPc, va_K.moved hW.alike hKc, hDc.weaken (fun _ _ _ _ => trivial)⟩⟩ rfl rfl hl.1 rfl (lv_room (Nat.le_of_ble_eq_true rfl)) dL_law_455 ⟨Nat.le_trans (Nat.le_succ _) hc.1, Nat.le_trans (Nat.le_add_right _ 6) hc.2⟩) hS (fun q _ h => hFc q h) hFc (fun r9 u9 t9 H1 locs ht9 hvm9 hw9 hB9 hz9 hk9 hS => ?_)
  obtain ⟨hP1, hD1⟩ := hB9
  rw [ht9] at hP1
  have hw9 : r9 = 0 := hw9
  subst r9
  obtain ⟨hP, hD⟩ := va_join (wr := (tw_wM mh ma0 ma1 ma2 ma3 km0 km1 km2 km3 fl th tm pr ag ck nx)) (w1 := (tw_wH xh xa0 xa1 xa2 xa3 kx0 kx1 kx2 kx3 th tm pr ag ck nx ao k4 (vp_updL ou (0 : Int32).toNatClampNeg (if th j1.toNatClampNeg = 0 then 0 else tm j1.toNatClampNeg)))) hP hD [0, 1, 2, 3, 4, 10] [5, 6, 7, 8, 9] rfl rfl (by decide) (by decide) hk9 hFc hP1 hD1
  generalize H1 = H at hP hS ⊢
  have hP := hP.sub (ws' := [(xh, .inr (0, [.ref xa0, .ref xa1, .ref xa2, .ref xa3, .long ck, .int nx])), (xa0, .inl (kx0, 100, .inl th)), (xa1, .inl (kx1, 100, .inr (.inl tm))), (xa2, .inl (kx2, 100, .inl pr)), (xa3, .inl (kx3, 100, .inl ag)), (mh, .inr (1, [.int fl, .ref ma0, .ref ma1, .ref ma2, .ref ma3, .int nx, .long ck])), (ma0, .inl (km0, 100, .inl th)), (ma1, .inl (km1, 100, .inr (.inl tm))), (ma2, .inl (km2, 100, .inl pr)), (ma3, .inl (km3, 100, .inl ag)), (ao, .inl (k4, 1, .inr (.inl (vp_updL ou (0 : Int32).toNatClampNeg (if th j1.toNatClampNeg = 0 then 0 else tm j1.toNatClampNeg)))))]) [5, 6, 7, 8, 9, 0, 1, 2, 3, 4, 10] rfl
  have hD := hD.sub (ws' := [(xh, .inr (0, [.ref xa0, .ref xa1, .ref xa2, .ref xa3, .long ck, .int nx])), (xa0, .inl (kx0, 100, .inl th)), (xa1, .inl (kx1, 100, .inr (.inl tm))), (xa2, .inl (kx2, 100, .inl pr)), (xa3, .inl (kx3, 100, .inl ag)), (mh, .inr (1, [.int fl, .ref ma0, .ref ma1, .ref ma2, .ref ma3, .int nx, .long ck])), (ma0, .inl (km0, 100, .inl th)), (ma1, .inl (km1, 100, .inr (.inl tm))), (ma2, .inl (km2, 100, .inl pr)), (ma3, .inl (km3, 100, .inl ag)), (ao, .inl (k4, 1, .inr (.inl (vp_updL ou (0 : Int32).toNatClampNeg (if th j1.toNatClampNeg = 0 then 0 else tm j1.toNatClampNeg)))))]) [5, 6, 7, 8, 9, 0, 1, 2, 3, 4, 10] (by decide) rfl
  refine lv_istore hx hb dL_law_458 hl (by decide) rfl (fun ls hl => ?_)
  have hl : lv_has ls 8 [(5, .int 0), (4, .int (nI i)), (0, .ref b), (1, .ref xh), (2, .ref mh), (3, .ref ao)] := hl
  refine lv_aload_n hx hb dL_law_460 rfl (lv_at hl 4 rfl) ?_
  refine lv_aload_n hx hb dL_law_461 rfl (lv_at hl 2 rfl) ?_
  refine lv_iload hx hb dL_law_462 (lv_at hl 1 rfl) ?_
  refine lv_iconst (v := 1) hx hb dL_law_464 (by decide) ?_
  refine lv_iadd hx hb dL_law_465 ?_
  refine va_sld hx hb hX hbl hbA hS (tw_sin1 hi hL) dL_law_466 ?_
  rw [e1]
  refine lv_aload_n hx hb dL_law_467 rfl (lv_at hl 2 rfl) ?_
  refine lv_iload hx hb dL_law_468 (lv_at hl 1 rfl) ?_
  refine lv_iconst (v := 2) hx hb dL_law_470 (by decide) ?_
  refine lv_iadd hx hb dL_law_471 ?_
  refine va_sld hx hb hX hbl hbA hS (tw_sin2 hi hL) dL_law_472 ?_
  rw [e2]
  have hPc := hP.sub (ws' := (tw_wM mh ma0 ma1 ma2 ma3 km0 km1 km2 km3 fl th tm pr ag ck nx)) [5, 6, 7, 8, 9] rfl
  have hDc := hD.sub (ws' := (tw_wM mh ma0 ma1 ma2 ma3 km0 km1 km2 km3 fl th tm pr ag ck nx)) [5, 6, 7, 8, 9] (by decide) rfl
  have hKc := hK.sub (tys' := tw_k km0 km1 km2 km3) [4, 5, 6, 7] rfl
  have hFc := va_free (wc := (tw_wM mh ma0 ma1 ma2 ma3 km0 km1 km2 km3 fl th tm pr ag ck nx)) hD hS hA [5, 6, 7, 8, 9] rfl
  refine va_calll (va_runV (C := RM) (b := mh) (As := [.int j1, .int 1]) (rest := []) ⟨hx, hb, hml, hown, hT⟩ (cM_timer1 l dC dI mh ma0 ma1 ma2 ma3 km0 km1 km2 km3 fl th tm pr ag ck nx H.size j1 hj) (cwV 2 hT (tw_gV tt_283 tt_284 tt_285 tt_2 tt_286) rfl rfl rfl ⟨rfl, by decide +kernel⟩ ⟨Nat.le_of_ble_eq_true rfl, Nat.le_of_ble_eq_true rfl⟩) ⟨fun a U g mk q => by obtain ⟨q0, q1, qP, qK, qD⟩ := q; exact ⟨q0, q1, qP, va_K.moved (u := U) (U := U.calling g mk a) (Vm.Alike.refl U.vm) qK, qD⟩, va_recv (q0 := 0) (ci := 1) hKc hPc rfl rfl, fun U hU hW => ⟨rfl, by rw [hU], by rw [hU]; exact hPc, va_K.moved hW.alike hKc, hDc.weaken (fun _ _ _ _ => trivial)⟩⟩ rfl rfl hl.1 rfl (lv_room (Nat.le_of_ble_eq_true rfl)) dL_law_473 ⟨Nat.le_trans (Nat.le_succ _) hc.1, Nat.le_trans (Nat.le_add_right _ 6) hc.2⟩) hS (fun q _ h => hFc q h) hFc (fun r9 u9 t9 H1 locs ht9 hvm9 hw9 hB9 hz9 hk9 hS => ?_)
  obtain ⟨hP1, hD1⟩ := hB9
  rw [ht9] at hP1
  have hw9 : r9 = (if th j1.toNatClampNeg = 0 then 0 else tm j1.toNatClampNeg) := hw9
  subst r9
  obtain ⟨hP, hD⟩ := va_join (wr := [(xh, .inr (0, [.ref xa0, .ref xa1, .ref xa2, .ref xa3, .long ck, .int nx])), (xa0, .inl (kx0, 100, .inl th)), (xa1, .inl (kx1, 100, .inr (.inl tm))), (xa2, .inl (kx2, 100, .inl pr)), (xa3, .inl (kx3, 100, .inl ag)), (ao, .inl (k4, 1, .inr (.inl (vp_updL ou (0 : Int32).toNatClampNeg (if th j1.toNatClampNeg = 0 then 0 else tm j1.toNatClampNeg)))))]) (w1 := (tw_wM mh ma0 ma1 ma2 ma3 km0 km1 km2 km3 0 th tm pr ag ck nx)) hP hD [5, 6, 7, 8, 9] [0, 1, 2, 3, 4, 10] rfl rfl (by decide) (by decide) hk9 hFc hP1 hD1
  generalize H1 = H at hP hS ⊢
  have hP := hP.sub (ws' := [(xh, .inr (0, [.ref xa0, .ref xa1, .ref xa2, .ref xa3, .long ck, .int nx])), (xa0, .inl (kx0, 100, .inl th)), (xa1, .inl (kx1, 100, .inr (.inl tm))), (xa2, .inl (kx2, 100, .inl pr)), (xa3, .inl (kx3, 100, .inl ag)), (mh, .inr (1, [.int 0, .ref ma0, .ref ma1, .ref ma2, .ref ma3, .int nx, .long ck])), (ma0, .inl (km0, 100, .inl th)), (ma1, .inl (km1, 100, .inr (.inl tm))), (ma2, .inl (km2, 100, .inl pr)), (ma3, .inl (km3, 100, .inl ag)), (ao, .inl (k4, 1, .inr (.inl (vp_updL ou (0 : Int32).toNatClampNeg (if th j1.toNatClampNeg = 0 then 0 else tm j1.toNatClampNeg)))))]) [0, 1, 2, 3, 4, 6, 7, 8, 9, 10, 5] rfl
  have hD := hD.sub (ws' := [(xh, .inr (0, [.ref xa0, .ref xa1, .ref xa2, .ref xa3, .long ck, .int nx])), (xa0, .inl (kx0, 100, .inl th)), (xa1, .inl (kx1, 100, .inr (.inl tm))), (xa2, .inl (kx2, 100, .inl pr)), (xa3, .inl (kx3, 100, .inl ag)), (mh, .inr (1, [.int 0, .ref ma0, .ref ma1, .ref ma2, .ref ma3, .int nx, .long ck])), (ma0, .inl (km0, 100, .inl th)), (ma1, .inl (km1, 100, .inr (.inl tm))), (ma2, .inl (km2, 100, .inl pr)), (ma3, .inl (km3, 100, .inl ag)), (ao, .inl (k4, 1, .inr (.inl (vp_updL ou (0 : Int32).toNatClampNeg (if th j1.toNatClampNeg = 0 then 0 else tm j1.toNatClampNeg)))))]) [0, 1, 2, 3, 4, 6, 7, 8, 9, 10, 5] (by decide) rfl
  refine lv_lstore hx hb dL_law_476 hl (by decide) rfl (fun ls hl => ?_)
  have hl : lv_has ls 8 [(6, .long (if th j1.toNatClampNeg = 0 then 0 else tm j1.toNatClampNeg)), (5, .int 0), (4, .int (nI i)), (0, .ref b), (1, .ref xh), (2, .ref mh), (3, .ref ao)] := hl
  refine lv_aload_n hx hb dL_law_478 rfl (lv_at hl 5 rfl) ?_
  have hPc := hP.sub (ws' := (tw_wM mh ma0 ma1 ma2 ma3 km0 km1 km2 km3 0 th tm pr ag ck nx)) [5, 6, 7, 8, 9] rfl
  have hKc := hK.sub (tys' := tw_k km0 km1 km2 km3) [4, 5, 6, 7] rfl
  refine vp_callSi (W.runV (C := RM) (b := mh) (As := []) (rest := []) ⟨hx, hb, hml, hown, hT⟩ (cM_thrown l dC dI mh ma0 ma1 ma2 ma3 km0 km1 km2 km3 0 th tm pr ag ck nx) (cwV 0 hT (tw_gV tt_239 tt_240 tt_241 tt_2 tt_242) rfl rfl rfl ⟨rfl, by decide +kernel⟩ ⟨Nat.le_of_ble_eq_true rfl, Nat.le_of_ble_eq_true rfl⟩) ⟨fun a U g mk q => ⟨q.1, q.2.1, va_K.moved (u := U) (U := U.calling g mk a) (Vm.Alike.refl U.vm) q.2.2⟩, va_recv (q0 := 0) (ci := 1) hKc hPc rfl rfl, fun U hU hW => ⟨rfl, by rw [hU]; exact hPc, va_K.moved hW.alike hKc⟩⟩ rfl rfl hl.1 rfl (lv_room (Nat.le_of_ble_eq_true rfl)) dL_law_479 ⟨Nat.le_trans (Nat.le_succ _) hc.1, Nat.le_trans (Nat.le_add_right _ 6) hc.2⟩) (fun r8 h8 => ?_)
  subst r8
  refine lv_iload hx hb dL_law_482 (lv_at hl 1 rfl) ?_
  refine lv_icmp_eq (tgt := 489) hx hb dL_law_484 (by decide) (fun hc1 => ?_) (fun hc1 => absurd (rfl : (0 : Int32) = 0) hc1)
  refine lv_iload hx hb dL_law_489 (lv_at hl 1 rfl) ?_
  refine lv_if_ne (tgt := 505) hx hb dL_law_491 (by decide) (fun hc2 => absurd rfl hc2) (fun hc2 => ?_)
  refine lv_aload_n hx hb dL_law_494 rfl (lv_at hl 6 rfl) ?_
  refine lv_iconst (v := 0) hx hb dL_law_495 (by decide) ?_
  refine va_lald hx hb hK hP 10 8 rfl rfl (by unfold vp_in; decide) dL_law_496 ?_
  refine lv_lload hx hb dL_law_497 (lv_at hl 0 rfl) ?_
  refine W.lcmp hx hb dL_law_499 ?_
  refine lv_if_eq (tgt := 505) hx hb dL_law_500 (by decide) (fun hc3 => ?_) (fun hc3 => absurd ((lg_cmp_eq _ _).mpr pk_uLs) hc3)
  refine lv_goto (tgt := 563) hx hb dL_law_505 (by decide) ?_
  refine W.widen (k := cells + 1) (n := slots + 6) (Nat.le_succ _) (Nat.le_add_right _ 6) ?_
  exact kk 0 th tm pr ag ck nx (vp_updL ou (0 : Int32).toNatClampNeg (if th j1.toNatClampNeg = 0 then 0 else tm j1.toNatClampNeg)) H _ ls hI hP hD hS (lv_sub hl [2, 3, 4, 5, 6] rfl)
end LLtimer1
section LLtimer2
variable {p : Program} {l : Launch} {e : Env} {s : State} {m : MethodId} {below : List Frame} {meth : Method} {c : Code} {H : Heap} {locs : List Loc} {cells slots : Nat} {Q : State → Prop} {ls : Array Slot} {b L i : Nat} {xs : Nat → Int32}
variable {dC : Nat → ClassId} {dI : Nat → Nat → Nat} {xh xa0 xa1 xa2 xa3 : Nat} {kx0 kx1 kx2 kx3 : ClassId} {mh ma0 ma1 ma2 ma3 : Nat} {km0 km1 km2 km3 : ClassId} {ao : Nat} {k4 : ClassId} {fl : Int32} {th : Nat → Int32} {tm : Nat → Int64} {pr ag : Nat → Int32} {ck : Int64} {nx : Int32} {ou : Nat → Int64}
set_option maxHeartbeats 4000000 in
set_option maxRecDepth 100000 in
theorem ll_timer2 (hx : p.tables.exec = Jvm.exec) (hb : c.code = bL_law) (hml : c.maxLocals = 8) (hT : ∀ w ∈ tw_T, w.before #[Value.ref b] s = true) (hown : s.vm.findClass RL = some m.cls) (hfl : l.flags = pinnedFlags ++ [noTraceFlag]) (hX : va_X b L xs s s.heap) (hbl : b < s.heap.size) (hZ : tw_Z s s.heap) (hNc : va_Nc tw_nse tw_iae s) (hL : L ≤ 2560) (hi : i + 5 ≤ L) (hc : cells + 1 ≤ 1044 ∧ slots + 6 ≤ 9060) (hI : tw_Inv tm ck) (hP : va_P (dC, dI) tw_cl (tw_wL xh xa0 xa1 xa2 xa3 kx0 kx1 kx2 kx3 mh ma0 ma1 ma2 ma3 km0 km1 km2 km3 ao k4 fl th tm pr ag ck nx ou) H) (hD : va_D (tw_AL s) (tw_wL xh xa0 xa1 xa2 xa3 kx0 kx1 kx2 kx3 mh ma0 ma1 ma2 ma3 km0 km1 km2 km3 ao k4 fl th tm pr ag ck nx ou)) (hK : va_K (dC, dI) tw_cl (tw_kL kx0 kx1 kx2 kx3 km0 km1 km2 km3 k4) s) (hS : va_S (tw_AL s) s.heap H locs) (hl : lv_has ls 8 [(4, .int (nI i)), (0, .ref b), (1, .ref xh), (2, .ref mh), (3, .ref ao)]) {j1 : Int32} (e1 : xs (nI i + 1).toNatClampNeg = j1) (e2 : xs (nI i + 2).toNatClampNeg = 2) (hj : vp_in j1 100) (kk : ∀ (fl' : Int32) (th' : Nat → Int32) (tm' : Nat → Int64) (pr' ag' : Nat → Int32) (ck' : Int64) (nx' : Int32) (ou' : Nat → Int64) (H' : Heap) (locs' : List Loc) (ls' : Array Slot), tw_Inv tm' ck' → va_P (dC, dI) tw_cl (tw_wL xh xa0 xa1 xa2 xa3 kx0 kx1 kx2 kx3 mh ma0 ma1 ma2 ma3 km0 km1 km2 km3 ao k4 fl' (th') (tm') (pr') (ag') (ck') (nx') (ou')) H' → va_D (tw_AL s) (tw_wL xh xa0 xa1 xa2 xa3 kx0 kx1 kx2 kx3 mh ma0 ma1 ma2 ma3 km0 km1 km2 km3 ao k4 (fl') (th') (tm') (pr') (ag') (ck') (nx') (ou')) → va_S (tw_AL s) s.heap H' locs' → lv_has ls' 8 [(4, .int (nI i)), (0, .ref b), (1, .ref xh), (2, .ref mh), (3, .ref ao)] → W p l e room_1 s m #[Value.ref b] below meth c H' locs' (cells + 1) (slots + 6) Q (F0 m 563 ls' [])) : W p l e room_1 s m #[Value.ref b] below meth c H locs cells slots Q (F0 m 441 ls []) := by
  have hA : ∀ q : Nat, s.heap.size ≤ q → tw_AL s q := fun q h => h
  have hbA : ¬ tw_AL s b := Nat.not_le.mpr hbl
  refine lv_aload_n hx hb dL_law_441 rfl (lv_at hl 2 rfl) ?_
  refine lv_aload_n hx hb dL_law_442 rfl (lv_at hl 1 rfl) ?_
  refine lv_iload hx hb dL_law_443 (lv_at hl 0 rfl) ?_
  refine lv_iconst (v := 1) hx hb dL_law_445 (by decide) ?_
  refine lv_iadd hx hb dL_law_446 ?_
  refine va_sld hx hb hX hbl hbA hS (tw_sin1 hi hL) dL_law_447 ?_
  rw [e1]
  refine lv_aload_n hx hb dL_law_448 rfl (lv_at hl 1 rfl) ?_
  refine lv_iload hx hb dL_law_449 (lv_at hl 0 rfl) ?_
  refine lv_iconst (v := 2) hx hb dL_law_451 (by decide) ?_
  refine lv_iadd hx hb dL_law_452 ?_
  refine va_sld hx hb hX hbl hbA hS (tw_sin2 hi hL) dL_law_453 ?_
  rw [e2]
  refine lv_aload_n hx hb dL_law_454 rfl (lv_at hl 4 rfl) ?_
  have hPc := hP.sub (ws' := (tw_wH xh xa0 xa1 xa2 xa3 kx0 kx1 kx2 kx3 th tm pr ag ck nx ao k4 ou)) [0, 1, 2, 3, 4, 10] rfl
  have hDc := hD.sub (ws' := (tw_wH xh xa0 xa1 xa2 xa3 kx0 kx1 kx2 kx3 th tm pr ag ck nx ao k4 ou)) [0, 1, 2, 3, 4, 10] (by decide) rfl
  have hKc := hK.sub (tys' := tw_kH kx0 kx1 kx2 kx3 k4) [0, 1, 2, 3, 8] rfl
  have hFc := va_free (wc := (tw_wH xh xa0 xa1 xa2 xa3 kx0 kx1 kx2 kx3 th tm pr ag ck nx ao k4 ou)) hD hS hA [0, 1, 2, 3, 4, 10] rfl
  refine va_calli (xt_runSW (n := 4) (As := [.ref xh, .int j1, .int 2, .ref ao]) (rest := []) ⟨hx, hb, hml, hown, hT⟩ (cL_timer2 l dC dI xh xa0 xa1 xa2 xa3 kx0 kx1 kx2 kx3 th tm pr ag ck nx ao k4 ou H.size j1 hj) rfl (tw_gS tt_190 tt_191 tt_0 tt_192) rfl rfl ⟨rfl, by decide +kernel⟩ ⟨Nat.le_of_ble_eq_true rfl, Nat.le_of_ble_eq_true rfl⟩ ⟨fun a U g mk q => by obtain ⟨q0, q1, qP, qK, qD⟩ := q; exact ⟨q0, q1, qP, va_K.moved (u := U) (U := U.calling g mk a) (Vm.Alike.refl U.vm) qK, qD⟩, fun U hU hW => ⟨rfl, by rw [hU], by rw [hU]; exact hPc, va_K.moved hW.alike hKc, hDc.weaken (fun _ _ _ _ => trivial)⟩⟩ rfl rfl hl.1 rfl (lv_room (Nat.le_of_ble_eq_true rfl)) dL_law_455 ⟨Nat.le_trans (Nat.le_succ _) hc.1, Nat.le_trans (Nat.le_add_right _ 6) hc.2⟩) hS (fun q _ h => hFc q h) hFc (fun r9 u9 t9 H1 locs ht9 hvm9 hw9 hB9 hz9 hk9 hS => ?_)
  obtain ⟨hP1, hD1⟩ := hB9
  rw [ht9] at hP1
  have hw9 : r9 = 0 := hw9
  subst r9
  obtain ⟨hP, hD⟩ := va_join (wr := (tw_wM mh ma0 ma1 ma2 ma3 km0 km1 km2 km3 fl th tm pr ag ck nx)) (w1 := (tw_wH xh xa0 xa1 xa2 xa3 kx0 kx1 kx2 kx3 th tm pr ag ck nx ao k4 (vp_updL ou (0 : Int32).toNatClampNeg (if th j1.toNatClampNeg = 0 then 0 else (pr j1.toNatClampNeg).toInt64)))) hP hD [0, 1, 2, 3, 4, 10] [5, 6, 7, 8, 9] rfl rfl (by decide) (by decide) hk9 hFc hP1 hD1
  generalize H1 = H at hP hS ⊢
  have hP := hP.sub (ws' := [(xh, .inr (0, [.ref xa0, .ref xa1, .ref xa2, .ref xa3, .long ck, .int nx])), (xa0, .inl (kx0, 100, .inl th)), (xa1, .inl (kx1, 100, .inr (.inl tm))), (xa2, .inl (kx2, 100, .inl pr)), (xa3, .inl (kx3, 100, .inl ag)), (mh, .inr (1, [.int fl, .ref ma0, .ref ma1, .ref ma2, .ref ma3, .int nx, .long ck])), (ma0, .inl (km0, 100, .inl th)), (ma1, .inl (km1, 100, .inr (.inl tm))), (ma2, .inl (km2, 100, .inl pr)), (ma3, .inl (km3, 100, .inl ag)), (ao, .inl (k4, 1, .inr (.inl (vp_updL ou (0 : Int32).toNatClampNeg (if th j1.toNatClampNeg = 0 then 0 else (pr j1.toNatClampNeg).toInt64)))))]) [5, 6, 7, 8, 9, 0, 1, 2, 3, 4, 10] rfl
  have hD := hD.sub (ws' := [(xh, .inr (0, [.ref xa0, .ref xa1, .ref xa2, .ref xa3, .long ck, .int nx])), (xa0, .inl (kx0, 100, .inl th)), (xa1, .inl (kx1, 100, .inr (.inl tm))), (xa2, .inl (kx2, 100, .inl pr)), (xa3, .inl (kx3, 100, .inl ag)), (mh, .inr (1, [.int fl, .ref ma0, .ref ma1, .ref ma2, .ref ma3, .int nx, .long ck])), (ma0, .inl (km0, 100, .inl th)), (ma1, .inl (km1, 100, .inr (.inl tm))), (ma2, .inl (km2, 100, .inl pr)), (ma3, .inl (km3, 100, .inl ag)), (ao, .inl (k4, 1, .inr (.inl (vp_updL ou (0 : Int32).toNatClampNeg (if th j1.toNatClampNeg = 0 then 0 else (pr j1.toNatClampNeg).toInt64)))))]) [5, 6, 7, 8, 9, 0, 1, 2, 3, 4, 10] (by decide) rfl
  refine lv_istore hx hb dL_law_458 hl (by decide) rfl (fun ls hl => ?_)
  have hl : lv_has ls 8 [(5, .int 0), (4, .int (nI i)), (0, .ref b), (1, .ref xh), (2, .ref mh), (3, .ref ao)] := hl
  refine lv_aload_n hx hb dL_law_460 rfl (lv_at hl 4 rfl) ?_
  refine lv_aload_n hx hb dL_law_461 rfl (lv_at hl 2 rfl) ?_
  refine lv_iload hx hb dL_law_462 (lv_at hl 1 rfl) ?_
  refine lv_iconst (v := 1) hx hb dL_law_464 (by decide) ?_
  refine lv_iadd hx hb dL_law_465 ?_
  refine va_sld hx hb hX hbl hbA hS (tw_sin1 hi hL) dL_law_466 ?_
  rw [e1]
  refine lv_aload_n hx hb dL_law_467 rfl (lv_at hl 2 rfl) ?_
  refine lv_iload hx hb dL_law_468 (lv_at hl 1 rfl) ?_
  refine lv_iconst (v := 2) hx hb dL_law_470 (by decide) ?_
  refine lv_iadd hx hb dL_law_471 ?_
  refine va_sld hx hb hX hbl hbA hS (tw_sin2 hi hL) dL_law_472 ?_
  rw [e2]
  have hPc := hP.sub (ws' := (tw_wM mh ma0 ma1 ma2 ma3 km0 km1 km2 km3 fl th tm pr ag ck nx)) [5, 6, 7, 8, 9] rfl
  have hDc := hD.sub (ws' := (tw_wM mh ma0 ma1 ma2 ma3 km0 km1 km2 km3 fl th tm pr ag ck nx)) [5, 6, 7, 8, 9] (by decide) rfl
  have hKc := hK.sub (tys' := tw_k km0 km1 km2 km3) [4, 5, 6, 7] rfl
  have hFc := va_free (wc := (tw_wM mh ma0 ma1 ma2 ma3 km0 km1 km2 km3 fl th tm pr ag ck nx)) hD hS hA [5, 6, 7, 8, 9] rfl
  refine va_calll (va_runV (C := RM) (b := mh) (As := [.int j1, .int 2]) (rest := []) ⟨hx, hb, hml, hown, hT⟩ (cM_timer2 l dC dI mh ma0 ma1 ma2 ma3 km0 km1 km2 km3 fl th tm pr ag ck nx H.size j1 hj) (cwV 2 hT (tw_gV tt_283 tt_284 tt_285 tt_2 tt_286) rfl rfl rfl ⟨rfl, by decide +kernel⟩ ⟨Nat.le_of_ble_eq_true rfl, Nat.le_of_ble_eq_true rfl⟩) ⟨fun a U g mk q => by obtain ⟨q0, q1, qP, qK, qD⟩ := q; exact ⟨q0, q1, qP, va_K.moved (u := U) (U := U.calling g mk a) (Vm.Alike.refl U.vm) qK, qD⟩, va_recv (q0 := 0) (ci := 1) hKc hPc rfl rfl, fun U hU hW => ⟨rfl, by rw [hU], by rw [hU]; exact hPc, va_K.moved hW.alike hKc, hDc.weaken (fun _ _ _ _ => trivial)⟩⟩ rfl rfl hl.1 rfl (lv_room (Nat.le_of_ble_eq_true rfl)) dL_law_473 ⟨Nat.le_trans (Nat.le_succ _) hc.1, Nat.le_trans (Nat.le_add_right _ 6) hc.2⟩) hS (fun q _ h => hFc q h) hFc (fun r9 u9 t9 H1 locs ht9 hvm9 hw9 hB9 hz9 hk9 hS => ?_)
  obtain ⟨hP1, hD1⟩ := hB9
  rw [ht9] at hP1
  have hw9 : r9 = (if th j1.toNatClampNeg = 0 then 0 else (pr j1.toNatClampNeg).toInt64) := hw9
  subst r9
  obtain ⟨hP, hD⟩ := va_join (wr := [(xh, .inr (0, [.ref xa0, .ref xa1, .ref xa2, .ref xa3, .long ck, .int nx])), (xa0, .inl (kx0, 100, .inl th)), (xa1, .inl (kx1, 100, .inr (.inl tm))), (xa2, .inl (kx2, 100, .inl pr)), (xa3, .inl (kx3, 100, .inl ag)), (ao, .inl (k4, 1, .inr (.inl (vp_updL ou (0 : Int32).toNatClampNeg (if th j1.toNatClampNeg = 0 then 0 else (pr j1.toNatClampNeg).toInt64)))))]) (w1 := (tw_wM mh ma0 ma1 ma2 ma3 km0 km1 km2 km3 0 th tm pr ag ck nx)) hP hD [5, 6, 7, 8, 9] [0, 1, 2, 3, 4, 10] rfl rfl (by decide) (by decide) hk9 hFc hP1 hD1
  generalize H1 = H at hP hS ⊢
  have hP := hP.sub (ws' := [(xh, .inr (0, [.ref xa0, .ref xa1, .ref xa2, .ref xa3, .long ck, .int nx])), (xa0, .inl (kx0, 100, .inl th)), (xa1, .inl (kx1, 100, .inr (.inl tm))), (xa2, .inl (kx2, 100, .inl pr)), (xa3, .inl (kx3, 100, .inl ag)), (mh, .inr (1, [.int 0, .ref ma0, .ref ma1, .ref ma2, .ref ma3, .int nx, .long ck])), (ma0, .inl (km0, 100, .inl th)), (ma1, .inl (km1, 100, .inr (.inl tm))), (ma2, .inl (km2, 100, .inl pr)), (ma3, .inl (km3, 100, .inl ag)), (ao, .inl (k4, 1, .inr (.inl (vp_updL ou (0 : Int32).toNatClampNeg (if th j1.toNatClampNeg = 0 then 0 else (pr j1.toNatClampNeg).toInt64)))))]) [0, 1, 2, 3, 4, 6, 7, 8, 9, 10, 5] rfl
  have hD := hD.sub (ws' := [(xh, .inr (0, [.ref xa0, .ref xa1, .ref xa2, .ref xa3, .long ck, .int nx])), (xa0, .inl (kx0, 100, .inl th)), (xa1, .inl (kx1, 100, .inr (.inl tm))), (xa2, .inl (kx2, 100, .inl pr)), (xa3, .inl (kx3, 100, .inl ag)), (mh, .inr (1, [.int 0, .ref ma0, .ref ma1, .ref ma2, .ref ma3, .int nx, .long ck])), (ma0, .inl (km0, 100, .inl th)), (ma1, .inl (km1, 100, .inr (.inl tm))), (ma2, .inl (km2, 100, .inl pr)), (ma3, .inl (km3, 100, .inl ag)), (ao, .inl (k4, 1, .inr (.inl (vp_updL ou (0 : Int32).toNatClampNeg (if th j1.toNatClampNeg = 0 then 0 else (pr j1.toNatClampNeg).toInt64)))))]) [0, 1, 2, 3, 4, 6, 7, 8, 9, 10, 5] (by decide) rfl
  refine lv_lstore hx hb dL_law_476 hl (by decide) rfl (fun ls hl => ?_)
  have hl : lv_has ls 8 [(6, .long (if th j1.toNatClampNeg = 0 then 0 else (pr j1.toNatClampNeg).toInt64)), (5, .int 0), (4, .int (nI i)), (0, .ref b), (1, .ref xh), (2, .ref mh), (3, .ref ao)] := hl
  refine lv_aload_n hx hb dL_law_478 rfl (lv_at hl 5 rfl) ?_
  have hPc := hP.sub (ws' := (tw_wM mh ma0 ma1 ma2 ma3 km0 km1 km2 km3 0 th tm pr ag ck nx)) [5, 6, 7, 8, 9] rfl
  have hKc := hK.sub (tys' := tw_k km0 km1 km2 km3) [4, 5, 6, 7] rfl
  refine vp_callSi (W.runV (C := RM) (b := mh) (As := []) (rest := []) ⟨hx, hb, hml, hown, hT⟩ (cM_thrown l dC dI mh ma0 ma1 ma2 ma3 km0 km1 km2 km3 0 th tm pr ag ck nx) (cwV 0 hT (tw_gV tt_239 tt_240 tt_241 tt_2 tt_242) rfl rfl rfl ⟨rfl, by decide +kernel⟩ ⟨Nat.le_of_ble_eq_true rfl, Nat.le_of_ble_eq_true rfl⟩) ⟨fun a U g mk q => ⟨q.1, q.2.1, va_K.moved (u := U) (U := U.calling g mk a) (Vm.Alike.refl U.vm) q.2.2⟩, va_recv (q0 := 0) (ci := 1) hKc hPc rfl rfl, fun U hU hW => ⟨rfl, by rw [hU]; exact hPc, va_K.moved hW.alike hKc⟩⟩ rfl rfl hl.1 rfl (lv_room (Nat.le_of_ble_eq_true rfl)) dL_law_479 ⟨Nat.le_trans (Nat.le_succ _) hc.1, Nat.le_trans (Nat.le_add_right _ 6) hc.2⟩) (fun r8 h8 => ?_)
  subst r8
  refine lv_iload hx hb dL_law_482 (lv_at hl 1 rfl) ?_
  refine lv_icmp_eq (tgt := 489) hx hb dL_law_484 (by decide) (fun hc1 => ?_) (fun hc1 => absurd (rfl : (0 : Int32) = 0) hc1)
  refine lv_iload hx hb dL_law_489 (lv_at hl 1 rfl) ?_
  refine lv_if_ne (tgt := 505) hx hb dL_law_491 (by decide) (fun hc2 => absurd rfl hc2) (fun hc2 => ?_)
  refine lv_aload_n hx hb dL_law_494 rfl (lv_at hl 6 rfl) ?_
  refine lv_iconst (v := 0) hx hb dL_law_495 (by decide) ?_
  refine va_lald hx hb hK hP 10 8 rfl rfl (by unfold vp_in; decide) dL_law_496 ?_
  refine lv_lload hx hb dL_law_497 (lv_at hl 0 rfl) ?_
  refine W.lcmp hx hb dL_law_499 ?_
  refine lv_if_eq (tgt := 505) hx hb dL_law_500 (by decide) (fun hc3 => ?_) (fun hc3 => absurd ((lg_cmp_eq _ _).mpr pk_uLs) hc3)
  refine lv_goto (tgt := 563) hx hb dL_law_505 (by decide) ?_
  refine W.widen (k := cells + 1) (n := slots + 6) (Nat.le_succ _) (Nat.le_add_right _ 6) ?_
  exact kk 0 th tm pr ag ck nx (vp_updL ou (0 : Int32).toNatClampNeg (if th j1.toNatClampNeg = 0 then 0 else (pr j1.toNatClampNeg).toInt64)) H _ ls hI hP hD hS (lv_sub hl [2, 3, 4, 5, 6] rfl)
end LLtimer2
section LLtimer3
variable {p : Program} {l : Launch} {e : Env} {s : State} {m : MethodId} {below : List Frame} {meth : Method} {c : Code} {H : Heap} {locs : List Loc} {cells slots : Nat} {Q : State → Prop} {ls : Array Slot} {b L i : Nat} {xs : Nat → Int32}
variable {dC : Nat → ClassId} {dI : Nat → Nat → Nat} {xh xa0 xa1 xa2 xa3 : Nat} {kx0 kx1 kx2 kx3 : ClassId} {mh ma0 ma1 ma2 ma3 : Nat} {km0 km1 km2 km3 : ClassId} {ao : Nat} {k4 : ClassId} {fl : Int32} {th : Nat → Int32} {tm : Nat → Int64} {pr ag : Nat → Int32} {ck : Int64} {nx : Int32} {ou : Nat → Int64}
set_option maxHeartbeats 4000000 in
set_option maxRecDepth 100000 in
theorem ll_timer3 (hx : p.tables.exec = Jvm.exec) (hb : c.code = bL_law) (hml : c.maxLocals = 8) (hT : ∀ w ∈ tw_T, w.before #[Value.ref b] s = true) (hown : s.vm.findClass RL = some m.cls) (hfl : l.flags = pinnedFlags ++ [noTraceFlag]) (hX : va_X b L xs s s.heap) (hbl : b < s.heap.size) (hZ : tw_Z s s.heap) (hNc : va_Nc tw_nse tw_iae s) (hL : L ≤ 2560) (hi : i + 5 ≤ L) (hc : cells + 1 ≤ 1044 ∧ slots + 6 ≤ 9060) (hI : tw_Inv tm ck) (hP : va_P (dC, dI) tw_cl (tw_wL xh xa0 xa1 xa2 xa3 kx0 kx1 kx2 kx3 mh ma0 ma1 ma2 ma3 km0 km1 km2 km3 ao k4 fl th tm pr ag ck nx ou) H) (hD : va_D (tw_AL s) (tw_wL xh xa0 xa1 xa2 xa3 kx0 kx1 kx2 kx3 mh ma0 ma1 ma2 ma3 km0 km1 km2 km3 ao k4 fl th tm pr ag ck nx ou)) (hK : va_K (dC, dI) tw_cl (tw_kL kx0 kx1 kx2 kx3 km0 km1 km2 km3 k4) s) (hS : va_S (tw_AL s) s.heap H locs) (hl : lv_has ls 8 [(4, .int (nI i)), (0, .ref b), (1, .ref xh), (2, .ref mh), (3, .ref ao)]) {j1 : Int32} (e1 : xs (nI i + 1).toNatClampNeg = j1) (e2 : xs (nI i + 2).toNatClampNeg = 3) (hj : vp_in j1 100) (kk : ∀ (fl' : Int32) (th' : Nat → Int32) (tm' : Nat → Int64) (pr' ag' : Nat → Int32) (ck' : Int64) (nx' : Int32) (ou' : Nat → Int64) (H' : Heap) (locs' : List Loc) (ls' : Array Slot), tw_Inv tm' ck' → va_P (dC, dI) tw_cl (tw_wL xh xa0 xa1 xa2 xa3 kx0 kx1 kx2 kx3 mh ma0 ma1 ma2 ma3 km0 km1 km2 km3 ao k4 fl' (th') (tm') (pr') (ag') (ck') (nx') (ou')) H' → va_D (tw_AL s) (tw_wL xh xa0 xa1 xa2 xa3 kx0 kx1 kx2 kx3 mh ma0 ma1 ma2 ma3 km0 km1 km2 km3 ao k4 (fl') (th') (tm') (pr') (ag') (ck') (nx') (ou')) → va_S (tw_AL s) s.heap H' locs' → lv_has ls' 8 [(4, .int (nI i)), (0, .ref b), (1, .ref xh), (2, .ref mh), (3, .ref ao)] → W p l e room_1 s m #[Value.ref b] below meth c H' locs' (cells + 1) (slots + 6) Q (F0 m 563 ls' [])) : W p l e room_1 s m #[Value.ref b] below meth c H locs cells slots Q (F0 m 441 ls []) := by
  have hA : ∀ q : Nat, s.heap.size ≤ q → tw_AL s q := fun q h => h
  have hbA : ¬ tw_AL s b := Nat.not_le.mpr hbl
  refine lv_aload_n hx hb dL_law_441 rfl (lv_at hl 2 rfl) ?_
  refine lv_aload_n hx hb dL_law_442 rfl (lv_at hl 1 rfl) ?_
  refine lv_iload hx hb dL_law_443 (lv_at hl 0 rfl) ?_
  refine lv_iconst (v := 1) hx hb dL_law_445 (by decide) ?_
  refine lv_iadd hx hb dL_law_446 ?_
  refine va_sld hx hb hX hbl hbA hS (tw_sin1 hi hL) dL_law_447 ?_
  rw [e1]
  refine lv_aload_n hx hb dL_law_448 rfl (lv_at hl 1 rfl) ?_
  refine lv_iload hx hb dL_law_449 (lv_at hl 0 rfl) ?_
  refine lv_iconst (v := 2) hx hb dL_law_451 (by decide) ?_
  refine lv_iadd hx hb dL_law_452 ?_
  refine va_sld hx hb hX hbl hbA hS (tw_sin2 hi hL) dL_law_453 ?_
  rw [e2]
  refine lv_aload_n hx hb dL_law_454 rfl (lv_at hl 4 rfl) ?_
  have hPc := hP.sub (ws' := (tw_wH xh xa0 xa1 xa2 xa3 kx0 kx1 kx2 kx3 th tm pr ag ck nx ao k4 ou)) [0, 1, 2, 3, 4, 10] rfl
  have hDc := hD.sub (ws' := (tw_wH xh xa0 xa1 xa2 xa3 kx0 kx1 kx2 kx3 th tm pr ag ck nx ao k4 ou)) [0, 1, 2, 3, 4, 10] (by decide) rfl
  have hKc := hK.sub (tys' := tw_kH kx0 kx1 kx2 kx3 k4) [0, 1, 2, 3, 8] rfl
  have hFc := va_free (wc := (tw_wH xh xa0 xa1 xa2 xa3 kx0 kx1 kx2 kx3 th tm pr ag ck nx ao k4 ou)) hD hS hA [0, 1, 2, 3, 4, 10] rfl
  refine va_calli (xt_runSW (n := 4) (As := [.ref xh, .int j1, .int 3, .ref ao]) (rest := []) ⟨hx, hb, hml, hown, hT⟩ (cL_timer3 l dC dI xh xa0 xa1 xa2 xa3 kx0 kx1 kx2 kx3 th tm pr ag ck nx ao k4 ou H.size j1 hj) rfl (tw_gS tt_190 tt_191 tt_0 tt_192) rfl rfl ⟨rfl, by decide +kernel⟩ ⟨Nat.le_of_ble_eq_true rfl, Nat.le_of_ble_eq_true rfl⟩ ⟨fun a U g mk q => by obtain ⟨q0, q1, qP, qK, qD⟩ := q; exact ⟨q0, q1, qP, va_K.moved (u := U) (U := U.calling g mk a) (Vm.Alike.refl U.vm) qK, qD⟩, fun U hU hW => ⟨rfl, by rw [hU], by rw [hU]; exact hPc, va_K.moved hW.alike hKc, hDc.weaken (fun _ _ _ _ => trivial)⟩⟩ rfl rfl hl.1 rfl (lv_room (Nat.le_of_ble_eq_true rfl)) dL_law_455 ⟨Nat.le_trans (Nat.le_succ _) hc.1, Nat.le_trans (Nat.le_add_right _ 6) hc.2⟩) hS (fun q _ h => hFc q h) hFc (fun r9 u9 t9 H1 locs ht9 hvm9 hw9 hB9 hz9 hk9 hS => ?_)
  obtain ⟨hP1, hD1⟩ := hB9
  rw [ht9] at hP1
  have hw9 : r9 = 0 := hw9
  subst r9
  obtain ⟨hP, hD⟩ := va_join (wr := (tw_wM mh ma0 ma1 ma2 ma3 km0 km1 km2 km3 fl th tm pr ag ck nx)) (w1 := (tw_wH xh xa0 xa1 xa2 xa3 kx0 kx1 kx2 kx3 th tm pr ag ck nx ao k4 (vp_updL ou (0 : Int32).toNatClampNeg (if th j1.toNatClampNeg = 0 then 0 else (ag j1.toNatClampNeg).toInt64)))) hP hD [0, 1, 2, 3, 4, 10] [5, 6, 7, 8, 9] rfl rfl (by decide) (by decide) hk9 hFc hP1 hD1
  generalize H1 = H at hP hS ⊢
  have hP := hP.sub (ws' := [(xh, .inr (0, [.ref xa0, .ref xa1, .ref xa2, .ref xa3, .long ck, .int nx])), (xa0, .inl (kx0, 100, .inl th)), (xa1, .inl (kx1, 100, .inr (.inl tm))), (xa2, .inl (kx2, 100, .inl pr)), (xa3, .inl (kx3, 100, .inl ag)), (mh, .inr (1, [.int fl, .ref ma0, .ref ma1, .ref ma2, .ref ma3, .int nx, .long ck])), (ma0, .inl (km0, 100, .inl th)), (ma1, .inl (km1, 100, .inr (.inl tm))), (ma2, .inl (km2, 100, .inl pr)), (ma3, .inl (km3, 100, .inl ag)), (ao, .inl (k4, 1, .inr (.inl (vp_updL ou (0 : Int32).toNatClampNeg (if th j1.toNatClampNeg = 0 then 0 else (ag j1.toNatClampNeg).toInt64)))))]) [5, 6, 7, 8, 9, 0, 1, 2, 3, 4, 10] rfl
  have hD := hD.sub (ws' := [(xh, .inr (0, [.ref xa0, .ref xa1, .ref xa2, .ref xa3, .long ck, .int nx])), (xa0, .inl (kx0, 100, .inl th)), (xa1, .inl (kx1, 100, .inr (.inl tm))), (xa2, .inl (kx2, 100, .inl pr)), (xa3, .inl (kx3, 100, .inl ag)), (mh, .inr (1, [.int fl, .ref ma0, .ref ma1, .ref ma2, .ref ma3, .int nx, .long ck])), (ma0, .inl (km0, 100, .inl th)), (ma1, .inl (km1, 100, .inr (.inl tm))), (ma2, .inl (km2, 100, .inl pr)), (ma3, .inl (km3, 100, .inl ag)), (ao, .inl (k4, 1, .inr (.inl (vp_updL ou (0 : Int32).toNatClampNeg (if th j1.toNatClampNeg = 0 then 0 else (ag j1.toNatClampNeg).toInt64)))))]) [5, 6, 7, 8, 9, 0, 1, 2, 3, 4, 10] (by decide) rfl
  refine lv_istore hx hb dL_law_458 hl (by decide) rfl (fun ls hl => ?_)
  have hl : lv_has ls 8 [(5, .int 0), (4, .int (nI i)), (0, .ref b), (1, .ref xh), (2, .ref mh), (3, .ref ao)] := hl
  refine lv_aload_n hx hb dL_law_460 rfl (lv_at hl 4 rfl) ?_
  refine lv_aload_n hx hb dL_law_461 rfl (lv_at hl 2 rfl) ?_
  refine lv_iload hx hb dL_law_462 (lv_at hl 1 rfl) ?_
  refine lv_iconst (v := 1) hx hb dL_law_464 (by decide) ?_
  refine lv_iadd hx hb dL_law_465 ?_
  refine va_sld hx hb hX hbl hbA hS (tw_sin1 hi hL) dL_law_466 ?_
  rw [e1]
  refine lv_aload_n hx hb dL_law_467 rfl (lv_at hl 2 rfl) ?_
  refine lv_iload hx hb dL_law_468 (lv_at hl 1 rfl) ?_
  refine lv_iconst (v := 2) hx hb dL_law_470 (by decide) ?_
  refine lv_iadd hx hb dL_law_471 ?_
  refine va_sld hx hb hX hbl hbA hS (tw_sin2 hi hL) dL_law_472 ?_
  rw [e2]
  have hPc := hP.sub (ws' := (tw_wM mh ma0 ma1 ma2 ma3 km0 km1 km2 km3 fl th tm pr ag ck nx)) [5, 6, 7, 8, 9] rfl
  have hDc := hD.sub (ws' := (tw_wM mh ma0 ma1 ma2 ma3 km0 km1 km2 km3 fl th tm pr ag ck nx)) [5, 6, 7, 8, 9] (by decide) rfl
  have hKc := hK.sub (tys' := tw_k km0 km1 km2 km3) [4, 5, 6, 7] rfl
  have hFc := va_free (wc := (tw_wM mh ma0 ma1 ma2 ma3 km0 km1 km2 km3 fl th tm pr ag ck nx)) hD hS hA [5, 6, 7, 8, 9] rfl
  refine va_calll (va_runV (C := RM) (b := mh) (As := [.int j1, .int 3]) (rest := []) ⟨hx, hb, hml, hown, hT⟩ (cM_timer3 l dC dI mh ma0 ma1 ma2 ma3 km0 km1 km2 km3 fl th tm pr ag ck nx H.size j1 hj) (cwV 2 hT (tw_gV tt_283 tt_284 tt_285 tt_2 tt_286) rfl rfl rfl ⟨rfl, by decide +kernel⟩ ⟨Nat.le_of_ble_eq_true rfl, Nat.le_of_ble_eq_true rfl⟩) ⟨fun a U g mk q => by obtain ⟨q0, q1, qP, qK, qD⟩ := q; exact ⟨q0, q1, qP, va_K.moved (u := U) (U := U.calling g mk a) (Vm.Alike.refl U.vm) qK, qD⟩, va_recv (q0 := 0) (ci := 1) hKc hPc rfl rfl, fun U hU hW => ⟨rfl, by rw [hU], by rw [hU]; exact hPc, va_K.moved hW.alike hKc, hDc.weaken (fun _ _ _ _ => trivial)⟩⟩ rfl rfl hl.1 rfl (lv_room (Nat.le_of_ble_eq_true rfl)) dL_law_473 ⟨Nat.le_trans (Nat.le_succ _) hc.1, Nat.le_trans (Nat.le_add_right _ 6) hc.2⟩) hS (fun q _ h => hFc q h) hFc (fun r9 u9 t9 H1 locs ht9 hvm9 hw9 hB9 hz9 hk9 hS => ?_)
  obtain ⟨hP1, hD1⟩ := hB9
  rw [ht9] at hP1
  have hw9 : r9 = (if th j1.toNatClampNeg = 0 then 0 else (ag j1.toNatClampNeg).toInt64) := hw9
  subst r9
  obtain ⟨hP, hD⟩ := va_join (wr := [(xh, .inr (0, [.ref xa0, .ref xa1, .ref xa2, .ref xa3, .long ck, .int nx])), (xa0, .inl (kx0, 100, .inl th)), (xa1, .inl (kx1, 100, .inr (.inl tm))), (xa2, .inl (kx2, 100, .inl pr)), (xa3, .inl (kx3, 100, .inl ag)), (ao, .inl (k4, 1, .inr (.inl (vp_updL ou (0 : Int32).toNatClampNeg (if th j1.toNatClampNeg = 0 then 0 else (ag j1.toNatClampNeg).toInt64)))))]) (w1 := (tw_wM mh ma0 ma1 ma2 ma3 km0 km1 km2 km3 0 th tm pr ag ck nx)) hP hD [5, 6, 7, 8, 9] [0, 1, 2, 3, 4, 10] rfl rfl (by decide) (by decide) hk9 hFc hP1 hD1
  generalize H1 = H at hP hS ⊢
  have hP := hP.sub (ws' := [(xh, .inr (0, [.ref xa0, .ref xa1, .ref xa2, .ref xa3, .long ck, .int nx])), (xa0, .inl (kx0, 100, .inl th)), (xa1, .inl (kx1, 100, .inr (.inl tm))), (xa2, .inl (kx2, 100, .inl pr)), (xa3, .inl (kx3, 100, .inl ag)), (mh, .inr (1, [.int 0, .ref ma0, .ref ma1, .ref ma2, .ref ma3, .int nx, .long ck])), (ma0, .inl (km0, 100, .inl th)), (ma1, .inl (km1, 100, .inr (.inl tm))), (ma2, .inl (km2, 100, .inl pr)), (ma3, .inl (km3, 100, .inl ag)), (ao, .inl (k4, 1, .inr (.inl (vp_updL ou (0 : Int32).toNatClampNeg (if th j1.toNatClampNeg = 0 then 0 else (ag j1.toNatClampNeg).toInt64)))))]) [0, 1, 2, 3, 4, 6, 7, 8, 9, 10, 5] rfl
  have hD := hD.sub (ws' := [(xh, .inr (0, [.ref xa0, .ref xa1, .ref xa2, .ref xa3, .long ck, .int nx])), (xa0, .inl (kx0, 100, .inl th)), (xa1, .inl (kx1, 100, .inr (.inl tm))), (xa2, .inl (kx2, 100, .inl pr)), (xa3, .inl (kx3, 100, .inl ag)), (mh, .inr (1, [.int 0, .ref ma0, .ref ma1, .ref ma2, .ref ma3, .int nx, .long ck])), (ma0, .inl (km0, 100, .inl th)), (ma1, .inl (km1, 100, .inr (.inl tm))), (ma2, .inl (km2, 100, .inl pr)), (ma3, .inl (km3, 100, .inl ag)), (ao, .inl (k4, 1, .inr (.inl (vp_updL ou (0 : Int32).toNatClampNeg (if th j1.toNatClampNeg = 0 then 0 else (ag j1.toNatClampNeg).toInt64)))))]) [0, 1, 2, 3, 4, 6, 7, 8, 9, 10, 5] (by decide) rfl
  refine lv_lstore hx hb dL_law_476 hl (by decide) rfl (fun ls hl => ?_)
  have hl : lv_has ls 8 [(6, .long (if th j1.toNatClampNeg = 0 then 0 else (ag j1.toNatClampNeg).toInt64)), (5, .int 0), (4, .int (nI i)), (0, .ref b), (1, .ref xh), (2, .ref mh), (3, .ref ao)] := hl
  refine lv_aload_n hx hb dL_law_478 rfl (lv_at hl 5 rfl) ?_
  have hPc := hP.sub (ws' := (tw_wM mh ma0 ma1 ma2 ma3 km0 km1 km2 km3 0 th tm pr ag ck nx)) [5, 6, 7, 8, 9] rfl
  have hKc := hK.sub (tys' := tw_k km0 km1 km2 km3) [4, 5, 6, 7] rfl
  refine vp_callSi (W.runV (C := RM) (b := mh) (As := []) (rest := []) ⟨hx, hb, hml, hown, hT⟩ (cM_thrown l dC dI mh ma0 ma1 ma2 ma3 km0 km1 km2 km3 0 th tm pr ag ck nx) (cwV 0 hT (tw_gV tt_239 tt_240 tt_241 tt_2 tt_242) rfl rfl rfl ⟨rfl, by decide +kernel⟩ ⟨Nat.le_of_ble_eq_true rfl, Nat.le_of_ble_eq_true rfl⟩) ⟨fun a U g mk q => ⟨q.1, q.2.1, va_K.moved (u := U) (U := U.calling g mk a) (Vm.Alike.refl U.vm) q.2.2⟩, va_recv (q0 := 0) (ci := 1) hKc hPc rfl rfl, fun U hU hW => ⟨rfl, by rw [hU]; exact hPc, va_K.moved hW.alike hKc⟩⟩ rfl rfl hl.1 rfl (lv_room (Nat.le_of_ble_eq_true rfl)) dL_law_479 ⟨Nat.le_trans (Nat.le_succ _) hc.1, Nat.le_trans (Nat.le_add_right _ 6) hc.2⟩) (fun r8 h8 => ?_)
  subst r8
  refine lv_iload hx hb dL_law_482 (lv_at hl 1 rfl) ?_
  refine lv_icmp_eq (tgt := 489) hx hb dL_law_484 (by decide) (fun hc1 => ?_) (fun hc1 => absurd (rfl : (0 : Int32) = 0) hc1)
  refine lv_iload hx hb dL_law_489 (lv_at hl 1 rfl) ?_
  refine lv_if_ne (tgt := 505) hx hb dL_law_491 (by decide) (fun hc2 => absurd rfl hc2) (fun hc2 => ?_)
  refine lv_aload_n hx hb dL_law_494 rfl (lv_at hl 6 rfl) ?_
  refine lv_iconst (v := 0) hx hb dL_law_495 (by decide) ?_
  refine va_lald hx hb hK hP 10 8 rfl rfl (by unfold vp_in; decide) dL_law_496 ?_
  refine lv_lload hx hb dL_law_497 (lv_at hl 0 rfl) ?_
  refine W.lcmp hx hb dL_law_499 ?_
  refine lv_if_eq (tgt := 505) hx hb dL_law_500 (by decide) (fun hc3 => ?_) (fun hc3 => absurd ((lg_cmp_eq _ _).mpr pk_uLs) hc3)
  refine lv_goto (tgt := 563) hx hb dL_law_505 (by decide) ?_
  refine W.widen (k := cells + 1) (n := slots + 6) (Nat.le_succ _) (Nat.le_add_right _ 6) ?_
  exact kk 0 th tm pr ag ck nx (vp_updL ou (0 : Int32).toNatClampNeg (if th j1.toNatClampNeg = 0 then 0 else (ag j1.toNatClampNeg).toInt64)) H _ ls hI hP hD hS (lv_sub hl [2, 3, 4, 5, 6] rfl)
end LLtimer3
section LLtimerB
variable {p : Program} {l : Launch} {e : Env} {s : State} {m : MethodId} {below : List Frame} {meth : Method} {c : Code} {H : Heap} {locs : List Loc} {cells slots : Nat} {Q : State → Prop} {ls : Array Slot} {b L i : Nat} {xs : Nat → Int32}
variable {dC : Nat → ClassId} {dI : Nat → Nat → Nat} {xh xa0 xa1 xa2 xa3 : Nat} {kx0 kx1 kx2 kx3 : ClassId} {mh ma0 ma1 ma2 ma3 : Nat} {km0 km1 km2 km3 : ClassId} {ao : Nat} {k4 : ClassId} {fl : Int32} {th : Nat → Int32} {tm : Nat → Int64} {pr ag : Nat → Int32} {ck : Int64} {nx : Int32} {ou : Nat → Int64}
set_option maxHeartbeats 4000000 in
set_option maxRecDepth 100000 in
theorem ll_timerB (hx : p.tables.exec = Jvm.exec) (hb : c.code = bL_law) (hml : c.maxLocals = 8) (hT : ∀ w ∈ tw_T, w.before #[Value.ref b] s = true) (hown : s.vm.findClass RL = some m.cls) (hfl : l.flags = pinnedFlags ++ [noTraceFlag]) (hX : va_X b L xs s s.heap) (hbl : b < s.heap.size) (hZ : tw_Z s s.heap) (hNc : va_Nc tw_nse tw_iae s) (hL : L ≤ 2560) (hi : i + 5 ≤ L) (hc : cells + 1 ≤ 1044 ∧ slots + 6 ≤ 9060) (hI : tw_Inv tm ck) (hP : va_P (dC, dI) tw_cl (tw_wL xh xa0 xa1 xa2 xa3 kx0 kx1 kx2 kx3 mh ma0 ma1 ma2 ma3 km0 km1 km2 km3 ao k4 fl th tm pr ag ck nx ou) H) (hD : va_D (tw_AL s) (tw_wL xh xa0 xa1 xa2 xa3 kx0 kx1 kx2 kx3 mh ma0 ma1 ma2 ma3 km0 km1 km2 km3 ao k4 fl th tm pr ag ck nx ou)) (hK : va_K (dC, dI) tw_cl (tw_kL kx0 kx1 kx2 kx3 km0 km1 km2 km3 k4) s) (hS : va_S (tw_AL s) s.heap H locs) (hl : lv_has ls 8 [(4, .int (nI i)), (0, .ref b), (1, .ref xh), (2, .ref mh), (3, .ref ao)]) {j1 j2 : Int32} (e1 : xs (nI i + 1).toNatClampNeg = j1) (e2 : xs (nI i + 2).toNatClampNeg = j2) (hbad : ¬ (vp_in j1 100 ∧ ¬ j2 < 0 ∧ j2 ≤ 3)) (kk : ∀ (fl' : Int32) (th' : Nat → Int32) (tm' : Nat → Int64) (pr' ag' : Nat → Int32) (ck' : Int64) (nx' : Int32) (ou' : Nat → Int64) (H' : Heap) (locs' : List Loc) (ls' : Array Slot), tw_Inv tm' ck' → va_P (dC, dI) tw_cl (tw_wL xh xa0 xa1 xa2 xa3 kx0 kx1 kx2 kx3 mh ma0 ma1 ma2 ma3 km0 km1 km2 km3 ao k4 fl' (th') (tm') (pr') (ag') (ck') (nx') (ou')) H' → va_D (tw_AL s) (tw_wL xh xa0 xa1 xa2 xa3 kx0 kx1 kx2 kx3 mh ma0 ma1 ma2 ma3 km0 km1 km2 km3 ao k4 (fl') (th') (tm') (pr') (ag') (ck') (nx') (ou')) → va_S (tw_AL s) s.heap H' locs' → lv_has ls' 8 [(4, .int (nI i)), (0, .ref b), (1, .ref xh), (2, .ref mh), (3, .ref ao)] → W p l e room_1 s m #[Value.ref b] below meth c H' locs' (cells + 1) (slots + 6) Q (F0 m 563 ls' [])) : W p l e room_1 s m #[Value.ref b] below meth c H locs cells slots Q (F0 m 441 ls []) := by
  have hA : ∀ q : Nat, s.heap.size ≤ q → tw_AL s q := fun q h => h
  have hbA : ¬ tw_AL s b := Nat.not_le.mpr hbl
  refine lv_aload_n hx hb dL_law_441 rfl (lv_at hl 2 rfl) ?_
  refine lv_aload_n hx hb dL_law_442 rfl (lv_at hl 1 rfl) ?_
  refine lv_iload hx hb dL_law_443 (lv_at hl 0 rfl) ?_
  refine lv_iconst (v := 1) hx hb dL_law_445 (by decide) ?_
  refine lv_iadd hx hb dL_law_446 ?_
  refine va_sld hx hb hX hbl hbA hS (tw_sin1 hi hL) dL_law_447 ?_
  rw [e1]
  refine lv_aload_n hx hb dL_law_448 rfl (lv_at hl 1 rfl) ?_
  refine lv_iload hx hb dL_law_449 (lv_at hl 0 rfl) ?_
  refine lv_iconst (v := 2) hx hb dL_law_451 (by decide) ?_
  refine lv_iadd hx hb dL_law_452 ?_
  refine va_sld hx hb hX hbl hbA hS (tw_sin2 hi hL) dL_law_453 ?_
  rw [e2]
  refine lv_aload_n hx hb dL_law_454 rfl (lv_at hl 4 rfl) ?_
  have hPc := hP.sub (ws' := (tw_wH xh xa0 xa1 xa2 xa3 kx0 kx1 kx2 kx3 th tm pr ag ck nx ao k4 ou)) [0, 1, 2, 3, 4, 10] rfl
  have hDc := hD.sub (ws' := (tw_wH xh xa0 xa1 xa2 xa3 kx0 kx1 kx2 kx3 th tm pr ag ck nx ao k4 ou)) [0, 1, 2, 3, 4, 10] (by decide) rfl
  have hKc := hK.sub (tys' := tw_kH kx0 kx1 kx2 kx3 k4) [0, 1, 2, 3, 8] rfl
  have hFc := va_free (wc := (tw_wH xh xa0 xa1 xa2 xa3 kx0 kx1 kx2 kx3 th tm pr ag ck nx ao k4 ou)) hD hS hA [0, 1, 2, 3, 4, 10] rfl
  have hZH : ∀ U : State, U.heap = H → s.WarmedH U.vm → tw_Z U U.heap := fun U hU hW => by rw [hU]; exact hZ.move hW (fun a ha => hS.2.1 a ha (Nat.not_le.mpr ha))
  refine va_calli (xt_runSW (n := 4) (As := [.ref xh, .int j1, .int j2, .ref ao]) (rest := []) ⟨hx, hb, hml, hown, hT⟩ (cL_timerB l hfl dC dI xh xa0 xa1 xa2 xa3 kx0 kx1 kx2 kx3 th tm pr ag ck nx ao k4 ou H.size j1 j2 hbad) rfl (tw_gS tt_190 tt_191 tt_0 tt_192) rfl rfl ⟨rfl, by decide +kernel⟩ ⟨Nat.le_of_ble_eq_true rfl, Nat.le_of_ble_eq_true rfl⟩ ⟨fun a U g mk q => by obtain ⟨q0, q1, qP, qK, qD, qZ⟩ := q; exact ⟨q0, q1, qP, va_K.moved (u := U) (U := U.calling g mk a) (Vm.Alike.refl U.vm) qK, qD, qZ.call⟩, fun U hU hW => ⟨rfl, by rw [hU], by rw [hU]; exact hPc, va_K.moved hW.alike hKc, hDc.weaken (fun _ _ _ _ => trivial), hZH U hU hW⟩⟩ rfl rfl hl.1 rfl (lv_room (Nat.le_of_ble_eq_true rfl)) dL_law_455 hc) hS (fun q _ h => hFc q h) hFc (fun r9 u9 t9 H1 locs ht9 hvm9 hw9 hB9 hz9 hk9 hS => ?_)
  obtain ⟨hP1, hD1⟩ := hB9
  rw [ht9] at hP1
  have hw9 : r9 = 1 := hw9
  subst r9
  obtain ⟨hP, hD⟩ := va_join (wr := (tw_wM mh ma0 ma1 ma2 ma3 km0 km1 km2 km3 fl th tm pr ag ck nx)) (w1 := (tw_wH xh xa0 xa1 xa2 xa3 kx0 kx1 kx2 kx3 th tm pr ag ck nx ao k4 ou)) hP hD [0, 1, 2, 3, 4, 10] [5, 6, 7, 8, 9] rfl rfl (by decide) (by decide) hk9 hFc hP1 hD1
  generalize H1 = H at hP hS ⊢
  have hP := hP.sub (ws' := [(xh, .inr (0, [.ref xa0, .ref xa1, .ref xa2, .ref xa3, .long ck, .int nx])), (xa0, .inl (kx0, 100, .inl th)), (xa1, .inl (kx1, 100, .inr (.inl tm))), (xa2, .inl (kx2, 100, .inl pr)), (xa3, .inl (kx3, 100, .inl ag)), (mh, .inr (1, [.int fl, .ref ma0, .ref ma1, .ref ma2, .ref ma3, .int nx, .long ck])), (ma0, .inl (km0, 100, .inl th)), (ma1, .inl (km1, 100, .inr (.inl tm))), (ma2, .inl (km2, 100, .inl pr)), (ma3, .inl (km3, 100, .inl ag)), (ao, .inl (k4, 1, .inr (.inl ou)))]) [5, 6, 7, 8, 9, 0, 1, 2, 3, 4, 10] rfl
  have hD := hD.sub (ws' := [(xh, .inr (0, [.ref xa0, .ref xa1, .ref xa2, .ref xa3, .long ck, .int nx])), (xa0, .inl (kx0, 100, .inl th)), (xa1, .inl (kx1, 100, .inr (.inl tm))), (xa2, .inl (kx2, 100, .inl pr)), (xa3, .inl (kx3, 100, .inl ag)), (mh, .inr (1, [.int fl, .ref ma0, .ref ma1, .ref ma2, .ref ma3, .int nx, .long ck])), (ma0, .inl (km0, 100, .inl th)), (ma1, .inl (km1, 100, .inr (.inl tm))), (ma2, .inl (km2, 100, .inl pr)), (ma3, .inl (km3, 100, .inl ag)), (ao, .inl (k4, 1, .inr (.inl ou)))]) [5, 6, 7, 8, 9, 0, 1, 2, 3, 4, 10] (by decide) rfl
  refine lv_istore hx hb dL_law_458 hl (by decide) rfl (fun ls hl => ?_)
  have hl : lv_has ls 8 [(5, .int 1), (4, .int (nI i)), (0, .ref b), (1, .ref xh), (2, .ref mh), (3, .ref ao)] := hl
  refine lv_aload_n hx hb dL_law_460 rfl (lv_at hl 4 rfl) ?_
  refine lv_aload_n hx hb dL_law_461 rfl (lv_at hl 2 rfl) ?_
  refine lv_iload hx hb dL_law_462 (lv_at hl 1 rfl) ?_
  refine lv_iconst (v := 1) hx hb dL_law_464 (by decide) ?_
  refine lv_iadd hx hb dL_law_465 ?_
  refine va_sld hx hb hX hbl hbA hS (tw_sin1 hi hL) dL_law_466 ?_
  rw [e1]
  refine lv_aload_n hx hb dL_law_467 rfl (lv_at hl 2 rfl) ?_
  refine lv_iload hx hb dL_law_468 (lv_at hl 1 rfl) ?_
  refine lv_iconst (v := 2) hx hb dL_law_470 (by decide) ?_
  refine lv_iadd hx hb dL_law_471 ?_
  refine va_sld hx hb hX hbl hbA hS (tw_sin2 hi hL) dL_law_472 ?_
  rw [e2]
  have hPc := hP.sub (ws' := (tw_wM mh ma0 ma1 ma2 ma3 km0 km1 km2 km3 fl th tm pr ag ck nx)) [5, 6, 7, 8, 9] rfl
  have hDc := hD.sub (ws' := (tw_wM mh ma0 ma1 ma2 ma3 km0 km1 km2 km3 fl th tm pr ag ck nx)) [5, 6, 7, 8, 9] (by decide) rfl
  have hKc := hK.sub (tys' := tw_k km0 km1 km2 km3) [4, 5, 6, 7] rfl
  have hFc := va_free (wc := (tw_wM mh ma0 ma1 ma2 ma3 km0 km1 km2 km3 fl th tm pr ag ck nx)) hD hS hA [5, 6, 7, 8, 9] rfl
  refine va_calll (va_runV (C := RM) (b := mh) (As := [.int j1, .int j2]) (rest := []) ⟨hx, hb, hml, hown, hT⟩ (cM_timerB l dC dI mh ma0 ma1 ma2 ma3 km0 km1 km2 km3 fl th tm pr ag ck nx H.size j1 j2 hbad) (cwV 2 hT (tw_gV tt_283 tt_284 tt_285 tt_2 tt_286) rfl rfl rfl ⟨rfl, by decide +kernel⟩ ⟨Nat.le_of_ble_eq_true rfl, Nat.le_of_ble_eq_true rfl⟩) ⟨fun a U g mk q => by obtain ⟨q0, q1, qP, qK, qD⟩ := q; exact ⟨q0, q1, qP, va_K.moved (u := U) (U := U.calling g mk a) (Vm.Alike.refl U.vm) qK, qD⟩, va_recv (q0 := 0) (ci := 1) hKc hPc rfl rfl, fun U hU hW => ⟨rfl, by rw [hU], by rw [hU]; exact hPc, va_K.moved hW.alike hKc, hDc.weaken (fun _ _ _ _ => trivial)⟩⟩ rfl rfl hl.1 rfl (lv_room (Nat.le_of_ble_eq_true rfl)) dL_law_473 hc) hS (fun q _ h => hFc q h) hFc (fun r9 u9 t9 H1 locs ht9 hvm9 hw9 hB9 hz9 hk9 hS => ?_)
  obtain ⟨hP1, hD1⟩ := hB9
  rw [ht9] at hP1
  have hw9 : r9 = 0 := hw9
  subst r9
  obtain ⟨hP, hD⟩ := va_join (wr := [(xh, .inr (0, [.ref xa0, .ref xa1, .ref xa2, .ref xa3, .long ck, .int nx])), (xa0, .inl (kx0, 100, .inl th)), (xa1, .inl (kx1, 100, .inr (.inl tm))), (xa2, .inl (kx2, 100, .inl pr)), (xa3, .inl (kx3, 100, .inl ag)), (ao, .inl (k4, 1, .inr (.inl ou)))]) (w1 := (tw_wM mh ma0 ma1 ma2 ma3 km0 km1 km2 km3 1 th tm pr ag ck nx)) hP hD [5, 6, 7, 8, 9] [0, 1, 2, 3, 4, 10] rfl rfl (by decide) (by decide) hk9 hFc hP1 hD1
  generalize H1 = H at hP hS ⊢
  have hP := hP.sub (ws' := [(xh, .inr (0, [.ref xa0, .ref xa1, .ref xa2, .ref xa3, .long ck, .int nx])), (xa0, .inl (kx0, 100, .inl th)), (xa1, .inl (kx1, 100, .inr (.inl tm))), (xa2, .inl (kx2, 100, .inl pr)), (xa3, .inl (kx3, 100, .inl ag)), (mh, .inr (1, [.int 1, .ref ma0, .ref ma1, .ref ma2, .ref ma3, .int nx, .long ck])), (ma0, .inl (km0, 100, .inl th)), (ma1, .inl (km1, 100, .inr (.inl tm))), (ma2, .inl (km2, 100, .inl pr)), (ma3, .inl (km3, 100, .inl ag)), (ao, .inl (k4, 1, .inr (.inl ou)))]) [0, 1, 2, 3, 4, 6, 7, 8, 9, 10, 5] rfl
  have hD := hD.sub (ws' := [(xh, .inr (0, [.ref xa0, .ref xa1, .ref xa2, .ref xa3, .long ck, .int nx])), (xa0, .inl (kx0, 100, .inl th)), (xa1, .inl (kx1, 100, .inr (.inl tm))), (xa2, .inl (kx2, 100, .inl pr)), (xa3, .inl (kx3, 100, .inl ag)), (mh, .inr (1, [.int 1, .ref ma0, .ref ma1, .ref ma2, .ref ma3, .int nx, .long ck])), (ma0, .inl (km0, 100, .inl th)), (ma1, .inl (km1, 100, .inr (.inl tm))), (ma2, .inl (km2, 100, .inl pr)), (ma3, .inl (km3, 100, .inl ag)), (ao, .inl (k4, 1, .inr (.inl ou)))]) [0, 1, 2, 3, 4, 6, 7, 8, 9, 10, 5] (by decide) rfl
  refine lv_lstore hx hb dL_law_476 hl (by decide) rfl (fun ls hl => ?_)
  have hl : lv_has ls 8 [(6, .long 0), (5, .int 1), (4, .int (nI i)), (0, .ref b), (1, .ref xh), (2, .ref mh), (3, .ref ao)] := hl
  refine lv_aload_n hx hb dL_law_478 rfl (lv_at hl 5 rfl) ?_
  have hPc := hP.sub (ws' := (tw_wM mh ma0 ma1 ma2 ma3 km0 km1 km2 km3 1 th tm pr ag ck nx)) [5, 6, 7, 8, 9] rfl
  have hKc := hK.sub (tys' := tw_k km0 km1 km2 km3) [4, 5, 6, 7] rfl
  refine vp_callSi (W.runV (C := RM) (b := mh) (As := []) (rest := []) ⟨hx, hb, hml, hown, hT⟩ (cM_thrown l dC dI mh ma0 ma1 ma2 ma3 km0 km1 km2 km3 1 th tm pr ag ck nx) (cwV 0 hT (tw_gV tt_239 tt_240 tt_241 tt_2 tt_242) rfl rfl rfl ⟨rfl, by decide +kernel⟩ ⟨Nat.le_of_ble_eq_true rfl, Nat.le_of_ble_eq_true rfl⟩) ⟨fun a U g mk q => ⟨q.1, q.2.1, va_K.moved (u := U) (U := U.calling g mk a) (Vm.Alike.refl U.vm) q.2.2⟩, va_recv (q0 := 0) (ci := 1) hKc hPc rfl rfl, fun U hU hW => ⟨rfl, by rw [hU]; exact hPc, va_K.moved hW.alike hKc⟩⟩ rfl rfl hl.1 rfl (lv_room (Nat.le_of_ble_eq_true rfl)) dL_law_479 hc) (fun r8 h8 => ?_)
  subst r8
  refine lv_iload hx hb dL_law_482 (lv_at hl 1 rfl) ?_
  refine lv_icmp_eq (tgt := 489) hx hb dL_law_484 (by decide) (fun hc1 => ?_) (fun hc1 => absurd (rfl : (1 : Int32) = 1) hc1)
  refine lv_iload hx hb dL_law_489 (lv_at hl 1 rfl) ?_
  refine lv_if_ne (tgt := 505) hx hb dL_law_491 (by decide) (fun hc2 => ?_) (fun hc2 => absurd hc2 (by decide))
  refine lv_goto (tgt := 563) hx hb dL_law_505 (by decide) ?_
  exact kk 1 th tm pr ag ck nx ou H _ ls hI hP hD hS (lv_sub hl [2, 3, 4, 5, 6] rfl)
end LLtimerB
section LLcount0
variable {p : Program} {l : Launch} {e : Env} {s : State} {m : MethodId} {below : List Frame} {meth : Method} {c : Code} {H : Heap} {locs : List Loc} {cells slots : Nat} {Q : State → Prop} {ls : Array Slot} {b L i : Nat} {xs : Nat → Int32}
variable {dC : Nat → ClassId} {dI : Nat → Nat → Nat} {xh xa0 xa1 xa2 xa3 : Nat} {kx0 kx1 kx2 kx3 : ClassId} {mh ma0 ma1 ma2 ma3 : Nat} {km0 km1 km2 km3 : ClassId} {ao : Nat} {k4 : ClassId} {fl : Int32} {th : Nat → Int32} {tm : Nat → Int64} {pr ag : Nat → Int32} {ck : Int64} {nx : Int32} {ou : Nat → Int64}
set_option maxHeartbeats 4000000 in
set_option maxRecDepth 100000 in
theorem ll_count0 (hx : p.tables.exec = Jvm.exec) (hb : c.code = bL_law) (hml : c.maxLocals = 8) (hT : ∀ w ∈ tw_T, w.before #[Value.ref b] s = true) (hown : s.vm.findClass RL = some m.cls) (hfl : l.flags = pinnedFlags ++ [noTraceFlag]) (hX : va_X b L xs s s.heap) (hbl : b < s.heap.size) (hZ : tw_Z s s.heap) (hNc : va_Nc tw_nse tw_iae s) (hL : L ≤ 2560) (hi : i + 5 ≤ L) (hc : cells + 1 ≤ 1044 ∧ slots + 6 ≤ 9060) (hI : tw_Inv tm ck) (hP : va_P (dC, dI) tw_cl (tw_wL xh xa0 xa1 xa2 xa3 kx0 kx1 kx2 kx3 mh ma0 ma1 ma2 ma3 km0 km1 km2 km3 ao k4 fl th tm pr ag ck nx ou) H) (hD : va_D (tw_AL s) (tw_wL xh xa0 xa1 xa2 xa3 kx0 kx1 kx2 kx3 mh ma0 ma1 ma2 ma3 km0 km1 km2 km3 ao k4 fl th tm pr ag ck nx ou)) (hK : va_K (dC, dI) tw_cl (tw_kL kx0 kx1 kx2 kx3 km0 km1 km2 km3 k4) s) (hS : va_S (tw_AL s) s.heap H locs) (hl : lv_has ls 8 [(4, .int (nI i)), (0, .ref b), (1, .ref xh), (2, .ref mh), (3, .ref ao)]) (e1 : xs (nI i + 1).toNatClampNeg = 0) (kk : ∀ (fl' : Int32) (th' : Nat → Int32) (tm' : Nat → Int64) (pr' ag' : Nat → Int32) (ck' : Int64) (nx' : Int32) (ou' : Nat → Int64) (H' : Heap) (locs' : List Loc) (ls' : Array Slot), tw_Inv tm' ck' → va_P (dC, dI) tw_cl (tw_wL xh xa0 xa1 xa2 xa3 kx0 kx1 kx2 kx3 mh ma0 ma1 ma2 ma3 km0 km1 km2 km3 ao k4 fl' (th') (tm') (pr') (ag') (ck') (nx') (ou')) H' → va_D (tw_AL s) (tw_wL xh xa0 xa1 xa2 xa3 kx0 kx1 kx2 kx3 mh ma0 ma1 ma2 ma3 km0 km1 km2 km3 ao k4 (fl') (th') (tm') (pr') (ag') (ck') (nx') (ou')) → va_S (tw_AL s) s.heap H' locs' → lv_has ls' 8 [(4, .int (nI i)), (0, .ref b), (1, .ref xh), (2, .ref mh), (3, .ref ao)] → W p l e room_1 s m #[Value.ref b] below meth c H' locs' (cells + 1) (slots + 6) Q (F0 m 563 ls' [])) : W p l e room_1 s m #[Value.ref b] below meth c H locs cells slots Q (F0 m 508 ls []) := by
  have hA : ∀ q : Nat, s.heap.size ≤ q → tw_AL s q := fun q h => h
  have hbA : ¬ tw_AL s b := Nat.not_le.mpr hbl
  refine lv_aload_n hx hb dL_law_508 rfl (lv_at hl 2 rfl) ?_
  refine lv_aload_n hx hb dL_law_509 rfl (lv_at hl 1 rfl) ?_
  refine lv_iload hx hb dL_law_510 (lv_at hl 0 rfl) ?_
  refine lv_iconst (v := 1) hx hb dL_law_512 (by decide) ?_
  refine lv_iadd hx hb dL_law_513 ?_
  refine va_sld hx hb hX hbl hbA hS (tw_sin1 hi hL) dL_law_514 ?_
  rw [e1]
  refine lv_aload_n hx hb dL_law_515 rfl (lv_at hl 4 rfl) ?_
  have hPc := hP.sub (ws' := (tw_wH xh xa0 xa1 xa2 xa3 kx0 kx1 kx2 kx3 th tm pr ag ck nx ao k4 ou)) [0, 1, 2, 3, 4, 10] rfl
  have hDc := hD.sub (ws' := (tw_wH xh xa0 xa1 xa2 xa3 kx0 kx1 kx2 kx3 th tm pr ag ck nx ao k4 ou)) [0, 1, 2, 3, 4, 10] (by decide) rfl
  have hKc := hK.sub (tys' := tw_kH kx0 kx1 kx2 kx3 k4) [0, 1, 2, 3, 8] rfl
  have hFc := va_free (wc := (tw_wH xh xa0 xa1 xa2 xa3 kx0 kx1 kx2 kx3 th tm pr ag ck nx ao k4 ou)) hD hS hA [0, 1, 2, 3, 4, 10] rfl
  refine va_calli (xt_runSW (n := 3) (As := [.ref xh, .int 0, .ref ao]) (rest := []) ⟨hx, hb, hml, hown, hT⟩ (cL_count0 l dC dI xh xa0 xa1 xa2 xa3 kx0 kx1 kx2 kx3 th tm pr ag ck nx ao k4 ou H.size ) rfl (tw_gS tt_199 tt_200 tt_0 tt_201) rfl rfl ⟨rfl, by decide +kernel⟩ ⟨Nat.le_of_ble_eq_true rfl, Nat.le_of_ble_eq_true rfl⟩ ⟨fun a U g mk q => by obtain ⟨q0, q1, qP, qK, qD⟩ := q; exact ⟨q0, q1, qP, va_K.moved (u := U) (U := U.calling g mk a) (Vm.Alike.refl U.vm) qK, qD⟩, fun U hU hW => ⟨rfl, by rw [hU], by rw [hU]; exact hPc, va_K.moved hW.alike hKc, hDc.weaken (fun _ _ _ _ => trivial)⟩⟩ rfl rfl hl.1 rfl (lv_room (Nat.le_of_ble_eq_true rfl)) dL_law_516 ⟨Nat.le_trans (Nat.le_succ _) hc.1, Nat.le_trans (Nat.le_add_right _ 6) hc.2⟩) hS (fun q _ h => hFc q h) hFc (fun r9 u9 t9 H1 locs ht9 hvm9 hw9 hB9 hz9 hk9 hS => ?_)
  obtain ⟨hP1, hD1⟩ := hB9
  rw [ht9] at hP1
  have hw9 : r9 = 0 := hw9
  subst r9
  obtain ⟨hP, hD⟩ := va_join (wr := (tw_wM mh ma0 ma1 ma2 ma3 km0 km1 km2 km3 fl th tm pr ag ck nx)) (w1 := (tw_wH xh xa0 xa1 xa2 xa3 kx0 kx1 kx2 kx3 th tm pr ag ck nx ao k4 (vp_updL ou (0 : Int32).toNatClampNeg ck))) hP hD [0, 1, 2, 3, 4, 10] [5, 6, 7, 8, 9] rfl rfl (by decide) (by decide) hk9 hFc hP1 hD1
  generalize H1 = H at hP hS ⊢
  have hP := hP.sub (ws' := [(xh, .inr (0, [.ref xa0, .ref xa1, .ref xa2, .ref xa3, .long ck, .int nx])), (xa0, .inl (kx0, 100, .inl th)), (xa1, .inl (kx1, 100, .inr (.inl tm))), (xa2, .inl (kx2, 100, .inl pr)), (xa3, .inl (kx3, 100, .inl ag)), (mh, .inr (1, [.int fl, .ref ma0, .ref ma1, .ref ma2, .ref ma3, .int nx, .long ck])), (ma0, .inl (km0, 100, .inl th)), (ma1, .inl (km1, 100, .inr (.inl tm))), (ma2, .inl (km2, 100, .inl pr)), (ma3, .inl (km3, 100, .inl ag)), (ao, .inl (k4, 1, .inr (.inl (vp_updL ou (0 : Int32).toNatClampNeg ck))))]) [5, 6, 7, 8, 9, 0, 1, 2, 3, 4, 10] rfl
  have hD := hD.sub (ws' := [(xh, .inr (0, [.ref xa0, .ref xa1, .ref xa2, .ref xa3, .long ck, .int nx])), (xa0, .inl (kx0, 100, .inl th)), (xa1, .inl (kx1, 100, .inr (.inl tm))), (xa2, .inl (kx2, 100, .inl pr)), (xa3, .inl (kx3, 100, .inl ag)), (mh, .inr (1, [.int fl, .ref ma0, .ref ma1, .ref ma2, .ref ma3, .int nx, .long ck])), (ma0, .inl (km0, 100, .inl th)), (ma1, .inl (km1, 100, .inr (.inl tm))), (ma2, .inl (km2, 100, .inl pr)), (ma3, .inl (km3, 100, .inl ag)), (ao, .inl (k4, 1, .inr (.inl (vp_updL ou (0 : Int32).toNatClampNeg ck))))]) [5, 6, 7, 8, 9, 0, 1, 2, 3, 4, 10] (by decide) rfl
  refine lv_istore hx hb dL_law_519 hl (by decide) rfl (fun ls hl => ?_)
  have hl : lv_has ls 8 [(5, .int 0), (4, .int (nI i)), (0, .ref b), (1, .ref xh), (2, .ref mh), (3, .ref ao)] := hl
  refine lv_aload_n hx hb dL_law_521 rfl (lv_at hl 4 rfl) ?_
  refine lv_aload_n hx hb dL_law_522 rfl (lv_at hl 2 rfl) ?_
  refine lv_iload hx hb dL_law_523 (lv_at hl 1 rfl) ?_
  refine lv_iconst (v := 1) hx hb dL_law_525 (by decide) ?_
  refine lv_iadd hx hb dL_law_526 ?_
  refine va_sld hx hb hX hbl hbA hS (tw_sin1 hi hL) dL_law_527 ?_
  rw [e1]
  have hPc := hP.sub (ws' := (tw_wM mh ma0 ma1 ma2 ma3 km0 km1 km2 km3 fl th tm pr ag ck nx)) [5, 6, 7, 8, 9] rfl
  have hDc := hD.sub (ws' := (tw_wM mh ma0 ma1 ma2 ma3 km0 km1 km2 km3 fl th tm pr ag ck nx)) [5, 6, 7, 8, 9] (by decide) rfl
  have hKc := hK.sub (tys' := tw_k km0 km1 km2 km3) [4, 5, 6, 7] rfl
  have hFc := va_free (wc := (tw_wM mh ma0 ma1 ma2 ma3 km0 km1 km2 km3 fl th tm pr ag ck nx)) hD hS hA [5, 6, 7, 8, 9] rfl
  refine va_calll (va_runV (C := RM) (b := mh) (As := [.int 0]) (rest := []) ⟨hx, hb, hml, hown, hT⟩ (cM_count0 l dC dI mh ma0 ma1 ma2 ma3 km0 km1 km2 km3 fl th tm pr ag ck nx H.size ) (cwV 1 hT (tw_gV tt_288 tt_289 tt_290 tt_2 tt_291) rfl rfl rfl ⟨rfl, by decide +kernel⟩ ⟨Nat.le_of_ble_eq_true rfl, Nat.le_of_ble_eq_true rfl⟩) ⟨fun a U g mk q => by obtain ⟨q0, q1, qP, qK, qD⟩ := q; exact ⟨q0, q1, qP, va_K.moved (u := U) (U := U.calling g mk a) (Vm.Alike.refl U.vm) qK, qD⟩, va_recv (q0 := 0) (ci := 1) hKc hPc rfl rfl, fun U hU hW => ⟨rfl, by rw [hU], by rw [hU]; exact hPc, va_K.moved hW.alike hKc, hDc.weaken (fun _ _ _ _ => trivial)⟩⟩ rfl rfl hl.1 rfl (lv_room (Nat.le_of_ble_eq_true rfl)) dL_law_528 ⟨Nat.le_trans (Nat.le_succ _) hc.1, Nat.le_trans (Nat.le_add_right _ 6) hc.2⟩) hS (fun q _ h => hFc q h) hFc (fun r9 u9 t9 H1 locs ht9 hvm9 hw9 hB9 hz9 hk9 hS => ?_)
  obtain ⟨hP1, hD1⟩ := hB9
  rw [ht9] at hP1
  have hw9 : r9 = ck := hw9
  subst r9
  obtain ⟨hP, hD⟩ := va_join (wr := [(xh, .inr (0, [.ref xa0, .ref xa1, .ref xa2, .ref xa3, .long ck, .int nx])), (xa0, .inl (kx0, 100, .inl th)), (xa1, .inl (kx1, 100, .inr (.inl tm))), (xa2, .inl (kx2, 100, .inl pr)), (xa3, .inl (kx3, 100, .inl ag)), (ao, .inl (k4, 1, .inr (.inl (vp_updL ou (0 : Int32).toNatClampNeg ck))))]) (w1 := (tw_wM mh ma0 ma1 ma2 ma3 km0 km1 km2 km3 0 th tm pr ag ck nx)) hP hD [5, 6, 7, 8, 9] [0, 1, 2, 3, 4, 10] rfl rfl (by decide) (by decide) hk9 hFc hP1 hD1
  generalize H1 = H at hP hS ⊢
  have hP := hP.sub (ws' := [(xh, .inr (0, [.ref xa0, .ref xa1, .ref xa2, .ref xa3, .long ck, .int nx])), (xa0, .inl (kx0, 100, .inl th)), (xa1, .inl (kx1, 100, .inr (.inl tm))), (xa2, .inl (kx2, 100, .inl pr)), (xa3, .inl (kx3, 100, .inl ag)), (mh, .inr (1, [.int 0, .ref ma0, .ref ma1, .ref ma2, .ref ma3, .int nx, .long ck])), (ma0, .inl (km0, 100, .inl th)), (ma1, .inl (km1, 100, .inr (.inl tm))), (ma2, .inl (km2, 100, .inl pr)), (ma3, .inl (km3, 100, .inl ag)), (ao, .inl (k4, 1, .inr (.inl (vp_updL ou (0 : Int32).toNatClampNeg ck))))]) [0, 1, 2, 3, 4, 6, 7, 8, 9, 10, 5] rfl
  have hD := hD.sub (ws' := [(xh, .inr (0, [.ref xa0, .ref xa1, .ref xa2, .ref xa3, .long ck, .int nx])), (xa0, .inl (kx0, 100, .inl th)), (xa1, .inl (kx1, 100, .inr (.inl tm))), (xa2, .inl (kx2, 100, .inl pr)), (xa3, .inl (kx3, 100, .inl ag)), (mh, .inr (1, [.int 0, .ref ma0, .ref ma1, .ref ma2, .ref ma3, .int nx, .long ck])), (ma0, .inl (km0, 100, .inl th)), (ma1, .inl (km1, 100, .inr (.inl tm))), (ma2, .inl (km2, 100, .inl pr)), (ma3, .inl (km3, 100, .inl ag)), (ao, .inl (k4, 1, .inr (.inl (vp_updL ou (0 : Int32).toNatClampNeg ck))))]) [0, 1, 2, 3, 4, 6, 7, 8, 9, 10, 5] (by decide) rfl
  refine lv_lstore hx hb dL_law_531 hl (by decide) rfl (fun ls hl => ?_)
  have hl : lv_has ls 8 [(6, .long ck), (5, .int 0), (4, .int (nI i)), (0, .ref b), (1, .ref xh), (2, .ref mh), (3, .ref ao)] := hl
  refine lv_aload_n hx hb dL_law_533 rfl (lv_at hl 5 rfl) ?_
  have hPc := hP.sub (ws' := (tw_wM mh ma0 ma1 ma2 ma3 km0 km1 km2 km3 0 th tm pr ag ck nx)) [5, 6, 7, 8, 9] rfl
  have hKc := hK.sub (tys' := tw_k km0 km1 km2 km3) [4, 5, 6, 7] rfl
  refine vp_callSi (W.runV (C := RM) (b := mh) (As := []) (rest := []) ⟨hx, hb, hml, hown, hT⟩ (cM_thrown l dC dI mh ma0 ma1 ma2 ma3 km0 km1 km2 km3 0 th tm pr ag ck nx) (cwV 0 hT (tw_gV tt_239 tt_240 tt_241 tt_2 tt_242) rfl rfl rfl ⟨rfl, by decide +kernel⟩ ⟨Nat.le_of_ble_eq_true rfl, Nat.le_of_ble_eq_true rfl⟩) ⟨fun a U g mk q => ⟨q.1, q.2.1, va_K.moved (u := U) (U := U.calling g mk a) (Vm.Alike.refl U.vm) q.2.2⟩, va_recv (q0 := 0) (ci := 1) hKc hPc rfl rfl, fun U hU hW => ⟨rfl, by rw [hU]; exact hPc, va_K.moved hW.alike hKc⟩⟩ rfl rfl hl.1 rfl (lv_room (Nat.le_of_ble_eq_true rfl)) dL_law_534 ⟨Nat.le_trans (Nat.le_succ _) hc.1, Nat.le_trans (Nat.le_add_right _ 6) hc.2⟩) (fun r8 h8 => ?_)
  subst r8
  refine lv_iload hx hb dL_law_537 (lv_at hl 1 rfl) ?_
  refine lv_icmp_eq (tgt := 544) hx hb dL_law_539 (by decide) (fun hc1 => ?_) (fun hc1 => absurd (rfl : (0 : Int32) = 0) hc1)
  refine lv_iload hx hb dL_law_544 (lv_at hl 1 rfl) ?_
  refine lv_if_ne (tgt := 560) hx hb dL_law_546 (by decide) (fun hc2 => absurd rfl hc2) (fun hc2 => ?_)
  refine lv_aload_n hx hb dL_law_549 rfl (lv_at hl 6 rfl) ?_
  refine lv_iconst (v := 0) hx hb dL_law_550 (by decide) ?_
  refine va_lald hx hb hK hP 10 8 rfl rfl (by unfold vp_in; decide) dL_law_551 ?_
  refine lv_lload hx hb dL_law_552 (lv_at hl 0 rfl) ?_
  refine W.lcmp hx hb dL_law_554 ?_
  refine lv_if_eq (tgt := 560) hx hb dL_law_555 (by decide) (fun hc3 => ?_) (fun hc3 => absurd ((lg_cmp_eq _ _).mpr pk_uLs) hc3)
  refine lv_goto (tgt := 563) hx hb dL_law_560 (by decide) ?_
  refine W.widen (k := cells + 1) (n := slots + 6) (Nat.le_succ _) (Nat.le_add_right _ 6) ?_
  exact kk 0 th tm pr ag ck nx (vp_updL ou (0 : Int32).toNatClampNeg ck) H _ ls hI hP hD hS (lv_sub hl [2, 3, 4, 5, 6] rfl)
end LLcount0
section LLcount1
variable {p : Program} {l : Launch} {e : Env} {s : State} {m : MethodId} {below : List Frame} {meth : Method} {c : Code} {H : Heap} {locs : List Loc} {cells slots : Nat} {Q : State → Prop} {ls : Array Slot} {b L i : Nat} {xs : Nat → Int32}
variable {dC : Nat → ClassId} {dI : Nat → Nat → Nat} {xh xa0 xa1 xa2 xa3 : Nat} {kx0 kx1 kx2 kx3 : ClassId} {mh ma0 ma1 ma2 ma3 : Nat} {km0 km1 km2 km3 : ClassId} {ao : Nat} {k4 : ClassId} {fl : Int32} {th : Nat → Int32} {tm : Nat → Int64} {pr ag : Nat → Int32} {ck : Int64} {nx : Int32} {ou : Nat → Int64}
set_option maxHeartbeats 4000000 in
set_option maxRecDepth 100000 in
theorem ll_count1 (hx : p.tables.exec = Jvm.exec) (hb : c.code = bL_law) (hml : c.maxLocals = 8) (hT : ∀ w ∈ tw_T, w.before #[Value.ref b] s = true) (hown : s.vm.findClass RL = some m.cls) (hfl : l.flags = pinnedFlags ++ [noTraceFlag]) (hX : va_X b L xs s s.heap) (hbl : b < s.heap.size) (hZ : tw_Z s s.heap) (hNc : va_Nc tw_nse tw_iae s) (hL : L ≤ 2560) (hi : i + 5 ≤ L) (hc : cells + 1 ≤ 1044 ∧ slots + 6 ≤ 9060) (hI : tw_Inv tm ck) (hP : va_P (dC, dI) tw_cl (tw_wL xh xa0 xa1 xa2 xa3 kx0 kx1 kx2 kx3 mh ma0 ma1 ma2 ma3 km0 km1 km2 km3 ao k4 fl th tm pr ag ck nx ou) H) (hD : va_D (tw_AL s) (tw_wL xh xa0 xa1 xa2 xa3 kx0 kx1 kx2 kx3 mh ma0 ma1 ma2 ma3 km0 km1 km2 km3 ao k4 fl th tm pr ag ck nx ou)) (hK : va_K (dC, dI) tw_cl (tw_kL kx0 kx1 kx2 kx3 km0 km1 km2 km3 k4) s) (hS : va_S (tw_AL s) s.heap H locs) (hl : lv_has ls 8 [(4, .int (nI i)), (0, .ref b), (1, .ref xh), (2, .ref mh), (3, .ref ao)]) (e1 : xs (nI i + 1).toNatClampNeg = 1) (kk : ∀ (fl' : Int32) (th' : Nat → Int32) (tm' : Nat → Int64) (pr' ag' : Nat → Int32) (ck' : Int64) (nx' : Int32) (ou' : Nat → Int64) (H' : Heap) (locs' : List Loc) (ls' : Array Slot), tw_Inv tm' ck' → va_P (dC, dI) tw_cl (tw_wL xh xa0 xa1 xa2 xa3 kx0 kx1 kx2 kx3 mh ma0 ma1 ma2 ma3 km0 km1 km2 km3 ao k4 fl' (th') (tm') (pr') (ag') (ck') (nx') (ou')) H' → va_D (tw_AL s) (tw_wL xh xa0 xa1 xa2 xa3 kx0 kx1 kx2 kx3 mh ma0 ma1 ma2 ma3 km0 km1 km2 km3 ao k4 (fl') (th') (tm') (pr') (ag') (ck') (nx') (ou')) → va_S (tw_AL s) s.heap H' locs' → lv_has ls' 8 [(4, .int (nI i)), (0, .ref b), (1, .ref xh), (2, .ref mh), (3, .ref ao)] → W p l e room_1 s m #[Value.ref b] below meth c H' locs' (cells + 1) (slots + 6) Q (F0 m 563 ls' [])) : W p l e room_1 s m #[Value.ref b] below meth c H locs cells slots Q (F0 m 508 ls []) := by
  have hA : ∀ q : Nat, s.heap.size ≤ q → tw_AL s q := fun q h => h
  have hbA : ¬ tw_AL s b := Nat.not_le.mpr hbl
  refine lv_aload_n hx hb dL_law_508 rfl (lv_at hl 2 rfl) ?_
  refine lv_aload_n hx hb dL_law_509 rfl (lv_at hl 1 rfl) ?_
  refine lv_iload hx hb dL_law_510 (lv_at hl 0 rfl) ?_
  refine lv_iconst (v := 1) hx hb dL_law_512 (by decide) ?_
  refine lv_iadd hx hb dL_law_513 ?_
  refine va_sld hx hb hX hbl hbA hS (tw_sin1 hi hL) dL_law_514 ?_
  rw [e1]
  refine lv_aload_n hx hb dL_law_515 rfl (lv_at hl 4 rfl) ?_
  have hPc := hP.sub (ws' := (tw_wH xh xa0 xa1 xa2 xa3 kx0 kx1 kx2 kx3 th tm pr ag ck nx ao k4 ou)) [0, 1, 2, 3, 4, 10] rfl
  have hDc := hD.sub (ws' := (tw_wH xh xa0 xa1 xa2 xa3 kx0 kx1 kx2 kx3 th tm pr ag ck nx ao k4 ou)) [0, 1, 2, 3, 4, 10] (by decide) rfl
  have hKc := hK.sub (tys' := tw_kH kx0 kx1 kx2 kx3 k4) [0, 1, 2, 3, 8] rfl
  have hFc := va_free (wc := (tw_wH xh xa0 xa1 xa2 xa3 kx0 kx1 kx2 kx3 th tm pr ag ck nx ao k4 ou)) hD hS hA [0, 1, 2, 3, 4, 10] rfl
  refine va_calli (xt_runSW (n := 3) (As := [.ref xh, .int 1, .ref ao]) (rest := []) ⟨hx, hb, hml, hown, hT⟩ (cL_count1 l dC dI xh xa0 xa1 xa2 xa3 kx0 kx1 kx2 kx3 th tm pr ag ck nx ao k4 ou H.size ) rfl (tw_gS tt_199 tt_200 tt_0 tt_201) rfl rfl ⟨rfl, by decide +kernel⟩ ⟨Nat.le_of_ble_eq_true rfl, Nat.le_of_ble_eq_true rfl⟩ ⟨fun a U g mk q => by obtain ⟨q0, q1, qP, qK, qD⟩ := q; exact ⟨q0, q1, qP, va_K.moved (u := U) (U := U.calling g mk a) (Vm.Alike.refl U.vm) qK, qD⟩, fun U hU hW => ⟨rfl, by rw [hU], by rw [hU]; exact hPc, va_K.moved hW.alike hKc, hDc.weaken (fun _ _ _ _ => trivial)⟩⟩ rfl rfl hl.1 rfl (lv_room (Nat.le_of_ble_eq_true rfl)) dL_law_516 ⟨Nat.le_trans (Nat.le_succ _) hc.1, Nat.le_trans (Nat.le_add_right _ 6) hc.2⟩) hS (fun q _ h => hFc q h) hFc (fun r9 u9 t9 H1 locs ht9 hvm9 hw9 hB9 hz9 hk9 hS => ?_)
  obtain ⟨hP1, hD1⟩ := hB9
  rw [ht9] at hP1
  have hw9 : r9 = 0 := hw9
  subst r9
  obtain ⟨hP, hD⟩ := va_join (wr := (tw_wM mh ma0 ma1 ma2 ma3 km0 km1 km2 km3 fl th tm pr ag ck nx)) (w1 := (tw_wH xh xa0 xa1 xa2 xa3 kx0 kx1 kx2 kx3 th tm pr ag ck nx ao k4 (vp_updL ou (0 : Int32).toNatClampNeg ((tw_ther th 100).toInt64)))) hP hD [0, 1, 2, 3, 4, 10] [5, 6, 7, 8, 9] rfl rfl (by decide) (by decide) hk9 hFc hP1 hD1
  generalize H1 = H at hP hS ⊢
  have hP := hP.sub (ws' := [(xh, .inr (0, [.ref xa0, .ref xa1, .ref xa2, .ref xa3, .long ck, .int nx])), (xa0, .inl (kx0, 100, .inl th)), (xa1, .inl (kx1, 100, .inr (.inl tm))), (xa2, .inl (kx2, 100, .inl pr)), (xa3, .inl (kx3, 100, .inl ag)), (mh, .inr (1, [.int fl, .ref ma0, .ref ma1, .ref ma2, .ref ma3, .int nx, .long ck])), (ma0, .inl (km0, 100, .inl th)), (ma1, .inl (km1, 100, .inr (.inl tm))), (ma2, .inl (km2, 100, .inl pr)), (ma3, .inl (km3, 100, .inl ag)), (ao, .inl (k4, 1, .inr (.inl (vp_updL ou (0 : Int32).toNatClampNeg ((tw_ther th 100).toInt64)))))]) [5, 6, 7, 8, 9, 0, 1, 2, 3, 4, 10] rfl
  have hD := hD.sub (ws' := [(xh, .inr (0, [.ref xa0, .ref xa1, .ref xa2, .ref xa3, .long ck, .int nx])), (xa0, .inl (kx0, 100, .inl th)), (xa1, .inl (kx1, 100, .inr (.inl tm))), (xa2, .inl (kx2, 100, .inl pr)), (xa3, .inl (kx3, 100, .inl ag)), (mh, .inr (1, [.int fl, .ref ma0, .ref ma1, .ref ma2, .ref ma3, .int nx, .long ck])), (ma0, .inl (km0, 100, .inl th)), (ma1, .inl (km1, 100, .inr (.inl tm))), (ma2, .inl (km2, 100, .inl pr)), (ma3, .inl (km3, 100, .inl ag)), (ao, .inl (k4, 1, .inr (.inl (vp_updL ou (0 : Int32).toNatClampNeg ((tw_ther th 100).toInt64)))))]) [5, 6, 7, 8, 9, 0, 1, 2, 3, 4, 10] (by decide) rfl
  refine lv_istore hx hb dL_law_519 hl (by decide) rfl (fun ls hl => ?_)
  have hl : lv_has ls 8 [(5, .int 0), (4, .int (nI i)), (0, .ref b), (1, .ref xh), (2, .ref mh), (3, .ref ao)] := hl
  refine lv_aload_n hx hb dL_law_521 rfl (lv_at hl 4 rfl) ?_
  refine lv_aload_n hx hb dL_law_522 rfl (lv_at hl 2 rfl) ?_
  refine lv_iload hx hb dL_law_523 (lv_at hl 1 rfl) ?_
  refine lv_iconst (v := 1) hx hb dL_law_525 (by decide) ?_
  refine lv_iadd hx hb dL_law_526 ?_
  refine va_sld hx hb hX hbl hbA hS (tw_sin1 hi hL) dL_law_527 ?_
  rw [e1]
  have hPc := hP.sub (ws' := (tw_wM mh ma0 ma1 ma2 ma3 km0 km1 km2 km3 fl th tm pr ag ck nx)) [5, 6, 7, 8, 9] rfl
  have hDc := hD.sub (ws' := (tw_wM mh ma0 ma1 ma2 ma3 km0 km1 km2 km3 fl th tm pr ag ck nx)) [5, 6, 7, 8, 9] (by decide) rfl
  have hKc := hK.sub (tys' := tw_k km0 km1 km2 km3) [4, 5, 6, 7] rfl
  have hFc := va_free (wc := (tw_wM mh ma0 ma1 ma2 ma3 km0 km1 km2 km3 fl th tm pr ag ck nx)) hD hS hA [5, 6, 7, 8, 9] rfl
  refine va_calll (va_runV (C := RM) (b := mh) (As := [.int 1]) (rest := []) ⟨hx, hb, hml, hown, hT⟩ (cM_count1 l dC dI mh ma0 ma1 ma2 ma3 km0 km1 km2 km3 fl th tm pr ag ck nx H.size ) (cwV 1 hT (tw_gV tt_288 tt_289 tt_290 tt_2 tt_291) rfl rfl rfl ⟨rfl, by decide +kernel⟩ ⟨Nat.le_of_ble_eq_true rfl, Nat.le_of_ble_eq_true rfl⟩) ⟨fun a U g mk q => by obtain ⟨q0, q1, qP, qK, qD⟩ := q; exact ⟨q0, q1, qP, va_K.moved (u := U) (U := U.calling g mk a) (Vm.Alike.refl U.vm) qK, qD⟩, va_recv (q0 := 0) (ci := 1) hKc hPc rfl rfl, fun U hU hW => ⟨rfl, by rw [hU], by rw [hU]; exact hPc, va_K.moved hW.alike hKc, hDc.weaken (fun _ _ _ _ => trivial)⟩⟩ rfl rfl hl.1 rfl (lv_room (Nat.le_of_ble_eq_true rfl)) dL_law_528 ⟨Nat.le_trans (Nat.le_succ _) hc.1, Nat.le_trans (Nat.le_add_right _ 6) hc.2⟩) hS (fun q _ h => hFc q h) hFc (fun r9 u9 t9 H1 locs ht9 hvm9 hw9 hB9 hz9 hk9 hS => ?_)
  obtain ⟨hP1, hD1⟩ := hB9
  rw [ht9] at hP1
  have hw9 : r9 = (tw_ther th 100).toInt64 := hw9
  subst r9
  obtain ⟨hP, hD⟩ := va_join (wr := [(xh, .inr (0, [.ref xa0, .ref xa1, .ref xa2, .ref xa3, .long ck, .int nx])), (xa0, .inl (kx0, 100, .inl th)), (xa1, .inl (kx1, 100, .inr (.inl tm))), (xa2, .inl (kx2, 100, .inl pr)), (xa3, .inl (kx3, 100, .inl ag)), (ao, .inl (k4, 1, .inr (.inl (vp_updL ou (0 : Int32).toNatClampNeg ((tw_ther th 100).toInt64)))))]) (w1 := (tw_wM mh ma0 ma1 ma2 ma3 km0 km1 km2 km3 0 th tm pr ag ck nx)) hP hD [5, 6, 7, 8, 9] [0, 1, 2, 3, 4, 10] rfl rfl (by decide) (by decide) hk9 hFc hP1 hD1
  generalize H1 = H at hP hS ⊢
  have hP := hP.sub (ws' := [(xh, .inr (0, [.ref xa0, .ref xa1, .ref xa2, .ref xa3, .long ck, .int nx])), (xa0, .inl (kx0, 100, .inl th)), (xa1, .inl (kx1, 100, .inr (.inl tm))), (xa2, .inl (kx2, 100, .inl pr)), (xa3, .inl (kx3, 100, .inl ag)), (mh, .inr (1, [.int 0, .ref ma0, .ref ma1, .ref ma2, .ref ma3, .int nx, .long ck])), (ma0, .inl (km0, 100, .inl th)), (ma1, .inl (km1, 100, .inr (.inl tm))), (ma2, .inl (km2, 100, .inl pr)), (ma3, .inl (km3, 100, .inl ag)), (ao, .inl (k4, 1, .inr (.inl (vp_updL ou (0 : Int32).toNatClampNeg ((tw_ther th 100).toInt64)))))]) [0, 1, 2, 3, 4, 6, 7, 8, 9, 10, 5] rfl
  have hD := hD.sub (ws' := [(xh, .inr (0, [.ref xa0, .ref xa1, .ref xa2, .ref xa3, .long ck, .int nx])), (xa0, .inl (kx0, 100, .inl th)), (xa1, .inl (kx1, 100, .inr (.inl tm))), (xa2, .inl (kx2, 100, .inl pr)), (xa3, .inl (kx3, 100, .inl ag)), (mh, .inr (1, [.int 0, .ref ma0, .ref ma1, .ref ma2, .ref ma3, .int nx, .long ck])), (ma0, .inl (km0, 100, .inl th)), (ma1, .inl (km1, 100, .inr (.inl tm))), (ma2, .inl (km2, 100, .inl pr)), (ma3, .inl (km3, 100, .inl ag)), (ao, .inl (k4, 1, .inr (.inl (vp_updL ou (0 : Int32).toNatClampNeg ((tw_ther th 100).toInt64)))))]) [0, 1, 2, 3, 4, 6, 7, 8, 9, 10, 5] (by decide) rfl
  refine lv_lstore hx hb dL_law_531 hl (by decide) rfl (fun ls hl => ?_)
  have hl : lv_has ls 8 [(6, .long ((tw_ther th 100).toInt64)), (5, .int 0), (4, .int (nI i)), (0, .ref b), (1, .ref xh), (2, .ref mh), (3, .ref ao)] := hl
  refine lv_aload_n hx hb dL_law_533 rfl (lv_at hl 5 rfl) ?_
  have hPc := hP.sub (ws' := (tw_wM mh ma0 ma1 ma2 ma3 km0 km1 km2 km3 0 th tm pr ag ck nx)) [5, 6, 7, 8, 9] rfl
  have hKc := hK.sub (tys' := tw_k km0 km1 km2 km3) [4, 5, 6, 7] rfl
  refine vp_callSi (W.runV (C := RM) (b := mh) (As := []) (rest := []) ⟨hx, hb, hml, hown, hT⟩ (cM_thrown l dC dI mh ma0 ma1 ma2 ma3 km0 km1 km2 km3 0 th tm pr ag ck nx) (cwV 0 hT (tw_gV tt_239 tt_240 tt_241 tt_2 tt_242) rfl rfl rfl ⟨rfl, by decide +kernel⟩ ⟨Nat.le_of_ble_eq_true rfl, Nat.le_of_ble_eq_true rfl⟩) ⟨fun a U g mk q => ⟨q.1, q.2.1, va_K.moved (u := U) (U := U.calling g mk a) (Vm.Alike.refl U.vm) q.2.2⟩, va_recv (q0 := 0) (ci := 1) hKc hPc rfl rfl, fun U hU hW => ⟨rfl, by rw [hU]; exact hPc, va_K.moved hW.alike hKc⟩⟩ rfl rfl hl.1 rfl (lv_room (Nat.le_of_ble_eq_true rfl)) dL_law_534 ⟨Nat.le_trans (Nat.le_succ _) hc.1, Nat.le_trans (Nat.le_add_right _ 6) hc.2⟩) (fun r8 h8 => ?_)
  subst r8
  refine lv_iload hx hb dL_law_537 (lv_at hl 1 rfl) ?_
  refine lv_icmp_eq (tgt := 544) hx hb dL_law_539 (by decide) (fun hc1 => ?_) (fun hc1 => absurd (rfl : (0 : Int32) = 0) hc1)
  refine lv_iload hx hb dL_law_544 (lv_at hl 1 rfl) ?_
  refine lv_if_ne (tgt := 560) hx hb dL_law_546 (by decide) (fun hc2 => absurd rfl hc2) (fun hc2 => ?_)
  refine lv_aload_n hx hb dL_law_549 rfl (lv_at hl 6 rfl) ?_
  refine lv_iconst (v := 0) hx hb dL_law_550 (by decide) ?_
  refine va_lald hx hb hK hP 10 8 rfl rfl (by unfold vp_in; decide) dL_law_551 ?_
  refine lv_lload hx hb dL_law_552 (lv_at hl 0 rfl) ?_
  refine W.lcmp hx hb dL_law_554 ?_
  refine lv_if_eq (tgt := 560) hx hb dL_law_555 (by decide) (fun hc3 => ?_) (fun hc3 => absurd ((lg_cmp_eq _ _).mpr pk_uLs) hc3)
  refine lv_goto (tgt := 563) hx hb dL_law_560 (by decide) ?_
  refine W.widen (k := cells + 1) (n := slots + 6) (Nat.le_succ _) (Nat.le_add_right _ 6) ?_
  exact kk 0 th tm pr ag ck nx (vp_updL ou (0 : Int32).toNatClampNeg ((tw_ther th 100).toInt64)) H _ ls hI hP hD hS (lv_sub hl [2, 3, 4, 5, 6] rfl)
end LLcount1
section LLcount2
variable {p : Program} {l : Launch} {e : Env} {s : State} {m : MethodId} {below : List Frame} {meth : Method} {c : Code} {H : Heap} {locs : List Loc} {cells slots : Nat} {Q : State → Prop} {ls : Array Slot} {b L i : Nat} {xs : Nat → Int32}
variable {dC : Nat → ClassId} {dI : Nat → Nat → Nat} {xh xa0 xa1 xa2 xa3 : Nat} {kx0 kx1 kx2 kx3 : ClassId} {mh ma0 ma1 ma2 ma3 : Nat} {km0 km1 km2 km3 : ClassId} {ao : Nat} {k4 : ClassId} {fl : Int32} {th : Nat → Int32} {tm : Nat → Int64} {pr ag : Nat → Int32} {ck : Int64} {nx : Int32} {ou : Nat → Int64}
set_option maxHeartbeats 4000000 in
set_option maxRecDepth 100000 in
theorem ll_count2 (hx : p.tables.exec = Jvm.exec) (hb : c.code = bL_law) (hml : c.maxLocals = 8) (hT : ∀ w ∈ tw_T, w.before #[Value.ref b] s = true) (hown : s.vm.findClass RL = some m.cls) (hfl : l.flags = pinnedFlags ++ [noTraceFlag]) (hX : va_X b L xs s s.heap) (hbl : b < s.heap.size) (hZ : tw_Z s s.heap) (hNc : va_Nc tw_nse tw_iae s) (hL : L ≤ 2560) (hi : i + 5 ≤ L) (hc : cells + 1 ≤ 1044 ∧ slots + 6 ≤ 9060) (hI : tw_Inv tm ck) (hP : va_P (dC, dI) tw_cl (tw_wL xh xa0 xa1 xa2 xa3 kx0 kx1 kx2 kx3 mh ma0 ma1 ma2 ma3 km0 km1 km2 km3 ao k4 fl th tm pr ag ck nx ou) H) (hD : va_D (tw_AL s) (tw_wL xh xa0 xa1 xa2 xa3 kx0 kx1 kx2 kx3 mh ma0 ma1 ma2 ma3 km0 km1 km2 km3 ao k4 fl th tm pr ag ck nx ou)) (hK : va_K (dC, dI) tw_cl (tw_kL kx0 kx1 kx2 kx3 km0 km1 km2 km3 k4) s) (hS : va_S (tw_AL s) s.heap H locs) (hl : lv_has ls 8 [(4, .int (nI i)), (0, .ref b), (1, .ref xh), (2, .ref mh), (3, .ref ao)]) (e1 : xs (nI i + 1).toNatClampNeg = 2) (kk : ∀ (fl' : Int32) (th' : Nat → Int32) (tm' : Nat → Int64) (pr' ag' : Nat → Int32) (ck' : Int64) (nx' : Int32) (ou' : Nat → Int64) (H' : Heap) (locs' : List Loc) (ls' : Array Slot), tw_Inv tm' ck' → va_P (dC, dI) tw_cl (tw_wL xh xa0 xa1 xa2 xa3 kx0 kx1 kx2 kx3 mh ma0 ma1 ma2 ma3 km0 km1 km2 km3 ao k4 fl' (th') (tm') (pr') (ag') (ck') (nx') (ou')) H' → va_D (tw_AL s) (tw_wL xh xa0 xa1 xa2 xa3 kx0 kx1 kx2 kx3 mh ma0 ma1 ma2 ma3 km0 km1 km2 km3 ao k4 (fl') (th') (tm') (pr') (ag') (ck') (nx') (ou')) → va_S (tw_AL s) s.heap H' locs' → lv_has ls' 8 [(4, .int (nI i)), (0, .ref b), (1, .ref xh), (2, .ref mh), (3, .ref ao)] → W p l e room_1 s m #[Value.ref b] below meth c H' locs' (cells + 1) (slots + 6) Q (F0 m 563 ls' [])) : W p l e room_1 s m #[Value.ref b] below meth c H locs cells slots Q (F0 m 508 ls []) := by
  have hA : ∀ q : Nat, s.heap.size ≤ q → tw_AL s q := fun q h => h
  have hbA : ¬ tw_AL s b := Nat.not_le.mpr hbl
  refine lv_aload_n hx hb dL_law_508 rfl (lv_at hl 2 rfl) ?_
  refine lv_aload_n hx hb dL_law_509 rfl (lv_at hl 1 rfl) ?_
  refine lv_iload hx hb dL_law_510 (lv_at hl 0 rfl) ?_
  refine lv_iconst (v := 1) hx hb dL_law_512 (by decide) ?_
  refine lv_iadd hx hb dL_law_513 ?_
  refine va_sld hx hb hX hbl hbA hS (tw_sin1 hi hL) dL_law_514 ?_
  rw [e1]
  refine lv_aload_n hx hb dL_law_515 rfl (lv_at hl 4 rfl) ?_
  have hPc := hP.sub (ws' := (tw_wH xh xa0 xa1 xa2 xa3 kx0 kx1 kx2 kx3 th tm pr ag ck nx ao k4 ou)) [0, 1, 2, 3, 4, 10] rfl
  have hDc := hD.sub (ws' := (tw_wH xh xa0 xa1 xa2 xa3 kx0 kx1 kx2 kx3 th tm pr ag ck nx ao k4 ou)) [0, 1, 2, 3, 4, 10] (by decide) rfl
  have hKc := hK.sub (tys' := tw_kH kx0 kx1 kx2 kx3 k4) [0, 1, 2, 3, 8] rfl
  have hFc := va_free (wc := (tw_wH xh xa0 xa1 xa2 xa3 kx0 kx1 kx2 kx3 th tm pr ag ck nx ao k4 ou)) hD hS hA [0, 1, 2, 3, 4, 10] rfl
  refine va_calli (xt_runSW (n := 3) (As := [.ref xh, .int 2, .ref ao]) (rest := []) ⟨hx, hb, hml, hown, hT⟩ (cL_count2 l dC dI xh xa0 xa1 xa2 xa3 kx0 kx1 kx2 kx3 th tm pr ag ck nx ao k4 ou H.size ) rfl (tw_gS tt_199 tt_200 tt_0 tt_201) rfl rfl ⟨rfl, by decide +kernel⟩ ⟨Nat.le_of_ble_eq_true rfl, Nat.le_of_ble_eq_true rfl⟩ ⟨fun a U g mk q => by obtain ⟨q0, q1, qP, qK, qD⟩ := q; exact ⟨q0, q1, qP, va_K.moved (u := U) (U := U.calling g mk a) (Vm.Alike.refl U.vm) qK, qD⟩, fun U hU hW => ⟨rfl, by rw [hU], by rw [hU]; exact hPc, va_K.moved hW.alike hKc, hDc.weaken (fun _ _ _ _ => trivial)⟩⟩ rfl rfl hl.1 rfl (lv_room (Nat.le_of_ble_eq_true rfl)) dL_law_516 ⟨Nat.le_trans (Nat.le_succ _) hc.1, Nat.le_trans (Nat.le_add_right _ 6) hc.2⟩) hS (fun q _ h => hFc q h) hFc (fun r9 u9 t9 H1 locs ht9 hvm9 hw9 hB9 hz9 hk9 hS => ?_)
  obtain ⟨hP1, hD1⟩ := hB9
  rw [ht9] at hP1
  have hw9 : r9 = 0 := hw9
  subst r9
  obtain ⟨hP, hD⟩ := va_join (wr := (tw_wM mh ma0 ma1 ma2 ma3 km0 km1 km2 km3 fl th tm pr ag ck nx)) (w1 := (tw_wH xh xa0 xa1 xa2 xa3 kx0 kx1 kx2 kx3 th tm pr ag ck nx ao k4 (vp_updL ou (0 : Int32).toNatClampNeg ((tw_dues th tm ck 100).toInt64)))) hP hD [0, 1, 2, 3, 4, 10] [5, 6, 7, 8, 9] rfl rfl (by decide) (by decide) hk9 hFc hP1 hD1
  generalize H1 = H at hP hS ⊢
  have hP := hP.sub (ws' := [(xh, .inr (0, [.ref xa0, .ref xa1, .ref xa2, .ref xa3, .long ck, .int nx])), (xa0, .inl (kx0, 100, .inl th)), (xa1, .inl (kx1, 100, .inr (.inl tm))), (xa2, .inl (kx2, 100, .inl pr)), (xa3, .inl (kx3, 100, .inl ag)), (mh, .inr (1, [.int fl, .ref ma0, .ref ma1, .ref ma2, .ref ma3, .int nx, .long ck])), (ma0, .inl (km0, 100, .inl th)), (ma1, .inl (km1, 100, .inr (.inl tm))), (ma2, .inl (km2, 100, .inl pr)), (ma3, .inl (km3, 100, .inl ag)), (ao, .inl (k4, 1, .inr (.inl (vp_updL ou (0 : Int32).toNatClampNeg ((tw_dues th tm ck 100).toInt64)))))]) [5, 6, 7, 8, 9, 0, 1, 2, 3, 4, 10] rfl
  have hD := hD.sub (ws' := [(xh, .inr (0, [.ref xa0, .ref xa1, .ref xa2, .ref xa3, .long ck, .int nx])), (xa0, .inl (kx0, 100, .inl th)), (xa1, .inl (kx1, 100, .inr (.inl tm))), (xa2, .inl (kx2, 100, .inl pr)), (xa3, .inl (kx3, 100, .inl ag)), (mh, .inr (1, [.int fl, .ref ma0, .ref ma1, .ref ma2, .ref ma3, .int nx, .long ck])), (ma0, .inl (km0, 100, .inl th)), (ma1, .inl (km1, 100, .inr (.inl tm))), (ma2, .inl (km2, 100, .inl pr)), (ma3, .inl (km3, 100, .inl ag)), (ao, .inl (k4, 1, .inr (.inl (vp_updL ou (0 : Int32).toNatClampNeg ((tw_dues th tm ck 100).toInt64)))))]) [5, 6, 7, 8, 9, 0, 1, 2, 3, 4, 10] (by decide) rfl
  refine lv_istore hx hb dL_law_519 hl (by decide) rfl (fun ls hl => ?_)
  have hl : lv_has ls 8 [(5, .int 0), (4, .int (nI i)), (0, .ref b), (1, .ref xh), (2, .ref mh), (3, .ref ao)] := hl
  refine lv_aload_n hx hb dL_law_521 rfl (lv_at hl 4 rfl) ?_
  refine lv_aload_n hx hb dL_law_522 rfl (lv_at hl 2 rfl) ?_
  refine lv_iload hx hb dL_law_523 (lv_at hl 1 rfl) ?_
  refine lv_iconst (v := 1) hx hb dL_law_525 (by decide) ?_
  refine lv_iadd hx hb dL_law_526 ?_
  refine va_sld hx hb hX hbl hbA hS (tw_sin1 hi hL) dL_law_527 ?_
  rw [e1]
  have hPc := hP.sub (ws' := (tw_wM mh ma0 ma1 ma2 ma3 km0 km1 km2 km3 fl th tm pr ag ck nx)) [5, 6, 7, 8, 9] rfl
  have hDc := hD.sub (ws' := (tw_wM mh ma0 ma1 ma2 ma3 km0 km1 km2 km3 fl th tm pr ag ck nx)) [5, 6, 7, 8, 9] (by decide) rfl
  have hKc := hK.sub (tys' := tw_k km0 km1 km2 km3) [4, 5, 6, 7] rfl
  have hFc := va_free (wc := (tw_wM mh ma0 ma1 ma2 ma3 km0 km1 km2 km3 fl th tm pr ag ck nx)) hD hS hA [5, 6, 7, 8, 9] rfl
  refine va_calll (va_runV (C := RM) (b := mh) (As := [.int 2]) (rest := []) ⟨hx, hb, hml, hown, hT⟩ (cM_count2 l dC dI mh ma0 ma1 ma2 ma3 km0 km1 km2 km3 fl th tm pr ag ck nx H.size ) (cwV 1 hT (tw_gV tt_288 tt_289 tt_290 tt_2 tt_291) rfl rfl rfl ⟨rfl, by decide +kernel⟩ ⟨Nat.le_of_ble_eq_true rfl, Nat.le_of_ble_eq_true rfl⟩) ⟨fun a U g mk q => by obtain ⟨q0, q1, qP, qK, qD⟩ := q; exact ⟨q0, q1, qP, va_K.moved (u := U) (U := U.calling g mk a) (Vm.Alike.refl U.vm) qK, qD⟩, va_recv (q0 := 0) (ci := 1) hKc hPc rfl rfl, fun U hU hW => ⟨rfl, by rw [hU], by rw [hU]; exact hPc, va_K.moved hW.alike hKc, hDc.weaken (fun _ _ _ _ => trivial)⟩⟩ rfl rfl hl.1 rfl (lv_room (Nat.le_of_ble_eq_true rfl)) dL_law_528 ⟨Nat.le_trans (Nat.le_succ _) hc.1, Nat.le_trans (Nat.le_add_right _ 6) hc.2⟩) hS (fun q _ h => hFc q h) hFc (fun r9 u9 t9 H1 locs ht9 hvm9 hw9 hB9 hz9 hk9 hS => ?_)
  obtain ⟨hP1, hD1⟩ := hB9
  rw [ht9] at hP1
  have hw9 : r9 = (tw_dues th tm ck 100).toInt64 := hw9
  subst r9
  obtain ⟨hP, hD⟩ := va_join (wr := [(xh, .inr (0, [.ref xa0, .ref xa1, .ref xa2, .ref xa3, .long ck, .int nx])), (xa0, .inl (kx0, 100, .inl th)), (xa1, .inl (kx1, 100, .inr (.inl tm))), (xa2, .inl (kx2, 100, .inl pr)), (xa3, .inl (kx3, 100, .inl ag)), (ao, .inl (k4, 1, .inr (.inl (vp_updL ou (0 : Int32).toNatClampNeg ((tw_dues th tm ck 100).toInt64)))))]) (w1 := (tw_wM mh ma0 ma1 ma2 ma3 km0 km1 km2 km3 0 th tm pr ag ck nx)) hP hD [5, 6, 7, 8, 9] [0, 1, 2, 3, 4, 10] rfl rfl (by decide) (by decide) hk9 hFc hP1 hD1
  generalize H1 = H at hP hS ⊢
  have hP := hP.sub (ws' := [(xh, .inr (0, [.ref xa0, .ref xa1, .ref xa2, .ref xa3, .long ck, .int nx])), (xa0, .inl (kx0, 100, .inl th)), (xa1, .inl (kx1, 100, .inr (.inl tm))), (xa2, .inl (kx2, 100, .inl pr)), (xa3, .inl (kx3, 100, .inl ag)), (mh, .inr (1, [.int 0, .ref ma0, .ref ma1, .ref ma2, .ref ma3, .int nx, .long ck])), (ma0, .inl (km0, 100, .inl th)), (ma1, .inl (km1, 100, .inr (.inl tm))), (ma2, .inl (km2, 100, .inl pr)), (ma3, .inl (km3, 100, .inl ag)), (ao, .inl (k4, 1, .inr (.inl (vp_updL ou (0 : Int32).toNatClampNeg ((tw_dues th tm ck 100).toInt64)))))]) [0, 1, 2, 3, 4, 6, 7, 8, 9, 10, 5] rfl
  have hD := hD.sub (ws' := [(xh, .inr (0, [.ref xa0, .ref xa1, .ref xa2, .ref xa3, .long ck, .int nx])), (xa0, .inl (kx0, 100, .inl th)), (xa1, .inl (kx1, 100, .inr (.inl tm))), (xa2, .inl (kx2, 100, .inl pr)), (xa3, .inl (kx3, 100, .inl ag)), (mh, .inr (1, [.int 0, .ref ma0, .ref ma1, .ref ma2, .ref ma3, .int nx, .long ck])), (ma0, .inl (km0, 100, .inl th)), (ma1, .inl (km1, 100, .inr (.inl tm))), (ma2, .inl (km2, 100, .inl pr)), (ma3, .inl (km3, 100, .inl ag)), (ao, .inl (k4, 1, .inr (.inl (vp_updL ou (0 : Int32).toNatClampNeg ((tw_dues th tm ck 100).toInt64)))))]) [0, 1, 2, 3, 4, 6, 7, 8, 9, 10, 5] (by decide) rfl
  refine lv_lstore hx hb dL_law_531 hl (by decide) rfl (fun ls hl => ?_)
  have hl : lv_has ls 8 [(6, .long ((tw_dues th tm ck 100).toInt64)), (5, .int 0), (4, .int (nI i)), (0, .ref b), (1, .ref xh), (2, .ref mh), (3, .ref ao)] := hl
  refine lv_aload_n hx hb dL_law_533 rfl (lv_at hl 5 rfl) ?_
  have hPc := hP.sub (ws' := (tw_wM mh ma0 ma1 ma2 ma3 km0 km1 km2 km3 0 th tm pr ag ck nx)) [5, 6, 7, 8, 9] rfl
  have hKc := hK.sub (tys' := tw_k km0 km1 km2 km3) [4, 5, 6, 7] rfl
  refine vp_callSi (W.runV (C := RM) (b := mh) (As := []) (rest := []) ⟨hx, hb, hml, hown, hT⟩ (cM_thrown l dC dI mh ma0 ma1 ma2 ma3 km0 km1 km2 km3 0 th tm pr ag ck nx) (cwV 0 hT (tw_gV tt_239 tt_240 tt_241 tt_2 tt_242) rfl rfl rfl ⟨rfl, by decide +kernel⟩ ⟨Nat.le_of_ble_eq_true rfl, Nat.le_of_ble_eq_true rfl⟩) ⟨fun a U g mk q => ⟨q.1, q.2.1, va_K.moved (u := U) (U := U.calling g mk a) (Vm.Alike.refl U.vm) q.2.2⟩, va_recv (q0 := 0) (ci := 1) hKc hPc rfl rfl, fun U hU hW => ⟨rfl, by rw [hU]; exact hPc, va_K.moved hW.alike hKc⟩⟩ rfl rfl hl.1 rfl (lv_room (Nat.le_of_ble_eq_true rfl)) dL_law_534 ⟨Nat.le_trans (Nat.le_succ _) hc.1, Nat.le_trans (Nat.le_add_right _ 6) hc.2⟩) (fun r8 h8 => ?_)
  subst r8
  refine lv_iload hx hb dL_law_537 (lv_at hl 1 rfl) ?_
  refine lv_icmp_eq (tgt := 544) hx hb dL_law_539 (by decide) (fun hc1 => ?_) (fun hc1 => absurd (rfl : (0 : Int32) = 0) hc1)
  refine lv_iload hx hb dL_law_544 (lv_at hl 1 rfl) ?_
  refine lv_if_ne (tgt := 560) hx hb dL_law_546 (by decide) (fun hc2 => absurd rfl hc2) (fun hc2 => ?_)
  refine lv_aload_n hx hb dL_law_549 rfl (lv_at hl 6 rfl) ?_
  refine lv_iconst (v := 0) hx hb dL_law_550 (by decide) ?_
  refine va_lald hx hb hK hP 10 8 rfl rfl (by unfold vp_in; decide) dL_law_551 ?_
  refine lv_lload hx hb dL_law_552 (lv_at hl 0 rfl) ?_
  refine W.lcmp hx hb dL_law_554 ?_
  refine lv_if_eq (tgt := 560) hx hb dL_law_555 (by decide) (fun hc3 => ?_) (fun hc3 => absurd ((lg_cmp_eq _ _).mpr pk_uLs) hc3)
  refine lv_goto (tgt := 563) hx hb dL_law_560 (by decide) ?_
  refine W.widen (k := cells + 1) (n := slots + 6) (Nat.le_succ _) (Nat.le_add_right _ 6) ?_
  exact kk 0 th tm pr ag ck nx (vp_updL ou (0 : Int32).toNatClampNeg ((tw_dues th tm ck 100).toInt64)) H _ ls hI hP hD hS (lv_sub hl [2, 3, 4, 5, 6] rfl)
end LLcount2
section LLcountB
variable {p : Program} {l : Launch} {e : Env} {s : State} {m : MethodId} {below : List Frame} {meth : Method} {c : Code} {H : Heap} {locs : List Loc} {cells slots : Nat} {Q : State → Prop} {ls : Array Slot} {b L i : Nat} {xs : Nat → Int32}
variable {dC : Nat → ClassId} {dI : Nat → Nat → Nat} {xh xa0 xa1 xa2 xa3 : Nat} {kx0 kx1 kx2 kx3 : ClassId} {mh ma0 ma1 ma2 ma3 : Nat} {km0 km1 km2 km3 : ClassId} {ao : Nat} {k4 : ClassId} {fl : Int32} {th : Nat → Int32} {tm : Nat → Int64} {pr ag : Nat → Int32} {ck : Int64} {nx : Int32} {ou : Nat → Int64}
set_option maxHeartbeats 4000000 in
set_option maxRecDepth 100000 in
theorem ll_countB (hx : p.tables.exec = Jvm.exec) (hb : c.code = bL_law) (hml : c.maxLocals = 8) (hT : ∀ w ∈ tw_T, w.before #[Value.ref b] s = true) (hown : s.vm.findClass RL = some m.cls) (hfl : l.flags = pinnedFlags ++ [noTraceFlag]) (hX : va_X b L xs s s.heap) (hbl : b < s.heap.size) (hZ : tw_Z s s.heap) (hNc : va_Nc tw_nse tw_iae s) (hL : L ≤ 2560) (hi : i + 5 ≤ L) (hc : cells + 1 ≤ 1044 ∧ slots + 6 ≤ 9060) (hI : tw_Inv tm ck) (hP : va_P (dC, dI) tw_cl (tw_wL xh xa0 xa1 xa2 xa3 kx0 kx1 kx2 kx3 mh ma0 ma1 ma2 ma3 km0 km1 km2 km3 ao k4 fl th tm pr ag ck nx ou) H) (hD : va_D (tw_AL s) (tw_wL xh xa0 xa1 xa2 xa3 kx0 kx1 kx2 kx3 mh ma0 ma1 ma2 ma3 km0 km1 km2 km3 ao k4 fl th tm pr ag ck nx ou)) (hK : va_K (dC, dI) tw_cl (tw_kL kx0 kx1 kx2 kx3 km0 km1 km2 km3 k4) s) (hS : va_S (tw_AL s) s.heap H locs) (hl : lv_has ls 8 [(4, .int (nI i)), (0, .ref b), (1, .ref xh), (2, .ref mh), (3, .ref ao)]) {j1 : Int32} (e1 : xs (nI i + 1).toNatClampNeg = j1) (hbad : j1.toInt < 0 ∨ 2 < j1.toInt) (kk : ∀ (fl' : Int32) (th' : Nat → Int32) (tm' : Nat → Int64) (pr' ag' : Nat → Int32) (ck' : Int64) (nx' : Int32) (ou' : Nat → Int64) (H' : Heap) (locs' : List Loc) (ls' : Array Slot), tw_Inv tm' ck' → va_P (dC, dI) tw_cl (tw_wL xh xa0 xa1 xa2 xa3 kx0 kx1 kx2 kx3 mh ma0 ma1 ma2 ma3 km0 km1 km2 km3 ao k4 fl' (th') (tm') (pr') (ag') (ck') (nx') (ou')) H' → va_D (tw_AL s) (tw_wL xh xa0 xa1 xa2 xa3 kx0 kx1 kx2 kx3 mh ma0 ma1 ma2 ma3 km0 km1 km2 km3 ao k4 (fl') (th') (tm') (pr') (ag') (ck') (nx') (ou')) → va_S (tw_AL s) s.heap H' locs' → lv_has ls' 8 [(4, .int (nI i)), (0, .ref b), (1, .ref xh), (2, .ref mh), (3, .ref ao)] → W p l e room_1 s m #[Value.ref b] below meth c H' locs' (cells + 1) (slots + 6) Q (F0 m 563 ls' [])) : W p l e room_1 s m #[Value.ref b] below meth c H locs cells slots Q (F0 m 508 ls []) := by
  have hA : ∀ q : Nat, s.heap.size ≤ q → tw_AL s q := fun q h => h
  have hbA : ¬ tw_AL s b := Nat.not_le.mpr hbl
  refine lv_aload_n hx hb dL_law_508 rfl (lv_at hl 2 rfl) ?_
  refine lv_aload_n hx hb dL_law_509 rfl (lv_at hl 1 rfl) ?_
  refine lv_iload hx hb dL_law_510 (lv_at hl 0 rfl) ?_
  refine lv_iconst (v := 1) hx hb dL_law_512 (by decide) ?_
  refine lv_iadd hx hb dL_law_513 ?_
  refine va_sld hx hb hX hbl hbA hS (tw_sin1 hi hL) dL_law_514 ?_
  rw [e1]
  refine lv_aload_n hx hb dL_law_515 rfl (lv_at hl 4 rfl) ?_
  have hPc := hP.sub (ws' := (tw_wH xh xa0 xa1 xa2 xa3 kx0 kx1 kx2 kx3 th tm pr ag ck nx ao k4 ou)) [0, 1, 2, 3, 4, 10] rfl
  have hDc := hD.sub (ws' := (tw_wH xh xa0 xa1 xa2 xa3 kx0 kx1 kx2 kx3 th tm pr ag ck nx ao k4 ou)) [0, 1, 2, 3, 4, 10] (by decide) rfl
  have hKc := hK.sub (tys' := tw_kH kx0 kx1 kx2 kx3 k4) [0, 1, 2, 3, 8] rfl
  have hFc := va_free (wc := (tw_wH xh xa0 xa1 xa2 xa3 kx0 kx1 kx2 kx3 th tm pr ag ck nx ao k4 ou)) hD hS hA [0, 1, 2, 3, 4, 10] rfl
  have hZH : ∀ U : State, U.heap = H → s.WarmedH U.vm → tw_Z U U.heap := fun U hU hW => by rw [hU]; exact hZ.move hW (fun a ha => hS.2.1 a ha (Nat.not_le.mpr ha))
  refine va_calli (xt_runSW (n := 3) (As := [.ref xh, .int j1, .ref ao]) (rest := []) ⟨hx, hb, hml, hown, hT⟩ (cL_countB l hfl dC dI xh xa0 xa1 xa2 xa3 kx0 kx1 kx2 kx3 th tm pr ag ck nx ao k4 ou H.size j1 hbad) rfl (tw_gS tt_199 tt_200 tt_0 tt_201) rfl rfl ⟨rfl, by decide +kernel⟩ ⟨Nat.le_of_ble_eq_true rfl, Nat.le_of_ble_eq_true rfl⟩ ⟨fun a U g mk q => by obtain ⟨q0, q1, qP, qK, qD, qZ⟩ := q; exact ⟨q0, q1, qP, va_K.moved (u := U) (U := U.calling g mk a) (Vm.Alike.refl U.vm) qK, qD, qZ.call⟩, fun U hU hW => ⟨rfl, by rw [hU], by rw [hU]; exact hPc, va_K.moved hW.alike hKc, hDc.weaken (fun _ _ _ _ => trivial), hZH U hU hW⟩⟩ rfl rfl hl.1 rfl (lv_room (Nat.le_of_ble_eq_true rfl)) dL_law_516 hc) hS (fun q _ h => hFc q h) hFc (fun r9 u9 t9 H1 locs ht9 hvm9 hw9 hB9 hz9 hk9 hS => ?_)
  obtain ⟨hP1, hD1⟩ := hB9
  rw [ht9] at hP1
  have hw9 : r9 = 1 := hw9
  subst r9
  obtain ⟨hP, hD⟩ := va_join (wr := (tw_wM mh ma0 ma1 ma2 ma3 km0 km1 km2 km3 fl th tm pr ag ck nx)) (w1 := (tw_wH xh xa0 xa1 xa2 xa3 kx0 kx1 kx2 kx3 th tm pr ag ck nx ao k4 ou)) hP hD [0, 1, 2, 3, 4, 10] [5, 6, 7, 8, 9] rfl rfl (by decide) (by decide) hk9 hFc hP1 hD1
  generalize H1 = H at hP hS ⊢
  have hP := hP.sub (ws' := [(xh, .inr (0, [.ref xa0, .ref xa1, .ref xa2, .ref xa3, .long ck, .int nx])), (xa0, .inl (kx0, 100, .inl th)), (xa1, .inl (kx1, 100, .inr (.inl tm))), (xa2, .inl (kx2, 100, .inl pr)), (xa3, .inl (kx3, 100, .inl ag)), (mh, .inr (1, [.int fl, .ref ma0, .ref ma1, .ref ma2, .ref ma3, .int nx, .long ck])), (ma0, .inl (km0, 100, .inl th)), (ma1, .inl (km1, 100, .inr (.inl tm))), (ma2, .inl (km2, 100, .inl pr)), (ma3, .inl (km3, 100, .inl ag)), (ao, .inl (k4, 1, .inr (.inl ou)))]) [5, 6, 7, 8, 9, 0, 1, 2, 3, 4, 10] rfl
  have hD := hD.sub (ws' := [(xh, .inr (0, [.ref xa0, .ref xa1, .ref xa2, .ref xa3, .long ck, .int nx])), (xa0, .inl (kx0, 100, .inl th)), (xa1, .inl (kx1, 100, .inr (.inl tm))), (xa2, .inl (kx2, 100, .inl pr)), (xa3, .inl (kx3, 100, .inl ag)), (mh, .inr (1, [.int fl, .ref ma0, .ref ma1, .ref ma2, .ref ma3, .int nx, .long ck])), (ma0, .inl (km0, 100, .inl th)), (ma1, .inl (km1, 100, .inr (.inl tm))), (ma2, .inl (km2, 100, .inl pr)), (ma3, .inl (km3, 100, .inl ag)), (ao, .inl (k4, 1, .inr (.inl ou)))]) [5, 6, 7, 8, 9, 0, 1, 2, 3, 4, 10] (by decide) rfl
  refine lv_istore hx hb dL_law_519 hl (by decide) rfl (fun ls hl => ?_)
  have hl : lv_has ls 8 [(5, .int 1), (4, .int (nI i)), (0, .ref b), (1, .ref xh), (2, .ref mh), (3, .ref ao)] := hl
  refine lv_aload_n hx hb dL_law_521 rfl (lv_at hl 4 rfl) ?_
  refine lv_aload_n hx hb dL_law_522 rfl (lv_at hl 2 rfl) ?_
  refine lv_iload hx hb dL_law_523 (lv_at hl 1 rfl) ?_
  refine lv_iconst (v := 1) hx hb dL_law_525 (by decide) ?_
  refine lv_iadd hx hb dL_law_526 ?_
  refine va_sld hx hb hX hbl hbA hS (tw_sin1 hi hL) dL_law_527 ?_
  rw [e1]
  have hPc := hP.sub (ws' := (tw_wM mh ma0 ma1 ma2 ma3 km0 km1 km2 km3 fl th tm pr ag ck nx)) [5, 6, 7, 8, 9] rfl
  have hDc := hD.sub (ws' := (tw_wM mh ma0 ma1 ma2 ma3 km0 km1 km2 km3 fl th tm pr ag ck nx)) [5, 6, 7, 8, 9] (by decide) rfl
  have hKc := hK.sub (tys' := tw_k km0 km1 km2 km3) [4, 5, 6, 7] rfl
  have hFc := va_free (wc := (tw_wM mh ma0 ma1 ma2 ma3 km0 km1 km2 km3 fl th tm pr ag ck nx)) hD hS hA [5, 6, 7, 8, 9] rfl
  refine va_calll (va_runV (C := RM) (b := mh) (As := [.int j1]) (rest := []) ⟨hx, hb, hml, hown, hT⟩ (cM_countB l dC dI mh ma0 ma1 ma2 ma3 km0 km1 km2 km3 fl th tm pr ag ck nx H.size j1 hbad) (cwV 1 hT (tw_gV tt_288 tt_289 tt_290 tt_2 tt_291) rfl rfl rfl ⟨rfl, by decide +kernel⟩ ⟨Nat.le_of_ble_eq_true rfl, Nat.le_of_ble_eq_true rfl⟩) ⟨fun a U g mk q => by obtain ⟨q0, q1, qP, qK, qD⟩ := q; exact ⟨q0, q1, qP, va_K.moved (u := U) (U := U.calling g mk a) (Vm.Alike.refl U.vm) qK, qD⟩, va_recv (q0 := 0) (ci := 1) hKc hPc rfl rfl, fun U hU hW => ⟨rfl, by rw [hU], by rw [hU]; exact hPc, va_K.moved hW.alike hKc, hDc.weaken (fun _ _ _ _ => trivial)⟩⟩ rfl rfl hl.1 rfl (lv_room (Nat.le_of_ble_eq_true rfl)) dL_law_528 hc) hS (fun q _ h => hFc q h) hFc (fun r9 u9 t9 H1 locs ht9 hvm9 hw9 hB9 hz9 hk9 hS => ?_)
  obtain ⟨hP1, hD1⟩ := hB9
  rw [ht9] at hP1
  have hw9 : r9 = 0 := hw9
  subst r9
  obtain ⟨hP, hD⟩ := va_join (wr := [(xh, .inr (0, [.ref xa0, .ref xa1, .ref xa2, .ref xa3, .long ck, .int nx])), (xa0, .inl (kx0, 100, .inl th)), (xa1, .inl (kx1, 100, .inr (.inl tm))), (xa2, .inl (kx2, 100, .inl pr)), (xa3, .inl (kx3, 100, .inl ag)), (ao, .inl (k4, 1, .inr (.inl ou)))]) (w1 := (tw_wM mh ma0 ma1 ma2 ma3 km0 km1 km2 km3 1 th tm pr ag ck nx)) hP hD [5, 6, 7, 8, 9] [0, 1, 2, 3, 4, 10] rfl rfl (by decide) (by decide) hk9 hFc hP1 hD1
  generalize H1 = H at hP hS ⊢
  have hP := hP.sub (ws' := [(xh, .inr (0, [.ref xa0, .ref xa1, .ref xa2, .ref xa3, .long ck, .int nx])), (xa0, .inl (kx0, 100, .inl th)), (xa1, .inl (kx1, 100, .inr (.inl tm))), (xa2, .inl (kx2, 100, .inl pr)), (xa3, .inl (kx3, 100, .inl ag)), (mh, .inr (1, [.int 1, .ref ma0, .ref ma1, .ref ma2, .ref ma3, .int nx, .long ck])), (ma0, .inl (km0, 100, .inl th)), (ma1, .inl (km1, 100, .inr (.inl tm))), (ma2, .inl (km2, 100, .inl pr)), (ma3, .inl (km3, 100, .inl ag)), (ao, .inl (k4, 1, .inr (.inl ou)))]) [0, 1, 2, 3, 4, 6, 7, 8, 9, 10, 5] rfl
  have hD := hD.sub (ws' := [(xh, .inr (0, [.ref xa0, .ref xa1, .ref xa2, .ref xa3, .long ck, .int nx])), (xa0, .inl (kx0, 100, .inl th)), (xa1, .inl (kx1, 100, .inr (.inl tm))), (xa2, .inl (kx2, 100, .inl pr)), (xa3, .inl (kx3, 100, .inl ag)), (mh, .inr (1, [.int 1, .ref ma0, .ref ma1, .ref ma2, .ref ma3, .int nx, .long ck])), (ma0, .inl (km0, 100, .inl th)), (ma1, .inl (km1, 100, .inr (.inl tm))), (ma2, .inl (km2, 100, .inl pr)), (ma3, .inl (km3, 100, .inl ag)), (ao, .inl (k4, 1, .inr (.inl ou)))]) [0, 1, 2, 3, 4, 6, 7, 8, 9, 10, 5] (by decide) rfl
  refine lv_lstore hx hb dL_law_531 hl (by decide) rfl (fun ls hl => ?_)
  have hl : lv_has ls 8 [(6, .long 0), (5, .int 1), (4, .int (nI i)), (0, .ref b), (1, .ref xh), (2, .ref mh), (3, .ref ao)] := hl
  refine lv_aload_n hx hb dL_law_533 rfl (lv_at hl 5 rfl) ?_
  have hPc := hP.sub (ws' := (tw_wM mh ma0 ma1 ma2 ma3 km0 km1 km2 km3 1 th tm pr ag ck nx)) [5, 6, 7, 8, 9] rfl
  have hKc := hK.sub (tys' := tw_k km0 km1 km2 km3) [4, 5, 6, 7] rfl
  refine vp_callSi (W.runV (C := RM) (b := mh) (As := []) (rest := []) ⟨hx, hb, hml, hown, hT⟩ (cM_thrown l dC dI mh ma0 ma1 ma2 ma3 km0 km1 km2 km3 1 th tm pr ag ck nx) (cwV 0 hT (tw_gV tt_239 tt_240 tt_241 tt_2 tt_242) rfl rfl rfl ⟨rfl, by decide +kernel⟩ ⟨Nat.le_of_ble_eq_true rfl, Nat.le_of_ble_eq_true rfl⟩) ⟨fun a U g mk q => ⟨q.1, q.2.1, va_K.moved (u := U) (U := U.calling g mk a) (Vm.Alike.refl U.vm) q.2.2⟩, va_recv (q0 := 0) (ci := 1) hKc hPc rfl rfl, fun U hU hW => ⟨rfl, by rw [hU]; exact hPc, va_K.moved hW.alike hKc⟩⟩ rfl rfl hl.1 rfl (lv_room (Nat.le_of_ble_eq_true rfl)) dL_law_534 hc) (fun r8 h8 => ?_)
  subst r8
  refine lv_iload hx hb dL_law_537 (lv_at hl 1 rfl) ?_
  refine lv_icmp_eq (tgt := 544) hx hb dL_law_539 (by decide) (fun hc1 => ?_) (fun hc1 => absurd (rfl : (1 : Int32) = 1) hc1)
  refine lv_iload hx hb dL_law_544 (lv_at hl 1 rfl) ?_
  refine lv_if_ne (tgt := 560) hx hb dL_law_546 (by decide) (fun hc2 => ?_) (fun hc2 => absurd hc2 (by decide))
  refine lv_goto (tgt := 563) hx hb dL_law_560 (by decide) ?_
  exact kk 1 th tm pr ag ck nx ou H _ ls hI hP hD hS (lv_sub hl [2, 3, 4, 5, 6] rfl)
end LLcountB
