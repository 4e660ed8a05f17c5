/-! THE CLAIM OUT OF ONE WALK OF THE LAW'S BODY. Your part is whole_start (and what it stands on); all else here is the same for every law, but numbers. -/
def R_law : String := "TimerWheelsLaw"
def lw_P (b : Addr) (xs : List Int32) (args : Array Value) (s : State) : Prop := args = #[.ref b] ∧ s.IntsAt b xs ∧ xs.length ≤ 2560 ∧ (Jvm.Cond.and given_1 narrow_1).before args s = true
def lw_Q (_ : Array Value) (s : State) (o : Outcome) (t : State) : Prop := o = .returned (some (.int 1)) ∧ Framed s o t [] 1044 9060
def lw_Z (below : List Frame) (a : Array Value) (s : State) : State → Prop := fun t => ∃ o, t.status = .running ∧ Ended t below o ∧ lw_Q a s o t
/-- the law's own end, with 1 on the stack, nothing written that was there before, its room as the claim has it -/
theorem lw_ret {p : Program} {l : Launch} {e : Env} {s : State} {m : MethodId} {below : List Frame} {meth : Method} {c : Code} {b : Nat} (hx : p.tables.exec = Jvm.exec) (hb : c.code = code) (hr : meth.sig.returnType = ret) (hlocks : meth.locks = false) {pc : Nat} {H : Heap} {ls : Array Slot} (hdg : decode code pc = .ok (.ireturn, 1)) : W p l e room_1 s m #[Value.ref b] below meth c H [] 1044 9060 (lw_Z below #[Value.ref b] s) (F0 m pc ls [.int 1]) := by
  intro T hT X
  obtain ⟨fs, hret, hrun, hended, hW, hframe⟩ := X.leave (v := some (.int 1)) (hlocks := hlocks) (fun h => by rw [hr] at h; cases h)
  have hmeth' : T.vm.method? m = some meth := X.method'
  refine ⟨T.setFrames fs, ?_, .returned (some (.int 1)), hrun, hended, rfl, ⟨_, rfl⟩, hW, hframe⟩
  jvm_step X.here [X.here.top, hx, hb, hdg, hmeth', hr, ret, narrow_b1]
  (try refine ⟨rfl, ?_⟩); (try refine ⟨rfl, ?_⟩)
  first | (intro acts; rw [hret _ acts rfl rfl rfl]) | rw [hret _ _ rfl rfl rfl]
  exact Steps.refl _
/-- what holds at the law's entry: the machine, the code, the tables' words (any of lw_tbl by 'hts w (by decide +kernel)'), the script of L ints xs at the cell b, what the Statement gives of the start (any of its parts by flat_of_before) -/
def lw_At (p : Program) (s : State) (m : MethodId) (meth : Method) (c : Code) (b L : Nat) (xs : Nat → Int32) : Prop :=
  p.tables.exec = Jvm.exec ∧ c.code = code ∧ meth.sig.returnType = ret ∧ c.maxLocals = 8 ∧ s.vm.findClass R_law = some m.cls ∧ (∀ w ∈ lw_tbl, w.before #[Value.ref b] s = true) ∧ va_X b L xs s s.heap ∧ b < s.heap.size ∧ meth.locks = false ∧ (Jvm.Cond.and given_1 narrow_1).before #[Value.ref b] s = true

theorem tw_gt {i L : Nat} (hi : i ≤ 2564) (hL : L ≤ 2560) (h : L < i + 5) : nI i > Int32.ofNat L - 5 := by
  show Int32.ofNat L - 5 < nI i
  rw [Int32.lt_iff_toInt_lt, nI_toInt (by omega)]
  have e := pk_sub_toInt (a := L) (b := 5) (by omega) (by omega)
  have e : (Int32.ofNat L - 5).toInt = (L : Int) - (5 : Nat) := e
  rw [e]
  omega
theorem tw_ngt {i L : Nat} (hi : i ≤ 2564) (hL : L ≤ 2560) (h : i + 5 ≤ L) : ¬ nI i > Int32.ofNat L - 5 := by
  show ¬ Int32.ofNat L - 5 < nI i
  rw [Int32.lt_iff_toInt_lt, nI_toInt (by omega)]
  have e := pk_sub_toInt (a := L) (b := 5) (by omega) (by omega)
  have e : (Int32.ofNat L - 5).toInt = (L : Int) - (5 : Nat) := e
  rw [e]
  omega
theorem tw_k4 {k : Int32} (h1 : ¬ k < 0) (h2 : k ≤ 3) : k = 0 ∨ k = 1 ∨ k = 2 ∨ k = 3 := by
  obtain ⟨j, hj, rfl⟩ := nI_of2 (M := 3) (n := 3) (by decide) h1 h2
  rcases (show j = 0 ∨ j = 1 ∨ j = 2 ∨ j = 3 by omega) with rfl | rfl | rfl | rfl
  · exact Or.inl rfl
  · exact Or.inr (Or.inl rfl)
  · exact Or.inr (Or.inr (Or.inl rfl))
  · exact Or.inr (Or.inr (Or.inr rfl))
theorem tw_k3 {k : Int32} (h : ¬ (k.toInt < 0 ∨ 2 < k.toInt)) : k = 0 ∨ k = 1 ∨ k = 2 := by
  have h1 : ¬ k < 0 := by
    rw [Int32.lt_iff_toInt_lt]
    show ¬ k.toInt < 0
    omega
  have h2 : k ≤ 2 := by
    rw [Int32.le_iff_toInt_le]
    show k.toInt ≤ 2
    omega
  obtain ⟨j, hj, rfl⟩ := nI_of2 (M := 2) (n := 2) (by decide) h1 h2
  rcases (show j = 0 ∨ j = 1 ∨ j = 2 by omega) with rfl | rfl | rfl
  · exact Or.inl rfl
  · exact Or.inr (Or.inl rfl)
  · exact Or.inr (Or.inr rfl)
section LWX
variable {p : Program} {l : Launch} {e : Env} {s : State} {m : MethodId} {below : List Frame} {meth : Method} {c : Code} {H : Heap} {locs : List Loc} {cells slots : Nat} {Q : State → Prop} {ls : Array Slot} {b L i : Nat} {xs : Nat → Int32}
variable {dC : Nat → ClassId} {dI : Nat → Nat → Nat} {xh xa0 xa1 xa2 xa3 : Nat} {kx0 kx1 kx2 kx3 : ClassId} {mh ma0 ma1 ma2 ma3 : Nat} {km0 km1 km2 km3 : ClassId} {ao : Nat} {k4 : ClassId} {fl : Int32} {th : Nat → Int32} {tm : Nat → Int64} {pr ag : Nat → Int32} {ck : Int64} {nx : Int32} {ou : Nat → Int64}
set_option maxHeartbeats 4000000 in
set_option maxRecDepth 100000 in
theorem ll_exit (hx : p.tables.exec = Jvm.exec) (hb : c.code = bL_law) (hml : c.maxLocals = 8) (hr : meth.sig.returnType = ret) (hlocks : meth.locks = false) (hX : va_X b L xs s s.heap) (hbl : b < s.heap.size) (hL : L ≤ 2560) (hib : i ≤ 2564) (hi : L < i + 5) (hc : cells ≤ 1044 ∧ slots ≤ 9060) (hS : va_S (tw_AL s) s.heap H locs) (hl : lv_has ls 8 [(4, .int (nI i)), (0, .ref b), (1, .ref xh), (2, .ref mh), (3, .ref ao)]) : W p l e room_1 s m #[Value.ref b] below meth c H locs cells slots (lw_Z below #[Value.ref b] s) (F0 m 23 ls []) := by
  have hbA : ¬ tw_AL s b := Nat.not_le.mpr hbl
  refine lv_iload hx hb dL_law_23 (lv_at hl 0 rfl) ?_
  refine lv_aload_n hx hb dL_law_25 rfl (lv_at hl 1 rfl) ?_
  refine va_slen hx hb hX hbl hbA hS dL_law_26 ?_
  refine lv_iconst (v := 5) hx hb dL_law_27 (by decide) ?_
  refine lv_isub hx hb dL_law_28 ?_
  refine lv_icmp_gt (tgt := 569) hx hb dL_law_29 (by decide) (fun hc1 => ?_) (fun hc1 => absurd (tw_gt hib hL hi) hc1)
  refine lv_iconst (v := 1) hx hb dL_law_569 (by decide) ?_
  refine va_forget (fun q hq => hS.2.2 q hq) ?_
  refine W.widen (k := 1044) (n := 9060) hc.1 hc.2 ?_
  exact lw_ret hx hb hr hlocks dL_law_570
end LWX
section LWH
variable {p : Program} {l : Launch} {e : Env} {s : State} {m : MethodId} {below : List Frame} {meth : Method} {c : Code} {H : Heap} {locs : List Loc} {cells slots : Nat} {Q : State → Prop} {ls : Array Slot} {b L i : Nat} {xs : Nat → Int32}
variable {dC : Nat → ClassId} {dI : Nat → Nat → Nat} {xh xa0 xa1 xa2 xa3 : Nat} {kx0 kx1 kx2 kx3 : ClassId} {mh ma0 ma1 ma2 ma3 : Nat} {km0 km1 km2 km3 : ClassId} {ao : Nat} {k4 : ClassId} {fl : Int32} {th : Nat → Int32} {tm : Nat → Int64} {pr ag : Nat → Int32} {ck : Int64} {nx : Int32} {ou : Nat → Int64}
set_option maxHeartbeats 4000000 in
set_option maxRecDepth 100000 in
theorem ll_head (hx : p.tables.exec = Jvm.exec) (hb : c.code = bL_law) (hml : c.maxLocals = 8) (hX : va_X b L xs s s.heap) (hbl : b < s.heap.size) (hL : L ≤ 2560) (hi : i + 5 ≤ L) (hS : va_S (tw_AL s) s.heap H locs) (hl : lv_has ls 8 [(4, .int (nI i)), (0, .ref b), (1, .ref xh), (2, .ref mh), (3, .ref ao)]) (kk : W p l e room_1 s m #[Value.ref b] below meth c H locs cells slots (lw_Z below #[Value.ref b] s) (F0 m 39 ls [.int (xs (nI i).toNatClampNeg &&& 7)])) : W p l e room_1 s m #[Value.ref b] below meth c H locs cells slots (lw_Z below #[Value.ref b] s) (F0 m 23 ls []) := by
  have hbA : ¬ tw_AL s b := Nat.not_le.mpr hbl
  refine lv_iload hx hb dL_law_23 (lv_at hl 0 rfl) ?_
  refine lv_aload_n hx hb dL_law_25 rfl (lv_at hl 1 rfl) ?_
  refine va_slen hx hb hX hbl hbA hS dL_law_26 ?_
  refine lv_iconst (v := 5) hx hb dL_law_27 (by decide) ?_
  refine lv_isub hx hb dL_law_28 ?_
  refine lv_icmp_gt (tgt := 569) hx hb dL_law_29 (by decide) (fun hc1 => absurd hc1 (tw_ngt (by omega) hL hi)) (fun hc1 => ?_)
  refine lv_aload_n hx hb dL_law_32 rfl (lv_at hl 1 rfl) ?_
  refine lv_iload hx hb dL_law_33 (lv_at hl 0 rfl) ?_
  refine va_sld hx hb hX hbl hbA hS (vp_in_nI (by omega) (by omega)) dL_law_35 ?_
  refine lv_bipush (v := 7) hx hb dL_law_36 (by decide) ?_
  refine lv_iand hx hb dL_law_38 ?_
  exact kk
end LWH
section LWL
variable {p : Program} {l : Launch} {e : Env} {s : State} {m : MethodId} {below : List Frame} {meth : Method} {c : Code} {b L : Nat} {xs : Nat → Int32}
variable {dC : Nat → ClassId} {dI : Nat → Nat → Nat} {xh xa0 xa1 xa2 xa3 : Nat} {kx0 kx1 kx2 kx3 : ClassId} {mh ma0 ma1 ma2 ma3 : Nat} {km0 km1 km2 km3 : ClassId} {ao : Nat} {k4 : ClassId}
set_option maxHeartbeats 4000000 in
set_option maxRecDepth 100000 in
theorem lp_law (hx : p.tables.exec = Jvm.exec) (hb : c.code = bL_law) (hml : c.maxLocals = 8) (hr : meth.sig.returnType = ret) (hlocks : meth.locks = false) (hT : ∀ w ∈ tw_T, w.before #[Value.ref b] s = true) (hown : s.vm.findClass RL = some m.cls) (hfl : l.flags = pinnedFlags ++ [noTraceFlag]) (hX : va_X b L xs s s.heap) (hbl : b < s.heap.size) (hZ : tw_Z s s.heap) (hNc : va_Nc tw_nse tw_iae s) (hL : L ≤ 2560) (hK : va_K (dC, dI) tw_cl (tw_kL kx0 kx1 kx2 kx3 km0 km1 km2 km3 k4) s) : ∀ (k i : Nat), L ≤ i + 5 * k + 4 → i ≤ 2564 → ∀ (fl : Int32) (th : Nat → Int32) (tm : Nat → Int64) (pr ag : Nat → Int32) (ck : Int64) (nx : Int32) (ou : Nat → Int64) (H : Heap) (locs : List Loc) (ls : Array Slot) (cells slots : Nat), cells + k ≤ 1044 → slots + 6 * k ≤ 9060 → tw_Inv tm ck → va_P (dC, dI) tw_cl (tw_wL xh xa0 xa1 xa2 xa3 kx0 kx1 kx2 kx3 mh ma0 ma1 ma2 ma3 km0 km1 km2 km3 ao k4 fl th tm pr ag ck nx ou) H → va_D (tw_AL s) (tw_wL xh xa0 xa1 xa2 xa3 kx0 kx1 kx2 kx3 mh ma0 ma1 ma2 ma3 km0 km1 km2 km3 ao k4 fl th tm pr ag ck nx ou) → va_S (tw_AL s) s.heap H locs → lv_has ls 8 [(4, .int (nI i)), (0, .ref b), (1, .ref xh), (2, .ref mh), (3, .ref ao)] → W p l e room_1 s m #[Value.ref b] below meth c H locs cells slots (lw_Z below #[Value.ref b] s) (F0 m 23 ls []) := by
  intro k
  induction k with
  | zero =>
    intro i hi hib fl th tm pr ag ck nx ou H locs ls cells slots hc hs hI hP hD hS hl
    exact ll_exit hx hb hml hr hlocks hX hbl hL hib (by omega) ⟨by omega, by omega⟩ hS hl
  | succ k ih =>
    intro i hi0 hib fl th tm pr ag ck nx ou H locs ls cells slots hc0 hs0 hI hP hD hS hl
    by_cases hi : i + 5 ≤ L
    case neg => exact ll_exit hx hb hml hr hlocks hX hbl hL hib (by omega) ⟨by omega, by omega⟩ hS hl
    have hc : cells + 1 ≤ 1044 ∧ slots + 6 ≤ 9060 := ⟨by omega, by omega⟩
    have kk : ∀ (fl' : Int32) (th' : Nat → Int32) (tm' : Nat → Int64) (pr' ag' : Nat → Int32) (ck' : Int64) (nx' : Int32) (ou' : Nat → Int64) (H' : Heap) (locs' : List Loc) (ls' : Array Slot), tw_Inv tm' ck' → va_P (dC, dI) tw_cl (tw_wL xh xa0 xa1 xa2 xa3 kx0 kx1 kx2 kx3 mh ma0 ma1 ma2 ma3 km0 km1 km2 km3 ao k4 fl' (th') (tm') (pr') (ag') (ck') (nx') (ou')) H' → va_D (tw_AL s) (tw_wL xh xa0 xa1 xa2 xa3 kx0 kx1 kx2 kx3 mh ma0 ma1 ma2 ma3 km0 km1 km2 km3 ao k4 (fl') (th') (tm') (pr') (ag') (ck') (nx') (ou')) → va_S (tw_AL s) s.heap H' locs' → lv_has ls' 8 [(4, .int (nI i)), (0, .ref b), (1, .ref xh), (2, .ref mh), (3, .ref ao)] → W p l e room_1 s m #[Value.ref b] below meth c H' locs' (cells + 1) (slots + 6) (lw_Z below #[Value.ref b] s) (F0 m 563 ls' []) := by
      intro fl' th' tm' pr' ag' ck' nx' ou' H' locs' ls' hI' hP' hD' hS' hl'
      refine lv_iinc (k := 0) (v := nI (i + 5)) hx hb dL_law_563 hl' rfl (by rw [show Int32.ofInt 5 = nI 5 from rfl, nI_add]) (by decide) rfl (fun ls2 hl2 => ?_)
      refine lv_goto (tgt := 23) hx hb dL_law_566 (by decide) ?_
      exact ih (i + 5) (by omega) (by omega) fl' th' tm' pr' ag' ck' nx' ou' H' locs' ls2 (cells + 1) (slots + 6) (by omega) (by omega) hI' hP' hD' hS' hl2
    refine ll_head hx hb hml hX hbl hL hi hS hl ?_
    obtain ⟨v, hv, he⟩ := pk_andE (xs (nI i).toNatClampNeg) (m := 7) 3 (by decide)
    rcases (show v = 0 ∨ v = 1 ∨ v = 2 ∨ v = 3 ∨ v = 4 ∨ v = 5 ∨ v = 6 ∨ v = 7 by omega) with rfl | rfl | rfl | rfl | rfl | rfl | rfl | rfl
    · refine W.eq (g2 := F0 m 39 ls [.int (nI 0)]) (by rw [he]) ?_
      refine lv_tableIn (off := 45) (tgt := 84) hx hb dL_law_39 (by decide) (by decide) (by decide +kernel) (by decide) ?_
      by_cases hv2 : vp_in (xs (nI i + 1).toNatClampNeg) 100 ∧ 0 ≤ ((xs (nI i + 2).toNatClampNeg).toInt64 <<< ((32 : Int32).toInt64 &&& 63)) ||| ((xs (nI i + 3).toNatClampNeg).toInt64 &&& 4294967295) ∧ ((xs (nI i + 2).toNatClampNeg).toInt64 <<< ((32 : Int32).toInt64 &&& 63)) ||| ((xs (nI i + 3).toNatClampNeg).toInt64 &&& 4294967295) ≤ 70368744177664
      · exact ll_set hx hb hml hT hown hfl hX hbl hZ hNc hL hi hc hI hP hD hK hS hl rfl rfl rfl rfl hv2.1 hv2.2.1 hv2.2.2 kk
      · exact ll_setB hx hb hml hT hown hfl hX hbl hZ hNc hL hi hc hI hP hD hK hS hl rfl rfl rfl rfl hv2 kk
    · refine W.eq (g2 := F0 m 39 ls [.int (nI 1)]) (by rw [he]) ?_
      refine lv_tableIn (off := 157) (tgt := 196) hx hb dL_law_39 (by decide) (by decide) (by decide +kernel) (by decide) ?_
      by_cases hj : vp_in (xs (nI i + 1).toNatClampNeg) 100
      · by_cases ht : th (xs (nI i + 1).toNatClampNeg).toNatClampNeg = 0
        · exact ll_dropN hx hb hml hT hown hfl hX hbl hZ hNc hL hi hc hI hP hD hK hS hl rfl hj ht kk
        · exact ll_drop hx hb hml hT hown hfl hX hbl hZ hNc hL hi hc hI hP hD hK hS hl rfl hj ht kk
      · exact ll_dropA hx hb hml hT hown hfl hX hbl hZ hNc hL hi hc hI hP hD hK hS hl rfl hj kk
    · refine W.eq (g2 := F0 m 39 ls [.int (nI 2)]) (by rw [he]) ?_
      refine lv_tableIn (off := 212) (tgt := 251) hx hb dL_law_39 (by decide) (by decide) (by decide +kernel) (by decide) ?_
      by_cases hf : tw_first th tm pr ag ck 100 = -1
      · exact ll_takeB hx hb hml hT hown hfl hX hbl hZ hNc hL hi hc hI hP hD hK hS hl hf kk
      · exact ll_take hx hb hml hT hown hfl hX hbl hZ hNc hL hi hc hI hP hD hK hS hl hf kk
    · refine W.eq (g2 := F0 m 39 ls [.int (nI 3)]) (by rw [he]) ?_
      refine lv_tableIn (off := 256) (tgt := 295) hx hb dL_law_39 (by decide) (by decide) (by decide +kernel) (by decide) ?_
      exact ll_least hx hb hml hT hown hfl hX hbl hZ hNc hL hi hc hI hP hD hK hS hl kk
    · refine W.eq (g2 := F0 m 39 ls [.int (nI 4)]) (by rw [he]) ?_
      refine lv_tableIn (off := 270) (tgt := 309) hx hb dL_law_39 (by decide) (by decide) (by decide +kernel) (by decide) ?_
      by_cases hv2 : 0 ≤ ((xs (nI i + 1).toNatClampNeg).toInt64 <<< ((32 : Int32).toInt64 &&& 63)) ||| ((xs (nI i + 2).toNatClampNeg).toInt64 &&& 4294967295) ∧ ((xs (nI i + 1).toNatClampNeg).toInt64 <<< ((32 : Int32).toInt64 &&& 63)) ||| ((xs (nI i + 2).toNatClampNeg).toInt64 &&& 4294967295) ≤ 17592186044416 ∧ ck + (((xs (nI i + 1).toNatClampNeg).toInt64 <<< ((32 : Int32).toInt64 &&& 63)) ||| ((xs (nI i + 2).toNatClampNeg).toInt64 &&& 4294967295)) ≤ 70368744177664
      · exact ll_go hx hb hml hT hown hfl hX hbl hZ hNc hL hi hc hI hP hD hK hS hl rfl rfl hv2.1 hv2.2.1 hv2.2.2 kk
      · exact ll_goB hx hb hml hT hown hfl hX hbl hZ hNc hL hi hc hI hP hD hK hS hl rfl rfl hv2 kk
    · refine W.eq (g2 := F0 m 39 ls [.int (nI 5)]) (by rw [he]) ?_
      refine lv_tableIn (off := 358) (tgt := 397) hx hb dL_law_39 (by decide) (by decide) (by decide +kernel) (by decide) ?_
      by_cases hf : tw_least th tm ck 100 = -1
      · exact ll_skipB hx hb hml hT hown hfl hX hbl hZ hNc hL hi hc hI hP hD hK hS hl hf kk
      · exact ll_skip hx hb hml hT hown hfl hX hbl hZ hNc hL hi hc hI hP hD hK hS hl hf kk
    · refine W.eq (g2 := F0 m 39 ls [.int (nI 6)]) (by rw [he]) ?_
      refine lv_tableIn (off := 402) (tgt := 441) hx hb dL_law_39 (by decide) (by decide) (by decide +kernel) (by decide) ?_
      by_cases hv2 : vp_in (xs (nI i + 1).toNatClampNeg) 100 ∧ ¬ xs (nI i + 2).toNatClampNeg < 0 ∧ xs (nI i + 2).toNatClampNeg ≤ 3
      · rcases tw_k4 hv2.2.1 hv2.2.2 with h | h | h | h
        · exact ll_timer0 hx hb hml hT hown hfl hX hbl hZ hNc hL hi hc hI hP hD hK hS hl rfl h hv2.1 kk
        · exact ll_timer1 hx hb hml hT hown hfl hX hbl hZ hNc hL hi hc hI hP hD hK hS hl rfl h hv2.1 kk
        · exact ll_timer2 hx hb hml hT hown hfl hX hbl hZ hNc hL hi hc hI hP hD hK hS hl rfl h hv2.1 kk
        · exact ll_timer3 hx hb hml hT hown hfl hX hbl hZ hNc hL hi hc hI hP hD hK hS hl rfl h hv2.1 kk
      · exact ll_timerB hx hb hml hT hown hfl hX hbl hZ hNc hL hi hc hI hP hD hK hS hl rfl rfl hv2 kk
    · refine W.eq (g2 := F0 m 39 ls [.int (nI 7)]) (by rw [he]) ?_
      refine lv_tableIn (off := 469) (tgt := 508) hx hb dL_law_39 (by decide) (by decide) (by decide +kernel) (by decide) ?_
      by_cases hv2 : (xs (nI i + 1).toNatClampNeg).toInt < 0 ∨ 2 < (xs (nI i + 1).toNatClampNeg).toInt
      · exact ll_countB hx hb hml hT hown hfl hX hbl hZ hNc hL hi hc hI hP hD hK hS hl rfl hv2 kk
      · rcases tw_k3 hv2 with h | h | h
        · exact ll_count0 hx hb hml hT hown hfl hX hbl hZ hNc hL hi hc hI hP hD hK hS hl h kk
        · exact ll_count1 hx hb hml hT hown hfl hX hbl hZ hNc hL hi hc hI hP hD hK hS hl h kk
        · exact ll_count2 hx hb hml hT hown hfl hX hbl hZ hNc hL hi hc hI hP hD hK hS hl h kk
end LWL
theorem tw_z1 : ∀ q ∈ tw_strs, Cond.stringRef RX q.1 q.2 ∈ lw_tbl := by decide +kernel
theorem tw_z2 : ∀ q ∈ tw_strs, Cond.exactly (.string RX q.1) "java/lang/String" ∈ flatC (Jvm.Cond.and given_1 narrow_1) := by decide +kernel
theorem tw_z3 : ∀ x ∈ tw_dec, Cond.declares x ∈ lw_tbl := by decide +kernel
theorem tw_z4 : Cond.castable tw_iae tw_iae ∈ lw_tbl ∧ Cond.castable tw_nse tw_nse ∈ lw_tbl ∧ Cond.laysStatic Bundle.tN "UNASSIGNED_STACK" Bundle.steD ∈ lw_tbl ∧ Cond.laysStatic Bundle.tN "SUPPRESSED_SENTINEL" Bundle.listD ∈ lw_tbl := by decide +kernel
theorem tw_z5 : Cond.isRef (.static Bundle.tN "UNASSIGNED_STACK" Bundle.steD) ∈ flatC (Jvm.Cond.and given_1 narrow_1) ∧ Cond.isRef (.static Bundle.tN "SUPPRESSED_SENTINEL" Bundle.listD) ∈ flatC (Jvm.Cond.and given_1 narrow_1) ∧ Cond.not (.castable tw_nse tw_iae) ∈ flatC (Jvm.Cond.and given_1 narrow_1) := by decide +kernel
theorem tw_Z0 {args : Array Value} {s : State} (hts : ∀ w ∈ lw_tbl, w.before args s = true) (hg : (Jvm.Cond.and given_1 narrow_1).before args s = true) : tw_Z s s.heap ∧ va_Nc tw_nse tw_iae s := by
  have hf := flat_of_before _ hg
  obtain ⟨a1, a2, a3, a4⟩ := tw_z4
  obtain ⟨b1, b2, b3⟩ := tw_z5
  refine ⟨⟨fun q hq => ?_, fun x hx => va_Nw.of rfl (hts _ (tw_z3 x hx)), va_Nw.of rfl (hts _ a1), va_Nw.of rfl (hts _ a2), xt_st.of (hts _ a3) (hf _ b1), xt_st.of (hts _ a4) (hf _ b2)⟩, va_Nc.of (hf _ b3)⟩
  obtain ⟨a, c, cell, k, h1, -⟩ := Cond.exactly_spec (hf _ (tw_z2 q hq))
  exact ⟨a, vk_R.of (hts _ (tw_z1 q hq)) h1⟩
