/-! The picture of the timers, for the class and for the reference alike: th (is it there), tm (TIME), pr (PRIORITY), ag (AGE), each by its place; ck the CLOCK. -/
def tw_due (th : Nat → Int32) (tm : Nat → Int64) (ck : Int64) (i : Int32) : Bool := decide (¬ th i.toNatClampNeg = 0) && decide (tm i.toNatClampNeg ≤ ck)
def tw_bef (tm : Nat → Int64) (pr ag : Nat → Int32) (a b : Int32) : Bool :=
  if tm a.toNatClampNeg = tm b.toNatClampNeg then (if pr a.toNatClampNeg = pr b.toNatClampNeg then decide (ag a.toNatClampNeg < ag b.toNatClampNeg) else decide (pr b.toNatClampNeg < pr a.toNatClampNeg)) else decide (tm a.toNatClampNeg < tm b.toNatClampNeg)
def tw_first (th : Nat → Int32) (tm : Nat → Int64) (pr ag : Nat → Int32) (ck : Int64) : Nat → Int32
  | 0 => -1
  | n + 1 => if tw_due th tm ck (nI n) = true ∧ (tw_first th tm pr ag ck n = -1 ∨ tw_bef tm pr ag (nI n) (tw_first th tm pr ag ck n) = true) then nI n else tw_first th tm pr ag ck n
def tw_least (th : Nat → Int32) (tm : Nat → Int64) (ck : Int64) : Nat → Int64
  | 0 => -1
  | n + 1 => if ¬ th (nI n).toNatClampNeg = 0 ∧ ck < tm (nI n).toNatClampNeg ∧ (tw_least th tm ck n = -1 ∨ tm (nI n).toNatClampNeg < tw_least th tm ck n) then tm (nI n).toNatClampNeg else tw_least th tm ck n
def tw_dues (th : Nat → Int32) (tm : Nat → Int64) (ck : Int64) : Nat → Int32
  | 0 => 0
  | n + 1 => if tw_due th tm ck (nI n) = true then tw_dues th tm ck n + 1 else tw_dues th tm ck n
def tw_ther (th : Nat → Int32) : Nat → Int32
  | 0 => 0
  | n + 1 => if th (nI n).toNatClampNeg = 0 then tw_ther th n else tw_ther th n + 1
theorem tw_first_in (th : Nat → Int32) (tm : Nat → Int64) (pr ag : Nat → Int32) (ck : Int64) : ∀ n : Nat, tw_first th tm pr ag ck n = -1 ∨ ∃ k : Nat, k < n ∧ tw_first th tm pr ag ck n = nI k
  | 0 => Or.inl rfl
  | n + 1 => by
    rcases tw_first_in th tm pr ag ck n with h | ⟨k, hk, h⟩
    · simp only [tw_first]
      split
      · exact Or.inr ⟨n, by omega, rfl⟩
      · exact Or.inl h
    · simp only [tw_first]
      split
      · exact Or.inr ⟨n, by omega, rfl⟩
      · exact Or.inr ⟨k, by omega, h⟩
theorem tw_least_in {th : Nat → Int32} {tm : Nat → Int64} {ck : Int64} (h0 : ∀ k : Nat, 0 ≤ tm k) : ∀ n : Nat, tw_least th tm ck n = -1 ∨ (0 ≤ tw_least th tm ck n ∧ ∃ k : Nat, tw_least th tm ck n = tm k)
  | 0 => Or.inl rfl
  | n + 1 => by
    simp only [tw_least]
    split
    · exact Or.inr ⟨h0 _, _, rfl⟩
    · exact tw_least_in h0 n
theorem tw_m1 {x : Int64} (h : x = -1 ∨ 0 ≤ x) : x = -1 ↔ x < 0 := by
  constructor
  · intro e
    rw [e]; decide
  · intro e
    rcases h with h | h
    · exact h
    · exact absurd e (Int64.not_lt.mpr h)
theorem tw_in100 {k : Nat} (h : k < 100) : vp_in (nI k) 100 := vp_in_nI h (by decide)
theorem tw_due_t {th : Nat → Int32} {tm : Nat → Int64} {ck : Int64} {i : Int32} (h1 : ¬ th i.toNatClampNeg = 0) (h2 : tm i.toNatClampNeg ≤ ck) : tw_due th tm ck i = true := by simp [tw_due, h1, h2]
theorem tw_due_f1 {th : Nat → Int32} {tm : Nat → Int64} {ck : Int64} {i : Int32} (h1 : th i.toNatClampNeg = 0) : tw_due th tm ck i = false := by simp [tw_due, h1]
theorem tw_due_f2 {th : Nat → Int32} {tm : Nat → Int64} {ck : Int64} {i : Int32} (h2 : ¬ tm i.toNatClampNeg ≤ ck) : tw_due th tm ck i = false := by simp [tw_due, h2]
def tw_bz (b : Bool) : Int32 := if b = true then 1 else 0
theorem tw_bz0 {b : Bool} (h : tw_bz b = 0) : b = false := by cases b with | false => rfl | true => exact absurd h (by decide)
theorem tw_bz1 {b : Bool} (h : ¬ tw_bz b = 0) : b = true := by cases b with | true => rfl | false => exact absurd rfl h
theorem xt_tableOf {l : List ExceptionTableEntry} {hh : List (Nat × Nat × Nat × Nat)} (h : l.map (fun h => (h.startPc, h.endPc, h.handlerPc, h.catchType)) = hh) : l = tableOf hh := by
  subst hh
  unfold tableOf
  rw [List.map_map]
  exact (List.map_id'' (fun _ => rfl) l).symm
