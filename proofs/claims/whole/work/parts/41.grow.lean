/-! THE CONSTRUCTORS: the heap grows towards the layout -/
def hq (n : Nat) (gr : Nat → Nat → Option Nat) (gi : GI) : BcH := ((n, SH), gr, gi)
def sR (gr : Nat → Nat → Option Nat) (a j kv : Nat) : Nat → Nat → Option Nat := va_up gr a (va_up (gr a) j (some kv))
/-- blank from n on -/
def Bl (n : Nat) (gr : Nat → Nat → Option Nat) (gi : GI) : Prop := ∀ k, n ≤ k → gr k = (fun _ => none) ∧ gi k = (fun _ => 0)
/-- the ints that the constructors leave -/
def tb0 (i : Nat) : Int32 := if i < 16 then (if i / 4 = i % 4 then 0 else 5) else 0
def I0 (k : Nat) : Nat → Int32 := fun j =>
  if k = 336 then (if j < 2 then 10 else if 15 ≤ j ∧ j < 31 then tb0 (j - 15) else 0)
  else if (SH k).1 = 7 then (if j = 2 ∨ j = 3 then -1 else 0)
  else if (SH k) = (20, 16) then tb0 j
  else if (SH k) = (20, 2) then (if j < 2 then 10 else 0)
  else 0
section GQ
variable {G : BcG} {M M' : BcM} {KQ : BcK} {gr : Nat → Nat → Option Nat} {gi : GI} {k n pc m : Nat} {ls ls' : List (Option Value)} {st : List Value} {x y : Int32}
theorem nw_eqv {sh : Nat × Nat} (hs : SH m = sh) (hb : Bl m gr gi) (kk : BGo G M KQ (hq (m + 1) gr gi) k n pc ls st) : BGo G M KQ (bc_nw (hq m gr gi) sh) k n pc ls st := by
  refine go_eqv (h2 := hq (m + 1) gr gi) rfl (fun a ha => ?_) kk
  have ha' : a < m + 1 := ha
  by_cases e : a = m
  · subst e
    obtain ⟨b1, b2⟩ := hb a (Nat.le_refl _)
    show bc_ce G (SH a) (gr a) (gi a) = bc_ce G (va_up SH a sh a) (va_up gr a (fun _ => none) a) (va_up gi a (fun _ => 0) a)
    rw [hs, b1, b2]
    simp [va_up]
  · show bc_ce G (SH a) (gr a) (gi a) = bc_ce G (va_up SH m sh a) (va_up gr m (fun _ => none) a) (va_up gi m (fun _ => 0) a)
    simp [va_up, e]
theorem sR_eq (gr : Nat → Nat → Option Nat) (a j kv : Nat) : sR gr a j kv a j = some kv := by simp [sR, va_up]
theorem sR_ne {gr : Nat → Nat → Option Nat} {a j kv b i : Nat} (h : b ≠ a ∨ i ≠ j) : sR gr a j kv b i = gr b i := by
  unfold sR va_up
  by_cases e : b = a
  · subst e
    rcases h with h | h
    · exact absurd rfl h
    · simp [h]
  · simp [e]
theorem sR_row {gr : Nat → Nat → Option Nat} {a j kv b : Nat} (h : b ≠ a) : sR gr a j kv b = gr b := by simp [sR, va_up, h]
theorem Bl.sR {n a j kv : Nat} (h : Bl n gr gi) (ha : a < n) : Bl n (sR gr a j kv) gi := fun k hk => by
  obtain ⟨h1, h2⟩ := h k hk
  exact ⟨by rw [sR_row (by omega)]; exact h1, h2⟩
theorem Bl.wI {n a j : Nat} {v : Int32} (h : Bl n gr gi) (ha : a < n) : Bl n gr (wI gi a j v) := fun k hk => by
  obtain ⟨h1, h2⟩ := h k hk
  exact ⟨h1, by rw [wI_row (by omega)]; exact h2⟩
theorem Bl.up {n m : Nat} (h : Bl n gr gi) (hm : n ≤ m) : Bl m gr gi := fun k hk => h k (by omega)
end GQ
