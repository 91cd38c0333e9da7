/-! THE CONSTRUCTORS: the reference -/
def MdI (i : Nat) (g0 gi : GI) : Prop := (∀ k, k ≠ 336 → gi k = g0 k) ∧ ∀ j, gi 336 j = if j < 2 then 10 else if 15 ≤ j ∧ j < 15 + i then tb0 (j - 15) else 0
theorem MdI_s {i : Nat} {g0 gi : GI} {v : Int32} (h : MdI i g0 gi) (hv : v = tb0 i) : MdI (i + 1) g0 (wI gi 336 (15 + i) v) := by
  refine ⟨fun k hk => by rw [wI_row hk]; exact h.1 k hk, fun j => ?_⟩
  by_cases e : j = 15 + i
  · subst e
    rw [wI_eq, if_neg (by omega), if_pos (by omega), hv, show 15 + i - 15 = i by omega]
  · rw [wI_ne (by omega), h.2 j]
    by_cases q : j < 2
    · rw [if_pos q, if_pos q]
    · rw [if_neg q, if_neg q]
      by_cases r : 15 ≤ j ∧ j < 15 + i
      · rw [if_pos r, if_pos (by omega)]
      · rw [if_neg r, if_neg (by omega)]
