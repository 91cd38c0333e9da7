/-! THE CONSTRUCTORS: the small ones -/
theorem GR_hi (k j : Nat) (h : 16 ≤ j) : GR k j = none := by
  have g : ∀ r, grP r j = none := fun r => by
    unfold grP
    repeat' split
    all_goals first | rfl | omega
  unfold GR
  rw [g]
  repeat' split
  all_goals first | rfl | omega
theorem SH_6 : ∀ k, k < 341 → (SH k).1 = 6 ∨ (SH k).1 = 7 ∨ (SH k).1 = 2 ∨ (SH k).1 = 0 ∨ (SH k).1 = 20 ∨ (SH k).1 = 21 → ∀ j, j < 16 → GR k j = none := by decide +kernel
theorem GR_leaf {k : Nat} (hk : k < 341) (h : (SH k).1 = 6 ∨ (SH k).1 = 7 ∨ (SH k).1 = 2 ∨ (SH k).1 = 0 ∨ (SH k).1 = 20 ∨ (SH k).1 = 21) : GR k = fun _ => none := by
  funext j
  by_cases hj : j < 16
  · exact SH_6 k hk h j hj
  · exact GR_hi k j (by omega)
/-- built as the layout has it -/
def Bt (gr : Nat → Nat → Option Nat) (gi : GI) (k : Nat) : Prop := gr k = GR k ∧ gi k = I0 k
theorem I0_z {k : Nat} (h0 : k ≠ 336) (h1 : (SH k).1 ≠ 7) (h2 : (SH k).1 ≠ 20) : I0 k = fun _ => 0 := by
  funext j
  unfold I0
  rw [if_neg h0, if_neg h1, if_neg (fun z => h2 (by rw [z])), if_neg (fun z => h2 (by rw [z]))]
def pBu (a n' : Nat) (gr0 : Nat → Nat → Option Nat) (gi0 : GI) : Option Value → BcH → Prop := fun v h' => v = none ∧ ∃ gr gi, h' = hq n' gr gi ∧ Bl n' gr gi ∧ (∀ k, k < a → gr k = gr0 k ∧ gi k = gi0 k) ∧ ∀ k, a ≤ k → k < n' → Bt gr gi k
set_option maxHeartbeats 4000000 in
theorem ct_objS (G : BcG) (a : Nat) (h : BcH) : Ct G mX6_init [.ref a] h (pV h) := by
  refine ct_of [some (.ref a)] w_4 (by decide) rfl (Nat.le_of_ble_eq_true rfl) rfl ?_
  refine go_aload_n 1 dX6_init_0 rfl rfl ls_0 ?_
  refine go_objInit 4 dX6_init_1 rfl w_47 w_20 w_21 (Nat.le_of_ble_eq_true rfl) (Nat.le_of_ble_eq_true rfl) ?_
  exact go_ret_v dX6_init_4 rfl rfl rfl ⟨rfl, rfl⟩
