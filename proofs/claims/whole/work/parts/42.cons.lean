/-! THE CONSTRUCTORS: the small ones -/
theorem GR_hi (k j : Nat) (h : 16 ≤ j) : GR k j = none := by
  have g : ∀ r, grP r j = none := fun r => by
    unfold grP
    repeat' split
    all_goals first | rfl | omega
  unfold GR
  rw [g]
  repeat' split
  all_goals first | rfl | omega
theorem SH_6 : ∀ k, k < 341 → (SH k).1 = 6 ∨ (SH k).1 = 7 ∨ (SH k).1 = 2 ∨ (SH k).1 = 0 ∨ (SH k).1 = 20 ∨ (SH k).1 = 21 → ∀ j, j < 16 → GR k j = none := by decide +kernel
theorem GR_leaf {k : Nat} (hk : k < 341) (h : (SH k).1 = 6 ∨ (SH k).1 = 7 ∨ (SH k).1 = 2 ∨ (SH k).1 = 0 ∨ (SH k).1 = 20 ∨ (SH k).1 = 21) : GR k = fun _ => none := by
  funext j
  by_cases hj : j < 16
  · exact SH_6 k hk h j hj
  · exact GR_hi k j (by omega)
/-- built as the layout has it -/
def Bt (gr : Nat → Nat → Option Nat) (gi : GI) (k : Nat) : Prop := gr k = GR k ∧ gi k = I0 k
theorem I0_z {k : Nat} (h0 : k ≠ 336) (h1 : (SH k).1 ≠ 7) (h2 : (SH k).1 ≠ 20) : I0 k = fun _ => 0 := by
  funext j
  unfold I0
  rw [if_neg h0, if_neg h1, if_neg (fun z => h2 (by rw [z])), if_neg (fun z => h2 (by rw [z]))]
def pBu (a n' : Nat) (gr0 : Nat → Nat → Option Nat) (gi0 : GI) : Option Value → BcH → Prop := fun v h' => v = none ∧ ∃ gr gi, h' = hq n' gr gi ∧ Bl n' gr gi ∧ (∀ k, k < a → gr k = gr0 k ∧ gi k = gi0 k) ∧ ∀ k, a ≤ k → k < n' → Bt gr gi k
set_option maxHeartbeats 4000000 in
theorem ct_objS (G : BcG) (a : Nat) (h : BcH) : Ct G mX6_init [.ref a] h (pV h) := by
  refine ct_of [some (.ref a)] w_4 (by decide) rfl (Nat.le_of_ble_eq_true rfl) rfl ?_
  refine go_aload_n 1 dX6_init_0 rfl rfl ls_0 ?_
  refine go_objInit 4 dX6_init_1 rfl w_47 w_20 w_21 (Nat.le_of_ble_eq_true rfl) (Nat.le_of_ble_eq_true rfl) ?_
  exact go_ret_v dX6_init_4 rfl rfl rfl ⟨rfl, rfl⟩
set_option maxHeartbeats 4000000 in
theorem ct_objV (G : BcG) (a : Nat) (h : BcH) (ha : bc_o h a 7) : Ct G mX7_init [.ref (G.1 + a)] h (pV (bc_si (bc_si h a 2 (-1)) a 3 (-1))) := by
  refine ct_of [some (.ref (G.1 + a))] w_5 (by decide) rfl (Nat.le_of_ble_eq_true rfl) rfl ?_
  refine go_aload_n 1 dX7_init_0 rfl rfl ls_0 ?_
  refine go_objInit 4 dX7_init_1 rfl w_86 w_20 w_21 (Nat.le_of_ble_eq_true rfl) (Nat.le_of_ble_eq_true rfl) ?_
  refine go_aload_n 5 dX7_init_4 rfl rfl ls_0 ?_
  refine go_iconst 6 (v := (-1)) dX7_init_5 rfl (by decide) ?_
  refine go_putI 9 dX7_init_6 rfl f_X7_9 rfl ha rfl rfl ?_
  refine go_aload_n 10 dX7_init_9 rfl rfl ls_0 ?_
  refine go_iconst 11 (v := (-1)) dX7_init_10 rfl (by decide) ?_
  refine go_putI 14 dX7_init_11 rfl f_X7_15 rfl (a := a) ha rfl rfl ?_
  exact go_ret_v dX7_init_14 rfl rfl rfl ⟨rfl, rfl⟩
set_option maxHeartbeats 4000000 in
theorem ct_objL (G : BcG) (a : Nat) (h : BcH) : Ct G mX2_init [.ref a] h (pV h) := by
  refine ct_of [some (.ref a)] w_6 (by decide) rfl (Nat.le_of_ble_eq_true rfl) rfl ?_
  refine go_aload_n 1 dX2_init_0 rfl rfl ls_0 ?_
  refine go_objInit 4 dX2_init_1 rfl w_112 w_20 w_21 (Nat.le_of_ble_eq_true rfl) (Nat.le_of_ble_eq_true rfl) ?_
  exact go_ret_v dX2_init_4 rfl rfl rfl ⟨rfl, rfl⟩
set_option maxHeartbeats 4000000 in
theorem ct_objB (G : BcG) (a : Nat) (h : BcH) : Ct G mX0_init [.ref a] h (pV h) := by
  refine ct_of [some (.ref a)] w_7 (by decide) rfl (Nat.le_of_ble_eq_true rfl) rfl ?_
  refine go_aload_n 1 dX0_init_0 rfl rfl ls_0 ?_
  refine go_objInit 4 dX0_init_1 rfl w_134 w_20 w_21 (Nat.le_of_ble_eq_true rfl) (Nat.le_of_ble_eq_true rfl) ?_
  exact go_ret_v dX0_init_4 rfl rfl rfl ⟨rfl, rfl⟩
/-- a recipe half built: i of its stages -/
def RcI (a i : Nat) (gr0 : Nat → Nat → Option Nat) (gi0 : GI) (gr : Nat → Nat → Option Nat) (gi : GI) : Prop :=
  Bl (a + 2 + i) gr gi ∧ (∀ k, k < a → gr k = gr0 k ∧ gi k = gi0 k) ∧ Bt gr gi a ∧ (∀ j, gr (a + 1) j = if j < i then some (a + 2 + j) else none) ∧ gi (a + 1) = (fun _ => 0) ∧ ∀ k, a + 2 ≤ k → k < a + 2 + i → Bt gr gi k
theorem RcI_s {a i : Nat} {gr0 : Nat → Nat → Option Nat} {gi0 : GI} {gr : Nat → Nat → Option Nat} {gi : GI} (h : RcI a i gr0 gi0 gr gi) (hk : a + 2 + i < 341) (h6 : SH (a + 2 + i) = (6, 0)) : RcI a (i + 1) gr0 gi0 (sR gr (a + 1) i (a + 2 + i)) gi := by
  obtain ⟨b, h1, ⟨h2, h2'⟩, h3, h4, h5⟩ := h
  have hb := b (a + 2 + i) (Nat.le_refl _)
  refine ⟨(b.up (by omega)).sR (by omega), fun k hk => ⟨by rw [sR_row (by omega)]; exact (h1 k hk).1, (h1 k hk).2⟩, ⟨by rw [sR_row (by omega)]; exact h2, h2'⟩, fun j => ?_, h4, fun k q1 q2 => ?_⟩
  · by_cases e : j = i
    · subst e
      rw [sR_eq, if_pos (by omega)]
    · rw [sR_ne (by omega), h3 j]
      by_cases q : j < i
      · rw [if_pos q, if_pos (by omega)]
      · rw [if_neg q, if_neg (by omega)]
  · by_cases e : k = a + 2 + i
    · subst e
      refine ⟨by rw [sR_row (by omega), hb.1, GR_leaf hk (by rw [h6]; exact Or.inl rfl)], ?_⟩
      rw [hb.2, I0_z (fun z => by rw [z] at h6; revert h6; decide) (by rw [h6]; decide) (by rw [h6]; decide)]
    · obtain ⟨q3, q4⟩ := h5 k q1 (by omega)
      exact ⟨by rw [sR_row (by omega)]; exact q3, q4⟩
