/-! THE CONSTRUCTORS: the script -/
theorem i0_z : ∀ k, k < 341 → k ≠ 336 → (SH k).1 ≠ 7 → SH k ≠ (20, 16) → SH k ≠ (20, 2) → I0 k = fun _ => 0 := fun k _ h1 h2 h3 h4 => by
  funext j
  rw [I0, if_neg h1, if_neg h2, if_neg h3, if_neg h4]
theorem fn_eq {g f : Nat → Option Nat} (h1 : ∀ j, j < 16 → g j = f j) (h2 : ∀ j, 16 ≤ j → g j = none) (h3 : ∀ j, 16 ≤ j → f j = none) : g = f := by
  funext j
  by_cases hj : j < 16
  · exact h1 j hj
  · rw [h2 j (by omega), h3 j (by omega)]
set_option maxHeartbeats 4000000 in
set_option maxRecDepth 100000 in
theorem ct_newS (G : BcG) {gr : Nat → Nat → Option Nat} {gi : GI} (b : Bl 332 gr gi) : Ct G mX5_init [.ref (G.1 + 332)] (hq 333 gr gi) (pBu 332 335 gr gi) := by
  refine ct_of [some (.ref (G.1 + 332))] w_9 (by decide) rfl (Nat.le_of_ble_eq_true rfl) rfl ?_
  refine go_aload_n 1 dX5_init_0 rfl rfl ls_0 ?_
  refine go_objInit 4 dX5_init_1 rfl w_266 w_20 w_21 (Nat.le_of_ble_eq_true rfl) (Nat.le_of_ble_eq_true rfl) ?_
  refine go_aload_n 5 dX5_init_4 rfl rfl ls_0 ?_
  refine go_bipush 7 (v := 80) dX5_init_5 rfl (by decide) ?_
  refine go_newA (t := 21) (len := 80) 9 dX5_init_7 rfl rfl (Or.inr ⟨rfl, rfl⟩) w_287 rfl (by decide) (Nat.le_of_ble_eq_true rfl) (Nat.le_of_ble_eq_true rfl) ?_
  refine nw_eqv (m := 333) rfl (b.up (by omega)) ?_
  refine go_putF (a := 332) (kv := 333) 12 dX5_init_9 rfl f_X5_9 rfl ⟨by show 332 < 334; omega, rfl⟩ rfl rfl rfl rfl ?_
  refine go_aload_n 13 dX5_init_12 rfl rfl ls_0 ?_
  refine go_iconst 14 (v := 3) dX5_init_13 rfl (by decide) ?_
  refine go_newA (t := 20) (len := 3) 16 dX5_init_14 rfl rfl (Or.inl ⟨rfl, rfl⟩) w_68 rfl (by decide) (Nat.le_of_ble_eq_true rfl) (Nat.le_of_ble_eq_true rfl) ?_
  refine nw_eqv (m := 334) (gr := sR gr 332 0 333) rfl ((b.up (by omega)).sR (by omega)) ?_
  refine go_putF (a := 332) (kv := 334) 19 dX5_init_16 rfl f_X5_15 rfl ⟨by show 332 < 335; omega, rfl⟩ rfl rfl rfl rfl ?_
  refine go_ret_v dX5_init_19 rfl rfl rfl ⟨rfl, sR (sR gr 332 0 333) 332 3 334, gi, rfl, ((b.up (by omega)).sR (by omega)).sR (by omega), fun k hk => ⟨by rw [sR_row (by omega), sR_row (by omega)], rfl⟩, fun k q1 q2 => ?_⟩
  obtain ⟨b1, b2⟩ := b k q1
  obtain rfl | rfl | rfl : k = 332 ∨ k = 333 ∨ k = 334 := by omega
  · refine ⟨fn_eq (fun j hj => ?_) (fun j hj => ?_) (fun j hj => GR_hi _ j hj), by rw [b2]; exact (i0_z _ (by decide) (by decide) (by decide) (by decide) (by decide)).symm⟩
    · simp only [sR_at, b1]
      revert j
      decide
    · simp only [sR_at, b1]
      rw [if_neg (by omega), if_neg (by omega)]
  · exact ⟨by rw [sR_row (by omega), sR_row (by omega), b1, GR_leaf (by decide) (by decide)], by rw [b2]; exact (i0_z _ (by decide) (by decide) (by decide) (by decide) (by decide)).symm⟩
  · exact ⟨by rw [sR_row (by omega), sR_row (by omega), b1, GR_leaf (by decide) (by decide)], by rw [b2]; exact (i0_z _ (by decide) (by decide) (by decide) (by decide) (by decide)).symm⟩
