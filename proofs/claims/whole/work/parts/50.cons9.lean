/-! THE CONSTRUCTORS: the class -/
set_option maxHeartbeats 4000000 in
set_option maxRecDepth 100000 in
theorem ct_newC (G : BcG) {gr : Nat → Nat → Option Nat} {gi : GI} (b : Bl 0 gr gi) : Ct G mX8_init [.ref (G.1 + 0)] (hq 1 gr gi) (pBu 0 335 gr gi) := by
  refine ct_of [some (.ref (G.1 + 0))] w_1 (by decide) rfl (Nat.le_of_ble_eq_true rfl) rfl ?_
  refine go_aload_n 1 dX8_init_0 rfl rfl ls_0 ?_
  refine go_objInit 4 dX8_init_1 rfl w_19 w_20 w_21 (Nat.le_of_ble_eq_true rfl) (Nat.le_of_ble_eq_true rfl) ?_
  refine go_aload_n 5 dX8_init_4 rfl rfl ls_0 ?_
  refine go_new 8 dX8_init_5 rfl okC3 w_22 w_23 w_2 (Nat.le_of_ble_eq_true rfl) (Nat.le_of_ble_eq_true rfl) ?_
  refine nw_eqv (m := 1) rfl (b.up (by omega)) ?_
  refine go_dup 9 dX8_init_8 rfl rfl ?_
  refine go_I (M' := mX3_init) 12 47 269 dX8_init_9 rfl w_24 okX3_init ⟨Nat.le_of_ble_eq_true rfl, Nat.le_of_ble_eq_true rfl⟩ rfl rfl (Nat.le_of_ble_eq_true rfl) (Nat.le_of_ble_eq_true rfl) (ct_newP G is1 (b.up (by omega))) rfl rfl (Nat.le_of_ble_eq_true rfl) (fun v h' hv => ?_)
  obtain ⟨rfl, gr1, gi1, rfl, b1, e1, t1⟩ := hv
  refine go_putF (a := 0) (kv := 1) 15 dX8_init_12 rfl f_X8_10 rfl ⟨by show 0 < 48; omega, rfl⟩ rfl rfl rfl rfl ?_
  refine go_aload_n 16 dX8_init_15 rfl rfl ls_0 ?_
  refine go_new 19 dX8_init_16 rfl okC3 w_22 w_23 w_2 (Nat.le_of_ble_eq_true rfl) (Nat.le_of_ble_eq_true rfl) ?_
  refine nw_eqv (m := 48) (gr := sR gr1 0 0 1) rfl (b1.sR (by omega)) ?_
  refine go_dup 20 dX8_init_19 rfl rfl ?_
  refine go_I (M' := mX3_init) 23 94 538 dX8_init_20 rfl w_24 okX3_init ⟨Nat.le_of_ble_eq_true rfl, Nat.le_of_ble_eq_true rfl⟩ rfl rfl (Nat.le_of_ble_eq_true rfl) (Nat.le_of_ble_eq_true rfl) (ct_newP G is48 (b1.sR (by omega))) rfl rfl (Nat.le_of_ble_eq_true rfl) (fun v h' hv => ?_)
  obtain ⟨rfl, gr2, gi2, rfl, b2, e2, t2⟩ := hv
  refine go_putF (a := 0) (kv := 48) 26 dX8_init_23 rfl f_X8_16 rfl ⟨by show 0 < 95; omega, rfl⟩ rfl rfl rfl rfl ?_
  refine go_aload_n 27 dX8_init_26 rfl rfl ls_0 ?_
  refine go_new 30 dX8_init_27 rfl okC1 w_241 w_242 w_8 (Nat.le_of_ble_eq_true rfl) (Nat.le_of_ble_eq_true rfl) ?_
  refine nw_eqv (m := 95) (gr := sR gr2 0 1 48) rfl (b2.sR (by omega)) ?_
  refine go_dup 31 dX8_init_30 rfl rfl ?_
  refine go_I (M' := mX1_init) 34 331 1891 dX8_init_31 rfl w_243 okX1_init ⟨Nat.le_of_ble_eq_true rfl, Nat.le_of_ble_eq_true rfl⟩ rfl rfl (Nat.le_of_ble_eq_true rfl) (Nat.le_of_ble_eq_true rfl) (ct_newH G (b2.sR (by omega))) rfl rfl (Nat.le_of_ble_eq_true rfl) (fun v h' hv => ?_)
  obtain ⟨rfl, gr3, gi3, rfl, b3, e3, t3⟩ := hv
  refine go_putF (a := 0) (kv := 95) 37 dX8_init_34 rfl f_X8_22 rfl ⟨by show 0 < 332; omega, rfl⟩ rfl rfl rfl rfl ?_
  refine go_aload_n 38 dX8_init_37 rfl rfl ls_0 ?_
  refine go_new 41 dX8_init_38 rfl okC5 w_261 w_262 w_9 (Nat.le_of_ble_eq_true rfl) (Nat.le_of_ble_eq_true rfl) ?_
  refine nw_eqv (m := 332) (gr := sR gr3 0 2 95) rfl (b3.sR (by omega)) ?_
  refine go_dup 42 dX8_init_41 rfl rfl ?_
  refine go_IN (M' := mX5_init) 45 334 1979 dX8_init_42 rfl x_X8_28 okX5_init ⟨Nat.le_of_ble_eq_true rfl, Nat.le_of_ble_eq_true rfl⟩ rfl rfl (Nat.le_of_ble_eq_true rfl) (Nat.le_of_ble_eq_true rfl) (ct_newS G (b3.sR (by omega))) rfl rfl (Nat.le_of_ble_eq_true rfl) (fun v h' hv => ?_)
  obtain ⟨rfl, gr4, gi4, rfl, b4, e4, t4⟩ := hv
  refine go_putF (a := 0) (kv := 332) 48 dX8_init_45 rfl f_X8_29 rfl ⟨by show 0 < 335; omega, rfl⟩ rfl rfl rfl rfl ?_
  refine go_ret_v dX8_init_48 rfl rfl rfl ⟨rfl, sR gr4 0 3 332, gi4, rfl, b4.sR (by omega), fun k hk => absurd hk (Nat.not_lt_zero _), fun k q1 q2 => ?_⟩
  by_cases k0 : k = 0
  · subst k0
    obtain ⟨z1, z2⟩ := b 0 (Nat.le_refl _)
    have r4 := (e4 0 (by omega)).1
    have r3 := (e3 0 (by omega)).1
    have r2 := (e2 0 (by omega)).1
    have r1 := (e1 0 (by omega)).1
    refine ⟨fn_eq (fun j hj => ?_) (fun j hj => ?_) (fun j hj => GR_hi _ j hj), ?_⟩
    · simp only [sR_at, r4, r3, r2, r1, z1]
      revert j
      decide
    · simp only [sR_at, r4, r3, r2, r1, z1]
      rw [if_neg (by omega), if_neg (by omega), if_neg (by omega), if_neg (by omega)]
    · have g1 : gi1 0 = fun _ => 0 := (e1 0 (by omega)).2.trans z2
      have g2 : gi2 0 = fun _ => 0 := (e2 0 (by omega)).2.trans g1
      have g3 : gi3 0 = fun _ => 0 := (e3 0 (by omega)).2.trans g2
      have g4 : gi4 0 = fun _ => 0 := (e4 0 (by omega)).2.trans g3
      exact g4.trans (i0_z _ (by decide) (by decide) (by decide) (by decide) (by decide)).symm
  · have s : ∀ {g : Nat → Nat → Option Nat} {x : GI} {j v : Nat}, Bt g x k → Bt (sR g 0 j v) x k := fun h => ⟨by rw [sR_row k0]; exact h.1, h.2⟩
    have up : ∀ {g g' : Nat → Nat → Option Nat} {x x' : GI}, (g' k = g k ∧ x' k = x k) → Bt g x k → Bt g' x' k := fun e h => ⟨e.1.trans h.1, e.2.trans h.2⟩
    apply s
    by_cases c4 : 332 ≤ k
    · exact t4 k c4 q2
    · refine up (e4 k (by omega)) (s ?_)
      by_cases c3 : 95 ≤ k
      · exact t3 k c3 (by omega)
      · refine up (e3 k (by omega)) (s ?_)
        by_cases c2 : 48 ≤ k
        · exact t2 k c2 (by omega)
        · exact up (e2 k (by omega)) (s (t1 k (by omega) (by omega)))
