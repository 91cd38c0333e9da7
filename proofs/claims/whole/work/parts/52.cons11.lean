/-! THE CONSTRUCTORS: the reference, from its entry -/
theorem gr_M : ∀ j, j < 16 → GR 335 j = if j = 0 then some 336 else if j = 1 then some 337 else if j = 2 then some 338 else if j = 5 then some 339 else if j = 10 then some 340 else none := by decide +kernel
set_option maxHeartbeats 4000000 in
set_option maxRecDepth 100000 in
theorem ct_newM (G : BcG) {gr : Nat → Nat → Option Nat} {gi : GI} (b : Bl 335 gr gi) : Ct G mX9_init [.ref (G.1 + 335)] (hq 336 gr gi) (pBu 335 341 gr gi) := by
  refine ct_of [some (.ref (G.1 + 335)), none] w_10 (by decide) rfl (Nat.le_of_ble_eq_true rfl) rfl ?_
  refine go_aload_n 1 dX9_init_0 rfl rfl ls_0 ?_
  refine go_objInit 4 dX9_init_1 rfl w_729 w_20 w_21 (Nat.le_of_ble_eq_true rfl) (Nat.le_of_ble_eq_true rfl) ?_
  refine go_aload_n 5 dX9_init_4 rfl rfl ls_0 ?_
  refine go_sipush 8 (v := 199) dX9_init_5 rfl (by decide) ?_
  refine go_newA (t := 20) (len := 199) 10 dX9_init_8 rfl rfl (Or.inl ⟨rfl, rfl⟩) w_68 rfl (by decide) (Nat.le_of_ble_eq_true rfl) (Nat.le_of_ble_eq_true rfl) ?_
  refine nw_eqv (m := 336) rfl (by repeat (first | exact b.up (by omega) | refine Bl.sR ?_ (by omega))) ?_
  refine go_putF (a := 335) (kv := 336) 13 dX9_init_10 rfl f_X9_7 rfl ⟨by show 335 < 337; omega, rfl⟩ rfl rfl rfl rfl ?_
  refine go_aload_n 14 dX9_init_13 rfl rfl ls_0 ?_
  refine go_sipush 17 (v := 796) dX9_init_14 rfl (by decide) ?_
  refine go_newA (t := 20) (len := 796) 19 dX9_init_17 rfl rfl (Or.inl ⟨rfl, rfl⟩) w_68 rfl (by decide) (Nat.le_of_ble_eq_true rfl) (Nat.le_of_ble_eq_true rfl) ?_
  refine nw_eqv (m := 337) rfl (by repeat (first | exact b.up (by omega) | refine Bl.sR ?_ (by omega))) ?_
  refine go_putF (a := 335) (kv := 337) 22 dX9_init_19 rfl f_X9_13 rfl ⟨by show 335 < 338; omega, rfl⟩ rfl rfl rfl rfl ?_
  refine go_aload_n 23 dX9_init_22 rfl rfl ls_0 ?_
  refine go_sipush 26 (v := 199) dX9_init_23 rfl (by decide) ?_
  refine go_newA (t := 20) (len := 199) 28 dX9_init_26 rfl rfl (Or.inl ⟨rfl, rfl⟩) w_68 rfl (by decide) (Nat.le_of_ble_eq_true rfl) (Nat.le_of_ble_eq_true rfl) ?_
  refine nw_eqv (m := 338) rfl (by repeat (first | exact b.up (by omega) | refine Bl.sR ?_ (by omega))) ?_
  refine go_putF (a := 335) (kv := 338) 31 dX9_init_28 rfl f_X9_16 rfl ⟨by show 335 < 339; omega, rfl⟩ rfl rfl rfl rfl ?_
  refine go_aload_n 32 dX9_init_31 rfl rfl ls_0 ?_
  refine go_bipush 34 (v := 80) dX9_init_32 rfl (by decide) ?_
  refine go_newA (t := 20) (len := 80) 36 dX9_init_34 rfl rfl (Or.inl ⟨rfl, rfl⟩) w_68 rfl (by decide) (Nat.le_of_ble_eq_true rfl) (Nat.le_of_ble_eq_true rfl) ?_
  refine nw_eqv (m := 339) rfl (by repeat (first | exact b.up (by omega) | refine Bl.sR ?_ (by omega))) ?_
  refine go_putF (a := 335) (kv := 339) 39 dX9_init_36 rfl f_X9_19 rfl ⟨by show 335 < 340; omega, rfl⟩ rfl rfl rfl rfl ?_
  refine go_aload_n 40 dX9_init_39 rfl rfl ls_0 ?_
  refine go_iconst 41 (v := 3) dX9_init_40 rfl (by decide) ?_
  refine go_newA (t := 20) (len := 3) 43 dX9_init_41 rfl rfl (Or.inl ⟨rfl, rfl⟩) w_68 rfl (by decide) (Nat.le_of_ble_eq_true rfl) (Nat.le_of_ble_eq_true rfl) ?_
  refine nw_eqv (m := 340) rfl (by repeat (first | exact b.up (by omega) | refine Bl.sR ?_ (by omega))) ?_
  refine go_putF (a := 335) (kv := 340) 46 dX9_init_43 rfl f_X9_22 rfl ⟨by show 335 < 341; omega, rfl⟩ rfl rfl rfl rfl ?_
  refine go_aload_n 47 dX9_init_46 rfl rfl ls_0 ?_
  refine go_getR (a := 335) (a1 := 336) 50 dX9_init_47 rfl f_X9_7 rfl ⟨by show 335 < 341; omega, rfl⟩ rfl ?_
  refine go_iconst 51 (v := nI 0) dX9_init_50 rfl (by decide) ?_
  refine go_bipush 53 (v := 10) dX9_init_51 rfl (by decide) ?_
  refine go_iast (a := 336) (len := 199) 54 dX9_init_53 rfl ⟨by show 336 < 341; omega, rfl⟩ (vp_in_nI (by omega) (by decide)) ?_
  rw [nI_clamp (by omega)]
  refine go_aload_n 55 dX9_init_54 rfl rfl ls_0 ?_
  refine go_getR (a := 335) (a1 := 336) 58 dX9_init_55 rfl f_X9_7 rfl ⟨by show 335 < 341; omega, rfl⟩ rfl ?_
  refine go_iconst 59 (v := nI 1) dX9_init_58 rfl (by decide) ?_
  refine go_bipush 61 (v := 10) dX9_init_59 rfl (by decide) ?_
  refine go_iast (a := 336) (len := 199) 62 dX9_init_61 rfl ⟨by show 336 < 341; omega, rfl⟩ (vp_in_nI (by omega) (by decide)) ?_
  rw [nI_clamp (by omega)]
  refine go_iconst 63 (v := 0) dX9_init_62 rfl (by decide) ?_
  refine go_istore_n 64 dX9_init_63 rfl rfl (by decide) (st_s st_0) ?_
  refine lp_newM G (gr := (sR (sR (sR (sR (sR gr 335 0 336) 335 1 337) 335 2 338) 335 5 339) 335 10 340)) rfl (g0 := gi) (fun g T => ?_) 16 0 (wI (wI gi 336 0 10) 336 1 10) rfl ⟨fun k hk => by rw [wI_row hk, wI_row hk], fun j => ?_⟩
  · refine ⟨rfl, _, g, rfl, fun k hk => ⟨by simp (disch := omega) only [sR_row]; exact (b k (by omega)).1, by rw [T.1 k (by omega)]; exact (b k (by omega)).2⟩, fun k hk => ⟨by simp (disch := omega) only [sR_row], T.1 k (by omega)⟩, fun k q1 q2 => ?_⟩
    obtain ⟨b1, b2⟩ := b k q1
    by_cases k5 : k = 335
    · subst k5
      refine ⟨fn_eq (fun j hj => ?_) (fun j hj => ?_) (fun j hj => GR_hi _ j hj), by rw [T.1 335 (by decide), b2]; exact (i0_z _ (by decide) (by decide) (by decide) (by decide) (by decide)).symm⟩
      · rw [gr_M j hj]; simp only [sR_at, b1]; repeat' split
        all_goals first | rfl | omega
      · simp only [sR_at, b1]; rw [if_neg (by omega), if_neg (by omega), if_neg (by omega), if_neg (by omega), if_neg (by omega)]
    · by_cases k6 : k = 336
      · subst k6
        refine ⟨by simp (disch := omega) only [sR_row]; rw [b1, GR_leaf (by decide) (by decide)], ?_⟩
        funext j; rw [T.2 j, I0, if_pos rfl]
      · obtain rfl | rfl | rfl | rfl : k = 337 ∨ k = 338 ∨ k = 339 ∨ k = 340 := by omega
        · exact ⟨by simp (disch := omega) only [sR_row]; rw [b1, GR_leaf (by decide) (by decide)], by rw [T.1 _ (by decide), b2]; exact (i0_z _ (by decide) (by decide) (by decide) (by decide) (by decide)).symm⟩
        · exact ⟨by simp (disch := omega) only [sR_row]; rw [b1, GR_leaf (by decide) (by decide)], by rw [T.1 _ (by decide), b2]; exact (i0_z _ (by decide) (by decide) (by decide) (by decide) (by decide)).symm⟩
        · exact ⟨by simp (disch := omega) only [sR_row]; rw [b1, GR_leaf (by decide) (by decide)], by rw [T.1 _ (by decide), b2]; exact (i0_z _ (by decide) (by decide) (by decide) (by decide) (by decide)).symm⟩
        · exact ⟨by simp (disch := omega) only [sR_row]; rw [b1, GR_leaf (by decide) (by decide)], by rw [T.1 _ (by decide), b2]; exact (i0_z _ (by decide) (by decide) (by decide) (by decide) (by decide)).symm⟩
  · have z := congrFun (b 336 (by omega)).2 j
    by_cases e1 : j = 1
    · subst e1; rw [wI_eq]; rfl
    · rw [wI_ne (by omega)]
      by_cases e0 : j = 0
      · subst e0; rw [wI_eq]; rfl
      · rw [wI_ne (by omega), if_neg (by omega), if_neg (by omega)]; exact z
