/-! THE CONSTRUCTORS: a plant, from its entry -/
set_option maxHeartbeats 4000000 in
set_option maxRecDepth 100000 in
theorem ct_newP (G : BcG) {P : Nat} (hP : isP P) {gr : Nat → Nat → Option Nat} {gi : GI} (b : Bl P gr gi) : Ct G mX3_init [.ref (G.1 + P)] (hq (P + 1) gr gi) (pBu P (P + 47) gr gi) := by
  obtain ⟨s0, s1, s2, s3, s4, s5, s6, s7, s8⟩ := sh_P hP
  have hg := gr_P hP
  refine ct_of [some (.ref (G.1 + P)), none] w_2 (by decide) rfl (Nat.le_of_ble_eq_true rfl) rfl ?_
  refine go_aload_n 1 dX3_init_0 rfl rfl ls_0 ?_
  refine go_objInit 4 dX3_init_1 rfl w_27 w_20 w_21 (Nat.le_of_ble_eq_true rfl) (Nat.le_of_ble_eq_true rfl) ?_
  refine go_aload_n 5 dX3_init_4 rfl rfl ls_0 ?_
  refine go_iconst 6 (v := 4) dX3_init_5 rfl (by decide) ?_
  refine go_newQ (t := 23) (len := 4) 9 dX3_init_6 rfl (by decide) rfl w_28 (by decide) rfl (by decide) (Nat.le_of_ble_eq_true rfl) (Nat.le_of_ble_eq_true rfl) ?_
  refine nw_eqv s2 (by repeat (first | exact b.up (by omega) | refine Bl.sR ?_ (by omega))) ?_
  refine go_putF (a := P) (kv := P + 1) 12 dX3_init_9 rfl f_X3_11 rfl ⟨by show P < P + 1 + 1; omega, by show (SH P).1 = 3; rw [s1]⟩ rfl rfl rfl rfl ?_
  refine go_aload_n 13 dX3_init_12 rfl rfl ls_0 ?_
  refine go_bipush 15 (v := 6) dX3_init_13 rfl (by decide) ?_
  refine go_newQ (t := 25) (len := 6) 18 dX3_init_15 rfl (by decide) rfl w_30 (by decide) rfl (by decide) (Nat.le_of_ble_eq_true rfl) (Nat.le_of_ble_eq_true rfl) ?_
  refine nw_eqv s3 (by repeat (first | exact b.up (by omega) | refine Bl.sR ?_ (by omega))) ?_
  refine go_putF (a := P) (kv := P + 2) 21 dX3_init_18 rfl f_X3_19 rfl ⟨by show P < P + 1 + 2; omega, by show (SH P).1 = 3; rw [s1]⟩ rfl rfl rfl rfl ?_
  refine go_aload_n 22 dX3_init_21 rfl rfl ls_0 ?_
  refine go_iconst 23 (v := 3) dX3_init_22 rfl (by decide) ?_
  refine go_newQ (t := 26) (len := 3) 26 dX3_init_23 rfl (by decide) rfl w_32 (by decide) rfl (by decide) (Nat.le_of_ble_eq_true rfl) (Nat.le_of_ble_eq_true rfl) ?_
  refine nw_eqv s4 (by repeat (first | exact b.up (by omega) | refine Bl.sR ?_ (by omega))) ?_
  refine go_putF (a := P) (kv := P + 3) 29 dX3_init_26 rfl f_X3_25 rfl ⟨by show P < P + 1 + 3; omega, by show (SH P).1 = 3; rw [s1]⟩ rfl rfl rfl rfl ?_
  refine go_aload_n 30 dX3_init_29 rfl rfl ls_0 ?_
  refine go_bipush 32 (v := 6) dX3_init_30 rfl (by decide) ?_
  refine go_newQ (t := 27) (len := 6) 35 dX3_init_32 rfl (by decide) rfl w_34 (by decide) rfl (by decide) (Nat.le_of_ble_eq_true rfl) (Nat.le_of_ble_eq_true rfl) ?_
  refine nw_eqv s5 (by repeat (first | exact b.up (by omega) | refine Bl.sR ?_ (by omega))) ?_
  refine go_putF (a := P) (kv := P + 4) 38 dX3_init_35 rfl f_X3_31 rfl ⟨by show P < P + 1 + 4; omega, by show (SH P).1 = 3; rw [s1]⟩ rfl rfl rfl rfl ?_
  refine go_aload_n 39 dX3_init_38 rfl rfl ls_0 ?_
  refine go_bipush 41 (v := 16) dX3_init_39 rfl (by decide) ?_
  refine go_newA (t := 20) (len := 16) 43 dX3_init_41 rfl rfl (Or.inl ⟨rfl, rfl⟩) w_68 rfl (by decide) (Nat.le_of_ble_eq_true rfl) (Nat.le_of_ble_eq_true rfl) ?_
  refine nw_eqv s6 (by repeat (first | exact b.up (by omega) | refine Bl.sR ?_ (by omega))) ?_
  refine go_putF (a := P) (kv := P + 5) 46 dX3_init_43 rfl f_X3_35 rfl ⟨by show P < P + 1 + 5; omega, by show (SH P).1 = 3; rw [s1]⟩ rfl rfl rfl rfl ?_
  refine go_aload_n 47 dX3_init_46 rfl rfl ls_0 ?_
  refine go_iconst 48 (v := 2) dX3_init_47 rfl (by decide) ?_
  refine go_newA (t := 20) (len := 2) 50 dX3_init_48 rfl rfl (Or.inl ⟨rfl, rfl⟩) w_68 rfl (by decide) (Nat.le_of_ble_eq_true rfl) (Nat.le_of_ble_eq_true rfl) ?_
  refine nw_eqv s7 (by repeat (first | exact b.up (by omega) | refine Bl.sR ?_ (by omega))) ?_
  refine go_putF (a := P) (kv := P + 6) 53 dX3_init_50 rfl f_X3_39 rfl ⟨by show P < P + 1 + 6; omega, by show (SH P).1 = 3; rw [s1]⟩ rfl rfl rfl rfl ?_
  refine go_aload_n 54 dX3_init_53 rfl rfl ls_0 ?_
  refine go_iconst 55 (v := 4) dX3_init_54 rfl (by decide) ?_
  refine go_newA (t := 20) (len := 4) 57 dX3_init_55 rfl rfl (Or.inl ⟨rfl, rfl⟩) w_68 rfl (by decide) (Nat.le_of_ble_eq_true rfl) (Nat.le_of_ble_eq_true rfl) ?_
  refine nw_eqv s8 (by repeat (first | exact b.up (by omega) | refine Bl.sR ?_ (by omega))) ?_
  refine go_putF (a := P) (kv := P + 7) 60 dX3_init_57 rfl f_X3_42 rfl ⟨by show P < P + 1 + 7; omega, by show (SH P).1 = 3; rw [s1]⟩ rfl rfl rfl rfl ?_
  refine go_iconst 61 (v := 0) dX3_init_60 rfl (by decide) ?_
  refine go_istore_n 62 dX3_init_61 rfl rfl (by decide) (st_s st_0) ?_
  have hR0 : PlI P 0 0 0 0 (P + 8) gr gi (sR (sR (sR (sR (sR (sR (sR gr P 0 (P + 1)) P 2 (P + 2)) P 4 (P + 3)) P 6 (P + 4)) P 7 (P + 5)) P 8 (P + 6)) P 9 (P + 7)) gi := by
    have hb : ∀ q, 1 ≤ q → q < 8 → (sR (sR (sR (sR (sR (sR (sR gr P 0 (P + 1)) P 2 (P + 2)) P 4 (P + 3)) P 6 (P + 4)) P 7 (P + 5)) P 8 (P + 6)) P 9 (P + 7)) (P + q) = (fun _ => none) ∧ gi (P + q) = fun _ => 0 := fun q q1 q2 => by
      obtain ⟨b1, b2⟩ := b (P + q) (by omega)
      exact ⟨by simp (disch := omega) only [sR_row]; exact b1, b2⟩
    obtain ⟨b1, b2⟩ := b P (Nat.le_refl _)
    refine ⟨(by repeat (first | exact b.up (by omega) | refine Bl.sR ?_ (by omega))), fun k hk => ⟨by simp (disch := omega) only [sR_row], rfl⟩, ⟨?_, ?_⟩, fun j => by rw [(hb 1 (by omega) (by omega)).1, if_neg (Nat.not_lt_zero _)], fun j => by rw [(hb 2 (by omega) (by omega)).1, if_neg (Nat.not_lt_zero _)], fun j => by rw [(hb 3 (by omega) (by omega)).1, if_neg (Nat.not_lt_zero _)], fun j => by rw [(hb 4 (by omega) (by omega)).1, if_neg (Nat.not_lt_zero _)], fun q q1 q2 => (hb q q1 q2).2, fun q q1 q2 => (hb q (by omega) q2).1, fun k q1 q2 => by omega⟩
    · funext j
      by_cases hj : j < 16
      · rw [(hg j hj).1]; simp only [sR_at, b1]; clear hg; repeat' split
        all_goals first | rfl | omega
      · rw [GR_hi _ j (by omega)]; simp only [sR_at, b1]; repeat' split
        all_goals first | rfl | omega
    · rw [b2, I0_z (fun z => by rw [z] at s1; revert s1; decide) (by rw [s1]; decide) (by rw [s1]; decide)]
  refine lp_plR G hP (fun gr1 gi1 R1 => ?_) 4 0 _ _ rfl hR0
  refine go_iconst 91 (v := 0) dX3_init_90 rfl (by decide) ?_
  refine go_istore_n 92 dX3_init_91 rfl rfl (by decide) (st_s st_0) ?_
  refine lp_plV G hP (fun gr2 gi2 R2 => ?_) 6 0 _ _ rfl R1
  refine go_iconst 121 (v := 0) dX3_init_120 rfl (by decide) ?_
  refine go_istore_n 122 dX3_init_121 rfl rfl (by decide) (st_s st_0) ?_
  refine lp_plL G hP (fun gr3 gi3 R3 => ?_) 3 0 _ _ rfl R2
  refine go_iconst 151 (v := 0) dX3_init_150 rfl (by decide) ?_
  refine go_istore_n 152 dX3_init_151 rfl rfl (by decide) (st_s st_0) ?_
  refine lp_plB G hP (fun gr4 gi4 R4 => ?_) 6 0 _ _ rfl R3
  refine go_iconst 181 (v := 0) dX3_init_180 rfl (by decide) ?_
  refine go_istore_n 182 dX3_init_181 rfl rfl (by decide) (st_s st_0) ?_
  obtain ⟨r0, r1, ⟨r2, r2'⟩, r3, r4, r5, r6, r7, r8, r9⟩ := R4
  refine lp_plT G hP r2 (g0 := gi4) (fun gi5 T => ?_) 16 0 gi4 rfl ⟨fun _ _ => rfl, fun j => by rw [r7 5 (by omega) (by omega), if_neg (Nat.not_lt_zero _)]⟩
  refine go_aload_n 218 dX3_init_217 rfl rfl ls_0 ?_
  refine go_getR (a := P) (a1 := P + 6) 221 dX3_init_218 rfl f_X3_39 rfl ⟨by show P < P + 47; omega, by show (SH P).1 = 3; rw [s1]⟩ (by show gr4 P 8 = _; rw [r2, (hg 8 (by decide)).1]; rfl) ?_
  refine go_iconst 222 (v := nI 0) dX3_init_221 rfl (by decide) ?_
  refine go_bipush 224 (v := 10) dX3_init_222 rfl (by decide) ?_
  refine go_TN (M' := mX8_putEntry) 227 dX3_init_224 rfl x_X3_49 okX8_putEntry ⟨Nat.le_of_ble_eq_true rfl, Nat.le_of_ble_eq_true rfl⟩ (ct_putG G _ (P + 6) 2 0 _ ⟨by show P + 6 < P + 47; omega, s7⟩ (by decide) (by decide)) rfl rfl (kk := ?_)
  refine go_aload_n 228 dX3_init_227 rfl rfl ls_0 ?_
  refine go_getR (a := P) (a1 := P + 6) 231 dX3_init_228 rfl f_X3_39 rfl ⟨by show P < P + 47; omega, by show (SH P).1 = 3; rw [s1]⟩ (by show gr4 P 8 = _; rw [r2, (hg 8 (by decide)).1]; rfl) ?_
  refine go_iconst 232 (v := nI 1) dX3_init_231 rfl (by decide) ?_
  refine go_bipush 234 (v := 10) dX3_init_232 rfl (by decide) ?_
  refine go_TN (M' := mX8_putEntry) 237 dX3_init_234 rfl x_X3_49 okX8_putEntry ⟨Nat.le_of_ble_eq_true rfl, Nat.le_of_ble_eq_true rfl⟩ (ct_putG G _ (P + 6) 2 1 _ ⟨by show P + 6 < P + 47; omega, s7⟩ (by decide) (by decide)) rfl rfl (kk := ?_)
  refine go_ret_v dX3_init_237 rfl rfl rfl ⟨rfl, gr4, wI (wI gi5 (P + 6) 0 10) (P + 6) 1 10, rfl, ?_, fun k hk => ⟨(r1 k hk).1, by rw [wI_row (by omega), wI_row (by omega), T.1 k (by omega)]; exact (r1 k hk).2⟩, fun k q1 q2 => ?_⟩
  · refine Bl.wI (Bl.wI (fun k hk => ⟨(r0 k hk).1, by rw [T.1 k (by omega)]; exact (r0 k hk).2⟩) (by omega)) (by omega)
  · have z : ∀ q, q < 5 → gr4 (P + q) = GR (P + q) → SH (P + q) ≠ (20, 16) → (SH (P + q)).1 ≠ 7 → (SH (P + q)).1 ≠ 20 → gi4 (P + q) = (fun _ => 0) → Bt gr4 (wI (wI gi5 (P + 6) 0 10) (P + 6) 1 10) (P + q) := fun q hq hgr _ h7 h20 hz => ⟨hgr, by rw [wI_row (by omega), wI_row (by omega), T.1 _ (by omega), hz, I0_z (fun y => h20 (by rw [y]; rfl)) h7 h20]⟩
    have fe : ∀ (g f : Nat → Option Nat), (∀ j, j < 16 → g j = f j) → (∀ j, 16 ≤ j → g j = none) → (∀ j, 16 ≤ j → f j = none) → g = f := fun g f h1 h2 h3 => by
      funext j; by_cases hj : j < 16; exact h1 j hj; rw [h2 j (by omega), h3 j (by omega)]
    by_cases h8 : P + 8 ≤ k
    · obtain ⟨t1, t2⟩ := r9 k h8 q2
      exact ⟨t1, by rw [wI_row (by omega), wI_row (by omega), T.1 k (by omega)]; exact t2⟩
    · obtain ⟨q, hq, rfl⟩ : ∃ q, q < 8 ∧ k = P + q := ⟨k - P, by omega, by omega⟩
      obtain rfl | rfl | rfl | rfl | rfl | rfl | rfl | rfl : q = 0 ∨ q = 1 ∨ q = 2 ∨ q = 3 ∨ q = 4 ∨ q = 5 ∨ q = 6 ∨ q = 7 := by omega
      · exact ⟨r2, by rw [wI_row (by omega), wI_row (by omega), T.1 _ (by omega)]; exact r2'⟩
      · exact z 1 (by omega) (fe _ _ (fun j hj => by rw [r3 j, (hg j hj).2.1]) (fun j hj => by rw [r3 j, if_neg (by omega)]) (fun j hj => GR_hi _ j hj)) (by rw [s2]; decide) (by rw [s2]; decide) (by rw [s2]; decide) (r7 1 (by omega) (by omega))
      · exact z 2 (by omega) (fe _ _ (fun j hj => by rw [r4 j, (hg j hj).2.2.1]) (fun j hj => by rw [r4 j, if_neg (by omega)]) (fun j hj => GR_hi _ j hj)) (by rw [s3]; decide) (by rw [s3]; decide) (by rw [s3]; decide) (r7 2 (by omega) (by omega))
      · exact z 3 (by omega) (fe _ _ (fun j hj => by rw [r5 j, (hg j hj).2.2.2.1]) (fun j hj => by rw [r5 j, if_neg (by omega)]) (fun j hj => GR_hi _ j hj)) (by rw [s4]; decide) (by rw [s4]; decide) (by rw [s4]; decide) (r7 3 (by omega) (by omega))
      · exact z 4 (by omega) (fe _ _ (fun j hj => by rw [r6 j, (hg j hj).2.2.2.2]) (fun j hj => by rw [r6 j, if_neg (by omega)]) (fun j hj => GR_hi _ j hj)) (by rw [s5]; decide) (by rw [s5]; decide) (by rw [s5]; decide) (r7 4 (by omega) (by omega))
      · refine ⟨by rw [r8 5 (by omega) (by omega), GR_leaf (by omega) (by rw [s6]; exact Or.inr (Or.inr (Or.inr (Or.inr (Or.inl rfl)))))], ?_⟩
        funext j
        have eI : I0 (P + 5) j = tb0 j := by rw [I0, if_neg (fun y => by rw [y] at s6; revert s6; decide), if_neg (by rw [s6]; decide), if_pos s6]
        rw [wI_ne (by omega), wI_ne (by omega), T.2 j, eI]
        by_cases hj : j < 16; rw [if_pos hj]; rw [if_neg hj, tb0, if_neg hj]
      · refine ⟨by rw [r8 6 (by omega) (by omega), GR_leaf (by omega) (by rw [s7]; exact Or.inr (Or.inr (Or.inr (Or.inr (Or.inl rfl)))))], ?_⟩
        funext j
        rw [I0, if_neg (fun y => by rw [y] at s7; revert s7; decide), if_neg (by rw [s7]; decide), if_neg (by rw [s7]; decide), if_pos s7]
        by_cases e1 : j = 1; subst e1; rw [wI_eq]; rfl; rw [wI_ne (by omega)]; by_cases e0 : j = 0; subst e0; rw [wI_eq]; rfl; rw [wI_ne (by omega), T.1 _ (by omega), r7 6 (by omega) (by omega), if_neg (by omega)]
      · refine ⟨by rw [r8 7 (by omega) (by omega), GR_leaf (by omega) (by rw [s8]; exact Or.inr (Or.inr (Or.inr (Or.inr (Or.inl rfl)))))], ?_⟩
        rw [wI_row (by omega), wI_row (by omega), T.1 _ (by omega), r7 7 (by omega) (by omega)]
        funext j; rw [I0, if_neg (fun y => by rw [y] at s8; revert s8; decide), if_neg (by rw [s8]; decide), if_neg (by rw [s8]; decide), if_neg (by rw [s8]; decide)]
