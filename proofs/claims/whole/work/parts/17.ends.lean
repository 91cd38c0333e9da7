/-! PLANTS: ending, throwing away, blending, time -/
theorem ct_addOffA (G : BcG) (gi : GI) {P : Nat} (hP : isP P) {p : Nat} (hp4 : p < 4) {m z : Int32} (hz : gi (P + 7) p + m = z) : Ct G mX3_addOffGrade [.ref (G.1 + P), .int (nI p), .int m] (hp gi) (pV (hp (wI gi (P + 7) p z))) := by
  subst hz
  exact ct_addOffGrade G gi hP hp4 m
theorem pr4 {N : Nat} {A : AA} (I : Inv N A) {b : Nat} (hb : b < 6) (hl : live A b) : ∃ p, p < 4 ∧ prF A b = nI p := by
  have := (I.2.2.1 _ (I.bR4 hb hl)).1
  exact ⟨iN (prF A b), by have := this.2; unfold prF; omega, this.1⟩
theorem sp01 {N : Nat} {A : AA} (I : Inv N A) {b : Nat} (hb : b < 6) (hl : live A b) : A (145 + 9 * b + 6) = 0 ∨ A (145 + 9 * b + 6) = 1 := by
  have h := (I.b1 hb hl).2.2.2.2.2.1
  have h1 := h.1
  have h2 := h.2
  generalize iN (A (145 + 9 * b + 6)) = q at h1 h2
  obtain rfl | rfl : q = 0 ∨ q = 1 := by omega
  · exact Or.inl h1
  · exact Or.inr h1
set_option maxHeartbeats 4000000 in
set_option maxRecDepth 100000 in
theorem ct_endBatch (G : BcG) (gi : GI) {P : Nat} (hP : isP P) {N : Nat} {A : AA} (h : Rel P A gi) (I : Inv N A) (x : Int32) : Ct G mX3_endBatch [.ref (G.1 + P), .int x] (hp gi) (pOp P gi (fEnd A x)) := by
  refine ct_of [some (.ref (G.1 + P)), some (.int x), none] w_2 (by decide) rfl (Nat.le_of_ble_eq_true rfl) rfl ?_
  refine go_aload_n 1 dX3_endBatch_0 rfl rfl ls_0 ?_
  refine go_iload_n 2 dX3_endBatch_1 rfl rfl (ls_s ls_0) ?_
  refine go_V (M' := mX3_batchAt) 5 dX3_endBatch_2 rfl w_483 okX3_batchAt ⟨Nat.le_of_ble_eq_true rfl, Nat.le_of_ble_eq_true rfl⟩ rfl rfl (Nat.le_of_ble_eq_true rfl) (Nat.le_of_ble_eq_true rfl) (ct_batchAt G gi hP _) rfl rfl (Nat.le_of_ble_eq_true rfl) (tP hP) (by decide) rfl (fun v_2 h_2 p_2 => ?_)
  simp only [pAt] at p_2
  obtain ⟨rfl, ⟨r_2, hr_2, hx_2, hc_2, rfl⟩ | ⟨hno_2, rfl⟩⟩ := p_2
  · subst hx_2
    have hl := (live_iff h I hr_2).mp hc_2
    have hB := (h.2.2.2.2.1 r_2 hr_2).2 hl
    have i := I.b1 hr_2 hl
    refine go_astore_n 6 dX3_endBatch_5 rfl rfl (by decide) (st_s (st_s st_0)) ?_
    refine go_aload_n 7 dX3_endBatch_6 rfl rfl (ls_s (ls_s ls_0)) ?_
    refine go_ifnonnull 12 dX3_endBatch_7 (by decide) ?_
    refine go_aload_n 13 dX3_endBatch_12 rfl rfl (ls_s (ls_s ls_0)) ?_
    refine go_aload_n 14 dX3_endBatch_13 rfl rfl ls_0 ?_
    refine gp_getI 17 dX3_endBatch_14 rfl f_X3_71 rfl (tP hP) ?_
    refine go_top (y := (A 5)) h.1.2.2.2.1 ?_
    refine go_VI (M' := mX0_isRipe) 20 dX3_endBatch_17 rfl w_495 okX0_isRipe ⟨Nat.le_of_ble_eq_true rfl, Nat.le_of_ble_eq_true rfl⟩ (ct_isRipeA G hP h hr_2 hl _) rfl rfl (tB hP hr_2) (by decide) rfl (kk := ?_)
    refine go_ifeq_b 31 23 dX3_endBatch_20 (by decide) rfl (fun c_20 => ?_) (fun c_20 => ?_)
    · refine go_bipush 33 (v := (-2)) dX3_endBatch_31 rfl (by decide) ?_
      exact go_ret_i dX3_endBatch_33 rfl rfl rfl (pOp_e (fEnd_2 (isBat_n hr_2 hl) (fun z => c_20 (by rw [iN_n (by omega)] at z; exact z.1))) h)
    · by_cases hk : bS A r_2 + 1 < nS A (bR A r_2)
      · refine go_aload_n 24 dX3_endBatch_23 rfl rfl ls_0 ?_
        refine go_aload_n 25 dX3_endBatch_24 rfl rfl (ls_s (ls_s ls_0)) ?_
        refine go_VA (M' := mX3_nextStage) 28 dX3_endBatch_25 rfl w_491 okX3_nextStage ⟨Nat.le_of_ble_eq_true rfl, Nat.le_of_ble_eq_true rfl⟩ (ct_nxY G hP h I hr_2 hl hk) rfl rfl (tP hP) (by decide) rfl (kk := ?_)
        refine go_ifnull 31 dX3_endBatch_28 rfl ?_
        refine go_bipush 33 (v := (-2)) dX3_endBatch_31 rfl (by decide) ?_
        exact go_ret_i dX3_endBatch_33 rfl rfl rfl (pOp_e (fEnd_2 (isBat_n hr_2 hl) (fun z => by rw [iN_n (by omega)] at z; exact z.2 hk)) h)
      · refine go_aload_n 24 dX3_endBatch_23 rfl rfl ls_0 ?_
        refine go_aload_n 25 dX3_endBatch_24 rfl rfl (ls_s (ls_s ls_0)) ?_
        refine go_VZ (M' := mX3_nextStage) 28 dX3_endBatch_25 rfl w_491 okX3_nextStage ⟨Nat.le_of_ble_eq_true rfl, Nat.le_of_ble_eq_true rfl⟩ (ct_nxN G hP h I hr_2 hl hk) rfl rfl (tP hP) (by decide) rfl (kk := ?_)
        refine go_ifnullN 34 dX3_endBatch_28 (by decide) ?_
        refine go_aload_n 35 dX3_endBatch_34 rfl rfl (ls_s (ls_s ls_0)) ?_
        refine gp_getI 38 dX3_endBatch_35 rfl f_X3_251 rfl (tB hP hr_2) ?_
        refine go_top (y := (A (145 + 9 * r_2 + 6))) hB.2.2.2.2.2.1 ?_
        refine go_if_eq 56 41 dX3_endBatch_38 (by decide) rfl (fun c_38 => ?_) (fun c_38 => ?_)
        · have hv6 := I.bV6 hr_2 hl
          refine go_aload_n 57 dX3_endBatch_56 rfl rfl ls_0 ?_
          refine go_dup 58 dX3_endBatch_57 rfl rfl ?_
          refine gp_getI 61 dX3_endBatch_58 rfl f_X3_77 rfl (tP hP) ?_
          refine go_top (y := (A 7)) h.1.2.2.2.2.2.1 ?_
          refine go_aload_n 62 dX3_endBatch_61 rfl rfl (ls_s (ls_s ls_0)) ?_
          refine gp_getI 65 dX3_endBatch_62 rfl f_X3_221 rfl (tB hP hr_2) ?_
          refine go_top (y := (A (145 + 9 * r_2 + 2))) hB.2.2.2.1 ?_
          refine go_iadd 66 dX3_endBatch_65 rfl ?_
          refine gp_putI 69 dX3_endBatch_66 rfl f_X3_77 rfl (tP hP) rfl rfl ?_
          refine go_aload_n 70 dX3_endBatch_69 rfl rfl ls_0 ?_
          refine go_dup 71 dX3_endBatch_70 rfl rfl ?_
          refine gp_getI 74 dX3_endBatch_71 rfl f_X3_83 rfl (tP hP) ?_
          refine go_top (y := (A 9)) (by simp (disch := omega) only [wI_ne, wI_eq]; exact h.1.2.2.2.2.2.2.2.1) ?_
          refine go_iconst 75 (v := 1) dX3_endBatch_74 rfl (by decide) ?_
          refine go_iadd 76 dX3_endBatch_75 rfl ?_
          refine gp_putI 79 dX3_endBatch_76 rfl f_X3_83 rfl (tP hP) rfl rfl ?_
          refine go_aload_n 80 dX3_endBatch_79 rfl rfl ls_0 ?_
          refine go_aload_n 81 dX3_endBatch_80 rfl rfl (ls_s (ls_s ls_0)) ?_
          refine go_VN (M' := mX3_remove) 84 dX3_endBatch_81 rfl w_531 okX3_remove ⟨Nat.le_of_ble_eq_true rfl, Nat.le_of_ble_eq_true rfl⟩ (ct_remove G (wI (wI gi (P) 12 ((A 7) + (A (145 + 9 * r_2 + 2)))) (P) 14 ((A 9) + 1)) hP (v := bV A r_2) (n := nV A) hr_2 (I.bV6 hr_2 hl) (by simp (disch := omega) only [wI_ne, wI_eq]; exact hB.2.2.2.2.2.2.2.1.trans i.2.2.1.1) (by simp (disch := omega) only [wI_ne, wI_eq]; exact h.1.2.1.trans I.eV) I.nV6 i.2.2.1.2.1) rfl rfl (tP hP) (by decide) rfl (kk := ?_)
          refine go_aload_n 85 dX3_endBatch_84 rfl rfl (ls_s (ls_s ls_0)) ?_
          refine gp_getI 88 dX3_endBatch_85 rfl f_X3_221 rfl (tB hP hr_2) ?_
          refine go_top (y := (A (145 + 9 * r_2 + 2))) (by simp (disch := omega) only [wI_ne, wI_eq]; exact hB.2.2.2.1) ?_
          exact go_ret_i dX3_endBatch_88 rfl rfl rfl (pOp_m ((fEnd_y (isBat_n hr_2 hl) (by rw [iN_n (by omega)]; exact ⟨c_20, hk⟩)).trans (by rw [iN_n (by omega), cIf_f (by rw [c_38]; decide)]; rfl)) (rel_end_m h I hl hr_2) (by repeat (first | exact Out.rf _ _ | refine Out.wI ?_ (by omega) (by omega))))
        · obtain ⟨p, hp4, hpr⟩ := pr4 I hr_2 hl
          have hv6 := I.bV6 hr_2 hl
          refine go_aload_n 42 dX3_endBatch_41 rfl rfl ls_0 ?_
          refine go_aload_n 43 dX3_endBatch_42 rfl rfl (ls_s (ls_s ls_0)) ?_
          refine gp_getI 46 dX3_endBatch_43 rfl f_X3_220 rfl (tB hP hr_2) ?_
          refine go_top (y := (nI p)) (hB.2.1.trans hpr) ?_
          refine go_aload_n 47 dX3_endBatch_46 rfl rfl (ls_s (ls_s ls_0)) ?_
          refine gp_getI 50 dX3_endBatch_47 rfl f_X3_221 rfl (tB hP hr_2) ?_
          refine go_top (y := (A (145 + 9 * r_2 + 2))) hB.2.2.2.1 ?_
          refine go_VN (M' := mX3_addOffGrade) 53 dX3_endBatch_50 rfl w_527 okX3_addOffGrade ⟨Nat.le_of_ble_eq_true rfl, Nat.le_of_ble_eq_true rfl⟩ (ct_addOffA G gi hP hp4 (z := A (11 + p) + A (145 + 9 * r_2 + 2)) (by rw [h.2.2.2.2.2.2.2.2 p hp4])) rfl rfl (tP hP) (by decide) rfl (kk := ?_)
          refine go_goto 79 dX3_endBatch_53 (by decide) ?_
          refine go_aload_n 80 dX3_endBatch_79 rfl rfl ls_0 ?_
          refine go_aload_n 81 dX3_endBatch_80 rfl rfl (ls_s (ls_s ls_0)) ?_
          refine go_VN (M' := mX3_remove) 84 dX3_endBatch_81 rfl w_531 okX3_remove ⟨Nat.le_of_ble_eq_true rfl, Nat.le_of_ble_eq_true rfl⟩ (ct_remove G (wI gi (P + 7) p (A (11 + p) + A (145 + 9 * r_2 + 2))) hP (v := bV A r_2) (n := nV A) hr_2 (I.bV6 hr_2 hl) (by simp (disch := omega) only [wI_ne, wI_eq]; exact hB.2.2.2.2.2.2.2.1.trans i.2.2.1.1) (by simp (disch := omega) only [wI_ne, wI_eq]; exact h.1.2.1.trans I.eV) I.nV6 i.2.2.1.2.1) rfl rfl (tP hP) (by decide) rfl (kk := ?_)
          refine go_aload_n 85 dX3_endBatch_84 rfl rfl (ls_s (ls_s ls_0)) ?_
          refine gp_getI 88 dX3_endBatch_85 rfl f_X3_221 rfl (tB hP hr_2) ?_
          refine go_top (y := (A (145 + 9 * r_2 + 2))) (by simp (disch := omega) only [wI_ne, wI_eq]; exact hB.2.2.2.1) ?_
          exact go_ret_i dX3_endBatch_88 rfl rfl rfl (pOp_m ((fEnd_y (isBat_n hr_2 hl) (by rw [iN_n (by omega)]; exact ⟨c_20, hk⟩)).trans (by rw [iN_n (by omega), cIf_t ((sp01 I hr_2 hl).resolve_left c_38), hpr, iN_n (by omega)]; rfl)) (rel_end_s h I hl hr_2 hp4) (by repeat (first | exact Out.rf _ _ | refine Out.wI ?_ (by omega) (by omega))))
  · refine go_astore_nN 6 dX3_endBatch_5 rfl rfl (by decide) (st_s (st_s st_0)) ?_
    refine go_aload_nN 7 dX3_endBatch_6 rfl rfl (ls_s (ls_s ls_0)) ?_
    refine go_ifnonnullN 10 dX3_endBatch_7 rfl ?_
    refine go_iconst 11 (v := (-1)) dX3_endBatch_10 rfl (by decide) ?_
    exact go_ret_i dX3_endBatch_11 rfl rfl rfl (pOp_e (fEnd_1 (fun z => hno_2 ((batLive h I).mpr z))) h)
set_option maxHeartbeats 4000000 in
set_option maxRecDepth 100000 in
theorem ct_throwAway (G : BcG) (gi : GI) {P : Nat} (hP : isP P) {N : Nat} {A : AA} (h : Rel P A gi) (I : Inv N A) (x : Int32) : Ct G mX3_throwAway [.ref (G.1 + P), .int x] (hp gi) (pOp P gi (fDiscard A x)) := by
  refine ct_of [some (.ref (G.1 + P)), some (.int x), none] w_2 (by decide) rfl (Nat.le_of_ble_eq_true rfl) rfl ?_
  refine go_aload_n 1 dX3_throwAway_0 rfl rfl ls_0 ?_
  refine go_iload_n 2 dX3_throwAway_1 rfl rfl (ls_s ls_0) ?_
  refine go_V (M' := mX3_batchAt) 5 dX3_throwAway_2 rfl w_483 okX3_batchAt ⟨Nat.le_of_ble_eq_true rfl, Nat.le_of_ble_eq_true rfl⟩ rfl rfl (Nat.le_of_ble_eq_true rfl) (Nat.le_of_ble_eq_true rfl) (ct_batchAt G gi hP _) rfl rfl (Nat.le_of_ble_eq_true rfl) (tP hP) (by decide) rfl (fun v_2 h_2 p_2 => ?_)
  simp only [pAt] at p_2
  obtain ⟨rfl, ⟨r_2, hr_2, hx_2, hc_2, rfl⟩ | ⟨hno_2, rfl⟩⟩ := p_2
  · subst hx_2
    have hl := (live_iff h I hr_2).mp hc_2
    have hB := (h.2.2.2.2.1 r_2 hr_2).2 hl
    have i := I.b1 hr_2 hl
    refine go_astore_n 6 dX3_throwAway_5 rfl rfl (by decide) (st_s (st_s st_0)) ?_
    refine go_aload_n 7 dX3_throwAway_6 rfl rfl (ls_s (ls_s ls_0)) ?_
    refine go_ifnonnull 12 dX3_throwAway_7 (by decide) ?_
    have hv6 := I.bV6 hr_2 hl
    refine go_aload_n 13 dX3_throwAway_12 rfl rfl ls_0 ?_
    refine go_dup 14 dX3_throwAway_13 rfl rfl ?_
    refine gp_getI 17 dX3_throwAway_14 rfl f_X3_80 rfl (tP hP) ?_
    refine go_top (y := (A 8)) h.1.2.2.2.2.2.2.1 ?_
    refine go_aload_n 18 dX3_throwAway_17 rfl rfl (ls_s (ls_s ls_0)) ?_
    refine gp_getI 21 dX3_throwAway_18 rfl f_X3_221 rfl (tB hP hr_2) ?_
    refine go_top (y := (A (145 + 9 * r_2 + 2))) hB.2.2.2.1 ?_
    refine go_iadd 22 dX3_throwAway_21 rfl ?_
    refine gp_putI 25 dX3_throwAway_22 rfl f_X3_80 rfl (tP hP) rfl rfl ?_
    refine go_aload_n 26 dX3_throwAway_25 rfl rfl ls_0 ?_
    refine go_aload_n 27 dX3_throwAway_26 rfl rfl (ls_s (ls_s ls_0)) ?_
    refine go_VN (M' := mX3_remove) 30 dX3_throwAway_27 rfl w_531 okX3_remove ⟨Nat.le_of_ble_eq_true rfl, Nat.le_of_ble_eq_true rfl⟩ (ct_remove G (wI gi (P) 13 ((A 8) + (A (145 + 9 * r_2 + 2)))) hP (v := bV A r_2) (n := nV A) hr_2 (I.bV6 hr_2 hl) (by simp (disch := omega) only [wI_ne, wI_eq]; exact hB.2.2.2.2.2.2.2.1.trans i.2.2.1.1) (by simp (disch := omega) only [wI_ne, wI_eq]; exact h.1.2.1.trans I.eV) I.nV6 i.2.2.1.2.1) rfl rfl (tP hP) (by decide) rfl (kk := ?_)
    refine go_aload_n 31 dX3_throwAway_30 rfl rfl (ls_s (ls_s ls_0)) ?_
    refine gp_getI 34 dX3_throwAway_31 rfl f_X3_221 rfl (tB hP hr_2) ?_
    refine go_top (y := (A (145 + 9 * r_2 + 2))) (by simp (disch := omega) only [wI_ne, wI_eq]; exact hB.2.2.2.1) ?_
    exact go_ret_i dX3_throwAway_34 rfl rfl rfl (pOp_m ((fDiscard_y (isBat_n hr_2 hl)).trans (by rw [iN_n (by omega)]; rfl)) (rel_discard h I hl hr_2) (by repeat (first | exact Out.rf _ _ | refine Out.wI ?_ (by omega) (by omega))))
  · refine go_astore_nN 6 dX3_throwAway_5 rfl rfl (by decide) (st_s (st_s st_0)) ?_
    refine go_aload_nN 7 dX3_throwAway_6 rfl rfl (ls_s (ls_s ls_0)) ?_
    refine go_ifnonnullN 10 dX3_throwAway_7 rfl ?_
    refine go_iconst 11 (v := (-1)) dX3_throwAway_10 rfl (by decide) ?_
    exact go_ret_i dX3_throwAway_11 rfl rfl rfl (pOp_e (fDiscard_1 (fun z => hno_2 ((batLive h I).mpr z))) h)
theorem bl_cmp {a c s : Nat} (ha : a ≤ 999) (hc : c ≤ 999) (hs : s ≤ 999) : (nI a + nI c ≤ nI s) ↔ nI c ≤ nI s - nI a := by
  rw [nI_add, nI_leI (by omega) (by omega), Int32.le_iff_toInt_le, pk_sub_toInt (by omega) (by omega), nI_toInt (by omega)]
  omega
theorem bl_iff {N : Nat} {A : AA} (I : Inv N A) {b : Nat} (hb : b < 6) (hl : live A b) {k p : Nat} (hk : k ≤ 999) (hp : prF A b = nI p) (hp4 : p < 4) :
    blOk A b (nI k) ↔ A (145 + 9 * b + 3) = 0 ∧ A (145 + 9 * b + 6) = 0 ∧ A (145 + 9 * b + 2) + nI k ≤ A (103 + 5 * bV A b + 1) ∧ A (145 + 9 * b + 7) + nI k ≤ A (145 + 9 * b + 8) * A 1 / 100 ∧ nI k ≤ A (11 + p) := by
  have i := I.b1 hb hl
  have h1 := i.2.2.2.1
  have h2 := (I.2.2.2.1 _ (I.bV6 hb hl)).2.1
  have e := bl_cmp h1.2 hk h2.2
  rw [← h1.1, ← h2.1] at e
  unfold blOk
  rw [hp, iN_n (by omega), e, Int32.mul_comm (A 1)]
set_option maxHeartbeats 4000000 in
set_option maxRecDepth 100000 in
theorem ct_blendIn (G : BcG) (gi : GI) {P : Nat} (hP : isP P) {N : Nat} {A : AA} (h : Rel P A gi) (I : Inv N A) (x m : Int32) : Ct G mX3_blendIn [.ref (G.1 + P), .int x, .int m] (hp gi) (pOp P gi (fBlend A x m)) := by
  refine ct_of [some (.ref (G.1 + P)), some (.int x), some (.int m), none, none, none] w_2 (by decide) rfl (Nat.le_of_ble_eq_true rfl) rfl ?_
  refine go_aload_n 1 dX3_blendIn_0 rfl rfl ls_0 ?_
  refine go_iload_n 2 dX3_blendIn_1 rfl rfl (ls_s ls_0) ?_
  refine go_V (M' := mX3_batchAt) 5 dX3_blendIn_2 rfl w_483 okX3_batchAt ⟨Nat.le_of_ble_eq_true rfl, Nat.le_of_ble_eq_true rfl⟩ rfl rfl (Nat.le_of_ble_eq_true rfl) (Nat.le_of_ble_eq_true rfl) (ct_batchAt G gi hP _) rfl rfl (Nat.le_of_ble_eq_true rfl) (tP hP) (by decide) rfl (fun v_2 h_2 p_2 => ?_)
  simp only [pAt] at p_2
  obtain ⟨rfl, ⟨r_2, hr_2, hx_2, hc_2, rfl⟩ | ⟨hno_2, rfl⟩⟩ := p_2
  · subst hx_2
    have hl := (live_iff h I hr_2).mp hc_2
    have hB := (h.2.2.2.2.1 r_2 hr_2).2 hl
    have i := I.b1 hr_2 hl
    refine go_astore_n 6 dX3_blendIn_5 rfl rfl (by decide) (st_s (st_s (st_s st_0))) ?_
    refine go_aload_n 7 dX3_blendIn_6 rfl rfl (ls_s (ls_s (ls_s ls_0))) ?_
    refine go_ifnull 10 dX3_blendIn_7 rfl ?_
    refine go_iload_n 11 dX3_blendIn_10 rfl rfl (ls_s (ls_s ls_0)) ?_
    refine go_iconst 12 (v := 1) dX3_blendIn_11 rfl (by decide) ?_
    refine go_sipush 15 (v := 999) dX3_blendIn_12 rfl (by decide) ?_
    refine go_TI (M' := mX8_isWithin) 18 dX3_blendIn_15 rfl x_X3_106 okX8_isWithin ⟨Nat.le_of_ble_eq_true rfl, Nat.le_of_ble_eq_true rfl⟩ (ct_isWithin G gi _ _ _) rfl rfl (kk := ?_)
    refine go_ifne_b 23 21 dX3_blendIn_18 (by decide) rfl (fun c_18 => ?_) (fun c_18 => ?_)
    · obtain ⟨kk, hk1, hk9, rfl⟩ := in999 c_18
      obtain ⟨p, hp4, hpr⟩ := pr4 I hr_2 hl
      have hv6 := I.bV6 hr_2 hl
      have hV := (h.2.2.1 _ hv6).1 i.2.2.1.2.1
      refine go_aload_n 24 dX3_blendIn_23 rfl rfl ls_0 ?_
      refine go_aload_n 25 dX3_blendIn_24 rfl rfl (ls_s (ls_s (ls_s ls_0))) ?_
      refine gp_getI 28 dX3_blendIn_25 rfl f_X3_245 rfl (tB hP hr_2) ?_
      refine go_top (y := (nI (bV A r_2))) (hB.2.2.2.2.2.2.2.1.trans i.2.2.1.1) ?_
      refine go_VA (M' := mX3_vesselAt) 31 dX3_blendIn_28 rfl w_395 okX3_vesselAt ⟨Nat.le_of_ble_eq_true rfl, Nat.le_of_ble_eq_true rfl⟩ (Ct.weak (ct_vesselAt G gi hP _ (nV A) (h.1.2.1.trans I.eV) I.nV6) (pAt_y (n := nV A) (f := fun r => P + 32 + r) (c := fun _ => True) (by have := I.nV6; omega) i.2.2.1.2.1 trivial)) rfl rfl (tP hP) (by decide) rfl (kk := ?_)
      refine go_astore 33 dX3_blendIn_31 rfl (by decide) (st_s (st_s (st_s (st_s st_0)))) ?_
      refine go_aload_n 34 dX3_blendIn_33 rfl rfl (ls_s (ls_s (ls_s ls_0))) ?_
      refine gp_getI 37 dX3_blendIn_34 rfl f_X3_261 rfl (tB hP hr_2) ?_
      refine go_top (y := (A (145 + 9 * r_2 + 8))) hB.2.2.1 ?_
      refine go_aload_n 38 dX3_blendIn_37 rfl rfl ls_0 ?_
      refine gp_getR 41 dX3_blendIn_38 rfl f_X3_39 rfl (tP hP) (rS hP) ?_
      refine go_iconst 42 (v := 1) dX3_blendIn_41 rfl (by decide) ?_
      refine go_TI (M' := mX8_entryAt) 45 dX3_blendIn_42 rfl x_X3_168 okX8_entryAt ⟨Nat.le_of_ble_eq_true rfl, Nat.le_of_ble_eq_true rfl⟩ (ct_entryAt G gi _ 2 _ (aS hP) (by decide)) rfl rfl (kk := ?_)
      refine go_top (y := (A 1)) (by rw [show (1 : Int32) = nI 1 from rfl, entF_n (by decide) (by decide)]; exact h.2.2.2.2.2.2.2.1) ?_
      refine go_imul 46 dX3_blendIn_45 rfl ?_
      refine go_bipush 48 (v := 100) dX3_blendIn_46 rfl (by decide) ?_
      refine go_idiv 49 dX3_blendIn_48 rfl (by decide) ?_
      refine go_istore 51 dX3_blendIn_49 rfl (by decide) (st_s (st_s (st_s (st_s (st_s st_0))))) ?_
      refine go_aload 53 dX3_blendIn_51 rfl (ls_s (ls_s (ls_s (ls_s ls_0)))) ?_
      refine go_ifnull 56 dX3_blendIn_53 rfl ?_
      refine go_aload_n 57 dX3_blendIn_56 rfl rfl (ls_s (ls_s (ls_s ls_0))) ?_
      refine gp_getI 60 dX3_blendIn_57 rfl f_X3_236 rfl (tB hP hr_2) ?_
      refine go_top (y := (A (145 + 9 * r_2 + 3))) hB.2.2.2.2.2.2.1 ?_
      refine go_if_ne 110 63 dX3_blendIn_60 (by decide) rfl (fun c_60 => ?_) (fun c_60 => ?_)
      · refine go_bipush 112 (v := (-2)) dX3_blendIn_110 rfl (by decide) ?_
        exact go_ret_i dX3_blendIn_112 rfl rfl rfl (pOp_e (fBlend_2 ⟨isBat_n hr_2 hl, c_18⟩ (fun q => by rw [iN_n (by omega)] at q; have z := (bl_iff I hr_2 hl hk9 hpr hp4).mp q; exact c_60 z.1)) h)
      · refine go_aload_n 64 dX3_blendIn_63 rfl rfl (ls_s (ls_s (ls_s ls_0))) ?_
        refine gp_getI 67 dX3_blendIn_64 rfl f_X3_251 rfl (tB hP hr_2) ?_
        refine go_top (y := (A (145 + 9 * r_2 + 6))) hB.2.2.2.2.2.1 ?_
        refine go_if_ne 110 70 dX3_blendIn_67 (by decide) rfl (fun c_67 => ?_) (fun c_67 => ?_)
        · refine go_bipush 112 (v := (-2)) dX3_blendIn_110 rfl (by decide) ?_
          exact go_ret_i dX3_blendIn_112 rfl rfl rfl (pOp_e (fBlend_2 ⟨isBat_n hr_2 hl, c_18⟩ (fun q => by rw [iN_n (by omega)] at q; have z := (bl_iff I hr_2 hl hk9 hpr hp4).mp q; exact c_67 z.2.1)) h)
        · refine go_aload_n 71 dX3_blendIn_70 rfl rfl (ls_s (ls_s (ls_s ls_0))) ?_
          refine gp_getI 74 dX3_blendIn_71 rfl f_X3_221 rfl (tB hP hr_2) ?_
          refine go_top (y := (A (145 + 9 * r_2 + 2))) hB.2.2.2.1 ?_
          refine go_iload_n 75 dX3_blendIn_74 rfl rfl (ls_s (ls_s ls_0)) ?_
          refine go_iadd 76 dX3_blendIn_75 rfl ?_
          refine go_aload 78 dX3_blendIn_76 rfl (ls_s (ls_s (ls_s (ls_s ls_0)))) ?_
          refine gp_getI 81 dX3_blendIn_78 rfl f_X3_150 rfl (tV hP hv6) ?_
          refine go_top (y := (A (103 + 5 * bV A r_2 + 1))) hV.2.1 ?_
          refine go_icmp_gt 110 84 dX3_blendIn_81 (by decide) rfl (fun c_81 => ?_) (fun c_81 => ?_)
          · refine go_bipush 112 (v := (-2)) dX3_blendIn_110 rfl (by decide) ?_
            exact go_ret_i dX3_blendIn_112 rfl rfl rfl (pOp_e (fBlend_2 ⟨isBat_n hr_2 hl, c_18⟩ (fun q => by rw [iN_n (by omega)] at q; have z := (bl_iff I hr_2 hl hk9 hpr hp4).mp q; exact (Int32.not_le.mpr c_81) z.2.2.1)) h)
          · refine go_aload_n 85 dX3_blendIn_84 rfl rfl (ls_s (ls_s (ls_s ls_0))) ?_
            refine gp_getI 88 dX3_blendIn_85 rfl f_X3_264 rfl (tB hP hr_2) ?_
            refine go_top (y := (A (145 + 9 * r_2 + 7))) hB.2.2.2.2.1 ?_
            refine go_iload_n 89 dX3_blendIn_88 rfl rfl (ls_s (ls_s ls_0)) ?_
            refine go_iadd 90 dX3_blendIn_89 rfl ?_
            refine go_iload 92 dX3_blendIn_90 rfl (ls_s (ls_s (ls_s (ls_s (ls_s ls_0))))) ?_
            refine go_icmp_gt 110 95 dX3_blendIn_92 (by decide) rfl (fun c_92 => ?_) (fun c_92 => ?_)
            · refine go_bipush 112 (v := (-2)) dX3_blendIn_110 rfl (by decide) ?_
              exact go_ret_i dX3_blendIn_112 rfl rfl rfl (pOp_e (fBlend_2 ⟨isBat_n hr_2 hl, c_18⟩ (fun q => by rw [iN_n (by omega)] at q; have z := (bl_iff I hr_2 hl hk9 hpr hp4).mp q; exact (Int32.not_le.mpr c_92) z.2.2.2.1)) h)
            · refine go_iload_n 96 dX3_blendIn_95 rfl rfl (ls_s (ls_s ls_0)) ?_
              refine go_aload_n 97 dX3_blendIn_96 rfl rfl ls_0 ?_
              refine gp_getR 100 dX3_blendIn_97 rfl f_X3_42 rfl (tP hP) (rO hP) ?_
              refine go_aload_n 101 dX3_blendIn_100 rfl rfl (ls_s (ls_s (ls_s ls_0))) ?_
              refine gp_getI 104 dX3_blendIn_101 rfl f_X3_220 rfl (tB hP hr_2) ?_
              refine go_top (y := (nI p)) (hB.2.1.trans hpr) ?_
              refine go_TI (M' := mX8_entryAt) 107 dX3_blendIn_104 rfl x_X3_168 okX8_entryAt ⟨Nat.le_of_ble_eq_true rfl, Nat.le_of_ble_eq_true rfl⟩ (ct_entryAt G gi _ 4 _ (aO hP) (by decide)) rfl rfl (kk := ?_)
              refine go_top (y := (A (11 + p))) (by rw [entF_n hp4 (by decide)]; exact h.2.2.2.2.2.2.2.2 p hp4) ?_
              refine go_icmp_le 113 110 dX3_blendIn_107 (by decide) rfl (fun c_107 => ?_) (fun c_107 => ?_)
              · refine go_aload_n 114 dX3_blendIn_113 rfl rfl ls_0 ?_
                refine go_aload_n 115 dX3_blendIn_114 rfl rfl (ls_s (ls_s (ls_s ls_0))) ?_
                refine gp_getI 118 dX3_blendIn_115 rfl f_X3_220 rfl (tB hP hr_2) ?_
                refine go_top (y := (nI p)) (hB.2.1.trans hpr) ?_
                refine go_iload_n 119 dX3_blendIn_118 rfl rfl (ls_s (ls_s ls_0)) ?_
                refine go_ineg 120 dX3_blendIn_119 rfl ?_
                refine go_VN (M' := mX3_addOffGrade) 123 dX3_blendIn_120 rfl w_527 okX3_addOffGrade ⟨Nat.le_of_ble_eq_true rfl, Nat.le_of_ble_eq_true rfl⟩ (ct_addOffA G gi hP hp4 (z := A (11 + p) - nI kk) (by rw [h.2.2.2.2.2.2.2.2 p hp4, Int32.sub_eq_add_neg])) rfl rfl (tP hP) (by decide) rfl (kk := ?_)
                refine go_aload_n 124 dX3_blendIn_123 rfl rfl (ls_s (ls_s (ls_s ls_0))) ?_
                refine go_dup 125 dX3_blendIn_124 rfl rfl ?_
                refine gp_getI 128 dX3_blendIn_125 rfl f_X3_264 rfl (tB hP hr_2) ?_
                refine go_top (y := (A (145 + 9 * r_2 + 7))) (by simp (disch := omega) only [wI_ne, wI_eq]; exact hB.2.2.2.2.1) ?_
                refine go_iload_n 129 dX3_blendIn_128 rfl rfl (ls_s (ls_s ls_0)) ?_
                refine go_iadd 130 dX3_blendIn_129 rfl ?_
                refine gp_putI 133 dX3_blendIn_130 rfl f_X3_264 rfl (tB hP hr_2) rfl rfl ?_
                refine go_aload_n 134 dX3_blendIn_133 rfl rfl (ls_s (ls_s (ls_s ls_0))) ?_
                refine go_dup 135 dX3_blendIn_134 rfl rfl ?_
                refine gp_getI 138 dX3_blendIn_135 rfl f_X3_221 rfl (tB hP hr_2) ?_
                refine go_top (y := (A (145 + 9 * r_2 + 2))) (by simp (disch := omega) only [wI_ne, wI_eq]; exact hB.2.2.2.1) ?_
                refine go_iload_n 139 dX3_blendIn_138 rfl rfl (ls_s (ls_s ls_0)) ?_
                refine go_iadd 140 dX3_blendIn_139 rfl ?_
                refine gp_putI 143 dX3_blendIn_140 rfl f_X3_221 rfl (tB hP hr_2) rfl rfl ?_
                refine go_aload_n 144 dX3_blendIn_143 rfl rfl (ls_s (ls_s (ls_s ls_0))) ?_
                refine gp_getI 147 dX3_blendIn_144 rfl f_X3_221 rfl (tB hP hr_2) ?_
                refine go_top (y := ((A (145 + 9 * r_2 + 2)) + nI kk)) (by simp (disch := omega) only [wI_ne, wI_eq]) ?_
                exact go_ret_i dX3_blendIn_147 rfl rfl rfl (pOp_m ((fBlend_y ⟨isBat_n hr_2 hl, c_18⟩ (by rw [iN_n (by omega)]; exact (bl_iff I hr_2 hl hk9 hpr hp4).mpr ⟨c_60, c_67, Int32.not_lt.mp c_81, Int32.not_lt.mp c_92, c_107⟩)).trans (by rw [iN_n (by omega), hpr, iN_n (by omega)])) (rel_blend h I hl hr_2 hp4) (by repeat (first | exact Out.rf _ _ | refine Out.wI ?_ (by omega) (by omega))))
              · refine go_bipush 112 (v := (-2)) dX3_blendIn_110 rfl (by decide) ?_
                exact go_ret_i dX3_blendIn_112 rfl rfl rfl (pOp_e (fBlend_2 ⟨isBat_n hr_2 hl, c_18⟩ (fun q => by rw [iN_n (by omega)] at q; have z := (bl_iff I hr_2 hl hk9 hpr hp4).mp q; exact c_107 z.2.2.2.2)) h)
    · refine go_iconst 22 (v := (-1)) dX3_blendIn_21 rfl (by decide) ?_
      exact go_ret_i dX3_blendIn_22 rfl rfl rfl (pOp_e (fBlend_1 (fun z => c_18 z.2)) h)
  · refine go_astore_nN 6 dX3_blendIn_5 rfl rfl (by decide) (st_s (st_s (st_s st_0))) ?_
    refine go_aload_nN 7 dX3_blendIn_6 rfl rfl (ls_s (ls_s (ls_s ls_0))) ?_
    refine go_ifnullN 21 dX3_blendIn_7 (by decide) ?_
    refine go_iconst 22 (v := (-1)) dX3_blendIn_21 rfl (by decide) ?_
    exact go_ret_i dX3_blendIn_22 rfl rfl rfl (pOp_e (fBlend_1 (fun z => hno_2 ((batLive h I).mpr z.1))) h)
/-- Inv is kept where a batch is marked as spoiled -/
theorem inv_spoil {N : Nat} {A : AA} (I : Inv N A) {b : Nat} (hb : b < 6) : Inv N (upd A (145 + 9 * b + 6) 1) := by
  obtain ⟨h1, h2, h3, h4, h5, h6, h7, h8⟩ := I
  refine ⟨?_, fun i hi => ?_, fun r hr => ?_, fun v hv => ?_, fun k hk => ?_, fun c hc => ?_, fun j hj => ?_, h8⟩
  · unfold InvS at *
    simp (disch := omega) only [upd_ne]
    exact h1
  · have := h2 i hi
    simp (disch := omega) only [upd_ne]
    exact this
  · obtain ⟨a, b, c⟩ := h3 r hr
    unfold stg at *
    simp (disch := omega) only [upd_ne]
    refine ⟨a, b, fun k hk => ?_⟩
    try simp (disch := omega) only [upd_ne]
    exact c k hk
  · have := h4 v hv
    simp (disch := omega) only [upd_ne]
    exact this
  · have := h5 k hk
    unfold nL at *
    simp (disch := omega) only [upd_ne]
    exact this
  · obtain ⟨a, q⟩ := h6 c hc
    refine ⟨by simp (disch := omega) only [upd_ne]; exact a, fun hl => ?_⟩
    have hl' : live A c := by unfold live at *; simp (disch := omega) only [upd_ne] at hl; exact hl
    have i := q hl'
    have hv6 : bV A c < 6 := Nat.lt_of_lt_of_le i.2.2.1.2.1 h1.2.1.2
    have hr4 : bR A c < 4 := Nat.lt_of_lt_of_le i.1.2 h1.1.2
    unfold InvB1 bR bS bV nS nR nV at *
    by_cases e : c = b
    · subst e
      simp (disch := omega) only [upd_ne, upd_eq]
      exact ⟨i.1, i.2.1, i.2.2.1, i.2.2.2.1, i.2.2.2.2.1, bd_n (n := 1) (by decide) (by decide), i.2.2.2.2.2.2⟩
    · simp (disch := omega) only [upd_ne]
      exact i
  · simp (disch := omega) only [upd_ne]
    exact h7 j hj
theorem inv_time {N : Nat} {A : AA} (I : Inv N A) {t : Nat} (ht : t ≤ 30000) : Inv N (upd A 5 (nI t)) := by
  obtain ⟨h1, h2, h3, h4, h5, h6, h7, h8⟩ := I
  refine ⟨?_, fun i hi => ?_, fun r hr => ?_, fun v hv => ?_, fun k hk => ?_, fun c hc => ?_, fun j hj => ?_, h8⟩
  · unfold InvS at *
    simp (disch := omega) only [upd_ne, upd_eq]
    exact ⟨h1.1, h1.2.1, h1.2.2.1, bd_n ht (by decide), h1.2.2.2.2⟩
  · have := h2 i hi
    simp (disch := omega) only [upd_ne]
    exact this
  · obtain ⟨a, b, c⟩ := h3 r hr
    unfold stg at *
    simp (disch := omega) only [upd_ne]
    refine ⟨a, b, fun k hk => ?_⟩
    try simp (disch := omega) only [upd_ne]
    exact c k hk
  · have := h4 v hv
    simp (disch := omega) only [upd_ne]
    exact this
  · have := h5 k hk
    unfold nL at *
    simp (disch := omega) only [upd_ne]
    exact this
  · obtain ⟨a, q⟩ := h6 c hc
    refine ⟨by simp (disch := omega) only [upd_ne]; exact a, fun hl => ?_⟩
    have hl' : live A c := by unfold live at *; simp (disch := omega) only [upd_ne] at hl; exact hl
    have i := q hl'
    have hv6 : bV A c < 6 := Nat.lt_of_lt_of_le i.2.2.1.2.1 h1.2.1.2
    have hr4 : bR A c < 4 := Nat.lt_of_lt_of_le i.1.2 h1.1.2
    unfold InvB1 bR bS bV nS nR nV at *
    simp (disch := omega) only [upd_ne]
    exact i
  · simp (disch := omega) only [upd_ne]
    exact h7 j hj
set_option maxHeartbeats 4000000 in
set_option maxRecDepth 100000 in
theorem lp_letPass (G : BcG) {P : Nat} (hP : isP P) {N : Nat} (m : Int32) (gi0 : GI) : ∀ (n i : Nat) (gi : GI) (A : AA) (c : Nat), i + n = 6 → (c ≤ i) → (Rel P A gi) → (Inv N A) → (Out P gi0 gi) → BGo G mX3_letPass (KM G mX3_letPass 341 (pOp P gi0 ((psF A i n c).1, upd (psF A i n c).2 10 ((psF A i n c).2 10 + (psF A i n c).1)))) (hp gi) 0 0 42 [some (.ref (G.1 + P)), some (.int m), some (.int (nI c)), some (.int (nI i)), none] [] := by
  intro n
  induction n with
  | zero =>
    intro i gi A c hn hc h I ho
    obtain rfl : i = 6 := by omega
    refine go_iload_n 43 dX3_letPass_42 rfl rfl (ls_s (ls_s (ls_s ls_0))) ?_
    refine go_aload_n 44 dX3_letPass_43 rfl rfl ls_0 ?_
    refine gp_getR 47 dX3_letPass_44 rfl f_X3_31 rfl (tP hP) (rB hP) ?_
    refine gp_alen 48 (v := nI 6) dX3_letPass_47 rfl (aB hP) (by decide) (by decide) rfl ?_
    refine go_icmp_ge 102 51 dX3_letPass_48 (by decide) rfl (fun c_48 => ?_) (fun c_48 => absurd c_48 (by decide))
    refine go_aload_n 103 dX3_letPass_102 rfl rfl ls_0 ?_
    refine go_dup 104 dX3_letPass_103 rfl rfl ?_
    refine gp_getI 107 dX3_letPass_104 rfl f_X3_86 rfl (tP hP) ?_
    refine go_top (y := (A 10)) h.1.2.2.2.2.2.2.2.2 ?_
    refine go_iload_n 108 dX3_letPass_107 rfl rfl (ls_s (ls_s ls_0)) ?_
    refine go_iadd 109 dX3_letPass_108 rfl ?_
    refine gp_putI 112 dX3_letPass_109 rfl f_X3_86 rfl (tP hP) rfl rfl ?_
    refine go_iload_n 113 dX3_letPass_112 rfl rfl (ls_s (ls_s ls_0)) ?_
    exact go_ret_i dX3_letPass_113 rfl rfl rfl ⟨rfl, _, rfl, by have := rel_bad (x := A 10 + nI c) h I; exact this, by refine Out.wI ho (by omega) (by omega)⟩
  | succ n ih =>
    intro i gi A c hn hc h I ho
    have hi : i < 6 := by omega
    have hB2 := (h.2.2.2.2.1 i hi).2
    refine go_iload_n 43 dX3_letPass_42 rfl rfl (ls_s (ls_s (ls_s ls_0))) ?_
    refine go_aload_n 44 dX3_letPass_43 rfl rfl ls_0 ?_
    refine gp_getR 47 dX3_letPass_44 rfl f_X3_31 rfl (tP hP) (rB hP) ?_
    refine gp_alen 48 (v := nI 6) dX3_letPass_47 rfl (aB hP) (by decide) (by decide) rfl ?_
    refine go_icmp_ge 102 51 dX3_letPass_48 (by decide) rfl (fun c_48 => absurd c_48 (nI_ge hi (by decide))) (fun c_48 => ?_)
    refine go_aload_n 52 dX3_letPass_51 rfl rfl ls_0 ?_
    refine gp_getR 55 dX3_letPass_52 rfl f_X3_31 rfl (tP hP) (rB hP) ?_
    refine go_iload_n 56 dX3_letPass_55 rfl rfl (ls_s (ls_s (ls_s ls_0))) ?_
    refine gp_aald 57 (i := i) dX3_letPass_56 rfl (aB hP) (by decide) rfl rfl hi (by decide) (rBi hP hi) ?_
    refine go_astore 59 dX3_letPass_57 rfl (by decide) (st_s (st_s (st_s (st_s st_0)))) ?_
    refine go_aload 61 dX3_letPass_59 rfl (ls_s (ls_s (ls_s (ls_s ls_0)))) ?_
    refine gp_getI 64 dX3_letPass_61 rfl f_X3_102 rfl (tB hP hi) ?_
    refine go_if_eq 96 67 dX3_letPass_64 (by decide) rfl (fun c_64 => ?_) (fun c_64 => ?_)
    · refine go_iinc 99 (v := (nI (i + 1))) dX3_letPass_96 rfl (ls_s (ls_s (ls_s ls_0))) (by exact nI_1 i) (by decide) (st_s (st_s (st_s st_0))) ?_
      refine go_goto 42 dX3_letPass_99 (by decide) ?_
      rw [show psF A i (n + 1) c = psF A (i + 1) n c from by rw [psF, cIf_f (fun z => (live_iff h I hi).mpr z.1 c_64)]]
      refine go_less (le_k (le_k (le_k (le_k (le_n le_0))))) ?_
      exact ih (i + 1) gi A c (by omega) (by omega) h I ho
    · have hl := (live_iff h I hi).mp c_64
      have hB := hB2 hl
      refine go_aload 69 dX3_letPass_67 rfl (ls_s (ls_s (ls_s (ls_s ls_0)))) ?_
      refine gp_getI 72 dX3_letPass_69 rfl f_X3_251 rfl (tB hP hi) ?_
      refine go_if_ne 96 75 dX3_letPass_72 (by decide) rfl (fun c_72 => ?_) (fun c_72 => ?_)
      · refine go_iinc 99 (v := (nI (i + 1))) dX3_letPass_96 rfl (ls_s (ls_s (ls_s ls_0))) (by exact nI_1 i) (by decide) (st_s (st_s (st_s st_0))) ?_
        refine go_goto 42 dX3_letPass_99 (by decide) ?_
        rw [show psF A i (n + 1) c = psF A (i + 1) n c from by rw [psF, cIf_f (fun z => c_72 ((hB2 z.1).2.2.2.2.2.1.trans z.2.1))]]
        refine go_less (le_k (le_k (le_k (le_k (le_n le_0))))) ?_
        exact ih (i + 1) gi A c (by omega) (by omega) h I ho
      · refine go_aload_n 76 dX3_letPass_75 rfl rfl ls_0 ?_
        refine gp_getI 79 dX3_letPass_76 rfl f_X3_71 rfl (tP hP) ?_
        refine go_top (y := (A 5)) h.1.2.2.2.1 ?_
        refine go_aload 81 dX3_letPass_79 rfl (ls_s (ls_s (ls_s (ls_s ls_0)))) ?_
        refine gp_getI 84 dX3_letPass_81 rfl f_X3_267 rfl (tB hP hi) ?_
        refine go_icmp_le 96 87 dX3_letPass_84 (by decide) rfl (fun c_84 => ?_) (fun c_84 => ?_)
        · refine go_iinc 99 (v := (nI (i + 1))) dX3_letPass_96 rfl (ls_s (ls_s (ls_s ls_0))) (by exact nI_1 i) (by decide) (st_s (st_s (st_s st_0))) ?_
          refine go_goto 42 dX3_letPass_99 (by decide) ?_
          rw [show psF A i (n + 1) c = psF A (i + 1) n c from by rw [psF, cIf_f (fun z => absurd z.2.2 (Int32.not_lt.mpr (by rw [← (hB2 z.1).2.2.2.2.2.2.2.2.2.2.2]; exact c_84)))]]
          refine go_less (le_k (le_k (le_k (le_k (le_n le_0))))) ?_
          exact ih (i + 1) gi A c (by omega) (by omega) h I ho
        · refine go_aload 89 dX3_letPass_87 rfl (ls_s (ls_s (ls_s (ls_s ls_0)))) ?_
          refine go_iconst 90 (v := 1) dX3_letPass_89 rfl (by decide) ?_
          refine gp_putI 93 dX3_letPass_90 rfl f_X3_251 rfl (tB hP hi) rfl rfl ?_
          refine go_iinc 96 (v := (nI (c + 1))) dX3_letPass_93 rfl (ls_s (ls_s ls_0)) (by exact nI_1 c) (by decide) (st_s (st_s st_0)) ?_
          refine go_iinc 99 (v := (nI (i + 1))) dX3_letPass_96 rfl (ls_s (ls_s (ls_s ls_0))) (by exact nI_1 i) (by decide) (st_s (st_s (st_s st_0))) ?_
          refine go_goto 42 dX3_letPass_99 (by decide) ?_
          rw [show psF A i (n + 1) c = psF (upd A (145 + 9 * i + 6) 1) (i + 1) n (c + 1) from by rw [psF, cIf_t ⟨hl, by rw [← hB.2.2.2.2.2.1]; exact c_72, Int32.not_le.mp (by rw [← hB.2.2.2.2.2.2.2.2.2.2.2]; exact c_84)⟩]]
          refine go_less (le_k (le_k (le_k (le_k (le_n le_0))))) ?_
          exact ih (i + 1) _ _ (c + 1) (by omega) (by omega) (rel_spoil h I hl hi) (inv_spoil I hi) (ho.wI (by omega) (by omega))
set_option maxHeartbeats 4000000 in
set_option maxRecDepth 100000 in
theorem ct_letPass (G : BcG) (gi : GI) {P : Nat} (hP : isP P) {N : Nat} {A : AA} (h : Rel P A gi) (I : Inv N A) (m : Int32) : Ct G mX3_letPass [.ref (G.1 + P), .int m] (hp gi) (pOp P gi (fPass A m)) := by
  refine ct_of [some (.ref (G.1 + P)), some (.int m), none, none, none] w_2 (by decide) rfl (Nat.le_of_ble_eq_true rfl) rfl ?_
  refine go_iload_n 1 dX3_letPass_0 rfl rfl (ls_s ls_0) ?_
  refine go_iconst 2 (v := 1) dX3_letPass_1 rfl (by decide) ?_
  refine go_sipush 5 (v := 999) dX3_letPass_2 rfl (by decide) ?_
  refine go_TI (M' := mX8_isWithin) 8 dX3_letPass_5 rfl x_X3_106 okX8_isWithin ⟨Nat.le_of_ble_eq_true rfl, Nat.le_of_ble_eq_true rfl⟩ (ct_isWithin G gi _ _ _) rfl rfl (kk := ?_)
  refine go_ifne_b 13 11 dX3_letPass_8 (by decide) rfl (fun c_8 => ?_) (fun c_8 => ?_)
  · refine go_aload_n 14 dX3_letPass_13 rfl rfl ls_0 ?_
    refine gp_getI 17 dX3_letPass_14 rfl f_X3_71 rfl (tP hP) ?_
    refine go_top (y := (A 5)) h.1.2.2.2.1 ?_
    refine go_iload_n 18 dX3_letPass_17 rfl rfl (ls_s ls_0) ?_
    refine go_iadd 19 dX3_letPass_18 rfl ?_
    refine go_sipush 22 (v := 30000) dX3_letPass_19 rfl (by decide) ?_
    refine go_icmp_le 28 25 dX3_letPass_22 (by decide) rfl (fun c_22 => ?_) (fun c_22 => ?_)
    · rw [fPass_y c_8 (Int32.not_lt.mpr c_22)]
      obtain ⟨kk, hk1, hk9, rfl⟩ := in999 c_8
      have ht := I.1.2.2.2.1
      have e5 : A 5 + nI kk = nI (iN (A 5) + kk) := by rw [ht.1, nI_add, iN_n (by have := ht.2; omega)]
      have hle : iN (A 5) + kk ≤ 30000 := by have c := c_22; rw [e5] at c; exact (nI_leI (by have := ht.2; omega) (by decide)).mp c
      refine go_aload_n 29 dX3_letPass_28 rfl rfl ls_0 ?_
      refine go_dup 30 dX3_letPass_29 rfl rfl ?_
      refine gp_getI 33 dX3_letPass_30 rfl f_X3_71 rfl (tP hP) ?_
      refine go_top (y := (A 5)) h.1.2.2.2.1 ?_
      refine go_iload_n 34 dX3_letPass_33 rfl rfl (ls_s ls_0) ?_
      refine go_iadd 35 dX3_letPass_34 rfl ?_
      refine gp_putI 38 dX3_letPass_35 rfl f_X3_71 rfl (tP hP) rfl rfl ?_
      refine go_iconst 39 (v := 0) dX3_letPass_38 rfl (by decide) ?_
      refine go_istore_n 40 dX3_letPass_39 rfl rfl (by decide) (st_s (st_s st_0)) ?_
      refine go_iconst 41 (v := 0) dX3_letPass_40 rfl (by decide) ?_
      refine go_istore_n 42 dX3_letPass_41 rfl rfl (by decide) (st_s (st_s (st_s st_0))) ?_
      exact lp_letPass G hP (N := N) _ gi 6 0 _ _ 0 rfl (Nat.le_refl 0) (rel_time h I) (by rw [e5]; exact inv_time I hle) ((Out.rf P gi).wI (by omega) (by omega))
    · refine go_bipush 27 (v := (-3)) dX3_letPass_25 rfl (by decide) ?_
      exact go_ret_i dX3_letPass_27 rfl rfl rfl (pOp_e (fPass_3 c_8 (Int32.not_le.mp c_22)) h)
  · refine go_iconst 12 (v := (-1)) dX3_letPass_11 rfl (by decide) ?_
    exact go_ret_i dX3_letPass_12 rfl rfl rfl (pOp_e (fPass_1 c_8) h)
