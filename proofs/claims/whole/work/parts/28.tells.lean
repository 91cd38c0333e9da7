/-! THE CLASS's CALLS THAT TELL -/
theorem stD {P : Nat} {A : AA} {gi : GI} (h : Rel P A gi) {r q j : Nat} (hr : r < 4) (hq : q < 4) (hj : j < 4) : gi (P + 10 + 6 * r + q) j = A (31 + 18 * r + 2 + 4 * q + j) := by
  obtain ⟨e0, e1, e2, e3⟩ := (h.2.1 r hr).2.2 q hq
  obtain rfl | rfl | rfl | rfl : j = 0 ∨ j = 1 ∨ j = 2 ∨ j = 3 := by omega
  · exact e0
  · exact e1
  · exact e2
  · exact e3
theorem inR_n {x : Int32} {c : Nat} (hc : c + 1 < 2 ^ 31) (h : inR x 0 (nI c)) : ∃ j, j < c + 1 ∧ x = nI j := by
  have b := inR_bd hc h
  exact ⟨iN x, by have := b.2; omega, b.1⟩
theorem in4n {x : Int32} (h : inR x 0 4) (h2 : ¬ x = 4) : ∃ j, j < 4 ∧ x = nI j := by
  obtain ⟨j, hj, rfl⟩ := inR_n (c := 4) (by decide) h
  exact ⟨j, by rcases Nat.lt_or_ge j 4 with q | q
               · exact q
               · exact absurd (by rw [show j = 4 by omega]; rfl) h2, rfl⟩
theorem sO_1 {A : AA} {x y w : Int32} (h : ¬ (isRec A x ∧ 0 ≤ y ∧ inR w 0 4)) : fStageOf A x y w = -1 := by rw [fStageOf, cIf_t h]
theorem sO_y {N : Nat} {A : AA} (I : Inv N A) {r : Nat} {y w : Int32} (hr : r < nR A) (hk : ¬ y < 0) (hw : inR w 0 4) : fStageOf A (nI r) y w = cIf (nI (nS A r) ≤ y) (-4) (cIf (w = 4) (A (31 + 18 * r)) (A (31 + 18 * r + 2 + 4 * iN y + iN w))) := by
  have hr4 : r < 4 := Nat.lt_of_lt_of_le hr I.nR4
  rw [fStageOf, cIf_f (fun z => z ⟨isRec_n hr, Int32.not_lt.mp hk, hw⟩), iN_n (by omega), I.eS hr4]
theorem sO_4 {N : Nat} {A : AA} (I : Inv N A) {r : Nat} {y w : Int32} (hr : r < nR A) (hk : ¬ y < 0) (hw : inR w 0 4) (hno : ¬ ∃ q, q < nS A r ∧ y = nI q ∧ True) : fStageOf A (nI r) y w = -4 := by
  have hr4 : r < 4 := Nat.lt_of_lt_of_le hr I.nR4
  rw [sO_y I hr hk hw, cIf_t]
  apply Classical.byContradiction
  intro z
  obtain ⟨q, h1, h2⟩ := idx_of (len := nS A r) (by have := I.nS4 hr4; omega) hk z
  exact hno ⟨q, h1, h2, trivial⟩
theorem sO_q {N : Nat} {A : AA} (I : Inv N A) {r q : Nat} {w : Int32} (hr : r < nR A) (hq : q < nS A r) (hw : inR w 0 4) : fStageOf A (nI r) (nI q) w = cIf (w = 4) (A (31 + 18 * r)) (A (31 + 18 * r + 2 + 4 * q + iN w)) := by
  have hr4 : r < 4 := Nat.lt_of_lt_of_le hr I.nR4
  have := I.nS4 hr4
  rw [sO_y I hr (nI_pos (by omega)) hw, cIf_f (nI_ge hq (by omega)), iN_n (n := q) (by omega)]
set_option maxHeartbeats 4000000 in
set_option maxRecDepth 100000 in
theorem cx_stageOf (G : BcG) {gi : GI} {N : Nat} {A : AA} (h : Rel 1 A gi) (I : Inv N A) (x y w : Int32) : Ct G mX8_stageOf [.ref (G.1 + 0), .int x, .int y, .int w] (hp gi) (pI (fStageOf A x y w) (hp gi)) := by
  refine ct_of [some (.ref (G.1 + 0)), some (.int x), some (.int y), some (.int w), none, none] w_1 (by decide) rfl (Nat.le_of_ble_eq_true rfl) rfl ?_
  refine go_aload_n 1 dX8_stageOf_0 rfl rfl ls_0 ?_
  refine gp_getR 4 dX8_stageOf_1 rfl f_X8_10 rfl o0 rfl ?_
  refine go_iload_n 5 dX8_stageOf_4 rfl rfl (ls_s ls_0) ?_
  refine go_V (M' := mX3_recipeAt) 8 dX8_stageOf_5 rfl w_432 okX3_recipeAt ⟨Nat.le_of_ble_eq_true rfl, Nat.le_of_ble_eq_true rfl⟩ rfl rfl (Nat.le_of_ble_eq_true rfl) (Nat.le_of_ble_eq_true rfl) (ct_recipeAt G gi is1 _ (nR A) (h.1.1.trans I.eR) I.nR4) rfl rfl (Nat.le_of_ble_eq_true rfl) (tP is1) (by decide) rfl (fun v_5 h_5 p_5 => ?_)
  simp only [pAt] at p_5
  obtain ⟨rfl, ⟨r_5, hr_5, hx_5, hc_5, rfl⟩ | ⟨hno_5, rfl⟩⟩ := p_5
  · subst hx_5
    have hr4 : r_5 < 4 := Nat.lt_of_lt_of_le hr_5 I.nR4
    have hR := h.2.1 r_5 hr4
    have eS := hR.2.1.trans (I.eS hr4)
    refine go_astore 10 dX8_stageOf_8 rfl (by decide) (st_s (st_s (st_s (st_s st_0)))) ?_
    refine go_aload 12 dX8_stageOf_10 rfl (ls_s (ls_s (ls_s (ls_s ls_0)))) ?_
    refine go_ifnull 15 dX8_stageOf_12 rfl ?_
    refine go_iload_n 16 dX8_stageOf_15 rfl rfl (ls_s (ls_s ls_0)) ?_
    refine go_if_lt 28 19 dX8_stageOf_16 (by decide) rfl (fun c_16 => ?_) (fun c_16 => ?_)
    · refine go_iconst 29 (v := (-1)) dX8_stageOf_28 rfl (by decide) ?_
      exact go_ret_i dX8_stageOf_29 rfl rfl rfl (pI_of (sO_1 (fun z => absurd c_16 (Int32.not_lt.mpr z.2.1))).symm rfl)
    · refine go_iload_n 20 dX8_stageOf_19 rfl rfl (ls_s (ls_s (ls_s ls_0))) ?_
      refine go_iconst 21 (v := 0) dX8_stageOf_20 rfl (by decide) ?_
      refine go_iconst 22 (v := 4) dX8_stageOf_21 rfl (by decide) ?_
      refine go_SI (M' := mX8_isWithin) 25 dX8_stageOf_22 rfl w_433 okX8_isWithin ⟨Nat.le_of_ble_eq_true rfl, Nat.le_of_ble_eq_true rfl⟩ (ct_isWithin G gi _ _ _) rfl rfl (kk := ?_)
      refine go_ifne_b 30 28 dX8_stageOf_25 (by decide) rfl (fun c_25 => ?_) (fun c_25 => ?_)
      · refine go_aload 32 dX8_stageOf_30 rfl (ls_s (ls_s (ls_s (ls_s ls_0)))) ?_
        refine go_iload_n 33 dX8_stageOf_32 rfl rfl (ls_s (ls_s ls_0)) ?_
        refine go_V (M' := mX4_stageAt) 36 dX8_stageOf_33 rfl w_434 okX4_stageAt ⟨Nat.le_of_ble_eq_true rfl, Nat.le_of_ble_eq_true rfl⟩ rfl rfl (Nat.le_of_ble_eq_true rfl) (Nat.le_of_ble_eq_true rfl) (ct_stageAt G gi is1 hr4 _ (nS A r_5) eS (I.nS4 hr4)) rfl rfl (Nat.le_of_ble_eq_true rfl) (tR is1 hr4) (by decide) rfl (fun v_33 h_33 p_33 => ?_)
        simp only [pAt] at p_33
        obtain ⟨rfl, ⟨r_33, hr_33, hx_33, hc_33, rfl⟩ | ⟨hno_33, rfl⟩⟩ := p_33
        · subst hx_33
          have hq4 : r_33 < 4 := Nat.lt_of_lt_of_le hr_33 (I.nS4 hr4)
          refine go_astore 38 dX8_stageOf_36 rfl (by decide) (st_s (st_s (st_s (st_s (st_s st_0))))) ?_
          refine go_aload 40 dX8_stageOf_38 rfl (ls_s (ls_s (ls_s (ls_s (ls_s ls_0))))) ?_
          refine go_ifnonnull 46 dX8_stageOf_40 (by decide) ?_
          refine go_iload_n 47 dX8_stageOf_46 rfl rfl (ls_s (ls_s (ls_s ls_0))) ?_
          refine go_iconst 48 (v := 4) dX8_stageOf_47 rfl (by decide) ?_
          refine go_icmp_ne 59 51 dX8_stageOf_48 (by decide) rfl (fun c_48 => ?_) (fun c_48 => ?_)
          · obtain ⟨j, hj, rfl⟩ := in4n c_25 c_48
            refine go_aload 61 dX8_stageOf_59 rfl (ls_s (ls_s (ls_s (ls_s (ls_s ls_0))))) ?_
            refine go_iload_n 62 dX8_stageOf_61 rfl rfl (ls_s (ls_s (ls_s ls_0))) ?_
            refine go_VI (M' := mX6_detail) 65 dX8_stageOf_62 rfl w_435 okX6_detail ⟨Nat.le_of_ble_eq_true rfl, Nat.le_of_ble_eq_true rfl⟩ (ct_Stage_detail G gi _ (tS is1 hr4 hq4) j hj) rfl rfl (tS is1 hr4 hq4) (by decide) rfl (kk := ?_)
            exact go_ret_i dX8_stageOf_65 rfl rfl rfl (pI_of (by rw [sO_q I hr_5 hr_33 c_25, cIf_f c_48, iN_n (by omega)]; exact stD h hr4 hq4 hj) rfl)
          · refine go_aload 53 dX8_stageOf_51 rfl (ls_s (ls_s (ls_s (ls_s ls_0)))) ?_
            refine gp_getI 56 dX8_stageOf_53 rfl f_X8_73 rfl (tR is1 hr4) ?_
            refine go_goto 65 dX8_stageOf_56 (by decide) ?_
            exact go_ret_i dX8_stageOf_65 rfl rfl rfl (pI_of (by rw [sO_q I hr_5 hr_33 c_25, cIf_t c_48]; exact hR.1) rfl)
        · refine go_astoreN 38 dX8_stageOf_36 rfl (by decide) (st_s (st_s (st_s (st_s (st_s st_0))))) ?_
          refine go_aloadN 40 dX8_stageOf_38 rfl (ls_s (ls_s (ls_s (ls_s (ls_s ls_0))))) ?_
          refine go_ifnonnullN 43 dX8_stageOf_40 rfl ?_
          refine go_bipush 45 (v := (-4)) dX8_stageOf_43 rfl (by decide) ?_
          exact go_ret_i dX8_stageOf_45 rfl rfl rfl (pI_of (sO_4 I hr_5 c_16 c_25 hno_33).symm rfl)
      · refine go_iconst 29 (v := (-1)) dX8_stageOf_28 rfl (by decide) ?_
        exact go_ret_i dX8_stageOf_29 rfl rfl rfl (pI_of (sO_1 (fun z => c_25 z.2.2)).symm rfl)
  · refine go_astoreN 10 dX8_stageOf_8 rfl (by decide) (st_s (st_s (st_s (st_s st_0)))) ?_
    refine go_aloadN 12 dX8_stageOf_10 rfl (ls_s (ls_s (ls_s (ls_s ls_0)))) ?_
    refine go_ifnullN 28 dX8_stageOf_12 (by decide) ?_
    refine go_iconst 29 (v := (-1)) dX8_stageOf_28 rfl (by decide) ?_
    exact go_ret_i dX8_stageOf_29 rfl rfl rfl (pI_of (sO_1 (fun z => by obtain ⟨r, h1, h2⟩ := z.1; exact hno_5 ⟨r, h1, h2, trivial⟩)).symm rfl)
theorem mx0_sub {a o : Nat} (ha : a < 2 ^ 30) (ho : o < 2 ^ 30) : mx0 (nI a - nI o) = cIf (nI o < nI a) (nI a - nI o) 0 := by
  have e : ((0 : Int32) < nI a - nI o) ↔ o < a := by
    rw [Int32.lt_iff_toInt_lt, pk_sub_toInt (by omega) (by omega)]
    show (0 : Int) < _ ↔ _
    omega
  unfold mx0
  by_cases h : o < a
  · rw [if_pos (e.mpr h), cIf_t (nI_lt h (by omega))]
  · rw [if_neg (fun z => h (e.mp z)), cIf_f (fun z => h ((nI_ltI (by omega) (by omega)).mp z))]
theorem ov_n {N : Nat} {A : AA} (I : Inv N A) {b : Nat} (hb : b < 6) (hl : live A b) : ∃ o, o ≤ 32200 ∧ ovF A b = nI o := by
  have i := I.b1 hb hl
  have h1 := i.2.2.2.2.1
  have h2 := ((I.2.2.1 _ (I.bR4 hb hl)).2.2 _ (I.bS4 hb hl)).2.1
  exact ⟨iN (A (145 + 9 * b + 5)) + iN (stg A (bR A b) (bS A b) 1), by have := h1.2; have := h2.2; omega, by rw [ovF]; conv => lhs; rw [h1.1, h2.1, nI_add]⟩
theorem dB_bf {N : Nat} {A : AA} {gi : GI} (h : Rel 1 A gi) (I : Inv N A) {b : Nat} (hb : b < 6) (hl : live A b) {j : Nat} (hj : j < 11) : dB gi (1 + 41 + b) (A 5) j = bfF A b j := by
  obtain ⟨e1, e2, e3, e4, e5, e6, e7, e8, e9, e10, e11, e12⟩ := (h.2.2.2.2.1 b hb).2 hl
  obtain ⟨o, ho, eo⟩ := ov_n I hb hl
  have ht := I.1.2.2.2.1
  have h6 := (I.b1 hb hl).2.2.2.2.2.1
  obtain rfl | rfl | rfl | rfl | rfl | rfl | rfl | rfl | rfl | rfl | rfl : j = 0 ∨ j = 1 ∨ j = 2 ∨ j = 3 ∨ j = 4 ∨ j = 5 ∨ j = 6 ∨ j = 7 ∨ j = 8 ∨ j = 9 ∨ j = 10 := by omega
  · exact e1
  · exact e4
  · exact e7
  · exact e8
  · exact e9
  · show mx0 (A 5 - gi (1 + 41 + b) 10) = cIf (ovF A b < A 5) (A 5 - ovF A b) 0
    rw [e10, eo]
    conv => lhs; rw [ht.1]
    conv => rhs; rw [ht.1]
    exact mx0_sub (by have := ht.2; omega) (by omega)
  · show bI (gi (1 + 41 + b) 11 ≤ A 5) = bI (rpF A b ≤ A 5)
    rw [e11]
  · show bI (¬ gi (1 + 41 + b) 6 = 0) = A (145 + 9 * b + 6)
    rw [e6]
    have : A (145 + 9 * b + 6) = 0 ∨ A (145 + 9 * b + 6) = 1 := by
      rw [h6.1]
      have := h6.2
      obtain q | q : iN (A (145 + 9 * b + 6)) = 0 ∨ iN (A (145 + 9 * b + 6)) = 1 := by omega
      · rw [q]; exact Or.inl rfl
      · rw [q]; exact Or.inr rfl
    rcases this with q | q
    · rw [q]; exact (bI_0 (fun z => z rfl)).symm
    · rw [q]; exact (bI_1 (by decide)).symm
  · exact e5
  · exact e11
  · exact e12
theorem bO_1 {A : AA} {x w : Int32} (h : ¬ (isBat A x ∧ inR w 0 10)) : fBatchOf A x w = -1 := by rw [fBatchOf, cIf_t h]
theorem bO_y {A : AA} {b j : Nat} (hb : b < 6) (hl : live A b) (hj : j < 11) (hw : inR (nI j) 0 10) : fBatchOf A (nI b) (nI j) = bfF A b j := by
  rw [fBatchOf, cIf_f (fun z => z ⟨isBat_n hb hl, hw⟩), iN_n (by omega), iN_n (by omega)]
set_option maxHeartbeats 4000000 in
set_option maxRecDepth 100000 in
theorem cx_batchOf (G : BcG) {gi : GI} {N : Nat} {A : AA} (h : Rel 1 A gi) (I : Inv N A) (x w : Int32) : Ct G mX8_batchOf [.ref (G.1 + 0), .int x, .int w] (hp gi) (pI (fBatchOf A x w) (hp gi)) := by
  refine ct_of [some (.ref (G.1 + 0)), some (.int x), some (.int w), none] w_1 (by decide) rfl (Nat.le_of_ble_eq_true rfl) rfl ?_
  refine go_aload_n 1 dX8_batchOf_0 rfl rfl ls_0 ?_
  refine gp_getR 4 dX8_batchOf_1 rfl f_X8_10 rfl o0 rfl ?_
  refine go_iload_n 5 dX8_batchOf_4 rfl rfl (ls_s ls_0) ?_
  refine go_V (M' := mX3_batchAt) 8 dX8_batchOf_5 rfl w_571 okX3_batchAt ⟨Nat.le_of_ble_eq_true rfl, Nat.le_of_ble_eq_true rfl⟩ rfl rfl (Nat.le_of_ble_eq_true rfl) (Nat.le_of_ble_eq_true rfl) (ct_batchAt G gi is1 _) rfl rfl (Nat.le_of_ble_eq_true rfl) (tP is1) (by decide) rfl (fun v_5 h_5 p_5 => ?_)
  simp only [pAt] at p_5
  obtain ⟨rfl, ⟨r_5, hr_5, hx_5, hc_5, rfl⟩ | ⟨hno_5, rfl⟩⟩ := p_5
  · subst hx_5
    have hl := (live_iff h I hr_5).mp hc_5
    have hB := (h.2.2.2.2.1 r_5 hr_5).2 hl
    have i := I.b1 hr_5 hl
    refine go_astore_n 9 dX8_batchOf_8 rfl rfl (by decide) (st_s (st_s (st_s st_0))) ?_
    refine go_aload_n 10 dX8_batchOf_9 rfl rfl (ls_s (ls_s (ls_s ls_0))) ?_
    refine go_ifnull 13 dX8_batchOf_10 rfl ?_
    refine go_iload_n 14 dX8_batchOf_13 rfl rfl (ls_s (ls_s ls_0)) ?_
    refine go_iconst 15 (v := 0) dX8_batchOf_14 rfl (by decide) ?_
    refine go_bipush 17 (v := 10) dX8_batchOf_15 rfl (by decide) ?_
    refine go_SI (M' := mX8_isWithin) 20 dX8_batchOf_17 rfl w_433 okX8_isWithin ⟨Nat.le_of_ble_eq_true rfl, Nat.le_of_ble_eq_true rfl⟩ (ct_isWithin G gi _ _ _) rfl rfl (kk := ?_)
    refine go_ifne_b 25 23 dX8_batchOf_20 (by decide) rfl (fun c_20 => ?_) (fun c_20 => ?_)
    · obtain ⟨j, hj, rfl⟩ := inR_n (c := 10) (by decide) c_20
      refine go_aload_n 26 dX8_batchOf_25 rfl rfl (ls_s (ls_s (ls_s ls_0))) ?_
      refine go_iload_n 27 dX8_batchOf_26 rfl rfl (ls_s (ls_s ls_0)) ?_
      refine go_aload_n 28 dX8_batchOf_27 rfl rfl ls_0 ?_
      refine gp_getR 31 dX8_batchOf_28 rfl f_X8_10 rfl o0 rfl ?_
      refine gp_getI 34 dX8_batchOf_31 rfl f_X8_107 rfl (tP is1) ?_
      refine go_top (y := (A 5)) h.1.2.2.2.1 ?_
      refine go_VI (M' := mX0_detail) 37 dX8_batchOf_34 rfl w_572 okX0_detail ⟨Nat.le_of_ble_eq_true rfl, Nat.le_of_ble_eq_true rfl⟩ (ct_Batch_detail G gi _ (tB is1 hr_5) _ j hj) rfl rfl (tB is1 hr_5) (by decide) rfl (kk := ?_)
      exact go_ret_i dX8_batchOf_37 rfl rfl rfl (pI_of (by rw [bO_y hr_5 hl hj c_20]; exact dB_bf h I hr_5 hl hj) rfl)
    · refine go_iconst 24 (v := (-1)) dX8_batchOf_23 rfl (by decide) ?_
      exact go_ret_i dX8_batchOf_24 rfl rfl rfl (pI_of (bO_1 (fun z => c_20 z.2)).symm rfl)
  · refine go_astore_nN 9 dX8_batchOf_8 rfl rfl (by decide) (st_s (st_s (st_s st_0))) ?_
    refine go_aload_nN 10 dX8_batchOf_9 rfl rfl (ls_s (ls_s (ls_s ls_0))) ?_
    refine go_ifnullN 23 dX8_batchOf_10 (by decide) ?_
    refine go_iconst 24 (v := (-1)) dX8_batchOf_23 rfl (by decide) ?_
    exact go_ret_i dX8_batchOf_24 rfl rfl rfl (pI_of (bO_1 (fun z => hno_5 ((batLive h I).mpr z.1))).symm rfl)
theorem vsD {P : Nat} {A : AA} {gi : GI} (h : Rel P A gi) {v j : Nat} (hv6 : v < 6) (hv : v < nV A) (hj : j < 5) : gi (P + 32 + v) j = A (103 + 5 * v + j) := by
  obtain ⟨e0, e1, e2, e3, e4⟩ := (h.2.2.1 v hv6).1 hv
  obtain rfl | rfl | rfl | rfl | rfl : j = 0 ∨ j = 1 ∨ j = 2 ∨ j = 3 ∨ j = 4 := by omega
  · exact e0
  · exact e1
  · exact e2
  · exact e3
  · exact e4
theorem vsM {N : Nat} {A : AA} (I : Inv N A) {v j : Nat} (hv6 : v < 6) (hj : j < 5) : A (103 + 5 * v + j) = -1 ↔ A (103 + 5 * v + j) < 0 := by
  obtain ⟨k1, k2, k3, k4, k5⟩ := I.2.2.2.1 v hv6
  have hN := I.2.2.2.2.2.2.2
  have g : ∀ {x : Int32} {c : Nat}, bd x c → c < 2 ^ 30 → (x = -1 ↔ x < 0) := fun hx hc => ⟨fun z => absurd (by rw [z]; decide) (bd_nn hx (by omega)), fun z => absurd z (bd_nn hx (by omega))⟩
  have g' : ∀ {x : Int32} {c : Nat}, (x = -1 ∨ bd x c) → c < 2 ^ 30 → (x = -1 ↔ x < 0) := fun hx hc => by
    rcases hx with q | q
    · exact ⟨fun _ => by rw [q]; decide, fun _ => q⟩
    · exact g q hc
  obtain rfl | rfl | rfl | rfl | rfl : j = 0 ∨ j = 1 ∨ j = 2 ∨ j = 3 ∨ j = 4 := by omega
  · exact g k1 (by decide)
  · exact g k2 (by decide)
  · exact g' k3 (by decide)
  · exact g' k4 (by decide)
  · exact g k5 (by omega)
theorem vO_1 {A : AA} {x w : Int32} (h : ¬ (isVes A x ∧ inR w 0 4)) : fVesselOf A x w = -1 := by rw [fVesselOf, cIf_t h]
theorem vO_y {A : AA} {v j : Nat} (hv6 : v < 6) (hv : v < nV A) (hj : j < 5) (hw : inR (nI j) 0 4) : fVesselOf A (nI v) (nI j) = cIf (A (103 + 5 * v + j) < 0) (-4) (A (103 + 5 * v + j)) := by
  rw [fVesselOf, cIf_f (fun z => z ⟨isVes_n hv, hw⟩), iN_n (by omega), iN_n (by omega)]
set_option maxHeartbeats 4000000 in
set_option maxRecDepth 100000 in
theorem cx_vesselOf (G : BcG) {gi : GI} {N : Nat} {A : AA} (h : Rel 1 A gi) (I : Inv N A) (x w : Int32) : Ct G mX8_vesselOf [.ref (G.1 + 0), .int x, .int w] (hp gi) (pI (fVesselOf A x w) (hp gi)) := by
  refine ct_of [some (.ref (G.1 + 0)), some (.int x), some (.int w), none, none] w_1 (by decide) rfl (Nat.le_of_ble_eq_true rfl) rfl ?_
  refine go_aload_n 1 dX8_vesselOf_0 rfl rfl ls_0 ?_
  refine gp_getR 4 dX8_vesselOf_1 rfl f_X8_10 rfl o0 rfl ?_
  refine go_iload_n 5 dX8_vesselOf_4 rfl rfl (ls_s ls_0) ?_
  refine go_V (M' := mX3_vesselAt) 8 dX8_vesselOf_5 rfl w_584 okX3_vesselAt ⟨Nat.le_of_ble_eq_true rfl, Nat.le_of_ble_eq_true rfl⟩ rfl rfl (Nat.le_of_ble_eq_true rfl) (Nat.le_of_ble_eq_true rfl) (ct_vesselAt G gi is1 _ (nV A) (h.1.2.1.trans I.eV) I.nV6) rfl rfl (Nat.le_of_ble_eq_true rfl) (tP is1) (by decide) rfl (fun v_5 h_5 p_5 => ?_)
  simp only [pAt] at p_5
  obtain ⟨rfl, ⟨r_5, hr_5, hx_5, hc_5, rfl⟩ | ⟨hno_5, rfl⟩⟩ := p_5
  · subst hx_5
    have hv6 : r_5 < 6 := Nat.lt_of_lt_of_le hr_5 I.nV6
    refine go_astore_n 9 dX8_vesselOf_8 rfl rfl (by decide) (st_s (st_s (st_s st_0))) ?_
    refine go_aload_n 10 dX8_vesselOf_9 rfl rfl (ls_s (ls_s (ls_s ls_0))) ?_
    refine go_ifnull 13 dX8_vesselOf_10 rfl ?_
    refine go_iload_n 14 dX8_vesselOf_13 rfl rfl (ls_s (ls_s ls_0)) ?_
    refine go_iconst 15 (v := 0) dX8_vesselOf_14 rfl (by decide) ?_
    refine go_iconst 16 (v := 4) dX8_vesselOf_15 rfl (by decide) ?_
    refine go_SI (M' := mX8_isWithin) 19 dX8_vesselOf_16 rfl w_433 okX8_isWithin ⟨Nat.le_of_ble_eq_true rfl, Nat.le_of_ble_eq_true rfl⟩ (ct_isWithin G gi _ _ _) rfl rfl (kk := ?_)
    refine go_ifne_b 24 22 dX8_vesselOf_19 (by decide) rfl (fun c_19 => ?_) (fun c_19 => ?_)
    · obtain ⟨j, hj, rfl⟩ := inR_n (c := 4) (by decide) c_19
      refine go_aload_n 25 dX8_vesselOf_24 rfl rfl (ls_s (ls_s (ls_s ls_0))) ?_
      refine go_iload_n 26 dX8_vesselOf_25 rfl rfl (ls_s (ls_s ls_0)) ?_
      refine go_VI (M' := mX7_detail) 29 dX8_vesselOf_26 rfl w_585 okX7_detail ⟨Nat.le_of_ble_eq_true rfl, Nat.le_of_ble_eq_true rfl⟩ (ct_Vessel_detail G gi _ (tV is1 hv6) j hj) rfl rfl (tV is1 hv6) (by decide) rfl (kk := ?_)
      refine go_top (y := (A (103 + 5 * r_5 + j))) (vsD h hv6 hr_5 hj) ?_
      refine go_istore 31 dX8_vesselOf_29 rfl (by decide) (st_s (st_s (st_s (st_s st_0)))) ?_
      refine go_iload 33 dX8_vesselOf_31 rfl (ls_s (ls_s (ls_s (ls_s ls_0)))) ?_
      refine go_iconst 34 (v := (-1)) dX8_vesselOf_33 rfl (by decide) ?_
      refine go_icmp_ne 42 37 dX8_vesselOf_34 (by decide) rfl (fun c_34 => ?_) (fun c_34 => ?_)
      · refine go_iload 44 dX8_vesselOf_42 rfl (ls_s (ls_s (ls_s (ls_s ls_0)))) ?_
        exact go_ret_i dX8_vesselOf_44 rfl rfl rfl (pI_of (by rw [vO_y hv6 hr_5 hj c_19, cIf_f (fun z => c_34 ((vsM I hv6 hj).mpr z))]) rfl)
      · refine go_bipush 39 (v := (-4)) dX8_vesselOf_37 rfl (by decide) ?_
        refine go_goto 44 dX8_vesselOf_39 (by decide) ?_
        exact go_ret_i dX8_vesselOf_44 rfl rfl rfl (pI_of (by rw [vO_y hv6 hr_5 hj c_19, cIf_t ((vsM I hv6 hj).mp c_34)]) rfl)
    · refine go_iconst 23 (v := (-1)) dX8_vesselOf_22 rfl (by decide) ?_
      exact go_ret_i dX8_vesselOf_23 rfl rfl rfl (pI_of (vO_1 (fun z => c_19 z.2)).symm rfl)
  · refine go_astore_nN 9 dX8_vesselOf_8 rfl rfl (by decide) (st_s (st_s (st_s st_0))) ?_
    refine go_aload_nN 10 dX8_vesselOf_9 rfl rfl (ls_s (ls_s (ls_s ls_0))) ?_
    refine go_ifnullN 22 dX8_vesselOf_10 (by decide) ?_
    refine go_iconst 23 (v := (-1)) dX8_vesselOf_22 rfl (by decide) ?_
    exact go_ret_i dX8_vesselOf_23 rfl rfl rfl (pI_of (vO_1 (fun z => by obtain ⟨r, h1, h2⟩ := z.1; exact hno_5 ⟨r, h1, h2, trivial⟩)).symm rfl)
theorem dL_lf {N : Nat} {A : AA} {gi : GI} (h : Rel 1 A gi) (I : Inv N A) {k : Nat} (hk3 : k < 3) {j : Nat} (hj : j < 4) : dL gi (1 + 38 + k) (A 5) j = cIf (nI j = 2) (cIf (A 5 < A (133 + 4 * k + 2)) (A (133 + 4 * k + 2) - A 5) 0) (A (133 + 4 * k + j)) := by
  obtain ⟨e0, e1, e2, e3⟩ := h.2.2.2.1 k hk3
  have ht := I.1.2.2.2.1
  have hb := (I.2.2.2.2.1 k hk3).2.1
  obtain rfl | rfl | rfl | rfl : j = 0 ∨ j = 1 ∨ j = 2 ∨ j = 3 := by omega
  · rw [cIf_f (by decide)]; exact e0
  · rw [cIf_f (by decide)]; exact e1
  · rw [cIf_t (show nI 2 = 2 from rfl)]
    show mx0 (gi (1 + 38 + k) 2 - A 5) = _
    rw [e2]
    conv => lhs; rw [hb.1, ht.1]
    conv => rhs; rw [hb.1, ht.1]
    exact mx0_sub (by have := hb.2; omega) (by have := ht.2; omega)
  · rw [cIf_f (by decide)]; exact e3
theorem lO_1 {A : AA} {x w : Int32} (h : ¬ (isLin A x ∧ inR w 0 3)) : fLineOf A x w = -1 := by rw [fLineOf, cIf_t h]
theorem lO_y {A : AA} {k j : Nat} (hk3 : k < 3) (hk : k < nL A) (hj : j < 4) (hw : inR (nI j) 0 3) : fLineOf A (nI k) (nI j) = cIf (nI j = 2) (cIf (A 5 < A (133 + 4 * k + 2)) (A (133 + 4 * k + 2) - A 5) 0) (A (133 + 4 * k + j)) := by
  rw [fLineOf, cIf_f (fun z => z ⟨⟨k, hk, rfl⟩, hw⟩), iN_n (by omega), iN_n (by omega)]
set_option maxHeartbeats 4000000 in
set_option maxRecDepth 100000 in
theorem cx_lineOf (G : BcG) {gi : GI} {N : Nat} {A : AA} (h : Rel 1 A gi) (I : Inv N A) (x w : Int32) : Ct G mX8_lineOf [.ref (G.1 + 0), .int x, .int w] (hp gi) (pI (fLineOf A x w) (hp gi)) := by
  refine ct_of [some (.ref (G.1 + 0)), some (.int x), some (.int w), none] w_1 (by decide) rfl (Nat.le_of_ble_eq_true rfl) rfl ?_
  refine go_aload_n 1 dX8_lineOf_0 rfl rfl ls_0 ?_
  refine gp_getR 4 dX8_lineOf_1 rfl f_X8_10 rfl o0 rfl ?_
  refine go_iload_n 5 dX8_lineOf_4 rfl rfl (ls_s ls_0) ?_
  refine go_V (M' := mX3_lineAt) 8 dX8_lineOf_5 rfl w_593 okX3_lineAt ⟨Nat.le_of_ble_eq_true rfl, Nat.le_of_ble_eq_true rfl⟩ rfl rfl (Nat.le_of_ble_eq_true rfl) (Nat.le_of_ble_eq_true rfl) (ct_lineAt G gi is1 _ (nL A) (h.1.2.2.1.trans I.eL) I.nL3) rfl rfl (Nat.le_of_ble_eq_true rfl) (tP is1) (by decide) rfl (fun v_5 h_5 p_5 => ?_)
  simp only [pAt] at p_5
  obtain ⟨rfl, ⟨r_5, hr_5, hx_5, hc_5, rfl⟩ | ⟨hno_5, rfl⟩⟩ := p_5
  · subst hx_5
    have hk3 : r_5 < 3 := Nat.lt_of_lt_of_le hr_5 I.nL3
    refine go_astore_n 9 dX8_lineOf_8 rfl rfl (by decide) (st_s (st_s (st_s st_0))) ?_
    refine go_aload_n 10 dX8_lineOf_9 rfl rfl (ls_s (ls_s (ls_s ls_0))) ?_
    refine go_ifnull 13 dX8_lineOf_10 rfl ?_
    refine go_iload_n 14 dX8_lineOf_13 rfl rfl (ls_s (ls_s ls_0)) ?_
    refine go_iconst 15 (v := 0) dX8_lineOf_14 rfl (by decide) ?_
    refine go_iconst 16 (v := 3) dX8_lineOf_15 rfl (by decide) ?_
    refine go_SI (M' := mX8_isWithin) 19 dX8_lineOf_16 rfl w_433 okX8_isWithin ⟨Nat.le_of_ble_eq_true rfl, Nat.le_of_ble_eq_true rfl⟩ (ct_isWithin G gi _ _ _) rfl rfl (kk := ?_)
    refine go_ifne_b 24 22 dX8_lineOf_19 (by decide) rfl (fun c_19 => ?_) (fun c_19 => ?_)
    · obtain ⟨j, hj, rfl⟩ := inR_n (c := 3) (by decide) c_19
      refine go_aload_n 25 dX8_lineOf_24 rfl rfl (ls_s (ls_s (ls_s ls_0))) ?_
      refine go_iload_n 26 dX8_lineOf_25 rfl rfl (ls_s (ls_s ls_0)) ?_
      refine go_aload_n 27 dX8_lineOf_26 rfl rfl ls_0 ?_
      refine gp_getR 30 dX8_lineOf_27 rfl f_X8_10 rfl o0 rfl ?_
      refine gp_getI 33 dX8_lineOf_30 rfl f_X8_107 rfl (tP is1) ?_
      refine go_top (y := (A 5)) h.1.2.2.2.1 ?_
      refine go_VI (M' := mX2_detail) 36 dX8_lineOf_33 rfl w_594 okX2_detail ⟨Nat.le_of_ble_eq_true rfl, Nat.le_of_ble_eq_true rfl⟩ (ct_Line_detail G gi _ (tL is1 hk3) _ j hj) rfl rfl (tL is1 hk3) (by decide) rfl (kk := ?_)
      exact go_ret_i dX8_lineOf_36 rfl rfl rfl (pI_of (by rw [lO_y hk3 hr_5 hj c_19]; exact dL_lf h I hk3 hj) rfl)
    · refine go_iconst 23 (v := (-1)) dX8_lineOf_22 rfl (by decide) ?_
      exact go_ret_i dX8_lineOf_23 rfl rfl rfl (pI_of (lO_1 (fun z => c_19 z.2)).symm rfl)
  · refine go_astore_nN 9 dX8_lineOf_8 rfl rfl (by decide) (st_s (st_s (st_s st_0))) ?_
    refine go_aload_nN 10 dX8_lineOf_9 rfl rfl (ls_s (ls_s (ls_s ls_0))) ?_
    refine go_ifnullN 22 dX8_lineOf_10 (by decide) ?_
    refine go_iconst 23 (v := (-1)) dX8_lineOf_22 rfl (by decide) ?_
    exact go_ret_i dX8_lineOf_23 rfl rfl rfl (pI_of (lO_1 (fun z => by obtain ⟨r, h1, h2⟩ := z.1; exact hno_5 ⟨r, h1, h2, trivial⟩)).symm rfl)
set_option maxHeartbeats 4000000 in
set_option maxRecDepth 100000 in
theorem cx_targets (G : BcG) {gi : GI} {N : Nat} {A : AA} (h : Rel 1 A gi) (I : Inv N A) (x : Int32) : Ct G mX8_targets [.ref (G.1 + 0), .int x] (hp gi) (pI (fTargets A x) (hp gi)) := by
  refine ct_of [some (.ref (G.1 + 0)), some (.int x), none] w_1 (by decide) rfl (Nat.le_of_ble_eq_true rfl) rfl ?_
  refine go_aload_n 1 dX8_targets_0 rfl rfl ls_0 ?_
  refine gp_getR 4 dX8_targets_1 rfl f_X8_10 rfl o0 rfl ?_
  refine go_iload_n 5 dX8_targets_4 rfl rfl (ls_s ls_0) ?_
  refine go_V (M' := mX3_batchAt) 8 dX8_targets_5 rfl w_571 okX3_batchAt ⟨Nat.le_of_ble_eq_true rfl, Nat.le_of_ble_eq_true rfl⟩ rfl rfl (Nat.le_of_ble_eq_true rfl) (Nat.le_of_ble_eq_true rfl) (ct_batchAt G gi is1 _) rfl rfl (Nat.le_of_ble_eq_true rfl) (tP is1) (by decide) rfl (fun v_5 h_5 p_5 => ?_)
  simp only [pAt] at p_5
  obtain ⟨rfl, ⟨r_5, hr_5, hx_5, hc_5, rfl⟩ | ⟨hno_5, rfl⟩⟩ := p_5
  · subst hx_5
    have hl := (live_iff h I hr_5).mp hc_5
    have hB := (h.2.2.2.2.1 r_5 hr_5).2 hl
    have i := I.b1 hr_5 hl
    refine go_astore_n 9 dX8_targets_8 rfl rfl (by decide) (st_s (st_s st_0)) ?_
    refine go_aload_n 10 dX8_targets_9 rfl rfl (ls_s (ls_s ls_0)) ?_
    refine go_ifnonnull 17 dX8_targets_10 (by decide) ?_
    refine go_aload_n 18 dX8_targets_17 rfl rfl ls_0 ?_
    refine gp_getR 21 dX8_targets_18 rfl f_X8_10 rfl o0 rfl ?_
    refine go_aload_n 22 dX8_targets_21 rfl rfl (ls_s (ls_s ls_0)) ?_
    refine go_VI (M' := mX3_openTargets) 25 dX8_targets_22 rfl w_620 okX3_openTargets ⟨Nat.le_of_ble_eq_true rfl, Nat.le_of_ble_eq_true rfl⟩ (ct_openTargets G is1 h I hr_5 hl) rfl rfl (tP is1) (by decide) rfl (kk := ?_)
    exact go_ret_i dX8_targets_25 rfl rfl rfl (pI_of (by rw [fTargets, cIf_f (c := ¬ isBat A (nI r_5)) (fun z => z (isBat_n hr_5 hl)), iN_n (by omega)]) rfl)
  · refine go_astore_nN 9 dX8_targets_8 rfl rfl (by decide) (st_s (st_s st_0)) ?_
    refine go_aload_nN 10 dX8_targets_9 rfl rfl (ls_s (ls_s ls_0)) ?_
    refine go_ifnonnullN 13 dX8_targets_10 rfl ?_
    refine go_iconst 14 (v := (-1)) dX8_targets_13 rfl (by decide) ?_
    refine go_goto 25 dX8_targets_14 (by decide) ?_
    exact go_ret_i dX8_targets_25 rfl rfl rfl (pI_of (by rw [fTargets, cIf_t (fun z => hno_5 ((batLive h I).mpr z))]) rfl)
set_option maxHeartbeats 4000000 in
set_option maxRecDepth 100000 in
theorem cx_soonest (G : BcG) {gi : GI} {N : Nat} {A : AA} (h : Rel 1 A gi) (I : Inv N A) (x : Int32) : Ct G mX8_soonest [.ref (G.1 + 0), .int x] (hp gi) (pI (fSoonest A x) (hp gi)) := by
  refine ct_of [some (.ref (G.1 + 0)), some (.int x), none] w_1 (by decide) rfl (Nat.le_of_ble_eq_true rfl) rfl ?_
  refine go_aload_n 1 dX8_soonest_0 rfl rfl ls_0 ?_
  refine gp_getR 4 dX8_soonest_1 rfl f_X8_10 rfl o0 rfl ?_
  refine go_iload_n 5 dX8_soonest_4 rfl rfl (ls_s ls_0) ?_
  refine go_V (M' := mX3_batchAt) 8 dX8_soonest_5 rfl w_571 okX3_batchAt ⟨Nat.le_of_ble_eq_true rfl, Nat.le_of_ble_eq_true rfl⟩ rfl rfl (Nat.le_of_ble_eq_true rfl) (Nat.le_of_ble_eq_true rfl) (ct_batchAt G gi is1 _) rfl rfl (Nat.le_of_ble_eq_true rfl) (tP is1) (by decide) rfl (fun v_5 h_5 p_5 => ?_)
  simp only [pAt] at p_5
  obtain ⟨rfl, ⟨r_5, hr_5, hx_5, hc_5, rfl⟩ | ⟨hno_5, rfl⟩⟩ := p_5
  · subst hx_5
    have hl := (live_iff h I hr_5).mp hc_5
    have hB := (h.2.2.2.2.1 r_5 hr_5).2 hl
    have i := I.b1 hr_5 hl
    refine go_astore_n 9 dX8_soonest_8 rfl rfl (by decide) (st_s (st_s st_0)) ?_
    refine go_aload_n 10 dX8_soonest_9 rfl rfl (ls_s (ls_s ls_0)) ?_
    refine go_ifnonnull 17 dX8_soonest_10 (by decide) ?_
    refine go_aload_n 18 dX8_soonest_17 rfl rfl ls_0 ?_
    refine gp_getR 21 dX8_soonest_18 rfl f_X8_10 rfl o0 rfl ?_
    refine go_aload_n 22 dX8_soonest_21 rfl rfl (ls_s (ls_s ls_0)) ?_
    refine go_VI (M' := mX3_earliestEnd) 25 dX8_soonest_22 rfl w_641 okX3_earliestEnd ⟨Nat.le_of_ble_eq_true rfl, Nat.le_of_ble_eq_true rfl⟩ (ct_earliestEnd G is1 h I hr_5 hl) rfl rfl (tP is1) (by decide) rfl (kk := ?_)
    exact go_ret_i dX8_soonest_25 rfl rfl rfl (pI_of (by rw [fSoonest, cIf_f (c := ¬ isBat A (nI r_5)) (fun z => z (isBat_n hr_5 hl)), iN_n (by omega)]) rfl)
  · refine go_astore_nN 9 dX8_soonest_8 rfl rfl (by decide) (st_s (st_s st_0)) ?_
    refine go_aload_nN 10 dX8_soonest_9 rfl rfl (ls_s (ls_s ls_0)) ?_
    refine go_ifnonnullN 13 dX8_soonest_10 rfl ?_
    refine go_iconst 14 (v := (-1)) dX8_soonest_13 rfl (by decide) ?_
    refine go_goto 25 dX8_soonest_14 (by decide) ?_
    exact go_ret_i dX8_soonest_25 rfl rfl rfl (pI_of (by rw [fSoonest, cIf_t (fun z => hno_5 ((batLive h I).mpr z))]) rfl)
set_option maxHeartbeats 4000000 in
set_option maxRecDepth 100000 in
theorem cx_urgent (G : BcG) {gi : GI} {N : Nat} {A : AA} (h : Rel 1 A gi) (I : Inv N A) (x : Int32) : Ct G mX8_urgent [.ref (G.1 + 0), .int x] (hp gi) (pI (fUrgent A x) (hp gi)) := by
  refine ct_of [some (.ref (G.1 + 0)), some (.int x)] w_1 (by decide) rfl (Nat.le_of_ble_eq_true rfl) rfl ?_
  refine go_iload_n 1 dX8_urgent_0 rfl rfl (ls_s ls_0) ?_
  refine go_if_ge 8 4 dX8_urgent_1 (by decide) rfl (fun c_1 => ?_) (fun c_1 => ?_)
  · refine go_aload_n 9 dX8_urgent_8 rfl rfl ls_0 ?_
    refine gp_getR 12 dX8_urgent_9 rfl f_X8_10 rfl o0 rfl ?_
    refine go_iload_n 13 dX8_urgent_12 rfl rfl (ls_s ls_0) ?_
    refine go_VI (M' := mX3_batchInPlace) 16 dX8_urgent_13 rfl w_655 okX3_batchInPlace ⟨Nat.le_of_ble_eq_true rfl, Nat.le_of_ble_eq_true rfl⟩ (ct_batchInPlace G is1 h I _) rfl rfl (tP is1) (by decide) rfl (kk := ?_)
    exact go_ret_i dX8_urgent_16 rfl rfl rfl (pI_of (by rw [fUrgent, cIf_f (Int32.not_lt.mpr c_1)]) rfl)
  · refine go_iconst 5 (v := (-1)) dX8_urgent_4 rfl (by decide) ?_
    refine go_goto 16 dX8_urgent_5 (by decide) ?_
    exact go_ret_i dX8_urgent_16 rfl rfl rfl (pI_of (by rw [fUrgent, cIf_t (Int32.not_le.mp c_1)]) rfl)
theorem qk_in {A : AA} {b : Nat} : ∀ (n i : Nat) (s : Option (Nat × Int32)), i + n = nV A → (∀ q, s = some q → q.1 < nV A ∧ ¬ ltF A b q.1 < 0 ∧ q.2 = mtF A b q.1 (iN (ltF A b q.1))) → ∀ q, qkF A b i n s = some q → q.1 < nV A ∧ ¬ ltF A b q.1 < 0 ∧ q.2 = mtF A b q.1 (iN (ltF A b q.1)) := by
  intro n
  induction n with
  | zero => intro i s _ hs q h; exact hs q h
  | succ n ih =>
    intro i s hi hs q h
    rw [qkF] at h
    refine ih (i + 1) _ (by omega) (fun p hp => ?_) q h
    by_cases c : ¬ ltF A b i < 0 ∧ ∀ q, s = some q → mtF A b i (iN (ltF A b i)) < q.2
    · rw [cIf_t c] at hp
      cases hp
      exact ⟨by show i < nV A; omega, c.1, rfl⟩
    · rw [cIf_f c] at hp
      exact hs p hp
theorem qO_1 {A : AA} {x w : Int32} (h : ¬ (isBat A x ∧ inR w 0 1)) : fQuickest A x w = -1 := by rw [fQuickest, cIf_t h]
theorem qO_n {A : AA} {b : Nat} {w : Int32} (hb : b < 6) (hl : live A b) (hw : inR w 0 1) (h : qkF A b 0 (nV A) none = none) : fQuickest A (nI b) w = -4 := by
  rw [fQuickest, cIf_f (fun z => z ⟨isBat_n hb hl, hw⟩), iN_n (by omega), h]
theorem qO_s {A : AA} {b : Nat} {w : Int32} (hb : b < 6) (hl : live A b) (hw : inR w 0 1) {q : Nat × Int32} (h : qkF A b 0 (nV A) none = some q) : fQuickest A (nI b) w = cIf (w = 0) (nI q.1) q.2 := by
  rw [fQuickest, cIf_f (fun z => z ⟨isBat_n hb hl, hw⟩), iN_n (by omega), h]
theorem nI_m1 {n : Nat} (h : n < 2 ^ 31) : ¬ nI n = -1 := fun z => nI_pos h (by rw [z]; decide)
set_option maxHeartbeats 4000000 in
set_option maxRecDepth 100000 in
theorem cx_quickest (G : BcG) {gi : GI} {N : Nat} {A : AA} (h : Rel 1 A gi) (I : Inv N A) (x w : Int32) : Ct G mX8_quickest [.ref (G.1 + 0), .int x, .int w] (hp gi) (pI (fQuickest A x w) (hp gi)) := by
  refine ct_of [some (.ref (G.1 + 0)), some (.int x), some (.int w), none, none] w_1 (by decide) rfl (Nat.le_of_ble_eq_true rfl) rfl ?_
  refine go_aload_n 1 dX8_quickest_0 rfl rfl ls_0 ?_
  refine gp_getR 4 dX8_quickest_1 rfl f_X8_10 rfl o0 rfl ?_
  refine go_iload_n 5 dX8_quickest_4 rfl rfl (ls_s ls_0) ?_
  refine go_V (M' := mX3_batchAt) 8 dX8_quickest_5 rfl w_571 okX3_batchAt ⟨Nat.le_of_ble_eq_true rfl, Nat.le_of_ble_eq_true rfl⟩ rfl rfl (Nat.le_of_ble_eq_true rfl) (Nat.le_of_ble_eq_true rfl) (ct_batchAt G gi is1 _) rfl rfl (Nat.le_of_ble_eq_true rfl) (tP is1) (by decide) rfl (fun v_5 h_5 p_5 => ?_)
  simp only [pAt] at p_5
  obtain ⟨rfl, ⟨r_5, hr_5, hx_5, hc_5, rfl⟩ | ⟨hno_5, rfl⟩⟩ := p_5
  · subst hx_5
    have hl := (live_iff h I hr_5).mp hc_5
    have hB := (h.2.2.2.2.1 r_5 hr_5).2 hl
    have i := I.b1 hr_5 hl
    refine go_astore_n 9 dX8_quickest_8 rfl rfl (by decide) (st_s (st_s (st_s st_0))) ?_
    refine go_aload_n 10 dX8_quickest_9 rfl rfl (ls_s (ls_s (ls_s ls_0))) ?_
    refine go_ifnull 13 dX8_quickest_10 rfl ?_
    refine go_iload_n 14 dX8_quickest_13 rfl rfl (ls_s (ls_s ls_0)) ?_
    refine go_iconst 15 (v := 0) dX8_quickest_14 rfl (by decide) ?_
    refine go_iconst 16 (v := 1) dX8_quickest_15 rfl (by decide) ?_
    refine go_SI (M' := mX8_isWithin) 19 dX8_quickest_16 rfl w_433 okX8_isWithin ⟨Nat.le_of_ble_eq_true rfl, Nat.le_of_ble_eq_true rfl⟩ (ct_isWithin G gi _ _ _) rfl rfl (kk := ?_)
    refine go_ifne_b 24 22 dX8_quickest_19 (by decide) rfl (fun c_19 => ?_) (fun c_19 => ?_)
    · refine go_aload_n 25 dX8_quickest_24 rfl rfl ls_0 ?_
      refine gp_getR 28 dX8_quickest_25 rfl f_X8_10 rfl o0 rfl ?_
      refine go_aload_n 29 dX8_quickest_28 rfl rfl (ls_s (ls_s (ls_s ls_0))) ?_
      refine go_VI (M' := mX3_quickestTarget) 32 dX8_quickest_29 rfl w_628 okX3_quickestTarget ⟨Nat.le_of_ble_eq_true rfl, Nat.le_of_ble_eq_true rfl⟩ (ct_quickestTarget G is1 h I hr_5 hl) rfl rfl (tP is1) (by decide) rfl (kk := ?_)
      rcases hs : qkF A r_5 0 (nV A) none with _ | q
      · refine go_top (y := (-1)) rfl ?_
        refine go_istore 34 dX8_quickest_32 rfl (by decide) (st_s (st_s (st_s (st_s st_0)))) ?_
        refine go_iload 36 dX8_quickest_34 rfl (ls_s (ls_s (ls_s (ls_s ls_0)))) ?_
        refine go_iconst 37 (v := (-1)) dX8_quickest_36 rfl (by decide) ?_
        refine go_icmp_ne 43 40 dX8_quickest_37 (by decide) rfl (fun c_37 => absurd c_37 (by decide)) (fun c_37 => ?_)
        refine go_bipush 42 (v := (-4)) dX8_quickest_40 rfl (by decide) ?_
        exact go_ret_i dX8_quickest_42 rfl rfl rfl (pI_of (qO_n hr_5 hl c_19 hs).symm rfl)
      · have hq := qk_in (nV A) 0 none (by omega) (fun q h => by cases h) q hs
        refine go_top (y := (nI q.1)) rfl ?_
        refine go_istore 34 dX8_quickest_32 rfl (by decide) (st_s (st_s (st_s (st_s st_0)))) ?_
        refine go_iload 36 dX8_quickest_34 rfl (ls_s (ls_s (ls_s (ls_s ls_0)))) ?_
        refine go_iconst 37 (v := (-1)) dX8_quickest_36 rfl (by decide) ?_
        refine go_icmp_ne 43 40 dX8_quickest_37 (by decide) rfl (fun c_37 => ?_) (fun c_37 => absurd c_37 (nI_m1 (by have := I.nV6; have := hq.1; omega)))
        refine go_iload_n 44 dX8_quickest_43 rfl rfl (ls_s (ls_s ls_0)) ?_
        refine go_if_ne 52 47 dX8_quickest_44 (by decide) rfl (fun c_44 => ?_) (fun c_44 => ?_)
        · refine go_aload_n 53 dX8_quickest_52 rfl rfl ls_0 ?_
          refine gp_getR 56 dX8_quickest_53 rfl f_X8_10 rfl o0 rfl ?_
          refine go_aload_n 57 dX8_quickest_56 rfl rfl (ls_s (ls_s (ls_s ls_0))) ?_
          refine go_iload 59 dX8_quickest_57 rfl (ls_s (ls_s (ls_s (ls_s ls_0)))) ?_
          refine go_VI (M' := mX3_minutesTo) 62 dX8_quickest_59 rfl w_636 okX3_minutesTo ⟨Nat.le_of_ble_eq_true rfl, Nat.le_of_ble_eq_true rfl⟩ (ct_minutesTo G is1 h I hr_5 hl (v := q.1) hq.1) rfl rfl (tP is1) (by decide) rfl (kk := ?_)
          exact go_ret_i dX8_quickest_62 rfl rfl rfl (pI_of (by rw [qO_s hr_5 hl c_19 hs, cIf_f c_44, mt1, cIf_f hq.2.1, hq.2.2]) rfl)
        · refine go_iload 49 dX8_quickest_47 rfl (ls_s (ls_s (ls_s (ls_s ls_0)))) ?_
          refine go_goto 62 dX8_quickest_49 (by decide) ?_
          exact go_ret_i dX8_quickest_62 rfl rfl rfl (pI_of (by rw [qO_s hr_5 hl c_19 hs, cIf_t c_44]) rfl)
    · refine go_iconst 23 (v := (-1)) dX8_quickest_22 rfl (by decide) ?_
      exact go_ret_i dX8_quickest_23 rfl rfl rfl (pI_of (qO_1 (fun z => c_19 z.2)).symm rfl)
  · refine go_astore_nN 9 dX8_quickest_8 rfl rfl (by decide) (st_s (st_s (st_s st_0))) ?_
    refine go_aload_nN 10 dX8_quickest_9 rfl rfl (ls_s (ls_s (ls_s ls_0))) ?_
    refine go_ifnullN 22 dX8_quickest_10 (by decide) ?_
    refine go_iconst 23 (v := (-1)) dX8_quickest_22 rfl (by decide) ?_
    exact go_ret_i dX8_quickest_23 rfl rfl rfl (pI_of (qO_1 (fun z => hno_5 ((batLive h I).mpr z.1))).symm rfl)
theorem inR_20 {w : Int32} (h : inR w 20 21) : ∃ i, i < 2 ∧ w = nI (20 + i) ∧ w - 20 = nI i := by
  obtain ⟨m, hm, rfl⟩ := inR_n (c := 21) (by decide) ⟨Int32.le_trans (by decide) h.1, h.2⟩
  have := (nI_leI (a := 20) (b := m) (by decide) (by omega)).mp h.1
  refine ⟨m - 20, by omega, by rw [show 20 + (m - 20) = m by omega], ?_⟩
  rw [show (20 : Int32) = nI 20 from rfl, pk_sub this]
theorem inR_30 {w : Int32} (h : inR w 30 33) : ∃ i, i < 4 ∧ w = nI (30 + i) ∧ w - 30 = nI i := by
  obtain ⟨m, hm, rfl⟩ := inR_n (c := 33) (by decide) ⟨Int32.le_trans (by decide) h.1, h.2⟩
  have := (nI_leI (a := 30) (b := m) (by decide) (by omega)).mp h.1
  refine ⟨m - 30, by omega, by rw [show 30 + (m - 30) = m by omega], ?_⟩
  rw [show (30 : Int32) = nI 30 from rfl, pk_sub this]
theorem inR_no {n : Nat} {a b : Int32} (h : ¬ (a ≤ nI n ∧ nI n ≤ b)) : ¬ inR (nI n) a b := h
theorem cO_s {S : SS} : ∀ i, i < 2 → fCount S (nI (20 + i)) = S.1 i := by
  intro i hi
  obtain rfl | rfl : i = 0 ∨ i = 1 := by omega
  · rw [fCount, cIf_f (inR_no (by decide)), if_neg (by decide), if_neg (by decide), cIf_t (show inR (nI (20 + 0)) 20 21 from by unfold inR; decide)]; rfl
  · rw [fCount, cIf_f (inR_no (by decide)), if_neg (by decide), if_neg (by decide), cIf_t (show inR (nI (20 + 1)) 20 21 from by unfold inR; decide)]; rfl
theorem cO_o {S : SS} : ∀ i, i < 4 → fCount S (nI (30 + i)) = S.1 (11 + i) := by
  intro i hi
  obtain rfl | rfl | rfl | rfl : i = 0 ∨ i = 1 ∨ i = 2 ∨ i = 3 := by omega
  · rw [fCount, cIf_f (inR_no (by decide)), if_neg (by decide), if_neg (by decide), cIf_f (inR_no (by decide)), cIf_t (show inR (nI (30 + 0)) 30 33 from by unfold inR; decide)]; rfl
  · rw [fCount, cIf_f (inR_no (by decide)), if_neg (by decide), if_neg (by decide), cIf_f (inR_no (by decide)), cIf_t (show inR (nI (30 + 1)) 30 33 from by unfold inR; decide)]; rfl
  · rw [fCount, cIf_f (inR_no (by decide)), if_neg (by decide), if_neg (by decide), cIf_f (inR_no (by decide)), cIf_t (show inR (nI (30 + 2)) 30 33 from by unfold inR; decide)]; rfl
  · rw [fCount, cIf_f (inR_no (by decide)), if_neg (by decide), if_neg (by decide), cIf_f (inR_no (by decide)), cIf_t (show inR (nI (30 + 3)) 30 33 from by unfold inR; decide)]; rfl
theorem cO_t {S : SS} {j : Nat} (hj : j < 11) (hw : inR (nI j) 0 10) : fCount S (nI j) = ctF S.1 j := by rw [fCount, cIf_t hw, iN_n (by omega)]
theorem cO_n {S : SS} {w : Int32} (h1 : ¬ inR w 0 10) (h2 : ¬ w = 11) (h3 : ¬ w = 12) (h4 : ¬ inR w 20 21) (h5 : ¬ inR w 30 33) : fCount S w = -1 := by rw [fCount, cIf_f h1, if_neg h2, if_neg h3, cIf_f h4, cIf_f h5]
theorem cO_11 {S : SS} : fCount S 11 = nI S.2.1.length := by rw [fCount, cIf_f (show ¬ inR 11 0 10 from by unfold inR; decide), if_pos rfl]
theorem cO_12 {S : SS} : fCount S 12 = nI S.2.2.2 := by rw [fCount, cIf_f (show ¬ inR 12 0 10 from by unfold inR; decide), if_neg (by decide), if_pos rfl]
set_option maxHeartbeats 4000000 in
set_option maxRecDepth 100000 in
theorem cx_count (G : BcG) {gi : GI} {N : Nat} {S : SS} (k : SOk N S) (c : RelC S gi) (w : Int32) : Ct G mX8_count [.ref (G.1 + 0), .int w] (hp gi) (pI (fCount S w) (hp gi)) := by
  obtain ⟨o, c⟩ := c
  obtain ⟨ho, c1, c2, c3, c4, c5, c6⟩ := id c
  obtain ⟨k1, k2, k3, k4⟩ := id k
  refine ct_of [some (.ref (G.1 + 0)), some (.int w)] w_1 (by decide) rfl (Nat.le_of_ble_eq_true rfl) rfl ?_
  refine go_iload_n 1 dX8_count_0 rfl rfl (ls_s ls_0) ?_
  refine go_bipush 3 (v := 11) dX8_count_1 rfl (by decide) ?_
  refine go_icmp_ne 14 6 dX8_count_3 (by decide) rfl (fun c_3 => ?_) (fun c_3 => ?_)
  · refine go_iload_n 15 dX8_count_14 rfl rfl (ls_s ls_0) ?_
    refine go_bipush 17 (v := 12) dX8_count_15 rfl (by decide) ?_
    refine go_icmp_ne 28 20 dX8_count_17 (by decide) rfl (fun c_17 => ?_) (fun c_17 => ?_)
    · refine go_iload_n 29 dX8_count_28 rfl rfl (ls_s ls_0) ?_
      refine go_bipush 31 (v := 20) dX8_count_29 rfl (by decide) ?_
      refine go_bipush 33 (v := 21) dX8_count_31 rfl (by decide) ?_
      refine go_SI (M' := mX8_isWithin) 36 dX8_count_33 rfl w_433 okX8_isWithin ⟨Nat.le_of_ble_eq_true rfl, Nat.le_of_ble_eq_true rfl⟩ (ct_isWithin G gi _ _ _) rfl rfl (kk := ?_)
      refine go_ifeq_b 54 39 dX8_count_36 (by decide) rfl (fun c_36 => ?_) (fun c_36 => ?_)
      · refine go_iload_n 55 dX8_count_54 rfl rfl (ls_s ls_0) ?_
        refine go_bipush 57 (v := 30) dX8_count_55 rfl (by decide) ?_
        refine go_bipush 59 (v := 33) dX8_count_57 rfl (by decide) ?_
        refine go_SI (M' := mX8_isWithin) 62 dX8_count_59 rfl w_433 okX8_isWithin ⟨Nat.le_of_ble_eq_true rfl, Nat.le_of_ble_eq_true rfl⟩ (ct_isWithin G gi _ _ _) rfl rfl (kk := ?_)
        refine go_ifeq_b 80 65 dX8_count_62 (by decide) rfl (fun c_62 => ?_) (fun c_62 => ?_)
        · refine go_iload_n 81 dX8_count_80 rfl rfl (ls_s ls_0) ?_
          refine go_iconst 82 (v := 0) dX8_count_81 rfl (by decide) ?_
          refine go_bipush 84 (v := 10) dX8_count_82 rfl (by decide) ?_
          refine go_SI (M' := mX8_isWithin) 87 dX8_count_84 rfl w_433 okX8_isWithin ⟨Nat.le_of_ble_eq_true rfl, Nat.le_of_ble_eq_true rfl⟩ (ct_isWithin G gi _ _ _) rfl rfl (kk := ?_)
          refine go_ifeq_b 101 90 dX8_count_87 (by decide) rfl (fun c_87 => ?_) (fun c_87 => ?_)
          · refine go_iconst 102 (v := (-1)) dX8_count_101 rfl (by decide) ?_
            exact go_ret_i dX8_count_102 rfl rfl rfl (pI_of (cO_n c_87 c_3 c_17 c_36 c_62).symm rfl)
          · obtain ⟨j, hj, rfl⟩ := inR_n (c := 10) (by decide) c_87
            refine go_aload_n 91 dX8_count_90 rfl rfl ls_0 ?_
            refine gp_getR 94 dX8_count_91 rfl f_X8_10 rfl o0 rfl ?_
            refine go_iload_n 95 dX8_count_94 rfl rfl (ls_s ls_0) ?_
            refine go_VI (M' := mX3_total) 98 dX8_count_95 rfl w_604 okX3_total ⟨Nat.le_of_ble_eq_true rfl, Nat.le_of_ble_eq_true rfl⟩ (ct_total G is1 c3 k1 j hj) rfl rfl (tP is1) (by decide) rfl (kk := ?_)
            refine go_goto 102 dX8_count_98 (by decide) ?_
            exact go_ret_i dX8_count_102 rfl rfl rfl (pI_of (cO_t hj c_87).symm rfl)
        · obtain ⟨j, hj, e30, e30s⟩ := inR_30 c_62
          refine go_aload_n 66 dX8_count_65 rfl rfl ls_0 ?_
          refine gp_getR 69 dX8_count_66 rfl f_X8_10 rfl o0 rfl ?_
          refine gp_getR 72 dX8_count_69 rfl f_X8_142 rfl (tP is1) (rO is1) ?_
          refine go_iload_n 73 dX8_count_72 rfl rfl (ls_s ls_0) ?_
          refine go_bipush 75 (v := 30) dX8_count_73 rfl (by decide) ?_
          refine go_isub 76 dX8_count_75 rfl ?_
          refine go_top (y := (nI j)) e30s ?_
          refine go_SI (M' := mX8_entryAt) 79 dX8_count_76 rfl w_603 okX8_entryAt ⟨Nat.le_of_ble_eq_true rfl, Nat.le_of_ble_eq_true rfl⟩ (ct_entryAt G gi _ 4 _ (aO is1) (by decide)) rfl rfl (kk := ?_)
          refine go_top (y := (S.1 (11 + j))) (by rw [entF_n hj (by decide)]; exact c3.2.2.2.2.2.2.2.2 j hj) ?_
          exact go_ret_i dX8_count_79 rfl rfl rfl (pI_of (by rw [e30, cO_o j hj]) rfl)
      · obtain ⟨j, hj, e20, e20s⟩ := inR_20 c_36
        refine go_aload_n 40 dX8_count_39 rfl rfl ls_0 ?_
        refine gp_getR 43 dX8_count_40 rfl f_X8_10 rfl o0 rfl ?_
        refine gp_getR 46 dX8_count_43 rfl f_X8_134 rfl (tP is1) (rS is1) ?_
        refine go_iload_n 47 dX8_count_46 rfl rfl (ls_s ls_0) ?_
        refine go_bipush 49 (v := 20) dX8_count_47 rfl (by decide) ?_
        refine go_isub 50 dX8_count_49 rfl ?_
        refine go_top (y := (nI j)) e20s ?_
        refine go_SI (M' := mX8_entryAt) 53 dX8_count_50 rfl w_603 okX8_entryAt ⟨Nat.le_of_ble_eq_true rfl, Nat.le_of_ble_eq_true rfl⟩ (ct_entryAt G gi _ 2 _ (aS is1) (by decide)) rfl rfl (kk := ?_)
        refine go_top (y := (S.1 j)) (by rw [entF_n hj (by decide)]; exact set_ent c3 hj) ?_
        exact go_ret_i dX8_count_53 rfl rfl rfl (pI_of (by rw [e20, cO_s j hj]) rfl)
    · refine go_aload_n 21 dX8_count_20 rfl rfl ls_0 ?_
      refine gp_getR 24 dX8_count_21 rfl f_X8_29 rfl o0 rfl ?_
      refine gp_getI 27 dX8_count_24 rfl f_X8_131 rfl o332 ?_
      refine go_top (y := (nI S.2.2.2)) c5.1 ?_
      exact go_ret_i dX8_count_27 rfl rfl rfl (pI_of (by rw [c_17, cO_12]) rfl)
  · refine go_aload_n 7 dX8_count_6 rfl rfl ls_0 ?_
    refine gp_getR 10 dX8_count_7 rfl f_X8_22 rfl o0 rfl ?_
    refine gp_getI 13 dX8_count_10 rfl f_X8_128 rfl o95 ?_
    refine go_top (y := (nI S.2.1.length)) c2 ?_
    exact go_ret_i dX8_count_13 rfl rfl rfl (pI_of (by rw [c_3, cO_11]) rfl)
