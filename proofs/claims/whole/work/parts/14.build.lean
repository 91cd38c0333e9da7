/-! PLANTS: what is built -/
set_option maxHeartbeats 4000000 in
set_option maxRecDepth 100000 in
theorem ct_addRecipe (G : BcG) (gi : GI) {P : Nat} (hP : isP P) {N : Nat} {A : AA} (h : Rel P A gi) (I : Inv N A) (x : Int32) : Ct G mX3_addRecipe [.ref (G.1 + P), .int x] (hp gi) (pOp P gi (fRecipe A x)) := by
  refine ct_of [some (.ref (G.1 + P)), some (.int x), none] w_2 (by decide) rfl (Nat.le_of_ble_eq_true rfl) rfl ?_
  refine go_iload_n 1 dX3_addRecipe_0 rfl rfl (ls_s ls_0) ?_
  refine go_iconst 2 (v := 0) dX3_addRecipe_1 rfl (by decide) ?_
  refine go_iconst 3 (v := 3) dX3_addRecipe_2 rfl (by decide) ?_
  refine go_TI (M' := mX8_isWithin) 6 dX3_addRecipe_3 rfl x_X3_106 okX8_isWithin ⟨Nat.le_of_ble_eq_true rfl, Nat.le_of_ble_eq_true rfl⟩ (ct_isWithin G gi _ _ _) rfl rfl (kk := ?_)
  refine go_ifne_b 11 9 dX3_addRecipe_6 (by decide) rfl (fun c_6 => ?_) (fun c_6 => ?_)
  · refine go_aload_n 12 dX3_addRecipe_11 rfl rfl ls_0 ?_
    refine gp_getI 15 dX3_addRecipe_12 rfl f_X3_61 rfl (tP hP) ?_
    refine go_top (y := (nI (nR A))) (h.1.1.trans I.eR) ?_
    refine go_iconst 16 (v := 4) dX3_addRecipe_15 rfl (by decide) ?_
    refine go_icmp_lt 22 19 dX3_addRecipe_16 (by decide) rfl (fun c_16 => ?_) (fun c_16 => ?_)
    · have hn : nR A < 4 := cnt_lt (by have := I.nR4; omega) (by decide) c_16
      refine go_aload_n 23 dX3_addRecipe_22 rfl rfl ls_0 ?_
      refine go_dup 24 dX3_addRecipe_23 rfl rfl ?_
      refine gp_getI 27 dX3_addRecipe_24 rfl f_X3_61 rfl (tP hP) ?_
      refine go_top (y := (nI (nR A))) (h.1.1.trans I.eR) ?_
      refine go_iconst 28 (v := 1) dX3_addRecipe_27 rfl (by decide) ?_
      refine go_iadd 29 dX3_addRecipe_28 rfl ?_
      refine go_top (y := (nI (nR A + 1))) (nI_1 _) ?_
      refine gp_putI 32 dX3_addRecipe_29 rfl f_X3_61 rfl (tP hP) rfl rfl ?_
      refine go_aload_n 33 dX3_addRecipe_32 rfl rfl ls_0 ?_
      refine go_aload_n 34 dX3_addRecipe_33 rfl rfl ls_0 ?_
      refine gp_getI 37 dX3_addRecipe_34 rfl f_X3_61 rfl (tP hP) ?_
      refine go_top (y := (nI (nR A + 1))) (by simp (disch := omega) only [wI_ne, wI_eq]) ?_
      refine go_iconst 38 (v := 1) dX3_addRecipe_37 rfl (by decide) ?_
      refine go_isub 39 dX3_addRecipe_38 rfl ?_
      refine go_top (y := (nI (nR A))) (nI_pred _) ?_
      refine go_VA (M' := mX3_recipeAt) 42 dX3_addRecipe_39 rfl w_362 okX3_recipeAt ⟨Nat.le_of_ble_eq_true rfl, Nat.le_of_ble_eq_true rfl⟩ (Ct.weak (ct_recipeAt G (wI gi (P) 1 (nI (nR A + 1))) hP _ (nR A + 1) (by simp (disch := omega) only [wI_ne, wI_eq]) (by omega)) (pAt_y (f := fun r => P + 8 + 6 * r) (c := fun _ => True) (by omega) (Nat.lt_succ_self _) trivial)) rfl rfl (tP hP) (by decide) rfl (kk := ?_)
      refine go_astore_n 43 dX3_addRecipe_42 rfl rfl (by decide) (st_s (st_s st_0)) ?_
      refine go_aload_n 44 dX3_addRecipe_43 rfl rfl (ls_s (ls_s ls_0)) ?_
      refine go_ifnull 47 dX3_addRecipe_44 rfl ?_
      refine go_aload_n 48 dX3_addRecipe_47 rfl rfl (ls_s (ls_s ls_0)) ?_
      refine go_iload_n 49 dX3_addRecipe_48 rfl rfl (ls_s ls_0) ?_
      refine gp_putI 52 dX3_addRecipe_49 rfl f_X3_114 rfl (tR hP hn) rfl rfl ?_
      refine go_aload_n 53 dX3_addRecipe_52 rfl rfl (ls_s (ls_s ls_0)) ?_
      refine go_iconst 54 (v := 0) dX3_addRecipe_53 rfl (by decide) ?_
      refine gp_putI 57 dX3_addRecipe_54 rfl f_X3_117 rfl (tR hP hn) rfl rfl ?_
      refine go_aload_n 58 dX3_addRecipe_57 rfl rfl ls_0 ?_
      refine gp_getI 61 dX3_addRecipe_58 rfl f_X3_61 rfl (tP hP) ?_
      refine go_top (y := (nI (nR A + 1))) (by simp (disch := omega) only [wI_ne, wI_eq]) ?_
      refine go_iconst 62 (v := 1) dX3_addRecipe_61 rfl (by decide) ?_
      refine go_isub 63 dX3_addRecipe_62 rfl ?_
      refine go_top (y := (nI (nR A))) (nI_pred _) ?_
      exact go_ret_i dX3_addRecipe_63 rfl rfl rfl (pOp_m (fRecipe_y I c_6 hn) (rel_recipe h I hn x) (((Out.rf P gi).wI (by omega) (by omega)).wI (by omega) (by omega) |>.wI (by omega) (by omega)))
    · refine go_bipush 21 (v := (-3)) dX3_addRecipe_19 rfl (by decide) ?_
      exact go_ret_i dX3_addRecipe_21 rfl rfl rfl (pOp_e (fRecipe_3 c_6 (by rw [I.eR, cnt_ge I.nR4 (by decide) c_16]; rfl)) h)
  · refine go_iconst 10 (v := (-1)) dX3_addRecipe_9 rfl (by decide) ?_
    exact go_ret_i dX3_addRecipe_10 rfl rfl rfl (pOp_e (fRecipe_1 c_6) h)
set_option maxHeartbeats 4000000 in
set_option maxRecDepth 100000 in
theorem ct_addVessel (G : BcG) (gi : GI) {P : Nat} (hP : isP P) {N : Nat} {A : AA} (h : Rel P A gi) (I : Inv N A) (x y : Int32) : Ct G mX3_addVessel [.ref (G.1 + P), .int x, .int y] (hp gi) (pOp P gi (fVessel A x y)) := by
  refine ct_of [some (.ref (G.1 + P)), some (.int x), some (.int y), none] w_2 (by decide) rfl (Nat.le_of_ble_eq_true rfl) rfl ?_
  refine go_iload_n 1 dX3_addVessel_0 rfl rfl (ls_s ls_0) ?_
  refine go_iconst 2 (v := 0) dX3_addVessel_1 rfl (by decide) ?_
  refine go_iconst 3 (v := 2) dX3_addVessel_2 rfl (by decide) ?_
  refine go_TI (M' := mX8_isWithin) 6 dX3_addVessel_3 rfl x_X3_106 okX8_isWithin ⟨Nat.le_of_ble_eq_true rfl, Nat.le_of_ble_eq_true rfl⟩ (ct_isWithin G gi _ _ _) rfl rfl (kk := ?_)
  refine go_ifeq_b 20 9 dX3_addVessel_6 (by decide) rfl (fun c_6 => ?_) (fun c_6 => ?_)
  · refine go_iconst 21 (v := (-1)) dX3_addVessel_20 rfl (by decide) ?_
    exact go_ret_i dX3_addVessel_21 rfl rfl rfl (pOp_e (fVessel_1 (fun z => c_6 z.1)) h)
  · refine go_iload_n 10 dX3_addVessel_9 rfl rfl (ls_s (ls_s ls_0)) ?_
    refine go_iconst 11 (v := 1) dX3_addVessel_10 rfl (by decide) ?_
    refine go_sipush 14 (v := 999) dX3_addVessel_11 rfl (by decide) ?_
    refine go_TI (M' := mX8_isWithin) 17 dX3_addVessel_14 rfl x_X3_106 okX8_isWithin ⟨Nat.le_of_ble_eq_true rfl, Nat.le_of_ble_eq_true rfl⟩ (ct_isWithin G gi _ _ _) rfl rfl (kk := ?_)
    refine go_ifne_b 22 20 dX3_addVessel_17 (by decide) rfl (fun c_17 => ?_) (fun c_17 => ?_)
    · refine go_aload_n 23 dX3_addVessel_22 rfl rfl ls_0 ?_
      refine gp_getI 26 dX3_addVessel_23 rfl f_X3_65 rfl (tP hP) ?_
      refine go_top (y := (nI (nV A))) (h.1.2.1.trans I.eV) ?_
      refine go_bipush 28 (v := 6) dX3_addVessel_26 rfl (by decide) ?_
      refine go_icmp_lt 34 31 dX3_addVessel_28 (by decide) rfl (fun c_28 => ?_) (fun c_28 => ?_)
      · have hn : nV A < 6 := cnt_lt (by have := I.nV6; omega) (by decide) c_28
        refine go_aload_n 35 dX3_addVessel_34 rfl rfl ls_0 ?_
        refine go_dup 36 dX3_addVessel_35 rfl rfl ?_
        refine gp_getI 39 dX3_addVessel_36 rfl f_X3_65 rfl (tP hP) ?_
        refine go_top (y := (nI (nV A))) (h.1.2.1.trans I.eV) ?_
        refine go_iconst 40 (v := 1) dX3_addVessel_39 rfl (by decide) ?_
        refine go_iadd 41 dX3_addVessel_40 rfl ?_
        refine go_top (y := (nI (nV A + 1))) (nI_1 _) ?_
        refine gp_putI 44 dX3_addVessel_41 rfl f_X3_65 rfl (tP hP) rfl rfl ?_
        refine go_aload_n 45 dX3_addVessel_44 rfl rfl ls_0 ?_
        refine go_aload_n 46 dX3_addVessel_45 rfl rfl ls_0 ?_
        refine gp_getI 49 dX3_addVessel_46 rfl f_X3_65 rfl (tP hP) ?_
        refine go_top (y := (nI (nV A + 1))) (by simp (disch := omega) only [wI_ne, wI_eq]) ?_
        refine go_iconst 50 (v := 1) dX3_addVessel_49 rfl (by decide) ?_
        refine go_isub 51 dX3_addVessel_50 rfl ?_
        refine go_top (y := (nI (nV A))) (nI_pred _) ?_
        refine go_VA (M' := mX3_vesselAt) 54 dX3_addVessel_51 rfl w_395 okX3_vesselAt ⟨Nat.le_of_ble_eq_true rfl, Nat.le_of_ble_eq_true rfl⟩ (Ct.weak (ct_vesselAt G (wI gi (P) 3 (nI (nV A + 1))) hP _ (nV A + 1) (by simp (disch := omega) only [wI_ne, wI_eq]) (by omega)) (pAt_y (f := fun r => P + 32 + r) (c := fun _ => True) (by omega) (Nat.lt_succ_self _) trivial)) rfl rfl (tP hP) (by decide) rfl (kk := ?_)
        refine go_astore_n 55 dX3_addVessel_54 rfl rfl (by decide) (st_s (st_s (st_s st_0))) ?_
        refine go_aload_n 56 dX3_addVessel_55 rfl rfl (ls_s (ls_s (ls_s ls_0))) ?_
        refine go_ifnull 59 dX3_addVessel_56 rfl ?_
        refine go_aload_n 60 dX3_addVessel_59 rfl rfl (ls_s (ls_s (ls_s ls_0))) ?_
        refine go_iload_n 61 dX3_addVessel_60 rfl rfl (ls_s ls_0) ?_
        refine gp_putI 64 dX3_addVessel_61 rfl f_X3_149 rfl (tV hP hn) rfl rfl ?_
        refine go_aload_n 65 dX3_addVessel_64 rfl rfl (ls_s (ls_s (ls_s ls_0))) ?_
        refine go_iload_n 66 dX3_addVessel_65 rfl rfl (ls_s (ls_s ls_0)) ?_
        refine gp_putI 69 dX3_addVessel_66 rfl f_X3_150 rfl (tV hP hn) rfl rfl ?_
        refine go_aload_n 70 dX3_addVessel_69 rfl rfl ls_0 ?_
        refine gp_getI 73 dX3_addVessel_70 rfl f_X3_65 rfl (tP hP) ?_
        refine go_top (y := (nI (nV A + 1))) (by simp (disch := omega) only [wI_ne, wI_eq]) ?_
        refine go_iconst 74 (v := 1) dX3_addVessel_73 rfl (by decide) ?_
        refine go_isub 75 dX3_addVessel_74 rfl ?_
        refine go_top (y := (nI (nV A))) (nI_pred _) ?_
        exact go_ret_i dX3_addVessel_75 rfl rfl rfl (pOp_m (fVessel_y I ⟨c_6, c_17⟩ hn) (rel_vessel h I hn x y) (((Out.rf P gi).wI (by omega) (by omega)).wI (by omega) (by omega) |>.wI (by omega) (by omega)))
      · refine go_bipush 33 (v := (-3)) dX3_addVessel_31 rfl (by decide) ?_
        exact go_ret_i dX3_addVessel_33 rfl rfl rfl (pOp_e (fVessel_3 ⟨c_6, c_17⟩ (by rw [I.eV, cnt_ge I.nV6 (by decide) c_28]; rfl)) h)
    · refine go_iconst 21 (v := (-1)) dX3_addVessel_20 rfl (by decide) ?_
      exact go_ret_i dX3_addVessel_21 rfl rfl rfl (pOp_e (fVessel_1 (fun z => c_17 z.2)) h)
theorem in4 {x : Int32} (h : inR x 0 3) : ∃ i, i < 4 ∧ x = nI i := idx_of (len := 4) (by decide) (Int32.not_lt.mpr h.1) (fun z => absurd (Int32.le_trans z h.2) (by decide))
set_option maxHeartbeats 4000000 in
set_option maxRecDepth 100000 in
theorem ct_changeCleaning (G : BcG) (gi : GI) {P : Nat} (hP : isP P) {N : Nat} {A : AA} (h : Rel P A gi) (I : Inv N A) (x y z : Int32) : Ct G mX3_changeCleaning [.ref (G.1 + P), .int x, .int y, .int z] (hp gi) (pOp P gi (fCleaning A x y z)) := by
  refine ct_of [some (.ref (G.1 + P)), some (.int x), some (.int y), some (.int z), none] w_2 (by decide) rfl (Nat.le_of_ble_eq_true rfl) rfl ?_
  refine go_iload_n 1 dX3_changeCleaning_0 rfl rfl (ls_s ls_0) ?_
  refine go_iconst 2 (v := 0) dX3_changeCleaning_1 rfl (by decide) ?_
  refine go_iconst 3 (v := 3) dX3_changeCleaning_2 rfl (by decide) ?_
  refine go_TI (M' := mX8_isWithin) 6 dX3_changeCleaning_3 rfl x_X3_106 okX8_isWithin ⟨Nat.le_of_ble_eq_true rfl, Nat.le_of_ble_eq_true rfl⟩ (ct_isWithin G gi _ _ _) rfl rfl (kk := ?_)
  refine go_ifeq_b 28 9 dX3_changeCleaning_6 (by decide) rfl (fun c_6 => ?_) (fun c_6 => ?_)
  · refine go_iconst 29 (v := (-1)) dX3_changeCleaning_28 rfl (by decide) ?_
    exact go_ret_i dX3_changeCleaning_29 rfl rfl rfl (pOp_e (fCleaning_1 (fun z => c_6 z.1)) h)
  · refine go_iload_n 10 dX3_changeCleaning_9 rfl rfl (ls_s (ls_s ls_0)) ?_
    refine go_iconst 11 (v := 0) dX3_changeCleaning_10 rfl (by decide) ?_
    refine go_iconst 12 (v := 3) dX3_changeCleaning_11 rfl (by decide) ?_
    refine go_TI (M' := mX8_isWithin) 15 dX3_changeCleaning_12 rfl x_X3_106 okX8_isWithin ⟨Nat.le_of_ble_eq_true rfl, Nat.le_of_ble_eq_true rfl⟩ (ct_isWithin G gi _ _ _) rfl rfl (kk := ?_)
    refine go_ifeq_b 28 18 dX3_changeCleaning_15 (by decide) rfl (fun c_15 => ?_) (fun c_15 => ?_)
    · refine go_iconst 29 (v := (-1)) dX3_changeCleaning_28 rfl (by decide) ?_
      exact go_ret_i dX3_changeCleaning_29 rfl rfl rfl (pOp_e (fCleaning_1 (fun z => c_15 z.2.1)) h)
    · refine go_iload_n 19 dX3_changeCleaning_18 rfl rfl (ls_s (ls_s (ls_s ls_0))) ?_
      refine go_iconst 20 (v := 0) dX3_changeCleaning_19 rfl (by decide) ?_
      refine go_bipush 22 (v := 99) dX3_changeCleaning_20 rfl (by decide) ?_
      refine go_TI (M' := mX8_isWithin) 25 dX3_changeCleaning_22 rfl x_X3_106 okX8_isWithin ⟨Nat.le_of_ble_eq_true rfl, Nat.le_of_ble_eq_true rfl⟩ (ct_isWithin G gi _ _ _) rfl rfl (kk := ?_)
      refine go_ifne_b 30 28 dX3_changeCleaning_25 (by decide) rfl (fun c_25 => ?_) (fun c_25 => ?_)
      · obtain ⟨i, hi, rfl⟩ := in4 c_6
        obtain ⟨j, hj, rfl⟩ := in4 c_15
        refine go_aload_n 31 dX3_changeCleaning_30 rfl rfl ls_0 ?_
        refine gp_getR 34 dX3_changeCleaning_31 rfl f_X3_35 rfl (tP hP) (rT hP) ?_
        refine go_iload_n 35 dX3_changeCleaning_34 rfl rfl (ls_s ls_0) ?_
        refine go_iconst 36 (v := 4) dX3_changeCleaning_35 rfl (by decide) ?_
        refine go_imul 37 dX3_changeCleaning_36 rfl ?_
        refine go_iload_n 38 dX3_changeCleaning_37 rfl rfl (ls_s (ls_s ls_0)) ?_
        refine go_iadd 39 dX3_changeCleaning_38 rfl ?_
        refine go_top (y := (nI (i * 4 + j))) (by rw [show (4 : Int32) = nI 4 from rfl, pk_mul, nI_add]) ?_
        refine go_TI (M' := mX8_entryAt) 42 dX3_changeCleaning_39 rfl x_X3_168 okX8_entryAt ⟨Nat.le_of_ble_eq_true rfl, Nat.le_of_ble_eq_true rfl⟩ (ct_entryAt G gi _ 16 _ (aT hP) (by decide)) rfl rfl (kk := ?_)
        refine go_top (y := (A (15 + (i * 4 + j)))) (by rw [entF_n (by omega) (by decide)]; exact h.2.2.2.2.2.1 _ (by omega)) ?_
        refine go_istore 44 dX3_changeCleaning_42 rfl (by decide) (st_s (st_s (st_s (st_s st_0)))) ?_
        refine go_aload_n 45 dX3_changeCleaning_44 rfl rfl ls_0 ?_
        refine gp_getR 48 dX3_changeCleaning_45 rfl f_X3_35 rfl (tP hP) (rT hP) ?_
        refine go_iload_n 49 dX3_changeCleaning_48 rfl rfl (ls_s ls_0) ?_
        refine go_iconst 50 (v := 4) dX3_changeCleaning_49 rfl (by decide) ?_
        refine go_imul 51 dX3_changeCleaning_50 rfl ?_
        refine go_iload_n 52 dX3_changeCleaning_51 rfl rfl (ls_s (ls_s ls_0)) ?_
        refine go_iadd 53 dX3_changeCleaning_52 rfl ?_
        refine go_top (y := (nI (i * 4 + j))) (by rw [show (4 : Int32) = nI 4 from rfl, pk_mul, nI_add]) ?_
        refine go_iload_n 54 dX3_changeCleaning_53 rfl rfl (ls_s (ls_s (ls_s ls_0))) ?_
        refine go_TN (M' := mX8_putEntry) 57 dX3_changeCleaning_54 rfl x_X3_49 okX8_putEntry ⟨Nat.le_of_ble_eq_true rfl, Nat.le_of_ble_eq_true rfl⟩ (ct_putEntry G gi _ 16 _ _ (aT hP) (by decide)) rfl rfl (kk := ?_)
        refine go_iload 59 dX3_changeCleaning_57 rfl (ls_s (ls_s (ls_s (ls_s ls_0)))) ?_
        exact go_ret_i dX3_changeCleaning_59 rfl rfl rfl (pOp_m ((fCleaning_y ⟨c_6, c_15, c_25⟩).trans (by rw [iN_n (by omega), iN_n (by omega), show i * 4 = 4 * i by omega, ← Nat.add_assoc])) (by rw [putF_n (by omega) (by decide), show i * 4 = 4 * i by omega]; have := rel_table h I (i := 4 * i + j) (by omega) z; rwa [← Nat.add_assoc] at this) (by rw [putF_n (by omega) (by decide)]; exact (Out.rf P gi).wI (by omega) (by omega)))
      · refine go_iconst 29 (v := (-1)) dX3_changeCleaning_28 rfl (by decide) ?_
        exact go_ret_i dX3_changeCleaning_29 rfl rfl rfl (pOp_e (fCleaning_1 (fun z => c_25 z.2.2)) h)
theorem in2 {x : Int32} (h : inR x 0 1) : ∃ i, i < 2 ∧ x = nI i := idx_of (len := 2) (by decide) (Int32.not_lt.mpr h.1) (fun z => absurd (Int32.le_trans z h.2) (by decide))
theorem set_ent {P : Nat} {A : AA} {gi : GI} (h : Rel P A gi) {i : Nat} (hi : i < 2) : gi (P + 6) i = A i := by
  obtain rfl | rfl : i = 0 ∨ i = 1 := by omega
  · exact h.2.2.2.2.2.2.1
  · exact h.2.2.2.2.2.2.2.1
set_option maxHeartbeats 4000000 in
set_option maxRecDepth 100000 in
theorem ct_changeSetting (G : BcG) (gi : GI) {P : Nat} (hP : isP P) {N : Nat} {A : AA} (h : Rel P A gi) (I : Inv N A) (x y : Int32) : Ct G mX3_changeSetting [.ref (G.1 + P), .int x, .int y] (hp gi) (pOp P gi (fSet A x y)) := by
  refine ct_of [some (.ref (G.1 + P)), some (.int x), some (.int y), none, none] w_2 (by decide) rfl (Nat.le_of_ble_eq_true rfl) rfl ?_
  refine go_iload_n 1 dX3_changeSetting_0 rfl rfl (ls_s ls_0) ?_
  refine go_if_ne 9 4 dX3_changeSetting_1 (by decide) rfl (fun c_1 => ?_) (fun c_1 => ?_)
  · refine go_bipush 11 (v := 50) dX3_changeSetting_9 rfl (by decide) ?_
    refine go_istore_n 12 dX3_changeSetting_11 rfl rfl (by decide) (st_s (st_s (st_s st_0))) ?_
    refine go_iload_n 13 dX3_changeSetting_12 rfl rfl (ls_s ls_0) ?_
    refine go_iconst 14 (v := 0) dX3_changeSetting_13 rfl (by decide) ?_
    refine go_iconst 15 (v := 1) dX3_changeSetting_14 rfl (by decide) ?_
    refine go_TI (M' := mX8_isWithin) 18 dX3_changeSetting_15 rfl x_X3_106 okX8_isWithin ⟨Nat.le_of_ble_eq_true rfl, Nat.le_of_ble_eq_true rfl⟩ (ct_isWithin G gi _ _ _) rfl rfl (kk := ?_)
    refine go_ifeq_b 30 21 dX3_changeSetting_18 (by decide) rfl (fun c_18 => ?_) (fun c_18 => ?_)
    · refine go_iconst 31 (v := (-1)) dX3_changeSetting_30 rfl (by decide) ?_
      exact go_ret_i dX3_changeSetting_31 rfl rfl rfl (pOp_e (fSet_1 (fun z => c_18 z.1)) h)
    · refine go_iload_n 22 dX3_changeSetting_21 rfl rfl (ls_s (ls_s ls_0)) ?_
      refine go_iconst 23 (v := 0) dX3_changeSetting_22 rfl (by decide) ?_
      refine go_iload_n 24 dX3_changeSetting_23 rfl rfl (ls_s (ls_s (ls_s ls_0))) ?_
      refine go_TI (M' := mX8_isWithin) 27 dX3_changeSetting_24 rfl x_X3_106 okX8_isWithin ⟨Nat.le_of_ble_eq_true rfl, Nat.le_of_ble_eq_true rfl⟩ (ct_isWithin G gi _ _ _) rfl rfl (kk := ?_)
      refine go_ifne_b 32 30 dX3_changeSetting_27 (by decide) rfl (fun c_27 => ?_) (fun c_27 => ?_)
      · obtain ⟨i, hi, rfl⟩ := in2 c_18
        refine go_aload_n 33 dX3_changeSetting_32 rfl rfl ls_0 ?_
        refine gp_getR 36 dX3_changeSetting_33 rfl f_X3_39 rfl (tP hP) (rS hP) ?_
        refine go_iload_n 37 dX3_changeSetting_36 rfl rfl (ls_s ls_0) ?_
        refine go_TI (M' := mX8_entryAt) 40 dX3_changeSetting_37 rfl x_X3_168 okX8_entryAt ⟨Nat.le_of_ble_eq_true rfl, Nat.le_of_ble_eq_true rfl⟩ (ct_entryAt G gi _ 2 _ (aS hP) (by decide)) rfl rfl (kk := ?_)
        refine go_top (y := (A i)) (by rw [entF_n hi (by decide)]; exact set_ent h hi) ?_
        refine go_istore 42 dX3_changeSetting_40 rfl (by decide) (st_s (st_s (st_s (st_s st_0)))) ?_
        refine go_aload_n 43 dX3_changeSetting_42 rfl rfl ls_0 ?_
        refine gp_getR 46 dX3_changeSetting_43 rfl f_X3_39 rfl (tP hP) (rS hP) ?_
        refine go_iload_n 47 dX3_changeSetting_46 rfl rfl (ls_s ls_0) ?_
        refine go_iload_n 48 dX3_changeSetting_47 rfl rfl (ls_s (ls_s ls_0)) ?_
        refine go_TN (M' := mX8_putEntry) 51 dX3_changeSetting_48 rfl x_X3_49 okX8_putEntry ⟨Nat.le_of_ble_eq_true rfl, Nat.le_of_ble_eq_true rfl⟩ (ct_putEntry G gi _ 2 _ _ (aS hP) (by decide)) rfl rfl (kk := ?_)
        refine go_iload 53 dX3_changeSetting_51 rfl (ls_s (ls_s (ls_s (ls_s ls_0)))) ?_
        exact go_ret_i dX3_changeSetting_53 rfl rfl rfl (pOp_m ((fSet_y ⟨c_18, by rw [cIf_f c_1]; exact c_27⟩).trans (by rw [iN_n (by omega)])) (by rw [putF_n hi (by decide)]; exact rel_set h I hi y) (by rw [putF_n hi (by decide)]; exact (Out.rf P gi).wI (by omega) (by omega)))
      · refine go_iconst 31 (v := (-1)) dX3_changeSetting_30 rfl (by decide) ?_
        exact go_ret_i dX3_changeSetting_31 rfl rfl rfl (pOp_e (fSet_1 (fun z => c_27 (by have := z.2; rw [cIf_f c_1] at this; exact this))) h)
  · refine go_bipush 6 (v := 100) dX3_changeSetting_4 rfl (by decide) ?_
    refine go_goto 11 dX3_changeSetting_6 (by decide) ?_
    refine go_istore_n 12 dX3_changeSetting_11 rfl rfl (by decide) (st_s (st_s (st_s st_0))) ?_
    refine go_iload_n 13 dX3_changeSetting_12 rfl rfl (ls_s ls_0) ?_
    refine go_iconst 14 (v := 0) dX3_changeSetting_13 rfl (by decide) ?_
    refine go_iconst 15 (v := 1) dX3_changeSetting_14 rfl (by decide) ?_
    refine go_TI (M' := mX8_isWithin) 18 dX3_changeSetting_15 rfl x_X3_106 okX8_isWithin ⟨Nat.le_of_ble_eq_true rfl, Nat.le_of_ble_eq_true rfl⟩ (ct_isWithin G gi _ _ _) rfl rfl (kk := ?_)
    refine go_ifeq_b 30 21 dX3_changeSetting_18 (by decide) rfl (fun c_18 => ?_) (fun c_18 => ?_)
    · refine go_iconst 31 (v := (-1)) dX3_changeSetting_30 rfl (by decide) ?_
      exact go_ret_i dX3_changeSetting_31 rfl rfl rfl (pOp_e (fSet_1 (fun z => c_18 z.1)) h)
    · refine go_iload_n 22 dX3_changeSetting_21 rfl rfl (ls_s (ls_s ls_0)) ?_
      refine go_iconst 23 (v := 0) dX3_changeSetting_22 rfl (by decide) ?_
      refine go_iload_n 24 dX3_changeSetting_23 rfl rfl (ls_s (ls_s (ls_s ls_0))) ?_
      refine go_TI (M' := mX8_isWithin) 27 dX3_changeSetting_24 rfl x_X3_106 okX8_isWithin ⟨Nat.le_of_ble_eq_true rfl, Nat.le_of_ble_eq_true rfl⟩ (ct_isWithin G gi _ _ _) rfl rfl (kk := ?_)
      refine go_ifne_b 32 30 dX3_changeSetting_27 (by decide) rfl (fun c_27 => ?_) (fun c_27 => ?_)
      · obtain ⟨i, hi, rfl⟩ := in2 c_18
        refine go_aload_n 33 dX3_changeSetting_32 rfl rfl ls_0 ?_
        refine gp_getR 36 dX3_changeSetting_33 rfl f_X3_39 rfl (tP hP) (rS hP) ?_
        refine go_iload_n 37 dX3_changeSetting_36 rfl rfl (ls_s ls_0) ?_
        refine go_TI (M' := mX8_entryAt) 40 dX3_changeSetting_37 rfl x_X3_168 okX8_entryAt ⟨Nat.le_of_ble_eq_true rfl, Nat.le_of_ble_eq_true rfl⟩ (ct_entryAt G gi _ 2 _ (aS hP) (by decide)) rfl rfl (kk := ?_)
        refine go_top (y := (A i)) (by rw [entF_n hi (by decide)]; exact set_ent h hi) ?_
        refine go_istore 42 dX3_changeSetting_40 rfl (by decide) (st_s (st_s (st_s (st_s st_0)))) ?_
        refine go_aload_n 43 dX3_changeSetting_42 rfl rfl ls_0 ?_
        refine gp_getR 46 dX3_changeSetting_43 rfl f_X3_39 rfl (tP hP) (rS hP) ?_
        refine go_iload_n 47 dX3_changeSetting_46 rfl rfl (ls_s ls_0) ?_
        refine go_iload_n 48 dX3_changeSetting_47 rfl rfl (ls_s (ls_s ls_0)) ?_
        refine go_TN (M' := mX8_putEntry) 51 dX3_changeSetting_48 rfl x_X3_49 okX8_putEntry ⟨Nat.le_of_ble_eq_true rfl, Nat.le_of_ble_eq_true rfl⟩ (ct_putEntry G gi _ 2 _ _ (aS hP) (by decide)) rfl rfl (kk := ?_)
        refine go_iload 53 dX3_changeSetting_51 rfl (ls_s (ls_s (ls_s (ls_s ls_0)))) ?_
        exact go_ret_i dX3_changeSetting_53 rfl rfl rfl (pOp_m ((fSet_y ⟨c_18, by rw [cIf_t c_1]; exact c_27⟩).trans (by rw [iN_n (by omega)])) (by rw [putF_n hi (by decide)]; exact rel_set h I hi y) (by rw [putF_n hi (by decide)]; exact (Out.rf P gi).wI (by omega) (by omega)))
      · refine go_iconst 31 (v := (-1)) dX3_changeSetting_30 rfl (by decide) ?_
        exact go_ret_i dX3_changeSetting_31 rfl rfl rfl (pOp_e (fSet_1 (fun z => c_27 (by have := z.2; rw [cIf_t c_1] at this; exact this))) h)
def hbC (gi : GI) (P : Nat) (x : Int32) (b : Nat) : Prop := ¬ gi (P + 41 + b) 0 = 0 ∧ gi (P + 41 + b) 1 = x
set_option maxHeartbeats 4000000 in
set_option maxRecDepth 100000 in
theorem lp_hasBatchOf (G : BcG) (gi : GI) {P : Nat} (hP : isP P) (x : Int32) : ∀ (n i : Nat), i + n = 6 → (∀ j, j < i → ¬ hbC gi P x j) → BGo G mX3_hasBatchOf (KM G mX3_hasBatchOf 341 (pI (bI (∃ b, b < 6 ∧ hbC gi P x b)) (hp gi))) (hp gi) 0 0 2 [some (.ref (G.1 + P)), some (.int x), some (.int (nI i))] [] := by
  intro n
  induction n with
  | zero =>
    intro i  hn hno
    obtain rfl : i = 6 := by omega
    refine go_iload_n 3 dX3_hasBatchOf_2 rfl rfl (ls_s (ls_s ls_0)) ?_
    refine go_aload_n 4 dX3_hasBatchOf_3 rfl rfl ls_0 ?_
    refine gp_getR 7 dX3_hasBatchOf_4 rfl f_X3_31 rfl (tP hP) (rB hP) ?_
    refine gp_alen 8 (v := nI 6) dX3_hasBatchOf_7 rfl (aB hP) (by decide) (by decide) rfl ?_
    refine go_icmp_ge 44 11 dX3_hasBatchOf_8 (by decide) rfl (fun c_8 => ?_) (fun c_8 => absurd c_8 (by decide))
    refine go_iconst 45 (v := 0) dX3_hasBatchOf_44 rfl (by decide) ?_
    exact go_ret_z dX3_hasBatchOf_45 rfl rfl rfl rfl (pI_of (bI_0 (fun ⟨b, hb, z⟩ => hno b (by omega) z)) rfl)
  | succ n ih =>
    intro i  hn hno
    have hi : i < 6 := by omega
    refine go_iload_n 3 dX3_hasBatchOf_2 rfl rfl (ls_s (ls_s ls_0)) ?_
    refine go_aload_n 4 dX3_hasBatchOf_3 rfl rfl ls_0 ?_
    refine gp_getR 7 dX3_hasBatchOf_4 rfl f_X3_31 rfl (tP hP) (rB hP) ?_
    refine gp_alen 8 (v := nI 6) dX3_hasBatchOf_7 rfl (aB hP) (by decide) (by decide) rfl ?_
    refine go_icmp_ge 44 11 dX3_hasBatchOf_8 (by decide) rfl (fun c_8 => absurd c_8 (nI_ge hi (by decide))) (fun c_8 => ?_)
    refine go_aload_n 12 dX3_hasBatchOf_11 rfl rfl ls_0 ?_
    refine gp_getR 15 dX3_hasBatchOf_12 rfl f_X3_31 rfl (tP hP) (rB hP) ?_
    refine go_iload_n 16 dX3_hasBatchOf_15 rfl rfl (ls_s (ls_s ls_0)) ?_
    refine gp_aald 17 (i := i) dX3_hasBatchOf_16 rfl (aB hP) (by decide) rfl rfl hi (by decide) (rBi hP hi) ?_
    refine gp_getI 20 dX3_hasBatchOf_17 rfl f_X3_102 rfl (tB hP hi) ?_
    refine go_if_eq 38 23 dX3_hasBatchOf_20 (by decide) rfl (fun c_20 => ?_) (fun c_20 => ?_)
    · refine go_iinc 41 (v := (nI (i + 1))) dX3_hasBatchOf_38 rfl (ls_s (ls_s ls_0)) (by exact nI_1 i) (by decide) (st_s (st_s st_0)) ?_
      refine go_goto 2 dX3_hasBatchOf_41 (by decide) ?_
      exact ih (i + 1) (by omega) (fun j hj => (Nat.lt_succ_iff_lt_or_eq.mp hj).elim (hno j) (fun e => by subst e; exact (fun z => z.1 c_20)))
    · refine go_aload_n 24 dX3_hasBatchOf_23 rfl rfl ls_0 ?_
      refine gp_getR 27 dX3_hasBatchOf_24 rfl f_X3_31 rfl (tP hP) (rB hP) ?_
      refine go_iload_n 28 dX3_hasBatchOf_27 rfl rfl (ls_s (ls_s ls_0)) ?_
      refine gp_aald 29 (i := i) dX3_hasBatchOf_28 rfl (aB hP) (by decide) rfl rfl hi (by decide) (rBi hP hi) ?_
      refine gp_getI 32 dX3_hasBatchOf_29 rfl f_X3_142 rfl (tB hP hi) ?_
      refine go_iload_n 33 dX3_hasBatchOf_32 rfl rfl (ls_s ls_0) ?_
      refine go_icmp_ne 38 36 dX3_hasBatchOf_33 (by decide) rfl (fun c_33 => ?_) (fun c_33 => ?_)
      · refine go_iinc 41 (v := (nI (i + 1))) dX3_hasBatchOf_38 rfl (ls_s (ls_s ls_0)) (by exact nI_1 i) (by decide) (st_s (st_s st_0)) ?_
        refine go_goto 2 dX3_hasBatchOf_41 (by decide) ?_
        exact ih (i + 1) (by omega) (fun j hj => (Nat.lt_succ_iff_lt_or_eq.mp hj).elim (hno j) (fun e => by subst e; exact (fun z => c_33 z.2)))
      · refine go_iconst 37 (v := 1) dX3_hasBatchOf_36 rfl (by decide) ?_
        exact go_ret_z dX3_hasBatchOf_37 rfl rfl rfl rfl (pI_of (bI_1 ⟨i, by omega, c_20, c_33⟩) rfl)
set_option maxHeartbeats 4000000 in
set_option maxRecDepth 100000 in
theorem ct_hasBatchOf (G : BcG) (gi : GI) {P : Nat} (hP : isP P) (x : Int32) : Ct G mX3_hasBatchOf [.ref (G.1 + P), .int x] (hp gi) (pI (bI (∃ b, b < 6 ∧ hbC gi P x b)) (hp gi)) := by
  refine ct_of [some (.ref (G.1 + P)), some (.int x), none] w_2 (by decide) rfl (Nat.le_of_ble_eq_true rfl) rfl ?_
  refine go_iconst 1 (v := 0) dX3_hasBatchOf_0 rfl (by decide) ?_
  refine go_istore_n 2 dX3_hasBatchOf_1 rfl rfl (by decide) (st_s (st_s st_0)) ?_
  exact lp_hasBatchOf G gi hP x 6 0 rfl (fun j hj => absurd hj (Nat.not_lt_zero j))
theorem hb_made {P N : Nat} {A : AA} {gi : GI} (h : Rel P A gi) (I : Inv N A) (x : Int32) : (∃ b, b < 6 ∧ hbC gi P x b) ↔ isMade A x := by
  constructor
  · rintro ⟨b, hb, h1, h2⟩
    have q := h.2.2.2.2.1 b hb
    rw [q.1] at h1
    have hl : live A b := ((I.2.2.2.2.2.1 b hb).1).resolve_left h1
    exact ⟨b, hb, hl, by rw [← (q.2 hl).1]; exact h2⟩
  · rintro ⟨b, hb, hl, h2⟩
    have q := h.2.2.2.2.1 b hb
    refine ⟨b, hb, ?_, by rw [(q.2 hl).1]; exact h2⟩
    rw [q.1, show A (145 + 9 * b) = 1 from hl]
    decide
theorem live_iff {P N b : Nat} {A : AA} {gi : GI} (h : Rel P A gi) (I : Inv N A) (hb : b < 6) : ¬ gi (P + 41 + b) 0 = 0 ↔ live A b := by
  have q := h.2.2.2.2.1 b hb
  rw [q.1]
  constructor
  · exact fun z => ((I.2.2.2.2.2.1 b hb).1).resolve_left z
  · intro z
    rw [show A (145 + 9 * b) = 1 from z]
    decide
theorem ct_hasMade (G : BcG) {gi : GI} {P N : Nat} (hP : isP P) {A : AA} (h : Rel P A gi) (I : Inv N A) (x : Int32) : Ct G mX3_hasBatchOf [.ref (G.1 + P), .int x] (hp gi) (pI (bI (isMade A x)) (hp gi)) := by
  rw [← bI_iff (hb_made h I x)]
  exact ct_hasBatchOf G gi hP x
set_option maxHeartbeats 4000000 in
set_option maxRecDepth 100000 in
theorem ct_addStage (G : BcG) (gi : GI) {P : Nat} (hP : isP P) {N : Nat} {A : AA} (h : Rel P A gi) (I : Inv N A) (x a0 a1 a2 a3 : Int32) : Ct G mX3_addStage [.ref (G.1 + P), .int x, .int a0, .int a1, .int a2, .int a3] (hp gi) (pOp P gi (fStage A x a0 a1 a2 a3)) := by
  refine ct_of [some (.ref (G.1 + P)), some (.int x), some (.int a0), some (.int a1), some (.int a2), some (.int a3), none, none] w_2 (by decide) rfl (Nat.le_of_ble_eq_true rfl) rfl ?_
  refine go_aload_n 1 dX3_addStage_0 rfl rfl ls_0 ?_
  refine go_iload_n 2 dX3_addStage_1 rfl rfl (ls_s ls_0) ?_
  refine go_V (M' := mX3_recipeAt) 5 dX3_addStage_2 rfl w_362 okX3_recipeAt ⟨Nat.le_of_ble_eq_true rfl, Nat.le_of_ble_eq_true rfl⟩ rfl rfl (Nat.le_of_ble_eq_true rfl) (Nat.le_of_ble_eq_true rfl) (ct_recipeAt G gi hP _ (nR A) (h.1.1.trans I.eR) I.nR4) rfl rfl (Nat.le_of_ble_eq_true rfl) (tP hP) (by decide) rfl (fun v_2 h_2 p_2 => ?_)
  simp only [pAt] at p_2
  obtain ⟨rfl, ⟨r_2, hr_2, hx_2, hc_2, rfl⟩ | ⟨hno_2, rfl⟩⟩ := p_2
  · subst hx_2
    have hr4 : r_2 < 4 := Nat.lt_of_lt_of_le hr_2 I.nR4
    have hR := h.2.1 r_2 hr4
    have eS := hR.2.1.trans (I.eS hr4)
    refine go_astore 7 dX3_addStage_5 rfl (by decide) (st_s (st_s (st_s (st_s (st_s (st_s st_0)))))) ?_
    refine go_aload 9 dX3_addStage_7 rfl (ls_s (ls_s (ls_s (ls_s (ls_s (ls_s ls_0)))))) ?_
    refine go_ifnull 12 dX3_addStage_9 rfl ?_
    refine go_iload_n 13 dX3_addStage_12 rfl rfl (ls_s (ls_s ls_0)) ?_
    refine go_iconst 14 (v := 0) dX3_addStage_13 rfl (by decide) ?_
    refine go_iconst 15 (v := 2) dX3_addStage_14 rfl (by decide) ?_
    refine go_TI (M' := mX8_isWithin) 18 dX3_addStage_15 rfl x_X3_106 okX8_isWithin ⟨Nat.le_of_ble_eq_true rfl, Nat.le_of_ble_eq_true rfl⟩ (ct_isWithin G gi _ _ _) rfl rfl (kk := ?_)
    refine go_ifeq_b 57 21 dX3_addStage_18 (by decide) rfl (fun c_18 => ?_) (fun c_18 => ?_)
    · refine go_iconst 58 (v := (-1)) dX3_addStage_57 rfl (by decide) ?_
      exact go_ret_i dX3_addStage_58 rfl rfl rfl (pOp_e (fStage_1 (fun z => c_18 z.2.1)) h)
    · refine go_iload_n 22 dX3_addStage_21 rfl rfl (ls_s (ls_s (ls_s ls_0))) ?_
      refine go_iconst 23 (v := 1) dX3_addStage_22 rfl (by decide) ?_
      refine go_sipush 26 (v := 200) dX3_addStage_23 rfl (by decide) ?_
      refine go_TI (M' := mX8_isWithin) 29 dX3_addStage_26 rfl x_X3_106 okX8_isWithin ⟨Nat.le_of_ble_eq_true rfl, Nat.le_of_ble_eq_true rfl⟩ (ct_isWithin G gi _ _ _) rfl rfl (kk := ?_)
      refine go_ifeq_b 57 32 dX3_addStage_29 (by decide) rfl (fun c_29 => ?_) (fun c_29 => ?_)
      · refine go_iconst 58 (v := (-1)) dX3_addStage_57 rfl (by decide) ?_
        exact go_ret_i dX3_addStage_58 rfl rfl rfl (pOp_e (fStage_1 (fun z => c_29 z.2.2.1)) h)
      · refine go_iload 34 dX3_addStage_32 rfl (ls_s (ls_s (ls_s (ls_s ls_0)))) ?_
        refine go_iconst 35 (v := 0) dX3_addStage_34 rfl (by decide) ?_
        refine go_sipush 38 (v := 500) dX3_addStage_35 rfl (by decide) ?_
        refine go_TI (M' := mX8_isWithin) 41 dX3_addStage_38 rfl x_X3_106 okX8_isWithin ⟨Nat.le_of_ble_eq_true rfl, Nat.le_of_ble_eq_true rfl⟩ (ct_isWithin G gi _ _ _) rfl rfl (kk := ?_)
        refine go_ifeq_b 57 44 dX3_addStage_41 (by decide) rfl (fun c_41 => ?_) (fun c_41 => ?_)
        · refine go_iconst 58 (v := (-1)) dX3_addStage_57 rfl (by decide) ?_
          exact go_ret_i dX3_addStage_58 rfl rfl rfl (pOp_e (fStage_1 (fun z => c_41 z.2.2.2.1)) h)
        · refine go_iload 46 dX3_addStage_44 rfl (ls_s (ls_s (ls_s (ls_s (ls_s ls_0))))) ?_
          refine go_iload 48 dX3_addStage_46 rfl (ls_s (ls_s (ls_s (ls_s ls_0)))) ?_
          refine go_sipush 51 (v := 500) dX3_addStage_48 rfl (by decide) ?_
          refine go_TI (M' := mX8_isWithin) 54 dX3_addStage_51 rfl x_X3_106 okX8_isWithin ⟨Nat.le_of_ble_eq_true rfl, Nat.le_of_ble_eq_true rfl⟩ (ct_isWithin G gi _ _ _) rfl rfl (kk := ?_)
          refine go_ifne_b 59 57 dX3_addStage_54 (by decide) rfl (fun c_54 => ?_) (fun c_54 => ?_)
          · refine go_aload_n 60 dX3_addStage_59 rfl rfl ls_0 ?_
            refine go_iload_n 61 dX3_addStage_60 rfl rfl (ls_s ls_0) ?_
            refine go_VI (M' := mX3_hasBatchOf) 64 dX3_addStage_61 rfl w_379 okX3_hasBatchOf ⟨Nat.le_of_ble_eq_true rfl, Nat.le_of_ble_eq_true rfl⟩ (ct_hasMade G hP h I _) rfl rfl (tP hP) (by decide) rfl (kk := ?_)
            refine go_ifeq_b 70 67 dX3_addStage_64 (by decide) rfl (fun c_64 => ?_) (fun c_64 => ?_)
            · refine go_aload 72 dX3_addStage_70 rfl (ls_s (ls_s (ls_s (ls_s (ls_s (ls_s ls_0)))))) ?_
              refine gp_getI 75 dX3_addStage_72 rfl f_X3_117 rfl (tR hP hr4) ?_
              refine go_top (y := (nI (nS A r_2))) eS ?_
              refine go_iconst 76 (v := 4) dX3_addStage_75 rfl (by decide) ?_
              refine go_icmp_lt 82 79 dX3_addStage_76 (by decide) rfl (fun c_76 => ?_) (fun c_76 => ?_)
              · have hn : nS A r_2 < 4 := cnt_lt (by have := I.nS4 hr4; omega) (by decide) c_76
                refine go_aload 84 dX3_addStage_82 rfl (ls_s (ls_s (ls_s (ls_s (ls_s (ls_s ls_0)))))) ?_
                refine go_dup 85 dX3_addStage_84 rfl rfl ?_
                refine gp_getI 88 dX3_addStage_85 rfl f_X3_117 rfl (tR hP hr4) ?_
                refine go_top (y := (nI (nS A r_2))) eS ?_
                refine go_iconst 89 (v := 1) dX3_addStage_88 rfl (by decide) ?_
                refine go_iadd 90 dX3_addStage_89 rfl ?_
                refine go_top (y := (nI (nS A r_2 + 1))) (nI_1 _) ?_
                refine gp_putI 93 dX3_addStage_90 rfl f_X3_117 rfl (tR hP hr4) rfl rfl ?_
                refine go_aload 95 dX3_addStage_93 rfl (ls_s (ls_s (ls_s (ls_s (ls_s (ls_s ls_0)))))) ?_
                refine go_aload 97 dX3_addStage_95 rfl (ls_s (ls_s (ls_s (ls_s (ls_s (ls_s ls_0)))))) ?_
                refine gp_getI 100 dX3_addStage_97 rfl f_X3_117 rfl (tR hP hr4) ?_
                refine go_top (y := (nI (nS A r_2 + 1))) (by simp (disch := omega) only [wI_ne, wI_eq]) ?_
                refine go_iconst 101 (v := 1) dX3_addStage_100 rfl (by decide) ?_
                refine go_isub 102 dX3_addStage_101 rfl ?_
                refine go_top (y := (nI (nS A r_2))) (nI_pred _) ?_
                refine go_VA (M' := mX4_stageAt) 105 dX3_addStage_102 rfl w_383 okX4_stageAt ⟨Nat.le_of_ble_eq_true rfl, Nat.le_of_ble_eq_true rfl⟩ (Ct.weak (ct_stageAt G (wI gi (P + 8 + 6 * r_2) 1 (nI (nS A r_2 + 1))) hP hr4 _ (nS A r_2 + 1) (by simp (disch := omega) only [wI_ne, wI_eq]) (by omega)) (pAt_y (f := fun q => P + 10 + 6 * r_2 + q) (c := fun _ => True) (by omega) (Nat.lt_succ_self _) trivial)) rfl rfl (tR hP hr4) (by decide) rfl (kk := ?_)
                refine go_astore 107 dX3_addStage_105 rfl (by decide) (st_s (st_s (st_s (st_s (st_s (st_s (st_s st_0))))))) ?_
                refine go_aload 109 dX3_addStage_107 rfl (ls_s (ls_s (ls_s (ls_s (ls_s (ls_s (ls_s ls_0))))))) ?_
                refine go_ifnull 112 dX3_addStage_109 rfl ?_
                refine go_aload 114 dX3_addStage_112 rfl (ls_s (ls_s (ls_s (ls_s (ls_s (ls_s (ls_s ls_0))))))) ?_
                refine go_iload_n 115 dX3_addStage_114 rfl rfl (ls_s (ls_s ls_0)) ?_
                refine gp_putI 118 dX3_addStage_115 rfl f_X3_128 rfl (tS hP hr4 hn) rfl rfl ?_
                refine go_aload 120 dX3_addStage_118 rfl (ls_s (ls_s (ls_s (ls_s (ls_s (ls_s (ls_s ls_0))))))) ?_
                refine go_iload_n 121 dX3_addStage_120 rfl rfl (ls_s (ls_s (ls_s ls_0))) ?_
                refine gp_putI 124 dX3_addStage_121 rfl f_X3_133 rfl (tS hP hr4 hn) rfl rfl ?_
                refine go_aload 126 dX3_addStage_124 rfl (ls_s (ls_s (ls_s (ls_s (ls_s (ls_s (ls_s ls_0))))))) ?_
                refine go_iload 128 dX3_addStage_126 rfl (ls_s (ls_s (ls_s (ls_s ls_0)))) ?_
                refine gp_putI 131 dX3_addStage_128 rfl f_X3_136 rfl (tS hP hr4 hn) rfl rfl ?_
                refine go_aload 133 dX3_addStage_131 rfl (ls_s (ls_s (ls_s (ls_s (ls_s (ls_s (ls_s ls_0))))))) ?_
                refine go_iload 135 dX3_addStage_133 rfl (ls_s (ls_s (ls_s (ls_s (ls_s ls_0))))) ?_
                refine gp_putI 138 dX3_addStage_135 rfl f_X3_139 rfl (tS hP hr4 hn) rfl rfl ?_
                refine go_aload 140 dX3_addStage_138 rfl (ls_s (ls_s (ls_s (ls_s (ls_s (ls_s ls_0)))))) ?_
                refine gp_getI 143 dX3_addStage_140 rfl f_X3_117 rfl (tR hP hr4) ?_
                refine go_top (y := (nI (nS A r_2 + 1))) (by simp (disch := omega) only [wI_ne, wI_eq]) ?_
                refine go_iconst 144 (v := 1) dX3_addStage_143 rfl (by decide) ?_
                refine go_isub 145 dX3_addStage_144 rfl ?_
                refine go_top (y := (nI (nS A r_2))) (nI_pred _) ?_
                exact go_ret_i dX3_addStage_145 rfl rfl rfl (pOp_m (fStage_y I hr_2 ⟨c_18, c_29, c_41, c_54⟩ c_64 hn) (rel_stage h I hr_2 c_64 hn a0 a1 a2 a3) ((((((Out.rf P gi).wI (by omega) (by omega)).wI (by omega) (by omega)).wI (by omega) (by omega)).wI (by omega) (by omega)).wI (by omega) (by omega)))
              · refine go_bipush 81 (v := (-3)) dX3_addStage_79 rfl (by decide) ?_
                exact go_ret_i dX3_addStage_81 rfl rfl rfl (pOp_e (fStage_3 ⟨isRec_n hr_2, c_18, c_29, c_41, c_54⟩ c_64 (by rw [iN_n (by omega), I.eS hr4, cnt_ge (I.nS4 hr4) (by decide) c_76]; rfl)) h)
            · refine go_bipush 69 (v := (-2)) dX3_addStage_67 rfl (by decide) ?_
              exact go_ret_i dX3_addStage_69 rfl rfl rfl (pOp_e (fStage_2 ⟨isRec_n hr_2, c_18, c_29, c_41, c_54⟩ c_64) h)
          · refine go_iconst 58 (v := (-1)) dX3_addStage_57 rfl (by decide) ?_
            exact go_ret_i dX3_addStage_58 rfl rfl rfl (pOp_e (fStage_1 (fun z => c_54 z.2.2.2.2)) h)
  · refine go_astoreN 7 dX3_addStage_5 rfl (by decide) (st_s (st_s (st_s (st_s (st_s (st_s st_0)))))) ?_
    refine go_aloadN 9 dX3_addStage_7 rfl (ls_s (ls_s (ls_s (ls_s (ls_s (ls_s ls_0)))))) ?_
    refine go_ifnullN 57 dX3_addStage_9 (by decide) ?_
    refine go_iconst 58 (v := (-1)) dX3_addStage_57 rfl (by decide) ?_
    exact go_ret_i dX3_addStage_58 rfl rfl rfl (pOp_e (fStage_1 (fun z => hno_2 (z.1.elim fun r hr => ⟨r, hr.1, hr.2, trivial⟩))) h)
