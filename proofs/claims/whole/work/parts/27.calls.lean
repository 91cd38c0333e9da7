/-! THE CLASS's CALLS THAT CHANGE -/
theorem o0 : tO 0 8 := ⟨by decide, rfl⟩
set_option maxHeartbeats 4000000 in
set_option maxRecDepth 100000 in
theorem cx_recipe (G : BcG) {gi : GI} {N : Nat} {S : SS} (k : SOk N S) (c : RelC S gi) (hN : N + 99 < 100000000) (x0 : Int32) : Ct G mX8_recipe [.ref (G.1 + 0), .int x0] (hp gi) (pX gi (push S (fRecipe S.1 x0))) := by
  obtain ⟨o, c⟩ := c
  obtain ⟨ho, c1, c2, c3, c4, c5, c6⟩ := id c
  obtain ⟨k1, k2, k3, k4⟩ := id k
  refine ct_of [some (.ref (G.1 + 0)), some (.int x0)] w_1 (by decide) rfl (Nat.le_of_ble_eq_true rfl) rfl ?_
  refine go_aload_n 1 dX8_recipe_0 rfl rfl ls_0 ?_
  refine gp_getR 4 dX8_recipe_1 rfl f_X8_22 rfl o0 rfl ?_
  refine go_aload_n 5 dX8_recipe_4 rfl rfl ls_0 ?_
  refine gp_getR 8 dX8_recipe_5 rfl f_X8_10 rfl o0 rfl ?_
  refine go_V (M' := mX1_prepare) 11 dX8_recipe_8 rfl w_314 okX1_prepare ⟨Nat.le_of_ble_eq_true rfl, Nat.le_of_ble_eq_true rfl⟩ rfl rfl (Nat.le_of_ble_eq_true rfl) (Nat.le_of_ble_eq_true rfl) (ct_prepare G ho c1 (th01 c3 k1) c4) rfl rfl (Nat.le_of_ble_eq_true rfl) o95 (by decide) rfl (fun v_8 h_8 p_8 => ?_)
  obtain ⟨rfl, g1, rfl, e1, e2⟩ := p_8
  have r1 : Rel 1 S.1 g1 := rel_same c3 (fun k h1 h2 => e2 k (by omega))
  refine go_aload_n 12 dX8_recipe_11 rfl rfl ls_0 ?_
  refine gp_getR 15 dX8_recipe_12 rfl f_X8_22 rfl o0 rfl ?_
  refine go_aload_n 16 dX8_recipe_15 rfl rfl ls_0 ?_
  refine gp_getR 19 dX8_recipe_16 rfl f_X8_10 rfl o0 rfl ?_
  refine go_iload_n 20 dX8_recipe_19 rfl rfl (ls_s ls_0) ?_
  refine go_V (M' := mX3_addRecipe) 23 dX8_recipe_20 rfl w_355 okX3_addRecipe ⟨Nat.le_of_ble_eq_true rfl, Nat.le_of_ble_eq_true rfl⟩ rfl rfl (Nat.le_of_ble_eq_true rfl) (Nat.le_of_ble_eq_true rfl) (ct_addRecipe G g1 is1 r1 k1 x0) rfl rfl (Nat.le_of_ble_eq_true rfl) (tP is1) (by decide) rfl (fun v_20 h_20 p_20 => ?_)
  obtain ⟨rfl, g2, rfl, r2, u2⟩ := p_20
  have d1 : g2 95 1 = nI o := by rw [u2.1 95 (by omega), e2 95 (by omega)]; exact c1
  have d2 : g2 95 2 = nI S.2.1.length := by rw [u2.1 95 (by omega), e2 95 (by omega)]; exact c2
  refine go_VI (M' := mX1_settle) 26 dX8_recipe_23 rfl w_366 okX1_settle ⟨Nat.le_of_ble_eq_true rfl, Nat.le_of_ble_eq_true rfl⟩ (ct_settle G ho d1 k3 d2 (fRecipe S.1 x0).1) rfl rfl o95 (by decide) rfl (kk := ?_)
  exact go_ret_i dX8_recipe_26 rfl rfl rfl (pX_push c k3 e1 e2 r2 u2 (ok_recipe x0 k1 hN).2)
set_option maxHeartbeats 4000000 in
set_option maxRecDepth 100000 in
theorem cx_stage (G : BcG) {gi : GI} {N : Nat} {S : SS} (k : SOk N S) (c : RelC S gi) (hN : N + 99 < 100000000) (x0 x1 x2 x3 x4 : Int32) : Ct G mX8_stage [.ref (G.1 + 0), .int x0, .int x1, .int x2, .int x3, .int x4] (hp gi) (pX gi (push S (fStage S.1 x0 x1 x2 x3 x4))) := by
  obtain ⟨o, c⟩ := c
  obtain ⟨ho, c1, c2, c3, c4, c5, c6⟩ := id c
  obtain ⟨k1, k2, k3, k4⟩ := id k
  refine ct_of [some (.ref (G.1 + 0)), some (.int x0), some (.int x1), some (.int x2), some (.int x3), some (.int x4)] w_1 (by decide) rfl (Nat.le_of_ble_eq_true rfl) rfl ?_
  refine go_aload_n 1 dX8_stage_0 rfl rfl ls_0 ?_
  refine gp_getR 4 dX8_stage_1 rfl f_X8_22 rfl o0 rfl ?_
  refine go_aload_n 5 dX8_stage_4 rfl rfl ls_0 ?_
  refine gp_getR 8 dX8_stage_5 rfl f_X8_10 rfl o0 rfl ?_
  refine go_V (M' := mX1_prepare) 11 dX8_stage_8 rfl w_314 okX1_prepare ⟨Nat.le_of_ble_eq_true rfl, Nat.le_of_ble_eq_true rfl⟩ rfl rfl (Nat.le_of_ble_eq_true rfl) (Nat.le_of_ble_eq_true rfl) (ct_prepare G ho c1 (th01 c3 k1) c4) rfl rfl (Nat.le_of_ble_eq_true rfl) o95 (by decide) rfl (fun v_8 h_8 p_8 => ?_)
  obtain ⟨rfl, g1, rfl, e1, e2⟩ := p_8
  have r1 : Rel 1 S.1 g1 := rel_same c3 (fun k h1 h2 => e2 k (by omega))
  refine go_aload_n 12 dX8_stage_11 rfl rfl ls_0 ?_
  refine gp_getR 15 dX8_stage_12 rfl f_X8_22 rfl o0 rfl ?_
  refine go_aload_n 16 dX8_stage_15 rfl rfl ls_0 ?_
  refine gp_getR 19 dX8_stage_16 rfl f_X8_10 rfl o0 rfl ?_
  refine go_iload_n 20 dX8_stage_19 rfl rfl (ls_s ls_0) ?_
  refine go_iload_n 21 dX8_stage_20 rfl rfl (ls_s (ls_s ls_0)) ?_
  refine go_iload_n 22 dX8_stage_21 rfl rfl (ls_s (ls_s (ls_s ls_0))) ?_
  refine go_iload 24 dX8_stage_22 rfl (ls_s (ls_s (ls_s (ls_s ls_0)))) ?_
  refine go_iload 26 dX8_stage_24 rfl (ls_s (ls_s (ls_s (ls_s (ls_s ls_0))))) ?_
  refine go_V (M' := mX3_addStage) 29 dX8_stage_26 rfl w_375 okX3_addStage ⟨Nat.le_of_ble_eq_true rfl, Nat.le_of_ble_eq_true rfl⟩ rfl rfl (Nat.le_of_ble_eq_true rfl) (Nat.le_of_ble_eq_true rfl) (ct_addStage G g1 is1 r1 k1 x0 x1 x2 x3 x4) rfl rfl (Nat.le_of_ble_eq_true rfl) (tP is1) (by decide) rfl (fun v_26 h_26 p_26 => ?_)
  obtain ⟨rfl, g2, rfl, r2, u2⟩ := p_26
  have d1 : g2 95 1 = nI o := by rw [u2.1 95 (by omega), e2 95 (by omega)]; exact c1
  have d2 : g2 95 2 = nI S.2.1.length := by rw [u2.1 95 (by omega), e2 95 (by omega)]; exact c2
  refine go_VI (M' := mX1_settle) 32 dX8_stage_29 rfl w_366 okX1_settle ⟨Nat.le_of_ble_eq_true rfl, Nat.le_of_ble_eq_true rfl⟩ (ct_settle G ho d1 k3 d2 (fStage S.1 x0 x1 x2 x3 x4).1) rfl rfl o95 (by decide) rfl (kk := ?_)
  exact go_ret_i dX8_stage_32 rfl rfl rfl (pX_push c k3 e1 e2 r2 u2 (ok_stage x0 x1 x2 x3 x4 k1 hN).2)
set_option maxHeartbeats 4000000 in
set_option maxRecDepth 100000 in
theorem cx_vessel (G : BcG) {gi : GI} {N : Nat} {S : SS} (k : SOk N S) (c : RelC S gi) (hN : N + 99 < 100000000) (x0 x1 : Int32) : Ct G mX8_vessel [.ref (G.1 + 0), .int x0, .int x1] (hp gi) (pX gi (push S (fVessel S.1 x0 x1))) := by
  obtain ⟨o, c⟩ := c
  obtain ⟨ho, c1, c2, c3, c4, c5, c6⟩ := id c
  obtain ⟨k1, k2, k3, k4⟩ := id k
  refine ct_of [some (.ref (G.1 + 0)), some (.int x0), some (.int x1)] w_1 (by decide) rfl (Nat.le_of_ble_eq_true rfl) rfl ?_
  refine go_aload_n 1 dX8_vessel_0 rfl rfl ls_0 ?_
  refine gp_getR 4 dX8_vessel_1 rfl f_X8_22 rfl o0 rfl ?_
  refine go_aload_n 5 dX8_vessel_4 rfl rfl ls_0 ?_
  refine gp_getR 8 dX8_vessel_5 rfl f_X8_10 rfl o0 rfl ?_
  refine go_V (M' := mX1_prepare) 11 dX8_vessel_8 rfl w_314 okX1_prepare ⟨Nat.le_of_ble_eq_true rfl, Nat.le_of_ble_eq_true rfl⟩ rfl rfl (Nat.le_of_ble_eq_true rfl) (Nat.le_of_ble_eq_true rfl) (ct_prepare G ho c1 (th01 c3 k1) c4) rfl rfl (Nat.le_of_ble_eq_true rfl) o95 (by decide) rfl (fun v_8 h_8 p_8 => ?_)
  obtain ⟨rfl, g1, rfl, e1, e2⟩ := p_8
  have r1 : Rel 1 S.1 g1 := rel_same c3 (fun k h1 h2 => e2 k (by omega))
  refine go_aload_n 12 dX8_vessel_11 rfl rfl ls_0 ?_
  refine gp_getR 15 dX8_vessel_12 rfl f_X8_22 rfl o0 rfl ?_
  refine go_aload_n 16 dX8_vessel_15 rfl rfl ls_0 ?_
  refine gp_getR 19 dX8_vessel_16 rfl f_X8_10 rfl o0 rfl ?_
  refine go_iload_n 20 dX8_vessel_19 rfl rfl (ls_s ls_0) ?_
  refine go_iload_n 21 dX8_vessel_20 rfl rfl (ls_s (ls_s ls_0)) ?_
  refine go_V (M' := mX3_addVessel) 24 dX8_vessel_21 rfl w_391 okX3_addVessel ⟨Nat.le_of_ble_eq_true rfl, Nat.le_of_ble_eq_true rfl⟩ rfl rfl (Nat.le_of_ble_eq_true rfl) (Nat.le_of_ble_eq_true rfl) (ct_addVessel G g1 is1 r1 k1 x0 x1) rfl rfl (Nat.le_of_ble_eq_true rfl) (tP is1) (by decide) rfl (fun v_21 h_21 p_21 => ?_)
  obtain ⟨rfl, g2, rfl, r2, u2⟩ := p_21
  have d1 : g2 95 1 = nI o := by rw [u2.1 95 (by omega), e2 95 (by omega)]; exact c1
  have d2 : g2 95 2 = nI S.2.1.length := by rw [u2.1 95 (by omega), e2 95 (by omega)]; exact c2
  refine go_VI (M' := mX1_settle) 27 dX8_vessel_24 rfl w_366 okX1_settle ⟨Nat.le_of_ble_eq_true rfl, Nat.le_of_ble_eq_true rfl⟩ (ct_settle G ho d1 k3 d2 (fVessel S.1 x0 x1).1) rfl rfl o95 (by decide) rfl (kk := ?_)
  exact go_ret_i dX8_vessel_27 rfl rfl rfl (pX_push c k3 e1 e2 r2 u2 (ok_vessel x0 x1 k1 hN).2)
set_option maxHeartbeats 4000000 in
set_option maxRecDepth 100000 in
theorem cx_line (G : BcG) {gi : GI} {N : Nat} {S : SS} (k : SOk N S) (c : RelC S gi) (hN : N + 99 < 100000000) (x0 x1 : Int32) : Ct G mX8_line [.ref (G.1 + 0), .int x0, .int x1] (hp gi) (pX gi (push S (fLine S.1 x0 x1))) := by
  obtain ⟨o, c⟩ := c
  obtain ⟨ho, c1, c2, c3, c4, c5, c6⟩ := id c
  obtain ⟨k1, k2, k3, k4⟩ := id k
  refine ct_of [some (.ref (G.1 + 0)), some (.int x0), some (.int x1)] w_1 (by decide) rfl (Nat.le_of_ble_eq_true rfl) rfl ?_
  refine go_aload_n 1 dX8_line_0 rfl rfl ls_0 ?_
  refine gp_getR 4 dX8_line_1 rfl f_X8_22 rfl o0 rfl ?_
  refine go_aload_n 5 dX8_line_4 rfl rfl ls_0 ?_
  refine gp_getR 8 dX8_line_5 rfl f_X8_10 rfl o0 rfl ?_
  refine go_V (M' := mX1_prepare) 11 dX8_line_8 rfl w_314 okX1_prepare ⟨Nat.le_of_ble_eq_true rfl, Nat.le_of_ble_eq_true rfl⟩ rfl rfl (Nat.le_of_ble_eq_true rfl) (Nat.le_of_ble_eq_true rfl) (ct_prepare G ho c1 (th01 c3 k1) c4) rfl rfl (Nat.le_of_ble_eq_true rfl) o95 (by decide) rfl (fun v_8 h_8 p_8 => ?_)
  obtain ⟨rfl, g1, rfl, e1, e2⟩ := p_8
  have r1 : Rel 1 S.1 g1 := rel_same c3 (fun k h1 h2 => e2 k (by omega))
  refine go_aload_n 12 dX8_line_11 rfl rfl ls_0 ?_
  refine gp_getR 15 dX8_line_12 rfl f_X8_22 rfl o0 rfl ?_
  refine go_aload_n 16 dX8_line_15 rfl rfl ls_0 ?_
  refine gp_getR 19 dX8_line_16 rfl f_X8_10 rfl o0 rfl ?_
  refine go_iload_n 20 dX8_line_19 rfl rfl (ls_s ls_0) ?_
  refine go_iload_n 21 dX8_line_20 rfl rfl (ls_s (ls_s ls_0)) ?_
  refine go_V (M' := mX3_addLine) 24 dX8_line_21 rfl w_403 okX3_addLine ⟨Nat.le_of_ble_eq_true rfl, Nat.le_of_ble_eq_true rfl⟩ rfl rfl (Nat.le_of_ble_eq_true rfl) (Nat.le_of_ble_eq_true rfl) (ct_addLine G g1 is1 r1 k1 x0 x1) rfl rfl (Nat.le_of_ble_eq_true rfl) (tP is1) (by decide) rfl (fun v_21 h_21 p_21 => ?_)
  obtain ⟨rfl, g2, rfl, r2, u2⟩ := p_21
  have d1 : g2 95 1 = nI o := by rw [u2.1 95 (by omega), e2 95 (by omega)]; exact c1
  have d2 : g2 95 2 = nI S.2.1.length := by rw [u2.1 95 (by omega), e2 95 (by omega)]; exact c2
  refine go_VI (M' := mX1_settle) 27 dX8_line_24 rfl w_366 okX1_settle ⟨Nat.le_of_ble_eq_true rfl, Nat.le_of_ble_eq_true rfl⟩ (ct_settle G ho d1 k3 d2 (fLine S.1 x0 x1).1) rfl rfl o95 (by decide) rfl (kk := ?_)
  exact go_ret_i dX8_line_27 rfl rfl rfl (pX_push c k3 e1 e2 r2 u2 (ok_line x0 x1 k1 hN).2)
set_option maxHeartbeats 4000000 in
set_option maxRecDepth 100000 in
theorem cx_cleaning (G : BcG) {gi : GI} {N : Nat} {S : SS} (k : SOk N S) (c : RelC S gi) (hN : N + 99 < 100000000) (x0 x1 x2 : Int32) : Ct G mX8_cleaning [.ref (G.1 + 0), .int x0, .int x1, .int x2] (hp gi) (pX gi (push S (fCleaning S.1 x0 x1 x2))) := by
  obtain ⟨o, c⟩ := c
  obtain ⟨ho, c1, c2, c3, c4, c5, c6⟩ := id c
  obtain ⟨k1, k2, k3, k4⟩ := id k
  refine ct_of [some (.ref (G.1 + 0)), some (.int x0), some (.int x1), some (.int x2)] w_1 (by decide) rfl (Nat.le_of_ble_eq_true rfl) rfl ?_
  refine go_aload_n 1 dX8_cleaning_0 rfl rfl ls_0 ?_
  refine gp_getR 4 dX8_cleaning_1 rfl f_X8_22 rfl o0 rfl ?_
  refine go_aload_n 5 dX8_cleaning_4 rfl rfl ls_0 ?_
  refine gp_getR 8 dX8_cleaning_5 rfl f_X8_10 rfl o0 rfl ?_
  refine go_V (M' := mX1_prepare) 11 dX8_cleaning_8 rfl w_314 okX1_prepare ⟨Nat.le_of_ble_eq_true rfl, Nat.le_of_ble_eq_true rfl⟩ rfl rfl (Nat.le_of_ble_eq_true rfl) (Nat.le_of_ble_eq_true rfl) (ct_prepare G ho c1 (th01 c3 k1) c4) rfl rfl (Nat.le_of_ble_eq_true rfl) o95 (by decide) rfl (fun v_8 h_8 p_8 => ?_)
  obtain ⟨rfl, g1, rfl, e1, e2⟩ := p_8
  have r1 : Rel 1 S.1 g1 := rel_same c3 (fun k h1 h2 => e2 k (by omega))
  refine go_aload_n 12 dX8_cleaning_11 rfl rfl ls_0 ?_
  refine gp_getR 15 dX8_cleaning_12 rfl f_X8_22 rfl o0 rfl ?_
  refine go_aload_n 16 dX8_cleaning_15 rfl rfl ls_0 ?_
  refine gp_getR 19 dX8_cleaning_16 rfl f_X8_10 rfl o0 rfl ?_
  refine go_iload_n 20 dX8_cleaning_19 rfl rfl (ls_s ls_0) ?_
  refine go_iload_n 21 dX8_cleaning_20 rfl rfl (ls_s (ls_s ls_0)) ?_
  refine go_iload_n 22 dX8_cleaning_21 rfl rfl (ls_s (ls_s (ls_s ls_0))) ?_
  refine go_V (M' := mX3_changeCleaning) 25 dX8_cleaning_22 rfl w_421 okX3_changeCleaning ⟨Nat.le_of_ble_eq_true rfl, Nat.le_of_ble_eq_true rfl⟩ rfl rfl (Nat.le_of_ble_eq_true rfl) (Nat.le_of_ble_eq_true rfl) (ct_changeCleaning G g1 is1 r1 k1 x0 x1 x2) rfl rfl (Nat.le_of_ble_eq_true rfl) (tP is1) (by decide) rfl (fun v_22 h_22 p_22 => ?_)
  obtain ⟨rfl, g2, rfl, r2, u2⟩ := p_22
  have d1 : g2 95 1 = nI o := by rw [u2.1 95 (by omega), e2 95 (by omega)]; exact c1
  have d2 : g2 95 2 = nI S.2.1.length := by rw [u2.1 95 (by omega), e2 95 (by omega)]; exact c2
  refine go_VI (M' := mX1_settle) 28 dX8_cleaning_25 rfl w_366 okX1_settle ⟨Nat.le_of_ble_eq_true rfl, Nat.le_of_ble_eq_true rfl⟩ (ct_settle G ho d1 k3 d2 (fCleaning S.1 x0 x1 x2).1) rfl rfl o95 (by decide) rfl (kk := ?_)
  exact go_ret_i dX8_cleaning_28 rfl rfl rfl (pX_push c k3 e1 e2 r2 u2 (ok_cleaning x0 x1 x2 k1 hN).2)
set_option maxHeartbeats 4000000 in
set_option maxRecDepth 100000 in
theorem cx_begin (G : BcG) {gi : GI} {N : Nat} {S : SS} (k : SOk N S) (c : RelC S gi) (hN : N + 99 < 100000000) (x0 x1 x2 : Int32) : Ct G mX8_begin [.ref (G.1 + 0), .int x0, .int x1, .int x2] (hp gi) (pX gi (push S (fBegin S.1 x0 x1 x2))) := by
  obtain ⟨o, c⟩ := c
  obtain ⟨ho, c1, c2, c3, c4, c5, c6⟩ := id c
  obtain ⟨k1, k2, k3, k4⟩ := id k
  refine ct_of [some (.ref (G.1 + 0)), some (.int x0), some (.int x1), some (.int x2)] w_1 (by decide) rfl (Nat.le_of_ble_eq_true rfl) rfl ?_
  refine go_aload_n 1 dX8_begin_0 rfl rfl ls_0 ?_
  refine gp_getR 4 dX8_begin_1 rfl f_X8_22 rfl o0 rfl ?_
  refine go_aload_n 5 dX8_begin_4 rfl rfl ls_0 ?_
  refine gp_getR 8 dX8_begin_5 rfl f_X8_10 rfl o0 rfl ?_
  refine go_V (M' := mX1_prepare) 11 dX8_begin_8 rfl w_314 okX1_prepare ⟨Nat.le_of_ble_eq_true rfl, Nat.le_of_ble_eq_true rfl⟩ rfl rfl (Nat.le_of_ble_eq_true rfl) (Nat.le_of_ble_eq_true rfl) (ct_prepare G ho c1 (th01 c3 k1) c4) rfl rfl (Nat.le_of_ble_eq_true rfl) o95 (by decide) rfl (fun v_8 h_8 p_8 => ?_)
  obtain ⟨rfl, g1, rfl, e1, e2⟩ := p_8
  have r1 : Rel 1 S.1 g1 := rel_same c3 (fun k h1 h2 => e2 k (by omega))
  refine go_aload_n 12 dX8_begin_11 rfl rfl ls_0 ?_
  refine gp_getR 15 dX8_begin_12 rfl f_X8_22 rfl o0 rfl ?_
  refine go_aload_n 16 dX8_begin_15 rfl rfl ls_0 ?_
  refine gp_getR 19 dX8_begin_16 rfl f_X8_10 rfl o0 rfl ?_
  refine go_iload_n 20 dX8_begin_19 rfl rfl (ls_s ls_0) ?_
  refine go_iload_n 21 dX8_begin_20 rfl rfl (ls_s (ls_s ls_0)) ?_
  refine go_iload_n 22 dX8_begin_21 rfl rfl (ls_s (ls_s (ls_s ls_0))) ?_
  refine go_V (M' := mX3_beginBatch) 25 dX8_begin_22 rfl w_443 okX3_beginBatch ⟨Nat.le_of_ble_eq_true rfl, Nat.le_of_ble_eq_true rfl⟩ rfl rfl (Nat.le_of_ble_eq_true rfl) (Nat.le_of_ble_eq_true rfl) (ct_beginBatch G g1 is1 r1 k1 x0 x1 x2) rfl rfl (Nat.le_of_ble_eq_true rfl) (tP is1) (by decide) rfl (fun v_22 h_22 p_22 => ?_)
  obtain ⟨rfl, g2, rfl, r2, u2⟩ := p_22
  have d1 : g2 95 1 = nI o := by rw [u2.1 95 (by omega), e2 95 (by omega)]; exact c1
  have d2 : g2 95 2 = nI S.2.1.length := by rw [u2.1 95 (by omega), e2 95 (by omega)]; exact c2
  refine go_VI (M' := mX1_settle) 28 dX8_begin_25 rfl w_366 okX1_settle ⟨Nat.le_of_ble_eq_true rfl, Nat.le_of_ble_eq_true rfl⟩ (ct_settle G ho d1 k3 d2 (fBegin S.1 x0 x1 x2).1) rfl rfl o95 (by decide) rfl (kk := ?_)
  exact go_ret_i dX8_begin_28 rfl rfl rfl (pX_push c k3 e1 e2 r2 u2 (ok_begin x0 x1 x2 k1 hN).2)
set_option maxHeartbeats 4000000 in
set_option maxRecDepth 100000 in
theorem cx_move (G : BcG) {gi : GI} {N : Nat} {S : SS} (k : SOk N S) (c : RelC S gi) (hN : N + 99 < 100000000) (x0 x1 : Int32) : Ct G mX8_move [.ref (G.1 + 0), .int x0, .int x1] (hp gi) (pX gi (push S (fMove S.1 x0 x1))) := by
  obtain ⟨o, c⟩ := c
  obtain ⟨ho, c1, c2, c3, c4, c5, c6⟩ := id c
  obtain ⟨k1, k2, k3, k4⟩ := id k
  refine ct_of [some (.ref (G.1 + 0)), some (.int x0), some (.int x1)] w_1 (by decide) rfl (Nat.le_of_ble_eq_true rfl) rfl ?_
  refine go_aload_n 1 dX8_move_0 rfl rfl ls_0 ?_
  refine gp_getR 4 dX8_move_1 rfl f_X8_22 rfl o0 rfl ?_
  refine go_aload_n 5 dX8_move_4 rfl rfl ls_0 ?_
  refine gp_getR 8 dX8_move_5 rfl f_X8_10 rfl o0 rfl ?_
  refine go_V (M' := mX1_prepare) 11 dX8_move_8 rfl w_314 okX1_prepare ⟨Nat.le_of_ble_eq_true rfl, Nat.le_of_ble_eq_true rfl⟩ rfl rfl (Nat.le_of_ble_eq_true rfl) (Nat.le_of_ble_eq_true rfl) (ct_prepare G ho c1 (th01 c3 k1) c4) rfl rfl (Nat.le_of_ble_eq_true rfl) o95 (by decide) rfl (fun v_8 h_8 p_8 => ?_)
  obtain ⟨rfl, g1, rfl, e1, e2⟩ := p_8
  have r1 : Rel 1 S.1 g1 := rel_same c3 (fun k h1 h2 => e2 k (by omega))
  refine go_aload_n 12 dX8_move_11 rfl rfl ls_0 ?_
  refine gp_getR 15 dX8_move_12 rfl f_X8_22 rfl o0 rfl ?_
  refine go_aload_n 16 dX8_move_15 rfl rfl ls_0 ?_
  refine gp_getR 19 dX8_move_16 rfl f_X8_10 rfl o0 rfl ?_
  refine go_iload_n 20 dX8_move_19 rfl rfl (ls_s ls_0) ?_
  refine go_iload_n 21 dX8_move_20 rfl rfl (ls_s (ls_s ls_0)) ?_
  refine go_V (M' := mX3_moveBatch) 24 dX8_move_21 rfl w_479 okX3_moveBatch ⟨Nat.le_of_ble_eq_true rfl, Nat.le_of_ble_eq_true rfl⟩ rfl rfl (Nat.le_of_ble_eq_true rfl) (Nat.le_of_ble_eq_true rfl) (ct_moveBatch G g1 is1 r1 k1 x0 x1) rfl rfl (Nat.le_of_ble_eq_true rfl) (tP is1) (by decide) rfl (fun v_21 h_21 p_21 => ?_)
  obtain ⟨rfl, g2, rfl, r2, u2⟩ := p_21
  have d1 : g2 95 1 = nI o := by rw [u2.1 95 (by omega), e2 95 (by omega)]; exact c1
  have d2 : g2 95 2 = nI S.2.1.length := by rw [u2.1 95 (by omega), e2 95 (by omega)]; exact c2
  refine go_VI (M' := mX1_settle) 27 dX8_move_24 rfl w_366 okX1_settle ⟨Nat.le_of_ble_eq_true rfl, Nat.le_of_ble_eq_true rfl⟩ (ct_settle G ho d1 k3 d2 (fMove S.1 x0 x1).1) rfl rfl o95 (by decide) rfl (kk := ?_)
  exact go_ret_i dX8_move_27 rfl rfl rfl (pX_push c k3 e1 e2 r2 u2 (ok_move x0 x1 k1 hN).2)
set_option maxHeartbeats 4000000 in
set_option maxRecDepth 100000 in
theorem cx_end (G : BcG) {gi : GI} {N : Nat} {S : SS} (k : SOk N S) (c : RelC S gi) (hN : N + 99 < 100000000) (x0 : Int32) : Ct G mX8_end [.ref (G.1 + 0), .int x0] (hp gi) (pX gi (push S (fEnd S.1 x0))) := by
  obtain ⟨o, c⟩ := c
  obtain ⟨ho, c1, c2, c3, c4, c5, c6⟩ := id c
  obtain ⟨k1, k2, k3, k4⟩ := id k
  refine ct_of [some (.ref (G.1 + 0)), some (.int x0)] w_1 (by decide) rfl (Nat.le_of_ble_eq_true rfl) rfl ?_
  refine go_aload_n 1 dX8_end_0 rfl rfl ls_0 ?_
  refine gp_getR 4 dX8_end_1 rfl f_X8_22 rfl o0 rfl ?_
  refine go_aload_n 5 dX8_end_4 rfl rfl ls_0 ?_
  refine gp_getR 8 dX8_end_5 rfl f_X8_10 rfl o0 rfl ?_
  refine go_V (M' := mX1_prepare) 11 dX8_end_8 rfl w_314 okX1_prepare ⟨Nat.le_of_ble_eq_true rfl, Nat.le_of_ble_eq_true rfl⟩ rfl rfl (Nat.le_of_ble_eq_true rfl) (Nat.le_of_ble_eq_true rfl) (ct_prepare G ho c1 (th01 c3 k1) c4) rfl rfl (Nat.le_of_ble_eq_true rfl) o95 (by decide) rfl (fun v_8 h_8 p_8 => ?_)
  obtain ⟨rfl, g1, rfl, e1, e2⟩ := p_8
  have r1 : Rel 1 S.1 g1 := rel_same c3 (fun k h1 h2 => e2 k (by omega))
  refine go_aload_n 12 dX8_end_11 rfl rfl ls_0 ?_
  refine gp_getR 15 dX8_end_12 rfl f_X8_22 rfl o0 rfl ?_
  refine go_aload_n 16 dX8_end_15 rfl rfl ls_0 ?_
  refine gp_getR 19 dX8_end_16 rfl f_X8_10 rfl o0 rfl ?_
  refine go_iload_n 20 dX8_end_19 rfl rfl (ls_s ls_0) ?_
  refine go_V (M' := mX3_endBatch) 23 dX8_end_20 rfl w_523 okX3_endBatch ⟨Nat.le_of_ble_eq_true rfl, Nat.le_of_ble_eq_true rfl⟩ rfl rfl (Nat.le_of_ble_eq_true rfl) (Nat.le_of_ble_eq_true rfl) (ct_endBatch G g1 is1 r1 k1 x0) rfl rfl (Nat.le_of_ble_eq_true rfl) (tP is1) (by decide) rfl (fun v_20 h_20 p_20 => ?_)
  obtain ⟨rfl, g2, rfl, r2, u2⟩ := p_20
  have d1 : g2 95 1 = nI o := by rw [u2.1 95 (by omega), e2 95 (by omega)]; exact c1
  have d2 : g2 95 2 = nI S.2.1.length := by rw [u2.1 95 (by omega), e2 95 (by omega)]; exact c2
  refine go_VI (M' := mX1_settle) 26 dX8_end_23 rfl w_366 okX1_settle ⟨Nat.le_of_ble_eq_true rfl, Nat.le_of_ble_eq_true rfl⟩ (ct_settle G ho d1 k3 d2 (fEnd S.1 x0).1) rfl rfl o95 (by decide) rfl (kk := ?_)
  exact go_ret_i dX8_end_26 rfl rfl rfl (pX_push c k3 e1 e2 r2 u2 (ok_end x0 k1 hN).2)
set_option maxHeartbeats 4000000 in
set_option maxRecDepth 100000 in
theorem cx_discard (G : BcG) {gi : GI} {N : Nat} {S : SS} (k : SOk N S) (c : RelC S gi) (hN : N + 99 < 100000000) (x0 : Int32) : Ct G mX8_discard [.ref (G.1 + 0), .int x0] (hp gi) (pX gi (push S (fDiscard S.1 x0))) := by
  obtain ⟨o, c⟩ := c
  obtain ⟨ho, c1, c2, c3, c4, c5, c6⟩ := id c
  obtain ⟨k1, k2, k3, k4⟩ := id k
  refine ct_of [some (.ref (G.1 + 0)), some (.int x0)] w_1 (by decide) rfl (Nat.le_of_ble_eq_true rfl) rfl ?_
  refine go_aload_n 1 dX8_discard_0 rfl rfl ls_0 ?_
  refine gp_getR 4 dX8_discard_1 rfl f_X8_22 rfl o0 rfl ?_
  refine go_aload_n 5 dX8_discard_4 rfl rfl ls_0 ?_
  refine gp_getR 8 dX8_discard_5 rfl f_X8_10 rfl o0 rfl ?_
  refine go_V (M' := mX1_prepare) 11 dX8_discard_8 rfl w_314 okX1_prepare ⟨Nat.le_of_ble_eq_true rfl, Nat.le_of_ble_eq_true rfl⟩ rfl rfl (Nat.le_of_ble_eq_true rfl) (Nat.le_of_ble_eq_true rfl) (ct_prepare G ho c1 (th01 c3 k1) c4) rfl rfl (Nat.le_of_ble_eq_true rfl) o95 (by decide) rfl (fun v_8 h_8 p_8 => ?_)
  obtain ⟨rfl, g1, rfl, e1, e2⟩ := p_8
  have r1 : Rel 1 S.1 g1 := rel_same c3 (fun k h1 h2 => e2 k (by omega))
  refine go_aload_n 12 dX8_discard_11 rfl rfl ls_0 ?_
  refine gp_getR 15 dX8_discard_12 rfl f_X8_22 rfl o0 rfl ?_
  refine go_aload_n 16 dX8_discard_15 rfl rfl ls_0 ?_
  refine gp_getR 19 dX8_discard_16 rfl f_X8_10 rfl o0 rfl ?_
  refine go_iload_n 20 dX8_discard_19 rfl rfl (ls_s ls_0) ?_
  refine go_V (M' := mX3_throwAway) 23 dX8_discard_20 rfl w_539 okX3_throwAway ⟨Nat.le_of_ble_eq_true rfl, Nat.le_of_ble_eq_true rfl⟩ rfl rfl (Nat.le_of_ble_eq_true rfl) (Nat.le_of_ble_eq_true rfl) (ct_throwAway G g1 is1 r1 k1 x0) rfl rfl (Nat.le_of_ble_eq_true rfl) (tP is1) (by decide) rfl (fun v_20 h_20 p_20 => ?_)
  obtain ⟨rfl, g2, rfl, r2, u2⟩ := p_20
  have d1 : g2 95 1 = nI o := by rw [u2.1 95 (by omega), e2 95 (by omega)]; exact c1
  have d2 : g2 95 2 = nI S.2.1.length := by rw [u2.1 95 (by omega), e2 95 (by omega)]; exact c2
  refine go_VI (M' := mX1_settle) 26 dX8_discard_23 rfl w_366 okX1_settle ⟨Nat.le_of_ble_eq_true rfl, Nat.le_of_ble_eq_true rfl⟩ (ct_settle G ho d1 k3 d2 (fDiscard S.1 x0).1) rfl rfl o95 (by decide) rfl (kk := ?_)
  exact go_ret_i dX8_discard_26 rfl rfl rfl (pX_push c k3 e1 e2 r2 u2 (ok_discard x0 k1 hN).2)
set_option maxHeartbeats 4000000 in
set_option maxRecDepth 100000 in
theorem cx_blend (G : BcG) {gi : GI} {N : Nat} {S : SS} (k : SOk N S) (c : RelC S gi) (hN : N + 99 < 100000000) (x0 x1 : Int32) : Ct G mX8_blend [.ref (G.1 + 0), .int x0, .int x1] (hp gi) (pX gi (push S (fBlend S.1 x0 x1))) := by
  obtain ⟨o, c⟩ := c
  obtain ⟨ho, c1, c2, c3, c4, c5, c6⟩ := id c
  obtain ⟨k1, k2, k3, k4⟩ := id k
  refine ct_of [some (.ref (G.1 + 0)), some (.int x0), some (.int x1)] w_1 (by decide) rfl (Nat.le_of_ble_eq_true rfl) rfl ?_
  refine go_aload_n 1 dX8_blend_0 rfl rfl ls_0 ?_
  refine gp_getR 4 dX8_blend_1 rfl f_X8_22 rfl o0 rfl ?_
  refine go_aload_n 5 dX8_blend_4 rfl rfl ls_0 ?_
  refine gp_getR 8 dX8_blend_5 rfl f_X8_10 rfl o0 rfl ?_
  refine go_V (M' := mX1_prepare) 11 dX8_blend_8 rfl w_314 okX1_prepare ⟨Nat.le_of_ble_eq_true rfl, Nat.le_of_ble_eq_true rfl⟩ rfl rfl (Nat.le_of_ble_eq_true rfl) (Nat.le_of_ble_eq_true rfl) (ct_prepare G ho c1 (th01 c3 k1) c4) rfl rfl (Nat.le_of_ble_eq_true rfl) o95 (by decide) rfl (fun v_8 h_8 p_8 => ?_)
  obtain ⟨rfl, g1, rfl, e1, e2⟩ := p_8
  have r1 : Rel 1 S.1 g1 := rel_same c3 (fun k h1 h2 => e2 k (by omega))
  refine go_aload_n 12 dX8_blend_11 rfl rfl ls_0 ?_
  refine gp_getR 15 dX8_blend_12 rfl f_X8_22 rfl o0 rfl ?_
  refine go_aload_n 16 dX8_blend_15 rfl rfl ls_0 ?_
  refine gp_getR 19 dX8_blend_16 rfl f_X8_10 rfl o0 rfl ?_
  refine go_iload_n 20 dX8_blend_19 rfl rfl (ls_s ls_0) ?_
  refine go_iload_n 21 dX8_blend_20 rfl rfl (ls_s (ls_s ls_0)) ?_
  refine go_V (M' := mX3_blendIn) 24 dX8_blend_21 rfl w_547 okX3_blendIn ⟨Nat.le_of_ble_eq_true rfl, Nat.le_of_ble_eq_true rfl⟩ rfl rfl (Nat.le_of_ble_eq_true rfl) (Nat.le_of_ble_eq_true rfl) (ct_blendIn G g1 is1 r1 k1 x0 x1) rfl rfl (Nat.le_of_ble_eq_true rfl) (tP is1) (by decide) rfl (fun v_21 h_21 p_21 => ?_)
  obtain ⟨rfl, g2, rfl, r2, u2⟩ := p_21
  have d1 : g2 95 1 = nI o := by rw [u2.1 95 (by omega), e2 95 (by omega)]; exact c1
  have d2 : g2 95 2 = nI S.2.1.length := by rw [u2.1 95 (by omega), e2 95 (by omega)]; exact c2
  refine go_VI (M' := mX1_settle) 27 dX8_blend_24 rfl w_366 okX1_settle ⟨Nat.le_of_ble_eq_true rfl, Nat.le_of_ble_eq_true rfl⟩ (ct_settle G ho d1 k3 d2 (fBlend S.1 x0 x1).1) rfl rfl o95 (by decide) rfl (kk := ?_)
  exact go_ret_i dX8_blend_27 rfl rfl rfl (pX_push c k3 e1 e2 r2 u2 (ok_blend x0 x1 k1 hN).2)
set_option maxHeartbeats 4000000 in
set_option maxRecDepth 100000 in
theorem cx_pass (G : BcG) {gi : GI} {N : Nat} {S : SS} (k : SOk N S) (c : RelC S gi) (hN : N + 99 < 100000000) (x0 : Int32) : Ct G mX8_pass [.ref (G.1 + 0), .int x0] (hp gi) (pX gi (push S (fPass S.1 x0))) := by
  obtain ⟨o, c⟩ := c
  obtain ⟨ho, c1, c2, c3, c4, c5, c6⟩ := id c
  obtain ⟨k1, k2, k3, k4⟩ := id k
  refine ct_of [some (.ref (G.1 + 0)), some (.int x0)] w_1 (by decide) rfl (Nat.le_of_ble_eq_true rfl) rfl ?_
  refine go_aload_n 1 dX8_pass_0 rfl rfl ls_0 ?_
  refine gp_getR 4 dX8_pass_1 rfl f_X8_22 rfl o0 rfl ?_
  refine go_aload_n 5 dX8_pass_4 rfl rfl ls_0 ?_
  refine gp_getR 8 dX8_pass_5 rfl f_X8_10 rfl o0 rfl ?_
  refine go_V (M' := mX1_prepare) 11 dX8_pass_8 rfl w_314 okX1_prepare ⟨Nat.le_of_ble_eq_true rfl, Nat.le_of_ble_eq_true rfl⟩ rfl rfl (Nat.le_of_ble_eq_true rfl) (Nat.le_of_ble_eq_true rfl) (ct_prepare G ho c1 (th01 c3 k1) c4) rfl rfl (Nat.le_of_ble_eq_true rfl) o95 (by decide) rfl (fun v_8 h_8 p_8 => ?_)
  obtain ⟨rfl, g1, rfl, e1, e2⟩ := p_8
  have r1 : Rel 1 S.1 g1 := rel_same c3 (fun k h1 h2 => e2 k (by omega))
  refine go_aload_n 12 dX8_pass_11 rfl rfl ls_0 ?_
  refine gp_getR 15 dX8_pass_12 rfl f_X8_22 rfl o0 rfl ?_
  refine go_aload_n 16 dX8_pass_15 rfl rfl ls_0 ?_
  refine gp_getR 19 dX8_pass_16 rfl f_X8_10 rfl o0 rfl ?_
  refine go_iload_n 20 dX8_pass_19 rfl rfl (ls_s ls_0) ?_
  refine go_V (M' := mX3_letPass) 23 dX8_pass_20 rfl w_555 okX3_letPass ⟨Nat.le_of_ble_eq_true rfl, Nat.le_of_ble_eq_true rfl⟩ rfl rfl (Nat.le_of_ble_eq_true rfl) (Nat.le_of_ble_eq_true rfl) (ct_letPass G g1 is1 r1 k1 x0) rfl rfl (Nat.le_of_ble_eq_true rfl) (tP is1) (by decide) rfl (fun v_20 h_20 p_20 => ?_)
  obtain ⟨rfl, g2, rfl, r2, u2⟩ := p_20
  have d1 : g2 95 1 = nI o := by rw [u2.1 95 (by omega), e2 95 (by omega)]; exact c1
  have d2 : g2 95 2 = nI S.2.1.length := by rw [u2.1 95 (by omega), e2 95 (by omega)]; exact c2
  refine go_VI (M' := mX1_settle) 26 dX8_pass_23 rfl w_366 okX1_settle ⟨Nat.le_of_ble_eq_true rfl, Nat.le_of_ble_eq_true rfl⟩ (ct_settle G ho d1 k3 d2 (fPass S.1 x0).1) rfl rfl o95 (by decide) rfl (kk := ?_)
  exact go_ret_i dX8_pass_26 rfl rfl rfl (pX_push c k3 e1 e2 r2 u2 (ok_pass x0 k1 hN).2)
set_option maxHeartbeats 4000000 in
set_option maxRecDepth 100000 in
theorem cx_set (G : BcG) {gi : GI} {N : Nat} {S : SS} (k : SOk N S) (c : RelC S gi) (hN : N + 99 < 100000000) (x0 x1 : Int32) : Ct G mX8_set [.ref (G.1 + 0), .int x0, .int x1] (hp gi) (pX gi (push S (fSet S.1 x0 x1))) := by
  obtain ⟨o, c⟩ := c
  obtain ⟨ho, c1, c2, c3, c4, c5, c6⟩ := id c
  obtain ⟨k1, k2, k3, k4⟩ := id k
  refine ct_of [some (.ref (G.1 + 0)), some (.int x0), some (.int x1)] w_1 (by decide) rfl (Nat.le_of_ble_eq_true rfl) rfl ?_
  refine go_aload_n 1 dX8_set_0 rfl rfl ls_0 ?_
  refine gp_getR 4 dX8_set_1 rfl f_X8_22 rfl o0 rfl ?_
  refine go_aload_n 5 dX8_set_4 rfl rfl ls_0 ?_
  refine gp_getR 8 dX8_set_5 rfl f_X8_10 rfl o0 rfl ?_
  refine go_V (M' := mX1_prepare) 11 dX8_set_8 rfl w_314 okX1_prepare ⟨Nat.le_of_ble_eq_true rfl, Nat.le_of_ble_eq_true rfl⟩ rfl rfl (Nat.le_of_ble_eq_true rfl) (Nat.le_of_ble_eq_true rfl) (ct_prepare G ho c1 (th01 c3 k1) c4) rfl rfl (Nat.le_of_ble_eq_true rfl) o95 (by decide) rfl (fun v_8 h_8 p_8 => ?_)
  obtain ⟨rfl, g1, rfl, e1, e2⟩ := p_8
  have r1 : Rel 1 S.1 g1 := rel_same c3 (fun k h1 h2 => e2 k (by omega))
  refine go_aload_n 12 dX8_set_11 rfl rfl ls_0 ?_
  refine gp_getR 15 dX8_set_12 rfl f_X8_22 rfl o0 rfl ?_
  refine go_aload_n 16 dX8_set_15 rfl rfl ls_0 ?_
  refine gp_getR 19 dX8_set_16 rfl f_X8_10 rfl o0 rfl ?_
  refine go_iload_n 20 dX8_set_19 rfl rfl (ls_s ls_0) ?_
  refine go_iload_n 21 dX8_set_20 rfl rfl (ls_s (ls_s ls_0)) ?_
  refine go_V (M' := mX3_changeSetting) 24 dX8_set_21 rfl w_563 okX3_changeSetting ⟨Nat.le_of_ble_eq_true rfl, Nat.le_of_ble_eq_true rfl⟩ rfl rfl (Nat.le_of_ble_eq_true rfl) (Nat.le_of_ble_eq_true rfl) (ct_changeSetting G g1 is1 r1 k1 x0 x1) rfl rfl (Nat.le_of_ble_eq_true rfl) (tP is1) (by decide) rfl (fun v_21 h_21 p_21 => ?_)
  obtain ⟨rfl, g2, rfl, r2, u2⟩ := p_21
  have d1 : g2 95 1 = nI o := by rw [u2.1 95 (by omega), e2 95 (by omega)]; exact c1
  have d2 : g2 95 2 = nI S.2.1.length := by rw [u2.1 95 (by omega), e2 95 (by omega)]; exact c2
  refine go_VI (M' := mX1_settle) 27 dX8_set_24 rfl w_366 okX1_settle ⟨Nat.le_of_ble_eq_true rfl, Nat.le_of_ble_eq_true rfl⟩ (ct_settle G ho d1 k3 d2 (fSet S.1 x0 x1).1) rfl rfl o95 (by decide) rfl (kk := ?_)
  exact go_ret_i dX8_set_27 rfl rfl rfl (pX_push c k3 e1 e2 r2 u2 (ok_set x0 x1 k1 hN).2)
theorem pX_undo0 {S : SS} {gi : GI} (c : RelC S gi) (h : S.2.1 = []) : pX gi (sUndo S) (some (.int (-2))) (hp gi) := by
  obtain ⟨A, H, X⟩ := S
  have h' : H = [] := h
  subst h'
  exact ⟨rfl, gi, rfl, c, fun _ _ => rfl⟩
theorem sUndoOk {N : Nat} {S : SS} (k : SOk N S) : SOk N (sUndo S).2 := by
  obtain ⟨A, H, X⟩ := S
  obtain ⟨k1, k2, k3, k4⟩ := k
  cases H with
  | nil => exact ⟨k1, k2, k3, k4⟩
  | cons B H => exact ⟨k2 0 B rfl, fun i C hC => k2 (i + 1) C hC, by have : (B :: H).length ≤ 4 := k3; rw [List.length_cons] at this; show H.length ≤ 4; omega, k4⟩
set_option maxHeartbeats 4000000 in
set_option maxRecDepth 100000 in
theorem cx_undo0 (G : BcG) {gi : GI} {N : Nat} {A : AA} {X : TX × Nat} (k : SOk N (A, [], X)) (c : RelC (A, [], X) gi) : Ct G mX8_undo [.ref (G.1 + 0)] (hp gi) (pX gi (sUndo (A, [], X))) := by
  obtain ⟨o, c⟩ := c
  obtain ⟨ho, c1, c2, c3, c4, c5, c6⟩ := id c
  obtain ⟨k1, k2, k3, k4⟩ := id k
  refine ct_of [some (.ref (G.1 + 0))] w_1 (by decide) rfl (Nat.le_of_ble_eq_true rfl) rfl ?_
  refine go_aload_n 1 dX8_undo_0 rfl rfl ls_0 ?_
  refine gp_getR 4 dX8_undo_1 rfl f_X8_22 rfl o0 rfl ?_
  refine go_aload_n 5 dX8_undo_4 rfl rfl ls_0 ?_
  refine gp_getR 8 dX8_undo_5 rfl f_X8_10 rfl o0 rfl ?_
  refine go_VI (M' := mX1_restore) 11 dX8_undo_8 rfl w_671 okX1_restore ⟨Nat.le_of_ble_eq_true rfl, Nat.le_of_ble_eq_true rfl⟩ (ct_restore0 G gi (by rw [c2]; rfl)) rfl rfl o95 (by decide) rfl (kk := ?_)
  exact go_ret_i dX8_undo_11 rfl rfl rfl (pX_undo0 (S := (A, [], X)) ⟨o, c⟩ rfl)
set_option maxHeartbeats 4000000 in
set_option maxRecDepth 100000 in
theorem cx_undoS (G : BcG) {gi : GI} {N : Nat} {A B : AA} {H : List AA} {X : TX × Nat} (k : SOk N (A, B :: H, X)) (c : RelC (A, B :: H, X) gi) : Ct G mX8_undo [.ref (G.1 + 0)] (hp gi) (pX gi (sUndo (A, B :: H, X))) := by
  obtain ⟨o, c⟩ := c
  obtain ⟨ho, c1, c2, c3, c4, c5, c6⟩ := id c
  obtain ⟨k1, k2, k3, k4⟩ := id k
  have hH : H.length < 4 := by have : (B :: H).length ≤ 4 := k3; rw [List.length_cons] at this; omega
  obtain ⟨q1, q2⟩ := c6 0 B rfl
  rw [rg_0 ho] at q1 q2
  refine ct_of [some (.ref (G.1 + 0))] w_1 (by decide) rfl (Nat.le_of_ble_eq_true rfl) rfl ?_
  refine go_aload_n 1 dX8_undo_0 rfl rfl ls_0 ?_
  refine gp_getR 4 dX8_undo_1 rfl f_X8_22 rfl o0 rfl ?_
  refine go_aload_n 5 dX8_undo_4 rfl rfl ls_0 ?_
  refine gp_getR 8 dX8_undo_5 rfl f_X8_10 rfl o0 rfl ?_
  refine go_V (M' := mX1_restore) 11 dX8_undo_8 rfl w_671 okX1_restore ⟨Nat.le_of_ble_eq_true rfl, Nat.le_of_ble_eq_true rfl⟩ rfl rfl (Nat.le_of_ble_eq_true rfl) (Nat.le_of_ble_eq_true rfl) (ct_restoreS G ho c1 (s := H.length) hH (by rw [c2]; rfl) (th01 q1 (k2 0 B rfl)) q2) rfl rfl (Nat.le_of_ble_eq_true rfl) o95 (by decide) rfl (fun v_8 h_8 p_8 => ?_)
  obtain ⟨rfl, g2, rfl, e1, e2, d1, d2⟩ := p_8
  exact go_ret_i dX8_undo_11 rfl rfl rfl ⟨rfl, g2, rfl, relC_undo c hH e1 e2 d1 d2, fun k hk => e2 k (by omega) (by omega)⟩
theorem cx_undo (G : BcG) {gi : GI} {N : Nat} {S : SS} (k : SOk N S) (c : RelC S gi) : Ct G mX8_undo [.ref (G.1 + 0)] (hp gi) (pX gi (sUndo S)) := by
  obtain ⟨A, H, X⟩ := S
  cases H with
  | nil => exact cx_undo0 G k c
  | cons B H => exact cx_undoS G k c
/-- what speaks of the plants alone -/
theorem relC_text {S : SS} {T : TX} {L : Nat} {gi g2 : GI} (c : RelC S gi) (h : RelX T L g2) (e : ∀ k, k ≠ 332 → k ≠ 333 → k ≠ 334 → g2 k = gi k) : RelC (S.1, S.2.1, T, L) g2 := by
  obtain ⟨o, ho, c1, c2, c3, c4, c5, c6⟩ := c
  refine ⟨o, ho, by rw [e 95 (by decide) (by decide) (by decide)]; exact c1, by rw [e 95 (by decide) (by decide) (by decide)]; exact c2, rel_same c3 (fun k h1 h2 => e k (by omega) (by omega) (by omega)), zb_same c4 (fun k h1 h2 => e k (by omega) (by omega) (by omega)), h, fun i B hB => ?_⟩
  have hr := rg_lt o i
  obtain ⟨s1, s2⟩ := c6 i B hB
  exact ⟨rel_same s1 (fun k h1 h2 => e k (by omega) (by omega) (by omega)), zb_same s2 (fun k h1 h2 => e k (by omega) (by omega) (by omega))⟩
set_option maxHeartbeats 4000000 in
set_option maxRecDepth 100000 in
theorem cx_type (G : BcG) {gi : GI} {N : Nat} {S : SS} (k : SOk N S) (c : RelC S gi) (x : Int32) : Ct G mX8_type [.ref (G.1 + 0), .int x] (hp gi) (pX gi (sType S x)) := by
  obtain ⟨o, c⟩ := c
  obtain ⟨ho, c1, c2, c3, c4, c5, c6⟩ := id c
  obtain ⟨k1, k2, k3, k4⟩ := id k
  refine ct_of [some (.ref (G.1 + 0)), some (.int x)] w_1 (by decide) rfl (Nat.le_of_ble_eq_true rfl) rfl ?_
  refine go_aload_n 1 dX8_type_0 rfl rfl ls_0 ?_
  refine gp_getR 4 dX8_type_1 rfl f_X8_29 rfl o0 rfl ?_
  refine go_iload_n 5 dX8_type_4 rfl rfl (ls_s ls_0) ?_
  refine go_V (M' := mX5_append) 8 dX8_type_5 rfl w_679 okX5_append ⟨Nat.le_of_ble_eq_true rfl, Nat.le_of_ble_eq_true rfl⟩ rfl rfl (Nat.le_of_ble_eq_true rfl) (Nat.le_of_ble_eq_true rfl) (ct_append G k4 c5 x) rfl rfl (Nat.le_of_ble_eq_true rfl) o332 (by decide) rfl (fun v_5 h_5 p_5 => ?_)
  obtain ⟨rfl, g2, rfl, r2, u2⟩ := p_5
  exact go_ret_i dX8_type_8 rfl rfl rfl ⟨rfl, g2, rfl, relC_text ⟨o, c⟩ r2 (fun k h1 h2 _ => u2 k h1 h2), fun k hk => u2 k (by omega) (by omega)⟩
set_option maxHeartbeats 4000000 in
set_option maxRecDepth 100000 in
theorem cx_clearText (G : BcG) {gi : GI} {N : Nat} {S : SS} (k : SOk N S) (c : RelC S gi) : Ct G mX8_clearText [.ref (G.1 + 0)] (hp gi) (pX gi (sClear S)) := by
  obtain ⟨o, c⟩ := c
  obtain ⟨ho, c1, c2, c3, c4, c5, c6⟩ := id c
  obtain ⟨k1, k2, k3, k4⟩ := id k
  refine ct_of [some (.ref (G.1 + 0)), none] w_1 (by decide) rfl (Nat.le_of_ble_eq_true rfl) rfl ?_
  refine go_aload_n 1 dX8_clearText_0 rfl rfl ls_0 ?_
  refine gp_getR 4 dX8_clearText_1 rfl f_X8_29 rfl o0 rfl ?_
  refine gp_getI 7 dX8_clearText_4 rfl f_X8_131 rfl o332 ?_
  refine go_top (y := (nI S.2.2.2)) c5.1 ?_
  refine go_istore_n 8 dX8_clearText_7 rfl rfl (by decide) (st_s st_0) ?_
  refine go_aload_n 9 dX8_clearText_8 rfl rfl ls_0 ?_
  refine gp_getR 12 dX8_clearText_9 rfl f_X8_29 rfl o0 rfl ?_
  refine go_iconst 13 (v := 0) dX8_clearText_12 rfl (by decide) ?_
  refine gp_putI 16 dX8_clearText_13 rfl f_X8_131 rfl o332 rfl rfl ?_
  refine go_iload_n 17 dX8_clearText_16 rfl rfl (ls_s ls_0) ?_
  exact go_ret_i dX8_clearText_17 rfl rfl rfl ⟨rfl, _, rfl, relC_text ⟨o, c⟩ (L := 0) (T := S.2.2.1) ⟨by rw [wI_eq]; rfl, fun j hj => absurd hj (Nat.not_lt_zero _)⟩ (fun k h1 _ _ => by rw [wI_row h1]), fun k hk => by rw [wI_row (by omega)]⟩
theorem sTypeOk {N : Nat} {S : SS} (k : SOk N S) (x : Int32) : SOk N (sType S x).2 := ⟨k.1, k.2.1, k.2.2.1, TxI_type k.2.2.2⟩
theorem sClearOk {N : Nat} {S : SS} (k : SOk N S) : SOk N (sClear S).2 := ⟨k.1, k.2.1, k.2.2.1, by show 0 ≤ 80; omega, fun j hj => absurd hj (Nat.not_lt_zero _)⟩
