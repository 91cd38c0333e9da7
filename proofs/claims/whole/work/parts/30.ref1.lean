/-! THE REFERENCE: its leaves -/
theorem o335 : tO 335 9 := ⟨by decide, rfl⟩
theorem a336 : tA 336 20 199 := ⟨by decide, rfl⟩
theorem a337 : tA 337 20 796 := ⟨by decide, rfl⟩
theorem a338 : tA 338 20 199 := ⟨by decide, rfl⟩
theorem a339 : tA 339 20 80 := ⟨by decide, rfl⟩
theorem a340 : tA 340 20 3 := ⟨by decide, rfl⟩
theorem ix9 (c a b w : Nat) : nI c + nI a * nI b + nI w = nI (c + a * b + w) := by rw [pk_mul, nI_add, nI_add]
theorem ix90 (c a b : Nat) : nI c + nI a * nI b = nI (c + a * b) := by rw [pk_mul, nI_add]
theorem ix94 (c a b d k w : Nat) : nI c + nI a * nI b + nI 2 + nI d * nI k + nI w = nI (c + a * b + 2 + d * k + w) := by rw [pk_mul, pk_mul, nI_add, nI_add, nI_add, nI_add]
theorem g336 (gi : GI) (j : Nat) (v : Int32) : wI gi 336 j v 336 = upd (gi 336) j v := by unfold wI va_up; rw [if_pos rfl]
set_option maxHeartbeats 4000000 in
set_option maxRecDepth 100000 in
theorem m_in (G : BcG) (gi : GI) (x a b : Int32) : Ct G mX9_in [.int x, .int a, .int b] (hp gi) (pI (bI (a ≤ x ∧ x ≤ b)) (hp gi)) := by
  refine ct_of [some (.int x), some (.int a), some (.int b)] w_10 (by decide) rfl (Nat.le_of_ble_eq_true rfl) rfl ?_
  refine go_iload_n 1 dX9_in_0 rfl rfl ls_0 ?_
  refine go_iload_n 2 dX9_in_1 rfl rfl (ls_s ls_0) ?_
  refine go_icmp_lt 14 5 dX9_in_2 (by decide) rfl (fun c_2 => ?_) (fun c_2 => ?_)
  · refine go_iconst 15 (v := 0) dX9_in_14 rfl (by decide) ?_
    exact go_ret_z dX9_in_15 rfl rfl rfl rfl (pI_of (bI_0 (c := a ≤ x ∧ x ≤ b) (fun z => absurd c_2 (Int32.not_lt.mpr z.1))) rfl)
  · refine go_iload_n 6 dX9_in_5 rfl rfl ls_0 ?_
    refine go_iload_n 7 dX9_in_6 rfl rfl (ls_s (ls_s ls_0)) ?_
    refine go_icmp_gt 14 10 dX9_in_7 (by decide) rfl (fun c_7 => ?_) (fun c_7 => ?_)
    · refine go_iconst 15 (v := 0) dX9_in_14 rfl (by decide) ?_
      exact go_ret_z dX9_in_15 rfl rfl rfl rfl (pI_of (bI_0 (c := a ≤ x ∧ x ≤ b) (fun z => absurd c_7 (Int32.not_lt.mpr z.2))) rfl)
    · refine go_iconst 11 (v := 1) dX9_in_10 rfl (by decide) ?_
      refine go_goto 15 dX9_in_11 (by decide) ?_
      exact go_ret_z dX9_in_15 rfl rfl rfl rfl (pI_of (bI_1 (c := a ≤ x ∧ x ≤ b) ⟨Int32.not_lt.mp c_2, Int32.not_lt.mp c_7⟩) rfl)
set_option maxHeartbeats 4000000 in
set_option maxRecDepth 100000 in
theorem m_of (G : BcG) (gi : GI) {b w j : Nat} (hj : 145 + 9 * b + w = j) (hl : j < 199) : Ct G mX9_of [.ref (G.1 + 335), .int (nI b), .int (nI w)] (hp gi) (pI (gi 336 j) (hp gi)) := by
  refine ct_of [some (.ref (G.1 + 335)), some (.int (nI b)), some (.int (nI w))] w_10 (by decide) rfl (Nat.le_of_ble_eq_true rfl) rfl ?_
  refine go_aload_n 1 dX9_of_0 rfl rfl ls_0 ?_
  refine gp_getR 4 dX9_of_1 rfl f_X9_7 rfl o335 rfl ?_
  refine go_sipush 7 (v := 145) dX9_of_4 rfl (by decide) ?_
  refine go_bipush 9 (v := 9) dX9_of_7 rfl (by decide) ?_
  refine go_iload_n 10 dX9_of_9 rfl rfl (ls_s ls_0) ?_
  refine go_imul 11 dX9_of_10 rfl ?_
  refine go_iadd 12 dX9_of_11 rfl ?_
  refine go_iload_n 13 dX9_of_12 rfl rfl (ls_s (ls_s ls_0)) ?_
  refine go_iadd 14 dX9_of_13 rfl ?_
  refine gp_ialdN 15 (i := j) dX9_of_14 rfl a336 (by rw [← hj]; exact ix9 145 9 b w) hl (by decide) ?_
  exact go_ret_i dX9_of_15 rfl rfl rfl ⟨rfl, rfl⟩
set_option maxHeartbeats 4000000 in
set_option maxRecDepth 100000 in
theorem m_puts (G : BcG) (gi : GI) {b w j : Nat} (hj : 145 + 9 * b + w = j) (hl : j < 199) (v : Int32) : Ct G mX9_puts [.ref (G.1 + 335), .int (nI b), .int (nI w), .int v] (hp gi) (pV (hp (wI gi 336 j v))) := by
  refine ct_of [some (.ref (G.1 + 335)), some (.int (nI b)), some (.int (nI w)), some (.int v)] w_10 (by decide) rfl (Nat.le_of_ble_eq_true rfl) rfl ?_
  refine go_aload_n 1 dX9_puts_0 rfl rfl ls_0 ?_
  refine gp_getR 4 dX9_puts_1 rfl f_X9_7 rfl o335 rfl ?_
  refine go_sipush 7 (v := 145) dX9_puts_4 rfl (by decide) ?_
  refine go_bipush 9 (v := 9) dX9_puts_7 rfl (by decide) ?_
  refine go_iload_n 10 dX9_puts_9 rfl rfl (ls_s ls_0) ?_
  refine go_imul 11 dX9_puts_10 rfl ?_
  refine go_iadd 12 dX9_puts_11 rfl ?_
  refine go_iload_n 13 dX9_puts_12 rfl rfl (ls_s (ls_s ls_0)) ?_
  refine go_iadd 14 dX9_puts_13 rfl ?_
  refine go_iload_n 15 dX9_puts_14 rfl rfl (ls_s (ls_s (ls_s ls_0))) ?_
  refine gp_iastN 16 (i := j) dX9_puts_15 rfl a336 (by rw [← hj]; exact ix9 145 9 b w) hl (by decide) ?_
  exact go_ret_v dX9_puts_16 rfl rfl rfl ⟨rfl, rfl⟩
set_option maxHeartbeats 4000000 in
set_option maxRecDepth 100000 in
theorem m_ofVessel (G : BcG) (gi : GI) {b w j : Nat} (hj : 103 + 5 * b + w = j) (hl : j < 199) : Ct G mX9_ofVessel [.ref (G.1 + 335), .int (nI b), .int (nI w)] (hp gi) (pI (gi 336 j) (hp gi)) := by
  refine ct_of [some (.ref (G.1 + 335)), some (.int (nI b)), some (.int (nI w))] w_10 (by decide) rfl (Nat.le_of_ble_eq_true rfl) rfl ?_
  refine go_aload_n 1 dX9_ofVessel_0 rfl rfl ls_0 ?_
  refine gp_getR 4 dX9_ofVessel_1 rfl f_X9_7 rfl o335 rfl ?_
  refine go_bipush 6 (v := 103) dX9_ofVessel_4 rfl (by decide) ?_
  refine go_iconst 7 (v := 5) dX9_ofVessel_6 rfl (by decide) ?_
  refine go_iload_n 8 dX9_ofVessel_7 rfl rfl (ls_s ls_0) ?_
  refine go_imul 9 dX9_ofVessel_8 rfl ?_
  refine go_iadd 10 dX9_ofVessel_9 rfl ?_
  refine go_iload_n 11 dX9_ofVessel_10 rfl rfl (ls_s (ls_s ls_0)) ?_
  refine go_iadd 12 dX9_ofVessel_11 rfl ?_
  refine gp_ialdN 13 (i := j) dX9_ofVessel_12 rfl a336 (by rw [← hj]; exact ix9 103 5 b w) hl (by decide) ?_
  exact go_ret_i dX9_ofVessel_13 rfl rfl rfl ⟨rfl, rfl⟩
set_option maxHeartbeats 4000000 in
set_option maxRecDepth 100000 in
theorem m_putsVessel (G : BcG) (gi : GI) {b w j : Nat} (hj : 103 + 5 * b + w = j) (hl : j < 199) (v : Int32) : Ct G mX9_putsVessel [.ref (G.1 + 335), .int (nI b), .int (nI w), .int v] (hp gi) (pV (hp (wI gi 336 j v))) := by
  refine ct_of [some (.ref (G.1 + 335)), some (.int (nI b)), some (.int (nI w)), some (.int v)] w_10 (by decide) rfl (Nat.le_of_ble_eq_true rfl) rfl ?_
  refine go_aload_n 1 dX9_putsVessel_0 rfl rfl ls_0 ?_
  refine gp_getR 4 dX9_putsVessel_1 rfl f_X9_7 rfl o335 rfl ?_
  refine go_bipush 6 (v := 103) dX9_putsVessel_4 rfl (by decide) ?_
  refine go_iconst 7 (v := 5) dX9_putsVessel_6 rfl (by decide) ?_
  refine go_iload_n 8 dX9_putsVessel_7 rfl rfl (ls_s ls_0) ?_
  refine go_imul 9 dX9_putsVessel_8 rfl ?_
  refine go_iadd 10 dX9_putsVessel_9 rfl ?_
  refine go_iload_n 11 dX9_putsVessel_10 rfl rfl (ls_s (ls_s ls_0)) ?_
  refine go_iadd 12 dX9_putsVessel_11 rfl ?_
  refine go_iload_n 13 dX9_putsVessel_12 rfl rfl (ls_s (ls_s (ls_s ls_0))) ?_
  refine gp_iastN 14 (i := j) dX9_putsVessel_13 rfl a336 (by rw [← hj]; exact ix9 103 5 b w) hl (by decide) ?_
  exact go_ret_v dX9_putsVessel_14 rfl rfl rfl ⟨rfl, rfl⟩
set_option maxHeartbeats 4000000 in
set_option maxRecDepth 100000 in
theorem m_ofLine (G : BcG) (gi : GI) {b w j : Nat} (hj : 133 + 4 * b + w = j) (hl : j < 199) : Ct G mX9_ofLine [.ref (G.1 + 335), .int (nI b), .int (nI w)] (hp gi) (pI (gi 336 j) (hp gi)) := by
  refine ct_of [some (.ref (G.1 + 335)), some (.int (nI b)), some (.int (nI w))] w_10 (by decide) rfl (Nat.le_of_ble_eq_true rfl) rfl ?_
  refine go_aload_n 1 dX9_ofLine_0 rfl rfl ls_0 ?_
  refine gp_getR 4 dX9_ofLine_1 rfl f_X9_7 rfl o335 rfl ?_
  refine go_sipush 7 (v := 133) dX9_ofLine_4 rfl (by decide) ?_
  refine go_iconst 8 (v := 4) dX9_ofLine_7 rfl (by decide) ?_
  refine go_iload_n 9 dX9_ofLine_8 rfl rfl (ls_s ls_0) ?_
  refine go_imul 10 dX9_ofLine_9 rfl ?_
  refine go_iadd 11 dX9_ofLine_10 rfl ?_
  refine go_iload_n 12 dX9_ofLine_11 rfl rfl (ls_s (ls_s ls_0)) ?_
  refine go_iadd 13 dX9_ofLine_12 rfl ?_
  refine gp_ialdN 14 (i := j) dX9_ofLine_13 rfl a336 (by rw [← hj]; exact ix9 133 4 b w) hl (by decide) ?_
  exact go_ret_i dX9_ofLine_14 rfl rfl rfl ⟨rfl, rfl⟩
set_option maxHeartbeats 4000000 in
set_option maxRecDepth 100000 in
theorem m_product (G : BcG) (gi : GI) {r : Nat} (hl : 31 + 18 * r < 199) : Ct G mX9_product [.ref (G.1 + 335), .int (nI r)] (hp gi) (pI (gi 336 (31 + 18 * r)) (hp gi)) := by
  refine ct_of [some (.ref (G.1 + 335)), some (.int (nI r))] w_10 (by decide) rfl (Nat.le_of_ble_eq_true rfl) rfl ?_
  refine go_aload_n 1 dX9_product_0 rfl rfl ls_0 ?_
  refine gp_getR 4 dX9_product_1 rfl f_X9_7 rfl o335 rfl ?_
  refine go_bipush 6 (v := 31) dX9_product_4 rfl (by decide) ?_
  refine go_bipush 8 (v := 18) dX9_product_6 rfl (by decide) ?_
  refine go_iload_n 9 dX9_product_8 rfl rfl (ls_s ls_0) ?_
  refine go_imul 10 dX9_product_9 rfl ?_
  refine go_iadd 11 dX9_product_10 rfl ?_
  refine gp_ialdN 12 (i := (31 + 18 * r)) dX9_product_11 rfl a336 (ix90 31 18 r) hl (by decide) ?_
  exact go_ret_i dX9_product_12 rfl rfl rfl ⟨rfl, rfl⟩
set_option maxHeartbeats 4000000 in
set_option maxRecDepth 100000 in
theorem m_stages (G : BcG) (gi : GI) {r : Nat} (hl : 31 + 18 * r + 1 < 199) : Ct G mX9_stages [.ref (G.1 + 335), .int (nI r)] (hp gi) (pI (gi 336 (31 + 18 * r + 1)) (hp gi)) := by
  refine ct_of [some (.ref (G.1 + 335)), some (.int (nI r))] w_10 (by decide) rfl (Nat.le_of_ble_eq_true rfl) rfl ?_
  refine go_aload_n 1 dX9_stages_0 rfl rfl ls_0 ?_
  refine gp_getR 4 dX9_stages_1 rfl f_X9_7 rfl o335 rfl ?_
  refine go_bipush 6 (v := 31) dX9_stages_4 rfl (by decide) ?_
  refine go_bipush 8 (v := 18) dX9_stages_6 rfl (by decide) ?_
  refine go_iload_n 9 dX9_stages_8 rfl rfl (ls_s ls_0) ?_
  refine go_imul 10 dX9_stages_9 rfl ?_
  refine go_iadd 11 dX9_stages_10 rfl ?_
  refine go_iconst 12 (v := 1) dX9_stages_11 rfl (by decide) ?_
  refine go_iadd 13 dX9_stages_12 rfl ?_
  refine gp_ialdN 14 (i := (31 + 18 * r + 1)) dX9_stages_13 rfl a336 (ix9 31 18 r 1) hl (by decide) ?_
  exact go_ret_i dX9_stages_14 rfl rfl rfl ⟨rfl, rfl⟩
set_option maxHeartbeats 4000000 in
set_option maxRecDepth 100000 in
theorem m_ofStage (G : BcG) (gi : GI) {r k w j : Nat} (hj : 31 + 18 * r + 2 + 4 * k + w = j) (hl : j < 199) : Ct G mX9_ofStage [.ref (G.1 + 335), .int (nI r), .int (nI k), .int (nI w)] (hp gi) (pI (gi 336 j) (hp gi)) := by
  refine ct_of [some (.ref (G.1 + 335)), some (.int (nI r)), some (.int (nI k)), some (.int (nI w))] w_10 (by decide) rfl (Nat.le_of_ble_eq_true rfl) rfl ?_
  refine go_aload_n 1 dX9_ofStage_0 rfl rfl ls_0 ?_
  refine gp_getR 4 dX9_ofStage_1 rfl f_X9_7 rfl o335 rfl ?_
  refine go_bipush 6 (v := 31) dX9_ofStage_4 rfl (by decide) ?_
  refine go_bipush 8 (v := 18) dX9_ofStage_6 rfl (by decide) ?_
  refine go_iload_n 9 dX9_ofStage_8 rfl rfl (ls_s ls_0) ?_
  refine go_imul 10 dX9_ofStage_9 rfl ?_
  refine go_iadd 11 dX9_ofStage_10 rfl ?_
  refine go_iconst 12 (v := 2) dX9_ofStage_11 rfl (by decide) ?_
  refine go_iadd 13 dX9_ofStage_12 rfl ?_
  refine go_iconst 14 (v := 4) dX9_ofStage_13 rfl (by decide) ?_
  refine go_iload_n 15 dX9_ofStage_14 rfl rfl (ls_s (ls_s ls_0)) ?_
  refine go_imul 16 dX9_ofStage_15 rfl ?_
  refine go_iadd 17 dX9_ofStage_16 rfl ?_
  refine go_iload_n 18 dX9_ofStage_17 rfl rfl (ls_s (ls_s (ls_s ls_0))) ?_
  refine go_iadd 19 dX9_ofStage_18 rfl ?_
  refine gp_ialdN 20 (i := j) dX9_ofStage_19 rfl a336 (by rw [← hj]; exact ix94 31 18 r 4 k w) hl (by decide) ?_
  exact go_ret_i dX9_ofStage_20 rfl rfl rfl ⟨rfl, rfl⟩
set_option maxHeartbeats 4000000 in
set_option maxRecDepth 100000 in
theorem m_isRecipe (G : BcG) {gi : GI} {N : Nat} (I : Inv N (gi 336)) (x : Int32) : Ct G mX9_isRecipe [.ref (G.1 + 335), .int x] (hp gi) (pI (bI (isRec (gi 336) x)) (hp gi)) := by
  refine ct_of [some (.ref (G.1 + 335)), some (.int x)] w_10 (by decide) rfl (Nat.le_of_ble_eq_true rfl) rfl ?_
  refine go_iload_n 1 dX9_isRecipe_0 rfl rfl (ls_s ls_0) ?_
  refine go_if_lt 18 4 dX9_isRecipe_1 (by decide) rfl (fun c_1 => ?_) (fun c_1 => ?_)
  · refine go_iconst 19 (v := 0) dX9_isRecipe_18 rfl (by decide) ?_
    exact go_ret_z dX9_isRecipe_19 rfl rfl rfl rfl (pI_of (bI_0 (fun ⟨r, h1, h2⟩ => ixn_1 (n := nR (gi 336)) (by have := I.nR4; omega) c_1 ⟨r, h1, h2⟩)) rfl)
  · refine go_iload_n 5 dX9_isRecipe_4 rfl rfl (ls_s ls_0) ?_
    refine go_aload_n 6 dX9_isRecipe_5 rfl rfl ls_0 ?_
    refine gp_getR 9 dX9_isRecipe_6 rfl f_X9_7 rfl o335 rfl ?_
    refine go_iconst 10 (v := 2) dX9_isRecipe_9 rfl (by decide) ?_
    refine gp_ialdN 11 (i := 2) dX9_isRecipe_10 rfl a336 rfl (by decide) (by decide) ?_
    refine go_top (y := (nI (nR (gi 336)))) I.eR ?_
    refine go_icmp_ge 18 14 dX9_isRecipe_11 (by decide) rfl (fun c_11 => ?_) (fun c_11 => ?_)
    · refine go_iconst 19 (v := 0) dX9_isRecipe_18 rfl (by decide) ?_
      exact go_ret_z dX9_isRecipe_19 rfl rfl rfl rfl (pI_of (bI_0 (fun ⟨r, h1, h2⟩ => ixn_2 (n := nR (gi 336)) (by have := I.nR4; omega) rfl c_11 ⟨r, h1, h2⟩)) rfl)
    · refine go_iconst 15 (v := 1) dX9_isRecipe_14 rfl (by decide) ?_
      refine go_goto 19 dX9_isRecipe_15 (by decide) ?_
      exact go_ret_z dX9_isRecipe_19 rfl rfl rfl rfl (pI_of (bI_1 (ix_y (n := nR (gi 336)) (by have := I.nR4; omega) rfl c_1 c_11)) rfl)
set_option maxHeartbeats 4000000 in
set_option maxRecDepth 100000 in
theorem m_isVessel (G : BcG) {gi : GI} {N : Nat} (I : Inv N (gi 336)) (x : Int32) : Ct G mX9_isVessel [.ref (G.1 + 335), .int x] (hp gi) (pI (bI (isVes (gi 336) x)) (hp gi)) := by
  refine ct_of [some (.ref (G.1 + 335)), some (.int x)] w_10 (by decide) rfl (Nat.le_of_ble_eq_true rfl) rfl ?_
  refine go_iload_n 1 dX9_isVessel_0 rfl rfl (ls_s ls_0) ?_
  refine go_if_lt 18 4 dX9_isVessel_1 (by decide) rfl (fun c_1 => ?_) (fun c_1 => ?_)
  · refine go_iconst 19 (v := 0) dX9_isVessel_18 rfl (by decide) ?_
    exact go_ret_z dX9_isVessel_19 rfl rfl rfl rfl (pI_of (bI_0 (fun ⟨r, h1, h2⟩ => ixn_1 (n := nV (gi 336)) (by have := I.nV6; omega) c_1 ⟨r, h1, h2⟩)) rfl)
  · refine go_iload_n 5 dX9_isVessel_4 rfl rfl (ls_s ls_0) ?_
    refine go_aload_n 6 dX9_isVessel_5 rfl rfl ls_0 ?_
    refine gp_getR 9 dX9_isVessel_6 rfl f_X9_7 rfl o335 rfl ?_
    refine go_iconst 10 (v := 3) dX9_isVessel_9 rfl (by decide) ?_
    refine gp_ialdN 11 (i := 3) dX9_isVessel_10 rfl a336 rfl (by decide) (by decide) ?_
    refine go_top (y := (nI (nV (gi 336)))) I.eV ?_
    refine go_icmp_ge 18 14 dX9_isVessel_11 (by decide) rfl (fun c_11 => ?_) (fun c_11 => ?_)
    · refine go_iconst 19 (v := 0) dX9_isVessel_18 rfl (by decide) ?_
      exact go_ret_z dX9_isVessel_19 rfl rfl rfl rfl (pI_of (bI_0 (fun ⟨r, h1, h2⟩ => ixn_2 (n := nV (gi 336)) (by have := I.nV6; omega) rfl c_11 ⟨r, h1, h2⟩)) rfl)
    · refine go_iconst 15 (v := 1) dX9_isVessel_14 rfl (by decide) ?_
      refine go_goto 19 dX9_isVessel_15 (by decide) ?_
      exact go_ret_z dX9_isVessel_19 rfl rfl rfl rfl (pI_of (bI_1 (ix_y (n := nV (gi 336)) (by have := I.nV6; omega) rfl c_1 c_11)) rfl)
set_option maxHeartbeats 4000000 in
set_option maxRecDepth 100000 in
theorem m_isBatch (G : BcG) (gi : GI) (x : Int32) : Ct G mX9_isBatch [.ref (G.1 + 335), .int x] (hp gi) (pI (bI (isBat (gi 336) x)) (hp gi)) := by
  refine ct_of [some (.ref (G.1 + 335)), some (.int x)] w_10 (by decide) rfl (Nat.le_of_ble_eq_true rfl) rfl ?_
  refine go_iload_n 1 dX9_isBatch_0 rfl rfl (ls_s ls_0) ?_
  refine go_iconst 2 (v := 0) dX9_isBatch_1 rfl (by decide) ?_
  refine go_iconst 3 (v := 5) dX9_isBatch_2 rfl (by decide) ?_
  refine go_SI (M' := mX9_in) 6 dX9_isBatch_3 rfl w_768 okX9_in ⟨Nat.le_of_ble_eq_true rfl, Nat.le_of_ble_eq_true rfl⟩ (m_in G gi _ _ _) rfl rfl (kk := ?_)
  refine go_ifeq_b 23 9 dX9_isBatch_6 (by decide) rfl (fun c_6 => ?_) (fun c_6 => ?_)
  · refine go_iconst 24 (v := 0) dX9_isBatch_23 rfl (by decide) ?_
    exact go_ret_z dX9_isBatch_24 rfl rfl rfl rfl (pI_of (bI_0 (by rintro ⟨b, h1, rfl, h3⟩; exact c_6 ⟨Int32.not_lt.mp (nI_pos (by omega)), nI_le (b := 5) (by omega) (by decide)⟩)) rfl)
  · obtain ⟨b, hb, rfl⟩ := inR_n (c := 5) (by decide) c_6
    refine go_aload_n 10 dX9_isBatch_9 rfl rfl ls_0 ?_
    refine go_iload_n 11 dX9_isBatch_10 rfl rfl (ls_s ls_0) ?_
    refine go_iconst 12 (v := 0) dX9_isBatch_11 rfl (by decide) ?_
    refine go_VI (M' := mX9_of) 15 dX9_isBatch_12 rfl w_791 okX9_of ⟨Nat.le_of_ble_eq_true rfl, Nat.le_of_ble_eq_true rfl⟩ (m_of G gi (j := 145 + 9 * b) rfl (by omega)) rfl rfl o335 (by decide) rfl (kk := ?_)
    refine go_iconst 16 (v := 1) dX9_isBatch_15 rfl (by decide) ?_
    refine go_icmp_ne 23 19 dX9_isBatch_16 (by decide) rfl (fun c_16 => ?_) (fun c_16 => ?_)
    · refine go_iconst 24 (v := 0) dX9_isBatch_23 rfl (by decide) ?_
      exact go_ret_z dX9_isBatch_24 rfl rfl rfl rfl (pI_of (bI_0 (by rintro ⟨q, h1, h2, h3⟩; have := nI_in_r (by omega) (by omega) h2; subst this; exact c_16 h3)) rfl)
    · refine go_iconst 20 (v := 1) dX9_isBatch_19 rfl (by decide) ?_
      refine go_goto 24 dX9_isBatch_20 (by decide) ?_
      exact go_ret_z dX9_isBatch_24 rfl rfl rfl rfl (pI_of (bI_1 ⟨b, hb, rfl, c_16⟩) rfl)
set_option maxHeartbeats 4000000 in
set_option maxRecDepth 100000 in
theorem m_over (G : BcG) {gi : GI} {N : Nat} (I : Inv N (gi 336)) {b : Nat} (hb : b < 6) (hl : live (gi 336) b) : Ct G mX9_over [.ref (G.1 + 335), .int (nI b)] (hp gi) (pI (ovF (gi 336) b) (hp gi)) := by
  have i := I.b1 hb hl
  have hr4 := I.bR4 hb hl
  have hs4 := I.bS4 hb hl
  refine ct_of [some (.ref (G.1 + 335)), some (.int (nI b))] w_10 (by decide) rfl (Nat.le_of_ble_eq_true rfl) rfl ?_
  refine go_aload_n 1 dX9_over_0 rfl rfl ls_0 ?_
  refine go_iload_n 2 dX9_over_1 rfl rfl (ls_s ls_0) ?_
  refine go_iconst 3 (v := 5) dX9_over_2 rfl (by decide) ?_
  refine go_VI (M' := mX9_of) 6 dX9_over_3 rfl w_791 okX9_of ⟨Nat.le_of_ble_eq_true rfl, Nat.le_of_ble_eq_true rfl⟩ (m_of G gi (j := 145 + 9 * b + 5) rfl (by omega)) rfl rfl o335 (by decide) rfl (kk := ?_)
  refine go_aload_n 7 dX9_over_6 rfl rfl ls_0 ?_
  refine go_aload_n 8 dX9_over_7 rfl rfl ls_0 ?_
  refine go_iload_n 9 dX9_over_8 rfl rfl (ls_s ls_0) ?_
  refine go_iconst 10 (v := 1) dX9_over_9 rfl (by decide) ?_
  refine go_VI (M' := mX9_of) 13 dX9_over_10 rfl w_791 okX9_of ⟨Nat.le_of_ble_eq_true rfl, Nat.le_of_ble_eq_true rfl⟩ (m_of G gi (j := 145 + 9 * b + 1) rfl (by omega)) rfl rfl o335 (by decide) rfl (kk := ?_)
  refine go_top (y := (nI (bR (gi 336) b))) i.1.1 ?_
  refine go_aload_n 14 dX9_over_13 rfl rfl ls_0 ?_
  refine go_iload_n 15 dX9_over_14 rfl rfl (ls_s ls_0) ?_
  refine go_iconst 16 (v := 3) dX9_over_15 rfl (by decide) ?_
  refine go_VI (M' := mX9_of) 19 dX9_over_16 rfl w_791 okX9_of ⟨Nat.le_of_ble_eq_true rfl, Nat.le_of_ble_eq_true rfl⟩ (m_of G gi (j := 145 + 9 * b + 3) rfl (by omega)) rfl rfl o335 (by decide) rfl (kk := ?_)
  refine go_top (y := (nI (bS (gi 336) b))) i.2.1.1 ?_
  refine go_iconst 20 (v := 1) dX9_over_19 rfl (by decide) ?_
  refine go_VI (M' := mX9_ofStage) 23 dX9_over_20 rfl w_826 okX9_ofStage ⟨Nat.le_of_ble_eq_true rfl, Nat.le_of_ble_eq_true rfl⟩ (m_ofStage G gi (j := 31 + 18 * ((bR (gi 336) b)) + 2 + 4 * ((bS (gi 336) b)) + 1) rfl (by omega)) rfl rfl o335 (by decide) rfl (kk := ?_)
  refine go_iadd 24 dX9_over_23 rfl ?_
  exact go_ret_i dX9_over_24 rfl rfl rfl (pI_of rfl rfl)
set_option maxHeartbeats 4000000 in
set_option maxRecDepth 100000 in
theorem m_ripeAt (G : BcG) {gi : GI} {N : Nat} (I : Inv N (gi 336)) {b : Nat} (hb : b < 6) (hl : live (gi 336) b) : Ct G mX9_ripeAt [.ref (G.1 + 335), .int (nI b)] (hp gi) (pI (rpF (gi 336) b) (hp gi)) := by
  have i := I.b1 hb hl
  have hr4 := I.bR4 hb hl
  have hs4 := I.bS4 hb hl
  refine ct_of [some (.ref (G.1 + 335)), some (.int (nI b))] w_10 (by decide) rfl (Nat.le_of_ble_eq_true rfl) rfl ?_
  refine go_aload_n 1 dX9_ripeAt_0 rfl rfl ls_0 ?_
  refine go_iload_n 2 dX9_ripeAt_1 rfl rfl (ls_s ls_0) ?_
  refine go_VI (M' := mX9_over) 5 dX9_ripeAt_2 rfl w_874 okX9_over ⟨Nat.le_of_ble_eq_true rfl, Nat.le_of_ble_eq_true rfl⟩ (m_over G I hb hl) rfl rfl o335 (by decide) rfl (kk := ?_)
  refine go_aload_n 6 dX9_ripeAt_5 rfl rfl ls_0 ?_
  refine go_aload_n 7 dX9_ripeAt_6 rfl rfl ls_0 ?_
  refine go_iload_n 8 dX9_ripeAt_7 rfl rfl (ls_s ls_0) ?_
  refine go_iconst 9 (v := 1) dX9_ripeAt_8 rfl (by decide) ?_
  refine go_VI (M' := mX9_of) 12 dX9_ripeAt_9 rfl w_791 okX9_of ⟨Nat.le_of_ble_eq_true rfl, Nat.le_of_ble_eq_true rfl⟩ (m_of G gi (j := 145 + 9 * b + 1) rfl (by omega)) rfl rfl o335 (by decide) rfl (kk := ?_)
  refine go_top (y := (nI (bR (gi 336) b))) i.1.1 ?_
  refine go_aload_n 13 dX9_ripeAt_12 rfl rfl ls_0 ?_
  refine go_iload_n 14 dX9_ripeAt_13 rfl rfl (ls_s ls_0) ?_
  refine go_iconst 15 (v := 3) dX9_ripeAt_14 rfl (by decide) ?_
  refine go_VI (M' := mX9_of) 18 dX9_ripeAt_15 rfl w_791 okX9_of ⟨Nat.le_of_ble_eq_true rfl, Nat.le_of_ble_eq_true rfl⟩ (m_of G gi (j := 145 + 9 * b + 3) rfl (by omega)) rfl rfl o335 (by decide) rfl (kk := ?_)
  refine go_top (y := (nI (bS (gi 336) b))) i.2.1.1 ?_
  refine go_iconst 19 (v := 2) dX9_ripeAt_18 rfl (by decide) ?_
  refine go_VI (M' := mX9_ofStage) 22 dX9_ripeAt_19 rfl w_826 okX9_ofStage ⟨Nat.le_of_ble_eq_true rfl, Nat.le_of_ble_eq_true rfl⟩ (m_ofStage G gi (j := 31 + 18 * ((bR (gi 336) b)) + 2 + 4 * ((bS (gi 336) b)) + 2) rfl (by omega)) rfl rfl o335 (by decide) rfl (kk := ?_)
  refine go_iadd 23 dX9_ripeAt_22 rfl ?_
  exact go_ret_i dX9_ripeAt_23 rfl rfl rfl (pI_of rfl rfl)
set_option maxHeartbeats 4000000 in
set_option maxRecDepth 100000 in
theorem m_goodTill (G : BcG) {gi : GI} {N : Nat} (I : Inv N (gi 336)) {b : Nat} (hb : b < 6) (hl : live (gi 336) b) : Ct G mX9_goodTill [.ref (G.1 + 335), .int (nI b)] (hp gi) (pI (gdF (gi 336) b) (hp gi)) := by
  have i := I.b1 hb hl
  have hr4 := I.bR4 hb hl
  have hs4 := I.bS4 hb hl
  refine ct_of [some (.ref (G.1 + 335)), some (.int (nI b))] w_10 (by decide) rfl (Nat.le_of_ble_eq_true rfl) rfl ?_
  refine go_aload_n 1 dX9_goodTill_0 rfl rfl ls_0 ?_
  refine go_iload_n 2 dX9_goodTill_1 rfl rfl (ls_s ls_0) ?_
  refine go_VI (M' := mX9_over) 5 dX9_goodTill_2 rfl w_874 okX9_over ⟨Nat.le_of_ble_eq_true rfl, Nat.le_of_ble_eq_true rfl⟩ (m_over G I hb hl) rfl rfl o335 (by decide) rfl (kk := ?_)
  refine go_aload_n 6 dX9_goodTill_5 rfl rfl ls_0 ?_
  refine go_aload_n 7 dX9_goodTill_6 rfl rfl ls_0 ?_
  refine go_iload_n 8 dX9_goodTill_7 rfl rfl (ls_s ls_0) ?_
  refine go_iconst 9 (v := 1) dX9_goodTill_8 rfl (by decide) ?_
  refine go_VI (M' := mX9_of) 12 dX9_goodTill_9 rfl w_791 okX9_of ⟨Nat.le_of_ble_eq_true rfl, Nat.le_of_ble_eq_true rfl⟩ (m_of G gi (j := 145 + 9 * b + 1) rfl (by omega)) rfl rfl o335 (by decide) rfl (kk := ?_)
  refine go_top (y := (nI (bR (gi 336) b))) i.1.1 ?_
  refine go_aload_n 13 dX9_goodTill_12 rfl rfl ls_0 ?_
  refine go_iload_n 14 dX9_goodTill_13 rfl rfl (ls_s ls_0) ?_
  refine go_iconst 15 (v := 3) dX9_goodTill_14 rfl (by decide) ?_
  refine go_VI (M' := mX9_of) 18 dX9_goodTill_15 rfl w_791 okX9_of ⟨Nat.le_of_ble_eq_true rfl, Nat.le_of_ble_eq_true rfl⟩ (m_of G gi (j := 145 + 9 * b + 3) rfl (by omega)) rfl rfl o335 (by decide) rfl (kk := ?_)
  refine go_top (y := (nI (bS (gi 336) b))) i.2.1.1 ?_
  refine go_iconst 19 (v := 3) dX9_goodTill_18 rfl (by decide) ?_
  refine go_VI (M' := mX9_ofStage) 22 dX9_goodTill_19 rfl w_826 okX9_ofStage ⟨Nat.le_of_ble_eq_true rfl, Nat.le_of_ble_eq_true rfl⟩ (m_ofStage G gi (j := 31 + 18 * ((bR (gi 336) b)) + 2 + 4 * ((bS (gi 336) b)) + 3) rfl (by omega)) rfl rfl o335 (by decide) rfl (kk := ?_)
  refine go_iadd 23 dX9_goodTill_22 rfl ?_
  exact go_ret_i dX9_goodTill_23 rfl rfl rfl (pI_of rfl rfl)
set_option maxHeartbeats 4000000 in
set_option maxRecDepth 100000 in
theorem m_isRipe (G : BcG) {gi : GI} {N : Nat} (I : Inv N (gi 336)) {b : Nat} (hb : b < 6) (hl : live (gi 336) b) : Ct G mX9_isRipe [.ref (G.1 + 335), .int (nI b)] (hp gi) (pI (bI (rpF (gi 336) b ≤ gi 336 5)) (hp gi)) := by
  refine ct_of [some (.ref (G.1 + 335)), some (.int (nI b))] w_10 (by decide) rfl (Nat.le_of_ble_eq_true rfl) rfl ?_
  refine go_aload_n 1 dX9_isRipe_0 rfl rfl ls_0 ?_
  refine gp_getR 4 dX9_isRipe_1 rfl f_X9_7 rfl o335 rfl ?_
  refine go_iconst 5 (v := 5) dX9_isRipe_4 rfl (by decide) ?_
  refine gp_ialdN 6 (i := 5) dX9_isRipe_5 rfl a336 rfl (by decide) (by decide) ?_
  refine go_aload_n 7 dX9_isRipe_6 rfl rfl ls_0 ?_
  refine go_iload_n 8 dX9_isRipe_7 rfl rfl (ls_s ls_0) ?_
  refine go_VI (M' := mX9_ripeAt) 11 dX9_isRipe_8 rfl w_870 okX9_ripeAt ⟨Nat.le_of_ble_eq_true rfl, Nat.le_of_ble_eq_true rfl⟩ (m_ripeAt G I hb hl) rfl rfl o335 (by decide) rfl (kk := ?_)
  refine go_icmp_lt 18 14 dX9_isRipe_11 (by decide) rfl (fun c_11 => ?_) (fun c_11 => ?_)
  · refine go_iconst 19 (v := 0) dX9_isRipe_18 rfl (by decide) ?_
    exact go_ret_z dX9_isRipe_19 rfl rfl rfl rfl (pI_of (bI_0 (Int32.not_le.mpr c_11)) rfl)
  · refine go_iconst 15 (v := 1) dX9_isRipe_14 rfl (by decide) ?_
    refine go_goto 19 dX9_isRipe_15 (by decide) ?_
    exact go_ret_z dX9_isRipe_19 rfl rfl rfl rfl (pI_of (bI_1 (Int32.not_lt.mp c_11)) rfl)
theorem cl_ix {x : Int32} {l p : Nat} (h : x = nI l) : (15 : Int32) + 4 * x + nI p = nI (15 + 4 * l + p) := by rw [h]; exact ix9 15 4 l p
set_option maxHeartbeats 4000000 in
set_option maxRecDepth 100000 in
theorem m_cleans (G : BcG) {gi : GI} {N : Nat} (I : Inv N (gi 336)) {v p : Nat} (hv6 : v < 6) (hp4 : p < 4) : Ct G mX9_cleans [.ref (G.1 + 335), .int (nI v), .int (nI p)] (hp gi) (pI (clF (gi 336) v (nI p)) (hp gi)) := by
  refine ct_of [some (.ref (G.1 + 335)), some (.int (nI v)), some (.int (nI p))] w_10 (by decide) rfl (Nat.le_of_ble_eq_true rfl) rfl ?_
  refine go_aload_n 1 dX9_cleans_0 rfl rfl ls_0 ?_
  refine go_iload_n 2 dX9_cleans_1 rfl rfl (ls_s ls_0) ?_
  refine go_iconst 3 (v := 3) dX9_cleans_2 rfl (by decide) ?_
  refine go_VI (M' := mX9_ofVessel) 6 dX9_cleans_3 rfl w_842 okX9_ofVessel ⟨Nat.le_of_ble_eq_true rfl, Nat.le_of_ble_eq_true rfl⟩ (m_ofVessel G gi (j := 103 + 5 * v + 3) rfl (by omega)) rfl rfl o335 (by decide) rfl (kk := ?_)
  refine go_if_ge 13 9 dX9_cleans_6 (by decide) rfl (fun c_6 => ?_) (fun c_6 => ?_)
  · have hl3 := (I.2.2.2.1 v hv6).2.2.2.1.resolve_left (fun z => Int32.not_lt.mpr c_6 (by rw [z]; decide))
    refine go_aload_n 14 dX9_cleans_13 rfl rfl ls_0 ?_
    refine gp_getR 17 dX9_cleans_14 rfl f_X9_7 rfl o335 rfl ?_
    refine go_bipush 19 (v := 15) dX9_cleans_17 rfl (by decide) ?_
    refine go_iconst 20 (v := 4) dX9_cleans_19 rfl (by decide) ?_
    refine go_aload_n 21 dX9_cleans_20 rfl rfl ls_0 ?_
    refine go_iload_n 22 dX9_cleans_21 rfl rfl (ls_s ls_0) ?_
    refine go_iconst 23 (v := 3) dX9_cleans_22 rfl (by decide) ?_
    refine go_VI (M' := mX9_ofVessel) 26 dX9_cleans_23 rfl w_842 okX9_ofVessel ⟨Nat.le_of_ble_eq_true rfl, Nat.le_of_ble_eq_true rfl⟩ (m_ofVessel G gi (j := 103 + 5 * v + 3) rfl (by omega)) rfl rfl o335 (by decide) rfl (kk := ?_)
    refine go_imul 27 dX9_cleans_26 rfl ?_
    refine go_iadd 28 dX9_cleans_27 rfl ?_
    refine go_iload_n 29 dX9_cleans_28 rfl rfl (ls_s (ls_s ls_0)) ?_
    refine go_iadd 30 dX9_cleans_29 rfl ?_
    refine gp_ialdN 31 (i := (15 + 4 * (iN (gi 336 (103 + 5 * v + 3))) + p)) dX9_cleans_30 rfl a336 (cl_ix hl3.1) (by have := hl3.2; omega) (by decide) ?_
    exact go_ret_i dX9_cleans_31 rfl rfl rfl (pI_of (by rw [clF, cIf_f (Int32.not_lt.mpr c_6), iN_n (n := p) (by omega)]) rfl)
  · refine go_iconst 10 (v := 0) dX9_cleans_9 rfl (by decide) ?_
    refine go_goto 31 dX9_cleans_10 (by decide) ?_
    exact go_ret_i dX9_cleans_31 rfl rfl rfl (pI_of (by rw [clF, cIf_t (Int32.not_le.mp c_6)]) rfl)
set_option maxHeartbeats 4000000 in
set_option maxRecDepth 100000 in
theorem m_takes (G : BcG) (gi : GI) {v : Nat} (hv6 : v < 6) (x m : Int32) : Ct G mX9_takes [.ref (G.1 + 335), .int (nI v), .int x, .int m] (hp gi) (pI (bI (tkF (gi 336) v x m)) (hp gi)) := by
  refine ct_of [some (.ref (G.1 + 335)), some (.int (nI v)), some (.int x), some (.int m)] w_10 (by decide) rfl (Nat.le_of_ble_eq_true rfl) rfl ?_
  refine go_aload_n 1 dX9_takes_0 rfl rfl ls_0 ?_
  refine go_iload_n 2 dX9_takes_1 rfl rfl (ls_s ls_0) ?_
  refine go_iconst 3 (v := 2) dX9_takes_2 rfl (by decide) ?_
  refine go_VI (M' := mX9_ofVessel) 6 dX9_takes_3 rfl w_842 okX9_ofVessel ⟨Nat.le_of_ble_eq_true rfl, Nat.le_of_ble_eq_true rfl⟩ (m_ofVessel G gi (j := 103 + 5 * v + 2) rfl (by omega)) rfl rfl o335 (by decide) rfl (kk := ?_)
  refine go_if_ge 33 9 dX9_takes_6 (by decide) rfl (fun c_6 => ?_) (fun c_6 => ?_)
  · refine go_iconst 34 (v := 0) dX9_takes_33 rfl (by decide) ?_
    exact go_ret_z dX9_takes_34 rfl rfl rfl rfl (pI_of (bI_0 (fun z => absurd z.1 (Int32.not_lt.mpr c_6))) rfl)
  · refine go_aload_n 10 dX9_takes_9 rfl rfl ls_0 ?_
    refine go_iload_n 11 dX9_takes_10 rfl rfl (ls_s ls_0) ?_
    refine go_iconst 12 (v := 0) dX9_takes_11 rfl (by decide) ?_
    refine go_VI (M' := mX9_ofVessel) 15 dX9_takes_12 rfl w_842 okX9_ofVessel ⟨Nat.le_of_ble_eq_true rfl, Nat.le_of_ble_eq_true rfl⟩ (m_ofVessel G gi (j := 103 + 5 * v) rfl (by omega)) rfl rfl o335 (by decide) rfl (kk := ?_)
    refine go_iload_n 16 dX9_takes_15 rfl rfl (ls_s (ls_s ls_0)) ?_
    refine go_icmp_ne 33 19 dX9_takes_16 (by decide) rfl (fun c_16 => ?_) (fun c_16 => ?_)
    · refine go_iconst 34 (v := 0) dX9_takes_33 rfl (by decide) ?_
      exact go_ret_z dX9_takes_34 rfl rfl rfl rfl (pI_of (bI_0 (fun z => c_16 z.2.1)) rfl)
    · refine go_aload_n 20 dX9_takes_19 rfl rfl ls_0 ?_
      refine go_iload_n 21 dX9_takes_20 rfl rfl (ls_s ls_0) ?_
      refine go_iconst 22 (v := 1) dX9_takes_21 rfl (by decide) ?_
      refine go_VI (M' := mX9_ofVessel) 25 dX9_takes_22 rfl w_842 okX9_ofVessel ⟨Nat.le_of_ble_eq_true rfl, Nat.le_of_ble_eq_true rfl⟩ (m_ofVessel G gi (j := 103 + 5 * v + 1) rfl (by omega)) rfl rfl o335 (by decide) rfl (kk := ?_)
      refine go_iload_n 26 dX9_takes_25 rfl rfl (ls_s (ls_s (ls_s ls_0))) ?_
      refine go_icmp_lt 33 29 dX9_takes_26 (by decide) rfl (fun c_26 => ?_) (fun c_26 => ?_)
      · refine go_iconst 34 (v := 0) dX9_takes_33 rfl (by decide) ?_
        exact go_ret_z dX9_takes_34 rfl rfl rfl rfl (pI_of (bI_0 (fun z => absurd z.2.2 (Int32.not_le.mpr c_26))) rfl)
      · refine go_iconst 30 (v := 1) dX9_takes_29 rfl (by decide) ?_
        refine go_goto 34 dX9_takes_30 (by decide) ?_
        exact go_ret_z dX9_takes_34 rfl rfl rfl rfl (pI_of (bI_1 ⟨Int32.not_le.mp c_6, c_16, Int32.not_lt.mp c_26⟩) rfl)
