/-! PLANTS: soonest, urgent, copies -/
set_option maxHeartbeats 4000000 in
set_option maxRecDepth 100000 in
theorem lp_earliest (G : BcG) {gi : GI} {P : Nat} (hP : isP P) {N : Nat} {A : AA} (h : Rel P A gi) (I : Inv N A) {b : Nat} (hb : b < 6) (hl : live A b) (hr4 : bR A b < 4) (hcS : gi (P + 8 + 6 * bR A b) 1 = nI (nS A (bR A b))) : ∀ (n i : Nat) (m t : Int32), i + n = nS A (bR A b) → BGo G mX3_earliestEnd (KM G mX3_earliestEnd 341 (pI (snF A (bR A b) i n m t) (hp gi))) (hp gi) 0 0 42 [some (.ref (G.1 + P)), some (.ref (G.1 + (P + 41 + b))), some (.ref (G.1 + (P + 8 + 6 * (bR A b)))), some (.int t), some (.int m), some (.int (nI i)), none] [] := by
  intro n
  induction n with
  | zero =>
    intro i m t hn 
    obtain rfl : i = nS A (bR A b) := by omega
    refine go_iload 44 dX3_earliestEnd_42 rfl (ls_s (ls_s (ls_s (ls_s (ls_s ls_0))))) ?_
    refine go_aload_n 45 dX3_earliestEnd_44 rfl rfl (ls_s (ls_s ls_0)) ?_
    refine gp_getI 48 dX3_earliestEnd_45 rfl f_X3_117 rfl (tR hP hr4) ?_
    refine go_top (y := (nI (nS A (bR A b)))) hcS ?_
    refine go_icmp_ge 112 51 dX3_earliestEnd_48 (by decide) rfl (fun c_48 => ?_) (fun c_48 => absurd (Int32.le_refl _) c_48)
    refine go_iload_n 113 dX3_earliestEnd_112 rfl rfl (ls_s (ls_s (ls_s ls_0))) ?_
    exact go_ret_i dX3_earliestEnd_113 rfl rfl rfl (pI_of rfl rfl)
  | succ n ih =>
    intro i m t hn 
    have hS4 := I.nS4 hr4
    have hk : i < nS A (bR A b) := by omega
    have hk4 : i < 4 := by omega
    have hq := (h.2.1 _ hr4).2.2 i hk4
    refine go_iload 44 dX3_earliestEnd_42 rfl (ls_s (ls_s (ls_s (ls_s (ls_s ls_0))))) ?_
    refine go_aload_n 45 dX3_earliestEnd_44 rfl rfl (ls_s (ls_s ls_0)) ?_
    refine gp_getI 48 dX3_earliestEnd_45 rfl f_X3_117 rfl (tR hP hr4) ?_
    refine go_top (y := (nI (nS A (bR A b)))) hcS ?_
    refine go_icmp_ge 112 51 dX3_earliestEnd_48 (by decide) rfl (fun c_48 => absurd c_48 (nI_ge hk (by omega))) (fun c_48 => ?_)
    refine go_aload_n 52 dX3_earliestEnd_51 rfl rfl (ls_s (ls_s ls_0)) ?_
    refine go_iload 54 dX3_earliestEnd_52 rfl (ls_s (ls_s (ls_s (ls_s (ls_s ls_0))))) ?_
    refine go_VA (M' := mX4_stageAt) 57 dX3_earliestEnd_54 rfl w_383 okX4_stageAt ⟨Nat.le_of_ble_eq_true rfl, Nat.le_of_ble_eq_true rfl⟩ (Ct.weak (ct_stageAt G gi hP hr4 _ (nS A (bR A b)) hcS (I.nS4 hr4)) (pAt_y (n := nS A (bR A b)) (f := fun q => P + 10 + 6 * bR A b + q) (c := fun _ => True) (by have := I.nS4 hr4; omega) hk trivial)) rfl rfl (tR hP hr4) (by decide) rfl (kk := ?_)
    refine go_astore 59 dX3_earliestEnd_57 rfl (by decide) (st_s (st_s (st_s (st_s (st_s (st_s st_0)))))) ?_
    refine go_aload 61 dX3_earliestEnd_59 rfl (ls_s (ls_s (ls_s (ls_s (ls_s (ls_s ls_0)))))) ?_
    refine go_ifnull 64 dX3_earliestEnd_61 rfl ?_
    refine go_aload_n 65 dX3_earliestEnd_64 rfl rfl ls_0 ?_
    refine go_aload 67 dX3_earliestEnd_65 rfl (ls_s (ls_s (ls_s (ls_s (ls_s (ls_s ls_0)))))) ?_
    refine gp_getI 70 dX3_earliestEnd_67 rfl f_X3_128 rfl (tS hP hr4 hk4) ?_
    refine go_top (y := (stg A (bR A b) i 0)) hq.1 ?_
    refine go_iload 72 dX3_earliestEnd_70 rfl (ls_s (ls_s (ls_s (ls_s ls_0)))) ?_
    refine go_VI (M' := mX3_hasVesselFor) 75 dX3_earliestEnd_72 rfl w_646 okX3_hasVesselFor ⟨Nat.le_of_ble_eq_true rfl, Nat.le_of_ble_eq_true rfl⟩ (ct_hasVesselFor G hP h I _ _) rfl rfl (tP hP) (by decide) rfl (kk := ?_)
    refine go_ifne_b 81 78 dX3_earliestEnd_75 (by decide) rfl (fun c_75 => ?_) (fun c_75 => ?_)
    · refine go_iload 83 dX3_earliestEnd_81 rfl (ls_s (ls_s (ls_s (ls_s ls_0)))) ?_
      refine go_aload_n 84 dX3_earliestEnd_83 rfl rfl ls_0 ?_
      refine go_iload 86 dX3_earliestEnd_84 rfl (ls_s (ls_s (ls_s (ls_s ls_0)))) ?_
      refine go_VI (M' := mX3_transferLoss) 89 dX3_earliestEnd_86 rfl w_515 okX3_transferLoss ⟨Nat.le_of_ble_eq_true rfl, Nat.le_of_ble_eq_true rfl⟩ (ct_transferLoss G _ hP _) rfl rfl (tP hP) (by decide) rfl (kk := ?_)
      refine go_top (y := (lsF A m)) (by rw [h.2.2.2.2.2.2.1]; rfl) ?_
      refine go_isub 90 dX3_earliestEnd_89 rfl ?_
      refine go_istore 92 dX3_earliestEnd_90 rfl (by decide) (st_s (st_s (st_s (st_s st_0)))) ?_
      refine go_iload_n 93 dX3_earliestEnd_92 rfl rfl (ls_s (ls_s (ls_s ls_0))) ?_
      refine go_aload 95 dX3_earliestEnd_93 rfl (ls_s (ls_s (ls_s (ls_s (ls_s (ls_s ls_0)))))) ?_
      refine gp_getI 98 dX3_earliestEnd_95 rfl f_X3_133 rfl (tS hP hr4 hk4) ?_
      refine go_top (y := (stg A (bR A b) i 1)) hq.2.1 ?_
      refine go_aload 100 dX3_earliestEnd_98 rfl (ls_s (ls_s (ls_s (ls_s (ls_s (ls_s ls_0)))))) ?_
      refine gp_getI 103 dX3_earliestEnd_100 rfl f_X3_136 rfl (tS hP hr4 hk4) ?_
      refine go_top (y := (stg A (bR A b) i 2)) hq.2.2.1 ?_
      refine go_iadd 104 dX3_earliestEnd_103 rfl ?_
      refine go_iadd 105 dX3_earliestEnd_104 rfl ?_
      refine go_istore_n 106 dX3_earliestEnd_105 rfl rfl (by decide) (st_s (st_s (st_s st_0))) ?_
      refine go_iinc 109 (v := (nI (i + 1))) dX3_earliestEnd_106 rfl (ls_s (ls_s (ls_s (ls_s (ls_s ls_0))))) (by exact nI_1 i) (by decide) (st_s (st_s (st_s (st_s (st_s st_0))))) ?_
      refine go_goto 42 dX3_earliestEnd_109 (by decide) ?_
      rw [show snF A (bR A b) i (n + 1) m t = snF A (bR A b) (i + 1) n (m - lsF A m) (t + (stg A (bR A b) i 1 + stg A (bR A b) i 2)) from by rw [snF, cIf_f (fun z => z c_75)]]
      refine go_less (le_k (le_k (le_k (le_k (le_k (le_k (le_n le_0))))))) ?_
      exact ih (i + 1) _ _ (by omega)
    · refine go_bipush 80 (v := (-4)) dX3_earliestEnd_78 rfl (by decide) ?_
      exact go_ret_i dX3_earliestEnd_80 rfl rfl rfl (pI_of (by rw [snF, cIf_t c_75]) rfl)
set_option maxHeartbeats 4000000 in
set_option maxRecDepth 100000 in
theorem ct_earliestEnd (G : BcG) {gi : GI} {P : Nat} (hP : isP P) {N : Nat} {A : AA} (h : Rel P A gi) (I : Inv N A) {b : Nat} (hb : b < 6) (hl : live A b) : Ct G mX3_earliestEnd [.ref (G.1 + P), .ref (G.1 + (P + 41 + b))] (hp gi) (pI (snF A (bR A b) (bS A b + 1) (nS A (bR A b) - (bS A b + 1)) (A (145 + 9 * b + 2)) (cIf (rpF A b ≤ A 5) (A 5) (rpF A b))) (hp gi)) := by
  have hr4 := I.bR4 hb hl
  have hcS := (h.2.1 _ hr4).2.1.trans (I.eS hr4)
  have hS4 := I.nS4 hr4
  have hB := (h.2.2.2.2.1 b hb).2 hl
  have i := I.b1 hb hl
  refine ct_of [some (.ref (G.1 + P)), some (.ref (G.1 + (P + 41 + b))), none, none, none, none, none] w_2 (by decide) rfl (Nat.le_of_ble_eq_true rfl) rfl ?_
  refine go_aload_n 1 dX3_earliestEnd_0 rfl rfl ls_0 ?_
  refine go_aload_n 2 dX3_earliestEnd_1 rfl rfl (ls_s ls_0) ?_
  refine gp_getI 5 dX3_earliestEnd_2 rfl f_X3_142 rfl (tB hP hb) ?_
  refine go_top (y := (nI (bR A b))) (hB.1.trans i.1.1) ?_
  refine go_VA (M' := mX3_recipeAt) 8 dX3_earliestEnd_5 rfl w_362 okX3_recipeAt ⟨Nat.le_of_ble_eq_true rfl, Nat.le_of_ble_eq_true rfl⟩ (Ct.weak (ct_recipeAt G gi hP _ (nR A) (h.1.1.trans I.eR) I.nR4) (pAt_y (n := nR A) (f := fun r => P + 8 + 6 * r) (c := fun _ => True) (by have := I.nR4; omega) i.1.2 trivial)) rfl rfl (tP hP) (by decide) rfl (kk := ?_)
  refine go_astore_n 9 dX3_earliestEnd_8 rfl rfl (by decide) (st_s (st_s st_0)) ?_
  refine go_aload_n 10 dX3_earliestEnd_9 rfl rfl ls_0 ?_
  refine gp_getI 13 dX3_earliestEnd_10 rfl f_X3_71 rfl (tP hP) ?_
  refine go_top (y := (A 5)) h.1.2.2.2.1 ?_
  refine go_aload_n 14 dX3_earliestEnd_13 rfl rfl (ls_s ls_0) ?_
  refine gp_getI 17 dX3_earliestEnd_14 rfl f_X3_279 rfl (tB hP hb) ?_
  refine go_top (y := (rpF A b)) hB.2.2.2.2.2.2.2.2.2.2.1 ?_
  refine go_mmax 20 dX3_earliestEnd_17 rfl w_645 w_577 w_11 w_578 (by decide) (Nat.le_of_ble_eq_true rfl) (by decide) (by decide) ?_
  refine go_top (y := (cIf (rpF A b ≤ A 5) (A 5) (rpF A b))) (by by_cases z : rpF A b ≤ A 5; rw [cIf_t z, if_neg (Int32.not_lt.mpr z)]; rw [cIf_f z, if_pos (Int32.not_le.mp z)]) ?_
  refine go_istore_n 21 dX3_earliestEnd_20 rfl rfl (by decide) (st_s (st_s (st_s st_0))) ?_
  refine go_aload_n 22 dX3_earliestEnd_21 rfl rfl (ls_s ls_0) ?_
  refine gp_getI 25 dX3_earliestEnd_22 rfl f_X3_221 rfl (tB hP hb) ?_
  refine go_top (y := (A (145 + 9 * b + 2))) hB.2.2.2.1 ?_
  refine go_istore 27 dX3_earliestEnd_25 rfl (by decide) (st_s (st_s (st_s (st_s st_0)))) ?_
  refine go_aload_n 28 dX3_earliestEnd_27 rfl rfl (ls_s (ls_s ls_0)) ?_
  refine go_ifnonnull 34 dX3_earliestEnd_28 (by decide) ?_
  refine go_aload_n 35 dX3_earliestEnd_34 rfl rfl (ls_s ls_0) ?_
  refine gp_getI 38 dX3_earliestEnd_35 rfl f_X3_236 rfl (tB hP hb) ?_
  refine go_top (y := (nI (bS A b))) (hB.2.2.2.2.2.2.1.trans i.2.1.1) ?_
  refine go_iconst 39 (v := 1) dX3_earliestEnd_38 rfl (by decide) ?_
  refine go_iadd 40 dX3_earliestEnd_39 rfl ?_
  refine go_top (y := (nI (bS A b + 1))) (nI_1 _) ?_
  refine go_istore 42 dX3_earliestEnd_40 rfl (by decide) (st_s (st_s (st_s (st_s (st_s st_0))))) ?_
  exact lp_earliest G hP h I hb hl hr4 hcS (nS A (bR A b) - (bS A b + 1)) (bS A b + 1) _ _ (by have := i.2.1.2; omega)
theorem ct_batY (G : BcG) {gi : GI} {P N b : Nat} (hP : isP P) {A : AA} (h : Rel P A gi) (I : Inv N A) (hb : b < 6) (hl : live A b) : Ct G mX3_batchAt [.ref (G.1 + P), .int (nI b)] (hp gi) (pA (G.1 + (P + 41 + b)) (hp gi)) :=
  Ct.weak (ct_batchAt G gi hP _) (pAt_y (n := 6) (f := fun r => P + 41 + r) (c := fun r => ¬ gi (P + 41 + r) 0 = 0) (by decide) hb ((live_iff h I hb).mpr hl))
theorem ct_batN (G : BcG) {gi : GI} {P N b : Nat} (hP : isP P) {A : AA} (h : Rel P A gi) (I : Inv N A) (hb : b < 6) (hl : ¬ live A b) : Ct G mX3_batchAt [.ref (G.1 + P), .int (nI b)] (hp gi) (pZ (hp gi)) :=
  Ct.weak (ct_batchAt G gi hP _) (pAt_n (n := 6) (f := fun r => P + 41 + r) (c := fun r => ¬ gi (P + 41 + r) 0 = 0) (fun ⟨r, hr, e, hc⟩ => by
    have := nI_in_r (by omega) (by omega) e
    subst this
    exact hl ((live_iff h I hr).mp hc)))
set_option maxHeartbeats 4000000 in
set_option maxRecDepth 100000 in
theorem ct_canSpoil (G : BcG) {gi : GI} {P : Nat} (hP : isP P) {N : Nat} {A : AA} (h : Rel P A gi) (I : Inv N A) {b : Nat} (hb : b < 6) : Ct G mX3_canSpoil [.ref (G.1 + P), .int (nI b)] (hp gi) (pI (bI (cnS A b)) (hp gi)) := by
  refine ct_of [some (.ref (G.1 + P)), some (.int (nI b)), none] w_2 (by decide) rfl (Nat.le_of_ble_eq_true rfl) rfl ?_
  by_cases hl : live A b
  · have hB := (h.2.2.2.2.1 b hb).2 hl
    refine go_aload_n 1 dX3_canSpoil_0 rfl rfl ls_0 ?_
    refine go_iload_n 2 dX3_canSpoil_1 rfl rfl (ls_s ls_0) ?_
    refine go_VA (M' := mX3_batchAt) 5 dX3_canSpoil_2 rfl w_483 okX3_batchAt ⟨Nat.le_of_ble_eq_true rfl, Nat.le_of_ble_eq_true rfl⟩ (ct_batY G hP h I hb hl) rfl rfl (tP hP) (by decide) rfl (kk := ?_)
    refine go_astore_n 6 dX3_canSpoil_5 rfl rfl (by decide) (st_s (st_s st_0)) ?_
    refine go_aload_n 7 dX3_canSpoil_6 rfl rfl (ls_s (ls_s ls_0)) ?_
    refine go_ifnull 10 dX3_canSpoil_7 rfl ?_
    refine go_aload_n 11 dX3_canSpoil_10 rfl rfl (ls_s (ls_s ls_0)) ?_
    refine gp_getI 14 dX3_canSpoil_11 rfl f_X3_251 rfl (tB hP hb) ?_
    refine go_top (y := (A (145 + 9 * b + 6))) hB.2.2.2.2.2.1 ?_
    refine go_if_ne 21 17 dX3_canSpoil_14 (by decide) rfl (fun c_14 => ?_) (fun c_14 => ?_)
    · refine go_iconst 22 (v := 0) dX3_canSpoil_21 rfl (by decide) ?_
      exact go_ret_z dX3_canSpoil_22 rfl rfl rfl rfl (pI_of (bI_0 (fun z => c_14 z.2)) rfl)
    · refine go_iconst 18 (v := 1) dX3_canSpoil_17 rfl (by decide) ?_
      refine go_goto 22 dX3_canSpoil_18 (by decide) ?_
      exact go_ret_z dX3_canSpoil_22 rfl rfl rfl rfl (pI_of (bI_1 ⟨hl, c_14⟩) rfl)
  · refine go_aload_n 1 dX3_canSpoil_0 rfl rfl ls_0 ?_
    refine go_iload_n 2 dX3_canSpoil_1 rfl rfl (ls_s ls_0) ?_
    refine go_VZ (M' := mX3_batchAt) 5 dX3_canSpoil_2 rfl w_483 okX3_batchAt ⟨Nat.le_of_ble_eq_true rfl, Nat.le_of_ble_eq_true rfl⟩ (ct_batN G hP h I hb hl) rfl rfl (tP hP) (by decide) rfl (kk := ?_)
    refine go_astore_nN 6 dX3_canSpoil_5 rfl rfl (by decide) (st_s (st_s st_0)) ?_
    refine go_aload_nN 7 dX3_canSpoil_6 rfl rfl (ls_s (ls_s ls_0)) ?_
    refine go_ifnullN 21 dX3_canSpoil_7 (by decide) ?_
    refine go_iconst 22 (v := 0) dX3_canSpoil_21 rfl (by decide) ?_
    exact go_ret_z dX3_canSpoil_22 rfl rfl rfl rfl (pI_of (bI_0 (fun z => hl z.1)) rfl)
set_option maxHeartbeats 4000000 in
set_option maxRecDepth 100000 in
theorem lp_ahead (G : BcG) {gi : GI} {P : Nat} (hP : isP P) {N : Nat} {A : AA} (h : Rel P A gi) (I : Inv N A) {b : Nat} (hb : b < 6) (hl : live A b) : ∀ (n i : Nat) (s : Nat), i + n = 6 → BGo G mX3_moreUrgentThan (KM G mX3_moreUrgentThan 341 (pI (nI (ahF A b i n s)) (hp gi))) (hp gi) 0 0 11 [some (.ref (G.1 + P)), some (.int (nI b)), some (.ref (G.1 + (P + 41 + b))), some (.int (nI s)), some (.int (nI i)), none, none, none] [] := by
  intro n
  induction n with
  | zero =>
    intro i s hn 
    obtain rfl : i = 6 := by omega
    refine go_iload 13 dX3_moreUrgentThan_11 rfl (ls_s (ls_s (ls_s (ls_s ls_0)))) ?_
    refine go_aload_n 14 dX3_moreUrgentThan_13 rfl rfl ls_0 ?_
    refine gp_getR 17 dX3_moreUrgentThan_14 rfl f_X3_31 rfl (tP hP) (rB hP) ?_
    refine gp_alen 18 (v := nI 6) dX3_moreUrgentThan_17 rfl (aB hP) (by decide) (by decide) rfl ?_
    refine go_icmp_ge 103 21 dX3_moreUrgentThan_18 (by decide) rfl (fun c_18 => ?_) (fun c_18 => absurd c_18 (by decide))
    refine go_iload_n 104 dX3_moreUrgentThan_103 rfl rfl (ls_s (ls_s (ls_s ls_0))) ?_
    exact go_ret_i dX3_moreUrgentThan_104 rfl rfl rfl (pI_of rfl rfl)
  | succ n ih =>
    intro i s hn 
    have hi : i < 6 := by omega
    have hB := (h.2.2.2.2.1 b hb).2 hl
    have hgk : cnS A i → gi (P + 41 + i) 12 = gdF A i := fun z => ((h.2.2.2.2.1 i hi).2 z.1).2.2.2.2.2.2.2.2.2.2.2
    refine go_iload 13 dX3_moreUrgentThan_11 rfl (ls_s (ls_s (ls_s (ls_s ls_0)))) ?_
    refine go_aload_n 14 dX3_moreUrgentThan_13 rfl rfl ls_0 ?_
    refine gp_getR 17 dX3_moreUrgentThan_14 rfl f_X3_31 rfl (tP hP) (rB hP) ?_
    refine gp_alen 18 (v := nI 6) dX3_moreUrgentThan_17 rfl (aB hP) (by decide) (by decide) rfl ?_
    refine go_icmp_ge 103 21 dX3_moreUrgentThan_18 (by decide) rfl (fun c_18 => absurd c_18 (nI_ge hi (by decide))) (fun c_18 => ?_)
    refine go_aload_n 22 dX3_moreUrgentThan_21 rfl rfl (ls_s (ls_s ls_0)) ?_
    refine go_ifnull 25 dX3_moreUrgentThan_22 rfl ?_
    refine go_aload_n 26 dX3_moreUrgentThan_25 rfl rfl ls_0 ?_
    refine gp_getR 29 dX3_moreUrgentThan_26 rfl f_X3_31 rfl (tP hP) (rB hP) ?_
    refine go_iload 31 dX3_moreUrgentThan_29 rfl (ls_s (ls_s (ls_s (ls_s ls_0)))) ?_
    refine gp_aald 32 (i := i) dX3_moreUrgentThan_31 rfl (aB hP) (by decide) rfl rfl hi (by decide) (rBi hP hi) ?_
    refine gp_getI 35 dX3_moreUrgentThan_32 rfl f_X3_267 rfl (tB hP hi) ?_
    refine go_istore 37 dX3_moreUrgentThan_35 rfl (by decide) (st_s (st_s (st_s (st_s (st_s st_0))))) ?_
    refine go_iload 39 dX3_moreUrgentThan_37 rfl (ls_s (ls_s (ls_s (ls_s (ls_s ls_0))))) ?_
    refine go_aload_n 40 dX3_moreUrgentThan_39 rfl rfl (ls_s (ls_s ls_0)) ?_
    refine gp_getI 43 dX3_moreUrgentThan_40 rfl f_X3_267 rfl (tB hP hb) ?_
    refine go_top (y := (gdF A b)) hB.2.2.2.2.2.2.2.2.2.2.2 ?_
    refine go_icmp_ge 50 46 dX3_moreUrgentThan_43 (by decide) rfl (fun c_43 => ?_) (fun c_43 => ?_)
    · refine go_iconst 51 (v := 0) dX3_moreUrgentThan_50 rfl (by decide) ?_
      refine go_istore 53 dX3_moreUrgentThan_51 rfl (by decide) (st_s (st_s (st_s (st_s (st_s (st_s st_0)))))) ?_
      refine go_iload 55 dX3_moreUrgentThan_53 rfl (ls_s (ls_s (ls_s (ls_s (ls_s ls_0))))) ?_
      refine go_aload_n 56 dX3_moreUrgentThan_55 rfl rfl (ls_s (ls_s ls_0)) ?_
      refine gp_getI 59 dX3_moreUrgentThan_56 rfl f_X3_267 rfl (tB hP hb) ?_
      refine go_top (y := (gdF A b)) hB.2.2.2.2.2.2.2.2.2.2.2 ?_
      refine go_icmp_ne 72 62 dX3_moreUrgentThan_59 (by decide) rfl (fun c_59 => ?_) (fun c_59 => ?_)
      · refine go_iconst 73 (v := 0) dX3_moreUrgentThan_72 rfl (by decide) ?_
        refine go_istore 75 dX3_moreUrgentThan_73 rfl (by decide) (st_s (st_s (st_s (st_s (st_s (st_s (st_s st_0))))))) ?_
        refine go_aload_n 76 dX3_moreUrgentThan_75 rfl rfl ls_0 ?_
        refine go_iload 78 dX3_moreUrgentThan_76 rfl (ls_s (ls_s (ls_s (ls_s ls_0)))) ?_
        refine go_VI (M' := mX3_canSpoil) 81 dX3_moreUrgentThan_78 rfl w_659 okX3_canSpoil ⟨Nat.le_of_ble_eq_true rfl, Nat.le_of_ble_eq_true rfl⟩ (ct_canSpoil G hP h I hi) rfl rfl (tP hP) (by decide) rfl (kk := ?_)
        refine go_ifeq_b 97 84 dX3_moreUrgentThan_81 (by decide) rfl (fun c_81 => ?_) (fun c_81 => ?_)
        · refine go_iinc 100 (v := (nI (i + 1))) dX3_moreUrgentThan_97 rfl (ls_s (ls_s (ls_s (ls_s ls_0)))) (by exact nI_1 i) (by decide) (st_s (st_s (st_s (st_s st_0)))) ?_
          refine go_goto 11 dX3_moreUrgentThan_100 (by decide) ?_
          refine go_less (le_k (le_k (le_k (le_k (le_k (le_n (le_n (le_n le_0)))))))) ?_
          rw [show ahF A b i (n + 1) s = ahF A b (i + 1) n s from by rw [ahF, cIf_f (fun z => c_81 z.1)]]
          exact ih (i + 1) s (by omega)
        · refine go_iload 86 dX3_moreUrgentThan_84 rfl (ls_s (ls_s (ls_s (ls_s (ls_s (ls_s ls_0)))))) ?_
          refine go_if_ne 94 89 dX3_moreUrgentThan_86 (by decide) rfl (fun c_86 => absurd c_86 (by decide)) (fun c_86 => ?_)
          refine go_iload 91 dX3_moreUrgentThan_89 rfl (ls_s (ls_s (ls_s (ls_s (ls_s (ls_s (ls_s ls_0))))))) ?_
          refine go_if_eq 97 94 dX3_moreUrgentThan_91 (by decide) rfl (fun c_91 => ?_) (fun c_91 => absurd c_91 (by decide))
          refine go_iinc 100 (v := (nI (i + 1))) dX3_moreUrgentThan_97 rfl (ls_s (ls_s (ls_s (ls_s ls_0)))) (by exact nI_1 i) (by decide) (st_s (st_s (st_s (st_s st_0)))) ?_
          refine go_goto 11 dX3_moreUrgentThan_100 (by decide) ?_
          have gk := hgk c_81
          refine go_less (le_k (le_k (le_k (le_k (le_k (le_n (le_n (le_n le_0)))))))) ?_
          rw [show ahF A b i (n + 1) s = ahF A b (i + 1) n s from by rw [ahF, cIf_f (fun z => z.2.elim (fun z => absurd z (Int32.not_lt.mpr (by rw [← gk]; exact c_43))) (fun z => c_59 (by rw [gk]; exact z.1)))]]
          exact ih (i + 1) s (by omega)
      · refine go_iload 64 dX3_moreUrgentThan_62 rfl (ls_s (ls_s (ls_s (ls_s ls_0)))) ?_
        refine go_iload_n 65 dX3_moreUrgentThan_64 rfl rfl (ls_s ls_0) ?_
        refine go_icmp_ge 72 68 dX3_moreUrgentThan_65 (by decide) rfl (fun c_65 => ?_) (fun c_65 => ?_)
        · refine go_iconst 73 (v := 0) dX3_moreUrgentThan_72 rfl (by decide) ?_
          refine go_istore 75 dX3_moreUrgentThan_73 rfl (by decide) (st_s (st_s (st_s (st_s (st_s (st_s (st_s st_0))))))) ?_
          refine go_aload_n 76 dX3_moreUrgentThan_75 rfl rfl ls_0 ?_
          refine go_iload 78 dX3_moreUrgentThan_76 rfl (ls_s (ls_s (ls_s (ls_s ls_0)))) ?_
          refine go_VI (M' := mX3_canSpoil) 81 dX3_moreUrgentThan_78 rfl w_659 okX3_canSpoil ⟨Nat.le_of_ble_eq_true rfl, Nat.le_of_ble_eq_true rfl⟩ (ct_canSpoil G hP h I hi) rfl rfl (tP hP) (by decide) rfl (kk := ?_)
          refine go_ifeq_b 97 84 dX3_moreUrgentThan_81 (by decide) rfl (fun c_81 => ?_) (fun c_81 => ?_)
          · refine go_iinc 100 (v := (nI (i + 1))) dX3_moreUrgentThan_97 rfl (ls_s (ls_s (ls_s (ls_s ls_0)))) (by exact nI_1 i) (by decide) (st_s (st_s (st_s (st_s st_0)))) ?_
            refine go_goto 11 dX3_moreUrgentThan_100 (by decide) ?_
            refine go_less (le_k (le_k (le_k (le_k (le_k (le_n (le_n (le_n le_0)))))))) ?_
            rw [show ahF A b i (n + 1) s = ahF A b (i + 1) n s from by rw [ahF, cIf_f (fun z => c_81 z.1)]]
            exact ih (i + 1) s (by omega)
          · refine go_iload 86 dX3_moreUrgentThan_84 rfl (ls_s (ls_s (ls_s (ls_s (ls_s (ls_s ls_0)))))) ?_
            refine go_if_ne 94 89 dX3_moreUrgentThan_86 (by decide) rfl (fun c_86 => absurd c_86 (by decide)) (fun c_86 => ?_)
            refine go_iload 91 dX3_moreUrgentThan_89 rfl (ls_s (ls_s (ls_s (ls_s (ls_s (ls_s (ls_s ls_0))))))) ?_
            refine go_if_eq 97 94 dX3_moreUrgentThan_91 (by decide) rfl (fun c_91 => ?_) (fun c_91 => absurd c_91 (by decide))
            refine go_iinc 100 (v := (nI (i + 1))) dX3_moreUrgentThan_97 rfl (ls_s (ls_s (ls_s (ls_s ls_0)))) (by exact nI_1 i) (by decide) (st_s (st_s (st_s (st_s st_0)))) ?_
            refine go_goto 11 dX3_moreUrgentThan_100 (by decide) ?_
            have gk := hgk c_81
            refine go_less (le_k (le_k (le_k (le_k (le_k (le_n (le_n (le_n le_0)))))))) ?_
            rw [show ahF A b i (n + 1) s = ahF A b (i + 1) n s from by rw [ahF, cIf_f (fun z => z.2.elim (fun z => absurd z (Int32.not_lt.mpr (by rw [← gk]; exact c_43))) (fun z => nI_ge (a := i) (b := b) z.2 (by omega) c_65))]]
            exact ih (i + 1) s (by omega)
        · refine go_iconst 69 (v := 1) dX3_moreUrgentThan_68 rfl (by decide) ?_
          refine go_goto 73 dX3_moreUrgentThan_69 (by decide) ?_
          refine go_istore 75 dX3_moreUrgentThan_73 rfl (by decide) (st_s (st_s (st_s (st_s (st_s (st_s (st_s st_0))))))) ?_
          refine go_aload_n 76 dX3_moreUrgentThan_75 rfl rfl ls_0 ?_
          refine go_iload 78 dX3_moreUrgentThan_76 rfl (ls_s (ls_s (ls_s (ls_s ls_0)))) ?_
          refine go_VI (M' := mX3_canSpoil) 81 dX3_moreUrgentThan_78 rfl w_659 okX3_canSpoil ⟨Nat.le_of_ble_eq_true rfl, Nat.le_of_ble_eq_true rfl⟩ (ct_canSpoil G hP h I hi) rfl rfl (tP hP) (by decide) rfl (kk := ?_)
          refine go_ifeq_b 97 84 dX3_moreUrgentThan_81 (by decide) rfl (fun c_81 => ?_) (fun c_81 => ?_)
          · refine go_iinc 100 (v := (nI (i + 1))) dX3_moreUrgentThan_97 rfl (ls_s (ls_s (ls_s (ls_s ls_0)))) (by exact nI_1 i) (by decide) (st_s (st_s (st_s (st_s st_0)))) ?_
            refine go_goto 11 dX3_moreUrgentThan_100 (by decide) ?_
            refine go_less (le_k (le_k (le_k (le_k (le_k (le_n (le_n (le_n le_0)))))))) ?_
            rw [show ahF A b i (n + 1) s = ahF A b (i + 1) n s from by rw [ahF, cIf_f (fun z => c_81 z.1)]]
            exact ih (i + 1) s (by omega)
          · refine go_iload 86 dX3_moreUrgentThan_84 rfl (ls_s (ls_s (ls_s (ls_s (ls_s (ls_s ls_0)))))) ?_
            refine go_if_ne 94 89 dX3_moreUrgentThan_86 (by decide) rfl (fun c_86 => absurd c_86 (by decide)) (fun c_86 => ?_)
            refine go_iload 91 dX3_moreUrgentThan_89 rfl (ls_s (ls_s (ls_s (ls_s (ls_s (ls_s (ls_s ls_0))))))) ?_
            refine go_if_eq 97 94 dX3_moreUrgentThan_91 (by decide) rfl (fun c_91 => absurd c_91 (by decide)) (fun c_91 => ?_)
            refine go_iinc 97 (v := (nI (s + 1))) dX3_moreUrgentThan_94 rfl (ls_s (ls_s (ls_s ls_0))) (by exact nI_1 s) (by decide) (st_s (st_s (st_s st_0))) ?_
            refine go_iinc 100 (v := (nI (i + 1))) dX3_moreUrgentThan_97 rfl (ls_s (ls_s (ls_s (ls_s ls_0)))) (by exact nI_1 i) (by decide) (st_s (st_s (st_s (st_s st_0)))) ?_
            refine go_goto 11 dX3_moreUrgentThan_100 (by decide) ?_
            have gk := hgk c_81
            refine go_less (le_k (le_k (le_k (le_k (le_k (le_n (le_n (le_n le_0)))))))) ?_
            rw [show ahF A b i (n + 1) s = ahF A b (i + 1) n (s + 1) from by rw [ahF, cIf_t ⟨c_81, Or.inr ⟨by rw [← gk]; exact c_59, (nI_ltI (by omega) (by omega)).mp (Int32.not_le.mp c_65)⟩⟩]]
            exact ih (i + 1) (s + 1) (by omega)
    · refine go_iconst 47 (v := 1) dX3_moreUrgentThan_46 rfl (by decide) ?_
      refine go_goto 51 dX3_moreUrgentThan_47 (by decide) ?_
      refine go_istore 53 dX3_moreUrgentThan_51 rfl (by decide) (st_s (st_s (st_s (st_s (st_s (st_s st_0)))))) ?_
      refine go_iload 55 dX3_moreUrgentThan_53 rfl (ls_s (ls_s (ls_s (ls_s (ls_s ls_0))))) ?_
      refine go_aload_n 56 dX3_moreUrgentThan_55 rfl rfl (ls_s (ls_s ls_0)) ?_
      refine gp_getI 59 dX3_moreUrgentThan_56 rfl f_X3_267 rfl (tB hP hb) ?_
      refine go_top (y := (gdF A b)) hB.2.2.2.2.2.2.2.2.2.2.2 ?_
      refine go_icmp_ne 72 62 dX3_moreUrgentThan_59 (by decide) rfl (fun c_59 => ?_) (fun c_59 => ?_)
      · refine go_iconst 73 (v := 0) dX3_moreUrgentThan_72 rfl (by decide) ?_
        refine go_istore 75 dX3_moreUrgentThan_73 rfl (by decide) (st_s (st_s (st_s (st_s (st_s (st_s (st_s st_0))))))) ?_
        refine go_aload_n 76 dX3_moreUrgentThan_75 rfl rfl ls_0 ?_
        refine go_iload 78 dX3_moreUrgentThan_76 rfl (ls_s (ls_s (ls_s (ls_s ls_0)))) ?_
        refine go_VI (M' := mX3_canSpoil) 81 dX3_moreUrgentThan_78 rfl w_659 okX3_canSpoil ⟨Nat.le_of_ble_eq_true rfl, Nat.le_of_ble_eq_true rfl⟩ (ct_canSpoil G hP h I hi) rfl rfl (tP hP) (by decide) rfl (kk := ?_)
        refine go_ifeq_b 97 84 dX3_moreUrgentThan_81 (by decide) rfl (fun c_81 => ?_) (fun c_81 => ?_)
        · refine go_iinc 100 (v := (nI (i + 1))) dX3_moreUrgentThan_97 rfl (ls_s (ls_s (ls_s (ls_s ls_0)))) (by exact nI_1 i) (by decide) (st_s (st_s (st_s (st_s st_0)))) ?_
          refine go_goto 11 dX3_moreUrgentThan_100 (by decide) ?_
          refine go_less (le_k (le_k (le_k (le_k (le_k (le_n (le_n (le_n le_0)))))))) ?_
          rw [show ahF A b i (n + 1) s = ahF A b (i + 1) n s from by rw [ahF, cIf_f (fun z => c_81 z.1)]]
          exact ih (i + 1) s (by omega)
        · refine go_iload 86 dX3_moreUrgentThan_84 rfl (ls_s (ls_s (ls_s (ls_s (ls_s (ls_s ls_0)))))) ?_
          refine go_if_ne 94 89 dX3_moreUrgentThan_86 (by decide) rfl (fun c_86 => ?_) (fun c_86 => absurd c_86 (by decide))
          refine go_iinc 97 (v := (nI (s + 1))) dX3_moreUrgentThan_94 rfl (ls_s (ls_s (ls_s ls_0))) (by exact nI_1 s) (by decide) (st_s (st_s (st_s st_0))) ?_
          refine go_iinc 100 (v := (nI (i + 1))) dX3_moreUrgentThan_97 rfl (ls_s (ls_s (ls_s (ls_s ls_0)))) (by exact nI_1 i) (by decide) (st_s (st_s (st_s (st_s st_0)))) ?_
          refine go_goto 11 dX3_moreUrgentThan_100 (by decide) ?_
          have gk := hgk c_81
          refine go_less (le_k (le_k (le_k (le_k (le_k (le_n (le_n (le_n le_0)))))))) ?_
          rw [show ahF A b i (n + 1) s = ahF A b (i + 1) n (s + 1) from by rw [ahF, cIf_t ⟨c_81, Or.inl (by rw [← gk]; exact Int32.not_le.mp c_43)⟩]]
          exact ih (i + 1) (s + 1) (by omega)
      · refine go_iload 64 dX3_moreUrgentThan_62 rfl (ls_s (ls_s (ls_s (ls_s ls_0)))) ?_
        refine go_iload_n 65 dX3_moreUrgentThan_64 rfl rfl (ls_s ls_0) ?_
        refine go_icmp_ge 72 68 dX3_moreUrgentThan_65 (by decide) rfl (fun c_65 => ?_) (fun c_65 => ?_)
        · refine go_iconst 73 (v := 0) dX3_moreUrgentThan_72 rfl (by decide) ?_
          refine go_istore 75 dX3_moreUrgentThan_73 rfl (by decide) (st_s (st_s (st_s (st_s (st_s (st_s (st_s st_0))))))) ?_
          refine go_aload_n 76 dX3_moreUrgentThan_75 rfl rfl ls_0 ?_
          refine go_iload 78 dX3_moreUrgentThan_76 rfl (ls_s (ls_s (ls_s (ls_s ls_0)))) ?_
          refine go_VI (M' := mX3_canSpoil) 81 dX3_moreUrgentThan_78 rfl w_659 okX3_canSpoil ⟨Nat.le_of_ble_eq_true rfl, Nat.le_of_ble_eq_true rfl⟩ (ct_canSpoil G hP h I hi) rfl rfl (tP hP) (by decide) rfl (kk := ?_)
          refine go_ifeq_b 97 84 dX3_moreUrgentThan_81 (by decide) rfl (fun c_81 => ?_) (fun c_81 => ?_)
          · refine go_iinc 100 (v := (nI (i + 1))) dX3_moreUrgentThan_97 rfl (ls_s (ls_s (ls_s (ls_s ls_0)))) (by exact nI_1 i) (by decide) (st_s (st_s (st_s (st_s st_0)))) ?_
            refine go_goto 11 dX3_moreUrgentThan_100 (by decide) ?_
            refine go_less (le_k (le_k (le_k (le_k (le_k (le_n (le_n (le_n le_0)))))))) ?_
            rw [show ahF A b i (n + 1) s = ahF A b (i + 1) n s from by rw [ahF, cIf_f (fun z => c_81 z.1)]]
            exact ih (i + 1) s (by omega)
          · refine go_iload 86 dX3_moreUrgentThan_84 rfl (ls_s (ls_s (ls_s (ls_s (ls_s (ls_s ls_0)))))) ?_
            refine go_if_ne 94 89 dX3_moreUrgentThan_86 (by decide) rfl (fun c_86 => ?_) (fun c_86 => absurd c_86 (by decide))
            refine go_iinc 97 (v := (nI (s + 1))) dX3_moreUrgentThan_94 rfl (ls_s (ls_s (ls_s ls_0))) (by exact nI_1 s) (by decide) (st_s (st_s (st_s st_0))) ?_
            refine go_iinc 100 (v := (nI (i + 1))) dX3_moreUrgentThan_97 rfl (ls_s (ls_s (ls_s (ls_s ls_0)))) (by exact nI_1 i) (by decide) (st_s (st_s (st_s (st_s st_0)))) ?_
            refine go_goto 11 dX3_moreUrgentThan_100 (by decide) ?_
            have gk := hgk c_81
            refine go_less (le_k (le_k (le_k (le_k (le_k (le_n (le_n (le_n le_0)))))))) ?_
            rw [show ahF A b i (n + 1) s = ahF A b (i + 1) n (s + 1) from by rw [ahF, cIf_t ⟨c_81, Or.inl (by rw [← gk]; exact Int32.not_le.mp c_43)⟩]]
            exact ih (i + 1) (s + 1) (by omega)
        · refine go_iconst 69 (v := 1) dX3_moreUrgentThan_68 rfl (by decide) ?_
          refine go_goto 73 dX3_moreUrgentThan_69 (by decide) ?_
          refine go_istore 75 dX3_moreUrgentThan_73 rfl (by decide) (st_s (st_s (st_s (st_s (st_s (st_s (st_s st_0))))))) ?_
          refine go_aload_n 76 dX3_moreUrgentThan_75 rfl rfl ls_0 ?_
          refine go_iload 78 dX3_moreUrgentThan_76 rfl (ls_s (ls_s (ls_s (ls_s ls_0)))) ?_
          refine go_VI (M' := mX3_canSpoil) 81 dX3_moreUrgentThan_78 rfl w_659 okX3_canSpoil ⟨Nat.le_of_ble_eq_true rfl, Nat.le_of_ble_eq_true rfl⟩ (ct_canSpoil G hP h I hi) rfl rfl (tP hP) (by decide) rfl (kk := ?_)
          refine go_ifeq_b 97 84 dX3_moreUrgentThan_81 (by decide) rfl (fun c_81 => ?_) (fun c_81 => ?_)
          · refine go_iinc 100 (v := (nI (i + 1))) dX3_moreUrgentThan_97 rfl (ls_s (ls_s (ls_s (ls_s ls_0)))) (by exact nI_1 i) (by decide) (st_s (st_s (st_s (st_s st_0)))) ?_
            refine go_goto 11 dX3_moreUrgentThan_100 (by decide) ?_
            refine go_less (le_k (le_k (le_k (le_k (le_k (le_n (le_n (le_n le_0)))))))) ?_
            rw [show ahF A b i (n + 1) s = ahF A b (i + 1) n s from by rw [ahF, cIf_f (fun z => c_81 z.1)]]
            exact ih (i + 1) s (by omega)
          · refine go_iload 86 dX3_moreUrgentThan_84 rfl (ls_s (ls_s (ls_s (ls_s (ls_s (ls_s ls_0)))))) ?_
            refine go_if_ne 94 89 dX3_moreUrgentThan_86 (by decide) rfl (fun c_86 => ?_) (fun c_86 => absurd c_86 (by decide))
            refine go_iinc 97 (v := (nI (s + 1))) dX3_moreUrgentThan_94 rfl (ls_s (ls_s (ls_s ls_0))) (by exact nI_1 s) (by decide) (st_s (st_s (st_s st_0))) ?_
            refine go_iinc 100 (v := (nI (i + 1))) dX3_moreUrgentThan_97 rfl (ls_s (ls_s (ls_s (ls_s ls_0)))) (by exact nI_1 i) (by decide) (st_s (st_s (st_s (st_s st_0)))) ?_
            refine go_goto 11 dX3_moreUrgentThan_100 (by decide) ?_
            have gk := hgk c_81
            refine go_less (le_k (le_k (le_k (le_k (le_k (le_n (le_n (le_n le_0)))))))) ?_
            rw [show ahF A b i (n + 1) s = ahF A b (i + 1) n (s + 1) from by rw [ahF, cIf_t ⟨c_81, Or.inl (by rw [← gk]; exact Int32.not_le.mp c_43)⟩]]
            exact ih (i + 1) (s + 1) (by omega)
set_option maxHeartbeats 4000000 in
set_option maxRecDepth 100000 in
theorem ct_ahead (G : BcG) {gi : GI} {P : Nat} (hP : isP P) {N : Nat} {A : AA} (h : Rel P A gi) (I : Inv N A) {b : Nat} (hb : b < 6) (hl : live A b) : Ct G mX3_moreUrgentThan [.ref (G.1 + P), .int (nI b)] (hp gi) (pI (nI (ahF A b 0 6 0)) (hp gi)) := by
  refine ct_of [some (.ref (G.1 + P)), some (.int (nI b)), none, none, none, none, none, none] w_2 (by decide) rfl (Nat.le_of_ble_eq_true rfl) rfl ?_
  refine go_aload_n 1 dX3_moreUrgentThan_0 rfl rfl ls_0 ?_
  refine go_iload_n 2 dX3_moreUrgentThan_1 rfl rfl (ls_s ls_0) ?_
  refine go_VA (M' := mX3_batchAt) 5 dX3_moreUrgentThan_2 rfl w_483 okX3_batchAt ⟨Nat.le_of_ble_eq_true rfl, Nat.le_of_ble_eq_true rfl⟩ (ct_batY G hP h I hb hl) rfl rfl (tP hP) (by decide) rfl (kk := ?_)
  refine go_astore_n 6 dX3_moreUrgentThan_5 rfl rfl (by decide) (st_s (st_s st_0)) ?_
  refine go_iconst 7 (v := 0) dX3_moreUrgentThan_6 rfl (by decide) ?_
  refine go_istore_n 8 dX3_moreUrgentThan_7 rfl rfl (by decide) (st_s (st_s (st_s st_0))) ?_
  refine go_iconst 9 (v := 0) dX3_moreUrgentThan_8 rfl (by decide) ?_
  refine go_istore 11 dX3_moreUrgentThan_9 rfl (by decide) (st_s (st_s (st_s (st_s st_0)))) ?_
  exact lp_ahead G hP h I hb hl 6 0 0 rfl
set_option maxHeartbeats 4000000 in
set_option maxRecDepth 100000 in
theorem lp_place (G : BcG) {gi : GI} {P : Nat} (hP : isP P) {N : Nat} {A : AA} (h : Rel P A gi) (I : Inv N A) (x : Int32) : ∀ (n i : Nat), i + n = 6 → BGo G mX3_batchInPlace (KM G mX3_batchInPlace 341 (pI (ugF A x i n) (hp gi))) (hp gi) 0 0 2 [some (.ref (G.1 + P)), some (.int x), some (.int (nI i))] [] := by
  intro n
  induction n with
  | zero =>
    intro i  hn 
    obtain rfl : i = 6 := by omega
    refine go_iload_n 3 dX3_batchInPlace_2 rfl rfl (ls_s (ls_s ls_0)) ?_
    refine go_aload_n 4 dX3_batchInPlace_3 rfl rfl ls_0 ?_
    refine gp_getR 7 dX3_batchInPlace_4 rfl f_X3_31 rfl (tP hP) (rB hP) ?_
    refine gp_alen 8 (v := nI 6) dX3_batchInPlace_7 rfl (aB hP) (by decide) (by decide) rfl ?_
    refine go_icmp_ge 36 11 dX3_batchInPlace_8 (by decide) rfl (fun c_8 => ?_) (fun c_8 => absurd c_8 (by decide))
    refine go_bipush 38 (v := (-4)) dX3_batchInPlace_36 rfl (by decide) ?_
    exact go_ret_i dX3_batchInPlace_38 rfl rfl rfl (pI_of rfl rfl)
  | succ n ih =>
    intro i  hn 
    have hi : i < 6 := by omega
    refine go_iload_n 3 dX3_batchInPlace_2 rfl rfl (ls_s (ls_s ls_0)) ?_
    refine go_aload_n 4 dX3_batchInPlace_3 rfl rfl ls_0 ?_
    refine gp_getR 7 dX3_batchInPlace_4 rfl f_X3_31 rfl (tP hP) (rB hP) ?_
    refine gp_alen 8 (v := nI 6) dX3_batchInPlace_7 rfl (aB hP) (by decide) (by decide) rfl ?_
    refine go_icmp_ge 36 11 dX3_batchInPlace_8 (by decide) rfl (fun c_8 => absurd c_8 (nI_ge hi (by decide))) (fun c_8 => ?_)
    refine go_aload_n 12 dX3_batchInPlace_11 rfl rfl ls_0 ?_
    refine go_iload_n 13 dX3_batchInPlace_12 rfl rfl (ls_s (ls_s ls_0)) ?_
    refine go_VI (M' := mX3_canSpoil) 16 dX3_batchInPlace_13 rfl w_659 okX3_canSpoil ⟨Nat.le_of_ble_eq_true rfl, Nat.le_of_ble_eq_true rfl⟩ (ct_canSpoil G hP h I hi) rfl rfl (tP hP) (by decide) rfl (kk := ?_)
    refine go_ifeq_b 30 19 dX3_batchInPlace_16 (by decide) rfl (fun c_16 => ?_) (fun c_16 => ?_)
    · refine go_iinc 33 (v := (nI (i + 1))) dX3_batchInPlace_30 rfl (ls_s (ls_s ls_0)) (by exact nI_1 i) (by decide) (st_s (st_s st_0)) ?_
      refine go_goto 2 dX3_batchInPlace_33 (by decide) ?_
      rw [show ugF A x i (n + 1) = ugF A x (i + 1) n from by rw [ugF, cIf_f (fun z => c_16 z.1)]]
      exact ih (i + 1) (by omega)
    · refine go_aload_n 20 dX3_batchInPlace_19 rfl rfl ls_0 ?_
      refine go_iload_n 21 dX3_batchInPlace_20 rfl rfl (ls_s (ls_s ls_0)) ?_
      refine go_VI (M' := mX3_moreUrgentThan) 24 dX3_batchInPlace_21 rfl w_663 okX3_moreUrgentThan ⟨Nat.le_of_ble_eq_true rfl, Nat.le_of_ble_eq_true rfl⟩ (ct_ahead G hP h I hi c_16.1) rfl rfl (tP hP) (by decide) rfl (kk := ?_)
      refine go_iload_n 25 dX3_batchInPlace_24 rfl rfl (ls_s ls_0) ?_
      refine go_icmp_ne 30 28 dX3_batchInPlace_25 (by decide) rfl (fun c_25 => ?_) (fun c_25 => ?_)
      · refine go_iinc 33 (v := (nI (i + 1))) dX3_batchInPlace_30 rfl (ls_s (ls_s ls_0)) (by exact nI_1 i) (by decide) (st_s (st_s st_0)) ?_
        refine go_goto 2 dX3_batchInPlace_33 (by decide) ?_
        rw [show ugF A x i (n + 1) = ugF A x (i + 1) n from by rw [ugF, cIf_f (fun z => c_25 z.2)]]
        exact ih (i + 1) (by omega)
      · refine go_iload_n 29 dX3_batchInPlace_28 rfl rfl (ls_s (ls_s ls_0)) ?_
        exact go_ret_i dX3_batchInPlace_29 rfl rfl rfl (pI_of (by rw [ugF, cIf_t ⟨c_16, c_25⟩]) rfl)
set_option maxHeartbeats 4000000 in
set_option maxRecDepth 100000 in
theorem ct_batchInPlace (G : BcG) {gi : GI} {P : Nat} (hP : isP P) {N : Nat} {A : AA} (h : Rel P A gi) (I : Inv N A) (x : Int32) : Ct G mX3_batchInPlace [.ref (G.1 + P), .int x] (hp gi) (pI (ugF A x 0 6) (hp gi)) := by
  refine ct_of [some (.ref (G.1 + P)), some (.int x), none] w_2 (by decide) rfl (Nat.le_of_ble_eq_true rfl) rfl ?_
  refine go_iconst 1 (v := 0) dX3_batchInPlace_0 rfl (by decide) ?_
  refine go_istore_n 2 dX3_batchInPlace_1 rfl rfl (by decide) (st_s (st_s st_0)) ?_
  exact lp_place G hP h I x 6 0 rfl
/-- the first n numbers of the cell q come into the cell k -/
def cpC (gi : GI) (k q : Nat) : Nat → GI
  | 0 => gi
  | n + 1 => wI (cpC gi k q n) k n (gi q n)
theorem cpC_at (gi : GI) (k q : Nat) : ∀ n a b, cpC gi k q n a b = if a = k ∧ b < n then gi q b else gi a b := by
  intro n
  induction n with
  | zero => intro a b; rw [if_neg (by omega)]; rfl
  | succ n ih =>
    intro a b
    show wI (cpC gi k q n) k n (gi q n) a b = _
    rw [wI_at, ih]
    by_cases h1 : a = k
    · by_cases h2 : b = n
      · rw [if_pos ⟨h1, h2⟩, if_pos ⟨h1, by omega⟩, h2]
      · rw [if_neg (fun z => h2 z.2)]
        by_cases h3 : b < n
        · rw [if_pos ⟨h1, h3⟩, if_pos ⟨h1, by omega⟩]
        · rw [if_neg (fun z => h3 z.2), if_neg (fun z => by omega)]
    · rw [if_neg (fun z => h1 z.1), if_neg (fun z => h1 z.1), if_neg (fun z => h1 z.1)]
theorem cpC_eq {gi : GI} {k q n b : Nat} (h : b < n) : cpC gi k q n k b = gi q b := by rw [cpC_at, if_pos ⟨rfl, h⟩]
theorem cpC_ne {gi : GI} {k q n a : Nat} (h : a ≠ k) : cpC gi k q n a = gi a := by
  funext b
  rw [cpC_at, if_neg (fun z => h z.1)]
set_option maxHeartbeats 4000000 in
set_option maxRecDepth 100000 in
theorem ct_cpStage (G : BcG) (gi : GI) (k q : Nat) (hk : tO k 6) (hq : tO q 6) (hne : q ≠ k) : Ct G mX6_copyFrom [.ref (G.1 + k), .ref (G.1 + q)] (hp gi) (pV (hp (cpC gi k q 4))) := by
  refine ct_of [some (.ref (G.1 + k)), some (.ref (G.1 + q))] w_4 (by decide) rfl (Nat.le_of_ble_eq_true rfl) rfl ?_
  refine go_aload_n 1 dX6_copyFrom_0 rfl rfl ls_0 ?_
  refine go_aload_n 2 dX6_copyFrom_1 rfl rfl (ls_s ls_0) ?_
  refine gp_getI 5 dX6_copyFrom_2 rfl f_X6_7 rfl hq ?_
  refine go_top (y := (gi q 0)) rfl ?_
  refine gp_putI 8 dX6_copyFrom_5 rfl f_X6_7 rfl hk rfl rfl ?_
  refine go_aload_n 9 dX6_copyFrom_8 rfl rfl ls_0 ?_
  refine go_aload_n 10 dX6_copyFrom_9 rfl rfl (ls_s ls_0) ?_
  refine gp_getI 13 dX6_copyFrom_10 rfl f_X6_13 rfl hq ?_
  refine go_top (y := (gi q 1)) (by simp (disch := omega) only [wI_ne, wI_eq]) ?_
  refine gp_putI 16 dX6_copyFrom_13 rfl f_X6_13 rfl hk rfl rfl ?_
  refine go_aload_n 17 dX6_copyFrom_16 rfl rfl ls_0 ?_
  refine go_aload_n 18 dX6_copyFrom_17 rfl rfl (ls_s ls_0) ?_
  refine gp_getI 21 dX6_copyFrom_18 rfl f_X6_16 rfl hq ?_
  refine go_top (y := (gi q 2)) (by simp (disch := omega) only [wI_ne, wI_eq]) ?_
  refine gp_putI 24 dX6_copyFrom_21 rfl f_X6_16 rfl hk rfl rfl ?_
  refine go_aload_n 25 dX6_copyFrom_24 rfl rfl ls_0 ?_
  refine go_aload_n 26 dX6_copyFrom_25 rfl rfl (ls_s ls_0) ?_
  refine gp_getI 29 dX6_copyFrom_26 rfl f_X6_19 rfl hq ?_
  refine go_top (y := (gi q 3)) (by simp (disch := omega) only [wI_ne, wI_eq]) ?_
  refine gp_putI 32 dX6_copyFrom_29 rfl f_X6_19 rfl hk rfl rfl ?_
  exact go_ret_v dX6_copyFrom_32 rfl rfl rfl ⟨rfl, rfl⟩
set_option maxHeartbeats 4000000 in
set_option maxRecDepth 100000 in
theorem ct_cpLine (G : BcG) (gi : GI) (k q : Nat) (hk : tO k 2) (hq : tO q 2) (hne : q ≠ k) : Ct G mX2_copyFrom [.ref (G.1 + k), .ref (G.1 + q)] (hp gi) (pV (hp (cpC gi k q 4))) := by
  refine ct_of [some (.ref (G.1 + k)), some (.ref (G.1 + q))] w_6 (by decide) rfl (Nat.le_of_ble_eq_true rfl) rfl ?_
  refine go_aload_n 1 dX2_copyFrom_0 rfl rfl ls_0 ?_
  refine go_aload_n 2 dX2_copyFrom_1 rfl rfl (ls_s ls_0) ?_
  refine gp_getI 5 dX2_copyFrom_2 rfl f_X2_7 rfl hq ?_
  refine go_top (y := (gi q 0)) rfl ?_
  refine gp_putI 8 dX2_copyFrom_5 rfl f_X2_7 rfl hk rfl rfl ?_
  refine go_aload_n 9 dX2_copyFrom_8 rfl rfl ls_0 ?_
  refine go_aload_n 10 dX2_copyFrom_9 rfl rfl (ls_s ls_0) ?_
  refine gp_getI 13 dX2_copyFrom_10 rfl f_X2_13 rfl hq ?_
  refine go_top (y := (gi q 1)) (by simp (disch := omega) only [wI_ne, wI_eq]) ?_
  refine gp_putI 16 dX2_copyFrom_13 rfl f_X2_13 rfl hk rfl rfl ?_
  refine go_aload_n 17 dX2_copyFrom_16 rfl rfl ls_0 ?_
  refine go_aload_n 18 dX2_copyFrom_17 rfl rfl (ls_s ls_0) ?_
  refine gp_getI 21 dX2_copyFrom_18 rfl f_X2_16 rfl hq ?_
  refine go_top (y := (gi q 2)) (by simp (disch := omega) only [wI_ne, wI_eq]) ?_
  refine gp_putI 24 dX2_copyFrom_21 rfl f_X2_16 rfl hk rfl rfl ?_
  refine go_aload_n 25 dX2_copyFrom_24 rfl rfl ls_0 ?_
  refine go_aload_n 26 dX2_copyFrom_25 rfl rfl (ls_s ls_0) ?_
  refine gp_getI 29 dX2_copyFrom_26 rfl f_X2_19 rfl hq ?_
  refine go_top (y := (gi q 3)) (by simp (disch := omega) only [wI_ne, wI_eq]) ?_
  refine gp_putI 32 dX2_copyFrom_29 rfl f_X2_19 rfl hk rfl rfl ?_
  exact go_ret_v dX2_copyFrom_32 rfl rfl rfl ⟨rfl, rfl⟩
set_option maxHeartbeats 4000000 in
set_option maxRecDepth 100000 in
theorem ct_cpVessel (G : BcG) (gi : GI) (k q : Nat) (hk : tO k 7) (hq : tO q 7) (hne : q ≠ k) : Ct G mX7_copyFrom [.ref (G.1 + k), .ref (G.1 + q)] (hp gi) (pV (hp (cpC gi k q 5))) := by
  refine ct_of [some (.ref (G.1 + k)), some (.ref (G.1 + q))] w_5 (by decide) rfl (Nat.le_of_ble_eq_true rfl) rfl ?_
  refine go_aload_n 1 dX7_copyFrom_0 rfl rfl ls_0 ?_
  refine go_aload_n 2 dX7_copyFrom_1 rfl rfl (ls_s ls_0) ?_
  refine gp_getI 5 dX7_copyFrom_2 rfl f_X7_18 rfl hq ?_
  refine go_top (y := (gi q 0)) rfl ?_
  refine gp_putI 8 dX7_copyFrom_5 rfl f_X7_18 rfl hk rfl rfl ?_
  refine go_aload_n 9 dX7_copyFrom_8 rfl rfl ls_0 ?_
  refine go_aload_n 10 dX7_copyFrom_9 rfl rfl (ls_s ls_0) ?_
  refine gp_getI 13 dX7_copyFrom_10 rfl f_X7_21 rfl hq ?_
  refine go_top (y := (gi q 1)) (by simp (disch := omega) only [wI_ne, wI_eq]) ?_
  refine gp_putI 16 dX7_copyFrom_13 rfl f_X7_21 rfl hk rfl rfl ?_
  refine go_aload_n 17 dX7_copyFrom_16 rfl rfl ls_0 ?_
  refine go_aload_n 18 dX7_copyFrom_17 rfl rfl (ls_s ls_0) ?_
  refine gp_getI 21 dX7_copyFrom_18 rfl f_X7_9 rfl hq ?_
  refine go_top (y := (gi q 2)) (by simp (disch := omega) only [wI_ne, wI_eq]) ?_
  refine gp_putI 24 dX7_copyFrom_21 rfl f_X7_9 rfl hk rfl rfl ?_
  refine go_aload_n 25 dX7_copyFrom_24 rfl rfl ls_0 ?_
  refine go_aload_n 26 dX7_copyFrom_25 rfl rfl (ls_s ls_0) ?_
  refine gp_getI 29 dX7_copyFrom_26 rfl f_X7_15 rfl hq ?_
  refine go_top (y := (gi q 3)) (by simp (disch := omega) only [wI_ne, wI_eq]) ?_
  refine gp_putI 32 dX7_copyFrom_29 rfl f_X7_15 rfl hk rfl rfl ?_
  refine go_aload_n 33 dX7_copyFrom_32 rfl rfl ls_0 ?_
  refine go_aload_n 34 dX7_copyFrom_33 rfl rfl (ls_s ls_0) ?_
  refine gp_getI 37 dX7_copyFrom_34 rfl f_X7_24 rfl hq ?_
  refine go_top (y := (gi q 4)) (by simp (disch := omega) only [wI_ne, wI_eq]) ?_
  refine gp_putI 40 dX7_copyFrom_37 rfl f_X7_24 rfl hk rfl rfl ?_
  exact go_ret_v dX7_copyFrom_40 rfl rfl rfl ⟨rfl, rfl⟩
theorem z01 {x : Int32} (h : x = 0 ∨ x = 1) : narrow .boolean (.int x) = .int x := by rcases h with rfl | rfl <;> rfl
theorem z01f {x : Int32} (h : x = 0 ∨ x = 1) : fits .boolean (.int x) = true := by rcases h with rfl | rfl <;> rfl
set_option maxHeartbeats 4000000 in
set_option maxRecDepth 100000 in
theorem ct_cpBatch (G : BcG) (gi : GI) (k q : Nat) (hk : tO k 0) (hq : tO q 0) (hne : q ≠ k) (h0 : gi q 0 = 0 ∨ gi q 0 = 1) (h6 : gi q 6 = 0 ∨ gi q 6 = 1) : Ct G mX0_copyFrom [.ref (G.1 + k), .ref (G.1 + q)] (hp gi) (pV (hp (cpC gi k q 13))) := by
  refine ct_of [some (.ref (G.1 + k)), some (.ref (G.1 + q))] w_7 (by decide) rfl (Nat.le_of_ble_eq_true rfl) rfl ?_
  refine go_aload_n 1 dX0_copyFrom_0 rfl rfl ls_0 ?_
  refine go_aload_n 2 dX0_copyFrom_1 rfl rfl (ls_s ls_0) ?_
  refine gp_getI 5 dX0_copyFrom_2 rfl f_X0_7 rfl hq ?_
  refine go_top (y := (gi q 0)) rfl ?_
  refine gp_putI 8 dX0_copyFrom_5 rfl f_X0_7 rfl hk (z01 h0) (z01f h0) ?_
  refine go_aload_n 9 dX0_copyFrom_8 rfl rfl ls_0 ?_
  refine go_aload_n 10 dX0_copyFrom_9 rfl rfl (ls_s ls_0) ?_
  refine gp_getI 13 dX0_copyFrom_10 rfl f_X0_13 rfl hq ?_
  refine go_top (y := (gi q 1)) (by simp (disch := omega) only [wI_ne, wI_eq]) ?_
  refine gp_putI 16 dX0_copyFrom_13 rfl f_X0_13 rfl hk rfl rfl ?_
  refine go_aload_n 17 dX0_copyFrom_16 rfl rfl ls_0 ?_
  refine go_aload_n 18 dX0_copyFrom_17 rfl rfl (ls_s ls_0) ?_
  refine gp_getI 21 dX0_copyFrom_18 rfl f_X0_17 rfl hq ?_
  refine go_top (y := (gi q 2)) (by simp (disch := omega) only [wI_ne, wI_eq]) ?_
  refine gp_putI 24 dX0_copyFrom_21 rfl f_X0_17 rfl hk rfl rfl ?_
  refine go_aload_n 25 dX0_copyFrom_24 rfl rfl ls_0 ?_
  refine go_aload_n 26 dX0_copyFrom_25 rfl rfl (ls_s ls_0) ?_
  refine gp_getI 29 dX0_copyFrom_26 rfl f_X0_20 rfl hq ?_
  refine go_top (y := (gi q 3)) (by simp (disch := omega) only [wI_ne, wI_eq]) ?_
  refine gp_putI 32 dX0_copyFrom_29 rfl f_X0_20 rfl hk rfl rfl ?_
  refine go_aload_n 33 dX0_copyFrom_32 rfl rfl ls_0 ?_
  refine go_aload_n 34 dX0_copyFrom_33 rfl rfl (ls_s ls_0) ?_
  refine gp_getI 37 dX0_copyFrom_34 rfl f_X0_23 rfl hq ?_
  refine go_top (y := (gi q 4)) (by simp (disch := omega) only [wI_ne, wI_eq]) ?_
  refine gp_putI 40 dX0_copyFrom_37 rfl f_X0_23 rfl hk rfl rfl ?_
  refine go_aload_n 41 dX0_copyFrom_40 rfl rfl ls_0 ?_
  refine go_aload_n 42 dX0_copyFrom_41 rfl rfl (ls_s ls_0) ?_
  refine gp_getI 45 dX0_copyFrom_42 rfl f_X0_26 rfl hq ?_
  refine go_top (y := (gi q 5)) (by simp (disch := omega) only [wI_ne, wI_eq]) ?_
  refine gp_putI 48 dX0_copyFrom_45 rfl f_X0_26 rfl hk rfl rfl ?_
  refine go_aload_n 49 dX0_copyFrom_48 rfl rfl ls_0 ?_
  refine go_aload_n 50 dX0_copyFrom_49 rfl rfl (ls_s ls_0) ?_
  refine gp_getI 53 dX0_copyFrom_50 rfl f_X0_29 rfl hq ?_
  refine go_top (y := (gi q 6)) (by simp (disch := omega) only [wI_ne, wI_eq]) ?_
  refine gp_putI 56 dX0_copyFrom_53 rfl f_X0_29 rfl hk (z01 h6) (z01f h6) ?_
  refine go_aload_n 57 dX0_copyFrom_56 rfl rfl ls_0 ?_
  refine go_aload_n 58 dX0_copyFrom_57 rfl rfl (ls_s ls_0) ?_
  refine gp_getI 61 dX0_copyFrom_58 rfl f_X0_32 rfl hq ?_
  refine go_top (y := (gi q 7)) (by simp (disch := omega) only [wI_ne, wI_eq]) ?_
  refine gp_putI 64 dX0_copyFrom_61 rfl f_X0_32 rfl hk rfl rfl ?_
  refine go_aload_n 65 dX0_copyFrom_64 rfl rfl ls_0 ?_
  refine go_aload_n 66 dX0_copyFrom_65 rfl rfl (ls_s ls_0) ?_
  refine gp_getI 69 dX0_copyFrom_66 rfl f_X0_35 rfl hq ?_
  refine go_top (y := (gi q 8)) (by simp (disch := omega) only [wI_ne, wI_eq]) ?_
  refine gp_putI 72 dX0_copyFrom_69 rfl f_X0_35 rfl hk rfl rfl ?_
  refine go_aload_n 73 dX0_copyFrom_72 rfl rfl ls_0 ?_
  refine go_aload_n 74 dX0_copyFrom_73 rfl rfl (ls_s ls_0) ?_
  refine gp_getI 77 dX0_copyFrom_74 rfl f_X0_38 rfl hq ?_
  refine go_top (y := (gi q 9)) (by simp (disch := omega) only [wI_ne, wI_eq]) ?_
  refine gp_putI 80 dX0_copyFrom_77 rfl f_X0_38 rfl hk rfl rfl ?_
  refine go_aload_n 81 dX0_copyFrom_80 rfl rfl ls_0 ?_
  refine go_aload_n 82 dX0_copyFrom_81 rfl rfl (ls_s ls_0) ?_
  refine gp_getI 85 dX0_copyFrom_82 rfl f_X0_41 rfl hq ?_
  refine go_top (y := (gi q 10)) (by simp (disch := omega) only [wI_ne, wI_eq]) ?_
  refine gp_putI 88 dX0_copyFrom_85 rfl f_X0_41 rfl hk rfl rfl ?_
  refine go_aload_n 89 dX0_copyFrom_88 rfl rfl ls_0 ?_
  refine go_aload_n 90 dX0_copyFrom_89 rfl rfl (ls_s ls_0) ?_
  refine gp_getI 93 dX0_copyFrom_90 rfl f_X0_44 rfl hq ?_
  refine go_top (y := (gi q 11)) (by simp (disch := omega) only [wI_ne, wI_eq]) ?_
  refine gp_putI 96 dX0_copyFrom_93 rfl f_X0_44 rfl hk rfl rfl ?_
  refine go_aload_n 97 dX0_copyFrom_96 rfl rfl ls_0 ?_
  refine go_aload_n 98 dX0_copyFrom_97 rfl rfl (ls_s ls_0) ?_
  refine gp_getI 101 dX0_copyFrom_98 rfl f_X0_47 rfl hq ?_
  refine go_top (y := (gi q 12)) (by simp (disch := omega) only [wI_ne, wI_eq]) ?_
  refine gp_putI 104 dX0_copyFrom_101 rfl f_X0_47 rfl hk rfl rfl ?_
  exact go_ret_v dX0_copyFrom_104 rfl rfl rfl ⟨rfl, rfl⟩
