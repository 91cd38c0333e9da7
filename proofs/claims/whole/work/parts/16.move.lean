/-! PLANTS: moving, ending, blending, time -/
noncomputable def ln1 (A : AA) (both : Int32) : Nat → Nat → Int32
  | _, 0 => -1
  | i, n + 1 => cIf (lnOk A i both) (nI i) (ln1 A both (i + 1) n)
noncomputable def lt1 (A : AA) (b v : Nat) : Int32 := cIf (ltC A b v) (ln1 A (jnM (A (145 + 9 * b + 4)) (nI v)) 0 (nL A)) (-1)
theorem jnM_comm (x y : Int32) : jnM x y = jnM y x := by unfold jnM; exact Int32.or_comm _ _
theorem ln1_F (A : AA) (both : Int32) : ∀ n i, (lnF A both i n = -4 ∧ ln1 A both i n = -1) ∨ (∃ k, i ≤ k ∧ k < i + n ∧ lnF A both i n = nI k ∧ ln1 A both i n = nI k) := by
  intro n
  induction n with
  | zero => intro i; exact Or.inl ⟨rfl, rfl⟩
  | succ n ih =>
    intro i
    by_cases hl : lnOk A i both
    · rw [lnF, ln1, cIf_t hl, cIf_t hl]
      exact Or.inr ⟨i, Nat.le_refl _, by omega, rfl, rfl⟩
    · rw [lnF, ln1, cIf_f hl, cIf_f hl]
      rcases ih (i + 1) with h | ⟨k, h1, h2, h3⟩
      · exact Or.inl h
      · exact Or.inr ⟨k, by omega, by omega, h3⟩
theorem lt1_F {N : Nat} {A : AA} (I : Inv N A) (b v : Nat) : (ltF A b v < 0 ∧ lt1 A b v = -1) ∨ (∃ k, k < nL A ∧ ltF A b v = nI k ∧ lt1 A b v = nI k ∧ ltC A b v) := by
  unfold ltF lt1
  by_cases h : ltC A b v
  · rw [cIf_t h, cIf_t h, jnM_comm]
    rcases ln1_F A (jnM (A (145 + 9 * b + 4)) (nI v)) (nL A) 0 with ⟨h1, h2⟩ | ⟨k, -, h2, h3, h4⟩
    · exact Or.inl ⟨by rw [h1]; decide, h2⟩
    · exact Or.inr ⟨k, by omega, h3, h4, h⟩
  · rw [cIf_f h, cIf_f h]
    exact Or.inl ⟨by decide, rfl⟩
section NX
variable {gi : GI} {P N b : Nat} {A : AA}
theorem ct_nxY (G : BcG) (hP : isP P) (h : Rel P A gi) (I : Inv N A) (hb : b < 6) (hl : live A b) (hk : bS A b + 1 < nS A (bR A b)) : Ct G mX3_nextStage [.ref (G.1 + P), .ref (G.1 + (P + 41 + b))] (hp gi) (pA (G.1 + (P + 10 + 6 * bR A b + (bS A b + 1))) (hp gi)) := by
  have hB := (h.2.2.2.2.1 b hb).2 hl
  have i := I.b1 hb hl
  exact ct_nextStage_y G gi hP hb (I.bR4 hb hl) (hB.1.trans i.1.1) (h.1.1.trans I.eR) I.nR4 i.1.2 (hB.2.2.2.2.2.2.1.trans i.2.1.1) (by have := I.bS4 hb hl; omega) ((h.2.1 _ (I.bR4 hb hl)).2.1.trans (I.eS (I.bR4 hb hl))) (I.nS4 (I.bR4 hb hl)) hk
theorem ct_nxN (G : BcG) (hP : isP P) (h : Rel P A gi) (I : Inv N A) (hb : b < 6) (hl : live A b) (hk : ¬ bS A b + 1 < nS A (bR A b)) : Ct G mX3_nextStage [.ref (G.1 + P), .ref (G.1 + (P + 41 + b))] (hp gi) (pZ (hp gi)) := by
  have hB := (h.2.2.2.2.1 b hb).2 hl
  have i := I.b1 hb hl
  exact ct_nextStage_n G gi hP hb (I.bR4 hb hl) (hB.1.trans i.1.1) (h.1.1.trans I.eR) I.nR4 i.1.2 (hB.2.2.2.2.2.2.1.trans i.2.1.1) (by have := I.bS4 hb hl; omega) ((h.2.1 _ (I.bR4 hb hl)).2.1.trans (I.eS (I.bR4 hb hl))) (I.nS4 (I.bR4 hb hl)) hk
theorem ct_isRipeA (G : BcG) (hP : isP P) (h : Rel P A gi) (hb : b < 6) (hl : live A b) (t : Int32) : Ct G mX0_isRipe [.ref (G.1 + (P + 41 + b)), .int t] (hp gi) (pI (bI (rpF A b ≤ t)) (hp gi)) := by
  rw [← ((h.2.2.2.2.1 b hb).2 hl).2.2.2.2.2.2.2.2.2.2.1]
  exact ct_isRipe G gi _ (tB hP hb) t
end NX
set_option maxHeartbeats 4000000 in
set_option maxRecDepth 100000 in
theorem lp_lineTo (G : BcG) {gi : GI} {P : Nat} (hP : isP P) {N : Nat} {A : AA} (h : Rel P A gi) (I : Inv N A) {b : Nat} (hb : b < 6) (hl : live A b) {v q : Nat} (hv6 : v < 6) (hq : tO q 6) : ∀ (n i : Nat), i + n = nL A → BGo G mX3_lineTo (KM G mX3_lineTo 341 (pI (ln1 A (jnM (A (145 + 9 * b + 4)) (nI v)) i n) (hp gi))) (hp gi) 0 0 54 [some (.ref (G.1 + P)), some (.ref (G.1 + (P + 41 + b))), some (.int (nI v)), some (.ref (G.1 + (P + 32 + v))), some (.ref (G.1 + q)), some (.int (nI i))] [] := by
  intro n
  induction n with
  | zero =>
    intro i  hn 
    obtain rfl : i = nL A := by omega
    refine go_iload 56 dX3_lineTo_54 rfl (ls_s (ls_s (ls_s (ls_s (ls_s ls_0))))) ?_
    refine go_aload_n 57 dX3_lineTo_56 rfl rfl ls_0 ?_
    refine gp_getI 60 dX3_lineTo_57 rfl f_X3_68 rfl (tP hP) ?_
    refine go_top (y := (nI (nL A))) (h.1.2.2.1.trans I.eL) ?_
    refine go_icmp_ge 117 63 dX3_lineTo_60 (by decide) rfl (fun c_60 => ?_) (fun c_60 => absurd (Int32.le_refl _) c_60)
    refine go_iconst 118 (v := (-1)) dX3_lineTo_117 rfl (by decide) ?_
    exact go_ret_i dX3_lineTo_118 rfl rfl rfl (pI_of rfl rfl)
  | succ n ih =>
    intro i  hn 
    have hL3 := I.nL3
    have hi3 : i < 3 := by omega
    have hL := h.2.2.2.1 i hi3
    have hB := (h.2.2.2.2.1 b hb).2 hl
    refine go_iload 56 dX3_lineTo_54 rfl (ls_s (ls_s (ls_s (ls_s (ls_s ls_0))))) ?_
    refine go_aload_n 57 dX3_lineTo_56 rfl rfl ls_0 ?_
    refine gp_getI 60 dX3_lineTo_57 rfl f_X3_68 rfl (tP hP) ?_
    refine go_top (y := (nI (nL A))) (h.1.2.2.1.trans I.eL) ?_
    refine go_icmp_ge 117 63 dX3_lineTo_60 (by decide) rfl (fun c_60 => absurd c_60 (nI_ge (a := i) (b := nL A) (by omega) (by omega))) (fun c_60 => ?_)
    refine go_iload 65 dX3_lineTo_63 rfl (ls_s (ls_s (ls_s (ls_s (ls_s ls_0))))) ?_
    refine go_aload_n 66 dX3_lineTo_65 rfl rfl ls_0 ?_
    refine gp_getR 69 dX3_lineTo_66 rfl f_X3_25 rfl (tP hP) (rL hP) ?_
    refine gp_alen 70 (v := nI 3) dX3_lineTo_69 rfl (aL hP) (by decide) (by decide) rfl ?_
    refine go_icmp_ge 117 73 dX3_lineTo_70 (by decide) rfl (fun c_70 => absurd c_70 (nI_ge (a := i) (b := 3) (by omega) (by decide))) (fun c_70 => ?_)
    refine go_aload_n 74 dX3_lineTo_73 rfl rfl ls_0 ?_
    refine gp_getR 77 dX3_lineTo_74 rfl f_X3_25 rfl (tP hP) (rL hP) ?_
    refine go_iload 79 dX3_lineTo_77 rfl (ls_s (ls_s (ls_s (ls_s (ls_s ls_0))))) ?_
    refine gp_aald 80 (i := i) dX3_lineTo_79 rfl (aL hP) (by decide) rfl rfl hi3 (by decide) (rLi hP hi3) ?_
    refine go_aload_n 81 dX3_lineTo_80 rfl rfl ls_0 ?_
    refine gp_getI 84 dX3_lineTo_81 rfl f_X3_71 rfl (tP hP) ?_
    refine go_top (y := (A 5)) h.1.2.2.2.1 ?_
    refine go_VI (M' := mX2_isFree) 87 dX3_lineTo_84 rfl w_499 okX2_isFree ⟨Nat.le_of_ble_eq_true rfl, Nat.le_of_ble_eq_true rfl⟩ (ct_isFree G gi _ (tL hP hi3) _) rfl rfl (tL hP hi3) (by decide) rfl (kk := ?_)
    refine go_ifeq_b 111 90 dX3_lineTo_87 (by decide) rfl (fun c_87 => ?_) (fun c_87 => ?_)
    · refine go_iinc 114 (v := (nI (i + 1))) dX3_lineTo_111 rfl (ls_s (ls_s (ls_s (ls_s (ls_s ls_0))))) (by exact nI_1 i) (by decide) (st_s (st_s (st_s (st_s (st_s st_0))))) ?_
      refine go_goto 54 dX3_lineTo_114 (by decide) ?_
      rw [show ln1 A (jnM (A (145 + 9 * b + 4)) (nI v)) i (n + 1) = ln1 A (jnM (A (145 + 9 * b + 4)) (nI v)) (i + 1) n from by rw [ln1, cIf_f (fun z => c_87 (by rw [hL.2.2.1]; exact z.2))]]
      exact ih (i + 1) (by omega)
    · refine go_aload_n 91 dX3_lineTo_90 rfl rfl ls_0 ?_
      refine gp_getR 94 dX3_lineTo_91 rfl f_X3_25 rfl (tP hP) (rL hP) ?_
      refine go_iload 96 dX3_lineTo_94 rfl (ls_s (ls_s (ls_s (ls_s (ls_s ls_0))))) ?_
      refine gp_aald 97 (i := i) dX3_lineTo_96 rfl (aL hP) (by decide) rfl rfl hi3 (by decide) (rLi hP hi3) ?_
      refine go_aload_n 98 dX3_lineTo_97 rfl rfl (ls_s ls_0) ?_
      refine gp_getI 101 dX3_lineTo_98 rfl f_X3_245 rfl (tB hP hb) ?_
      refine go_top (y := (A (145 + 9 * b + 4))) hB.2.2.2.2.2.2.2.1 ?_
      refine go_iload_n 102 dX3_lineTo_101 rfl rfl (ls_s (ls_s ls_0)) ?_
      refine go_VI (M' := mX2_joins) 105 dX3_lineTo_102 rfl w_503 okX2_joins ⟨Nat.le_of_ble_eq_true rfl, Nat.le_of_ble_eq_true rfl⟩ (ct_joins G gi _ (tL hP hi3) _ _) rfl rfl (tL hP hi3) (by decide) rfl (kk := ?_)
      refine go_ifeq_b 111 108 dX3_lineTo_105 (by decide) rfl (fun c_105 => ?_) (fun c_105 => ?_)
      · refine go_iinc 114 (v := (nI (i + 1))) dX3_lineTo_111 rfl (ls_s (ls_s (ls_s (ls_s (ls_s ls_0))))) (by exact nI_1 i) (by decide) (st_s (st_s (st_s (st_s (st_s st_0))))) ?_
        refine go_goto 54 dX3_lineTo_114 (by decide) ?_
        rw [show ln1 A (jnM (A (145 + 9 * b + 4)) (nI v)) i (n + 1) = ln1 A (jnM (A (145 + 9 * b + 4)) (nI v)) (i + 1) n from by rw [ln1, cIf_f (fun z => c_105 (by rw [hL.1]; exact z.1))]]
        exact ih (i + 1) (by omega)
      · refine go_iload 110 dX3_lineTo_108 rfl (ls_s (ls_s (ls_s (ls_s (ls_s ls_0))))) ?_
        exact go_ret_i dX3_lineTo_110 rfl rfl rfl (pI_of (by rw [ln1, cIf_t ⟨by rw [← hL.1]; exact c_105, by rw [← hL.2.2.1]; exact c_87⟩]) rfl)
set_option maxHeartbeats 4000000 in
set_option maxRecDepth 100000 in
theorem ct_lineTo (G : BcG) {gi : GI} {P : Nat} (hP : isP P) {N : Nat} {A : AA} (h : Rel P A gi) (I : Inv N A) {b : Nat} (hb : b < 6) (hl : live A b) {v : Nat} (hv : v < nV A) : Ct G mX3_lineTo [.ref (G.1 + P), .ref (G.1 + (P + 41 + b)), .int (nI v)] (hp gi) (pI (lt1 A b v) (hp gi)) := by
  have hv6 : v < 6 := Nat.lt_of_lt_of_le hv I.nV6
  have hB := (h.2.2.2.2.1 b hb).2 hl
  have i := I.b1 hb hl
  refine ct_of [some (.ref (G.1 + P)), some (.ref (G.1 + (P + 41 + b))), some (.int (nI v)), none, none, none] w_2 (by decide) rfl (Nat.le_of_ble_eq_true rfl) rfl ?_
  refine go_aload_n 1 dX3_lineTo_0 rfl rfl ls_0 ?_
  refine go_iload_n 2 dX3_lineTo_1 rfl rfl (ls_s (ls_s ls_0)) ?_
  refine go_VA (M' := mX3_vesselAt) 5 dX3_lineTo_2 rfl w_395 okX3_vesselAt ⟨Nat.le_of_ble_eq_true rfl, Nat.le_of_ble_eq_true rfl⟩ (Ct.weak (ct_vesselAt G gi hP _ (nV A) (h.1.2.1.trans I.eV) I.nV6) (pAt_y (n := nV A) (f := fun r => P + 32 + r) (c := fun _ => True) (by have := I.nV6; omega) hv trivial)) rfl rfl (tP hP) (by decide) rfl (kk := ?_)
  refine go_astore_n 6 dX3_lineTo_5 rfl rfl (by decide) (st_s (st_s (st_s st_0))) ?_
  by_cases hk : bS A b + 1 < nS A (bR A b)
  · refine go_aload_n 7 dX3_lineTo_6 rfl rfl ls_0 ?_
    refine go_aload_n 8 dX3_lineTo_7 rfl rfl (ls_s ls_0) ?_
    refine go_VA (M' := mX3_nextStage) 11 dX3_lineTo_8 rfl w_491 okX3_nextStage ⟨Nat.le_of_ble_eq_true rfl, Nat.le_of_ble_eq_true rfl⟩ (ct_nxY G hP h I hb hl hk) rfl rfl (tP hP) (by decide) rfl (kk := ?_)
    refine go_astore 13 dX3_lineTo_11 rfl (by decide) (st_s (st_s (st_s (st_s st_0)))) ?_
    refine go_aload_n 14 dX3_lineTo_13 rfl rfl (ls_s (ls_s (ls_s ls_0))) ?_
    refine go_ifnull 17 dX3_lineTo_14 rfl ?_
    refine go_aload 19 dX3_lineTo_17 rfl (ls_s (ls_s (ls_s (ls_s ls_0)))) ?_
    refine go_ifnull 22 dX3_lineTo_19 rfl ?_
    refine go_aload_n 23 dX3_lineTo_22 rfl rfl (ls_s ls_0) ?_
    refine go_aload_n 24 dX3_lineTo_23 rfl rfl ls_0 ?_
    refine gp_getI 27 dX3_lineTo_24 rfl f_X3_71 rfl (tP hP) ?_
    refine go_top (y := (A 5)) h.1.2.2.2.1 ?_
    refine go_VI (M' := mX0_isRipe) 30 dX3_lineTo_27 rfl w_495 okX0_isRipe ⟨Nat.le_of_ble_eq_true rfl, Nat.le_of_ble_eq_true rfl⟩ (ct_isRipeA G hP h hb hl _) rfl rfl (tB hP hb) (by decide) rfl (kk := ?_)
    refine go_ifeq_b 49 33 dX3_lineTo_30 (by decide) rfl (fun c_30 => ?_) (fun c_30 => ?_)
    · refine go_iconst 50 (v := (-1)) dX3_lineTo_49 rfl (by decide) ?_
      exact go_ret_i dX3_lineTo_50 rfl rfl rfl (pI_of (by rw [lt1, cIf_f (fun z => c_30 z.1)]) rfl)
    · refine go_aload_n 34 dX3_lineTo_33 rfl rfl (ls_s (ls_s (ls_s ls_0))) ?_
      refine go_aload 36 dX3_lineTo_34 rfl (ls_s (ls_s (ls_s (ls_s ls_0)))) ?_
      refine gp_getI 39 dX3_lineTo_36 rfl f_X3_128 rfl (tS hP (I.bR4 hb hl) (Nat.lt_of_lt_of_le hk (I.nS4 (I.bR4 hb hl)))) ?_
      refine go_top (y := (stg A (bR A b) (bS A b + 1) 0)) ((h.2.1 _ (I.bR4 hb hl)).2.2 _ (Nat.lt_of_lt_of_le hk (I.nS4 (I.bR4 hb hl)))).1 ?_
      refine go_aload_n 40 dX3_lineTo_39 rfl rfl (ls_s ls_0) ?_
      refine gp_getI 43 dX3_lineTo_40 rfl f_X3_221 rfl (tB hP hb) ?_
      refine go_top (y := (A (145 + 9 * b + 2))) hB.2.2.2.1 ?_
      refine go_VI (M' := mX7_canTake) 46 dX3_lineTo_43 rfl w_451 okX7_canTake ⟨Nat.le_of_ble_eq_true rfl, Nat.le_of_ble_eq_true rfl⟩ (ct_canTakeA G hP h I hv hv6 _ _) rfl rfl (tV hP hv6) (by decide) rfl (kk := ?_)
      refine go_ifne_b 51 49 dX3_lineTo_46 (by decide) rfl (fun c_46 => ?_) (fun c_46 => ?_)
      · refine go_iconst 52 (v := 0) dX3_lineTo_51 rfl (by decide) ?_
        refine go_istore 54 dX3_lineTo_52 rfl (by decide) (st_s (st_s (st_s (st_s (st_s st_0))))) ?_
        rw [show lt1 A b v = ln1 A (jnM (A (145 + 9 * b + 4)) (nI v)) 0 (nL A) from by rw [lt1, cIf_t ⟨c_30, hk, c_46⟩]]
        exact lp_lineTo G hP h I hb hl hv6 (tS hP (I.bR4 hb hl) (Nat.lt_of_lt_of_le hk (I.nS4 (I.bR4 hb hl)))) (nL A) 0 (Nat.zero_add _)
      · refine go_iconst 50 (v := (-1)) dX3_lineTo_49 rfl (by decide) ?_
        exact go_ret_i dX3_lineTo_50 rfl rfl rfl (pI_of (by rw [lt1, cIf_f (fun z => c_46 z.2.2)]) rfl)
  · refine go_aload_n 7 dX3_lineTo_6 rfl rfl ls_0 ?_
    refine go_aload_n 8 dX3_lineTo_7 rfl rfl (ls_s ls_0) ?_
    refine go_VZ (M' := mX3_nextStage) 11 dX3_lineTo_8 rfl w_491 okX3_nextStage ⟨Nat.le_of_ble_eq_true rfl, Nat.le_of_ble_eq_true rfl⟩ (ct_nxN G hP h I hb hl hk) rfl rfl (tP hP) (by decide) rfl (kk := ?_)
    refine go_astoreN 13 dX3_lineTo_11 rfl (by decide) (st_s (st_s (st_s (st_s st_0)))) ?_
    refine go_aload_n 14 dX3_lineTo_13 rfl rfl (ls_s (ls_s (ls_s ls_0))) ?_
    refine go_ifnull 17 dX3_lineTo_14 rfl ?_
    refine go_aloadN 19 dX3_lineTo_17 rfl (ls_s (ls_s (ls_s (ls_s ls_0)))) ?_
    refine go_ifnullN 49 dX3_lineTo_19 (by decide) ?_
    refine go_iconst 50 (v := (-1)) dX3_lineTo_49 rfl (by decide) ?_
    exact go_ret_i dX3_lineTo_50 rfl rfl rfl (pI_of (by rw [lt1, cIf_f (fun z => hk z.2.1)]) rfl)
theorem ct_lineToE (G : BcG) {gi : GI} {P : Nat} (hP : isP P) {N : Nat} {A : AA} (h : Rel P A gi) (I : Inv N A) {b : Nat} (hb : b < 6) (hl : live A b) {v : Nat} (hv : v < nV A) {x : Int32} (e : lt1 A b v = x) : Ct G mX3_lineTo [.ref (G.1 + P), .ref (G.1 + (P + 41 + b)), .int (nI v)] (hp gi) (pI x (hp gi)) := by
  subst e
  exact ct_lineTo G hP h I hb hl hv
theorem mf_rel {sp m : Int32} (h1 : bd sp 99) (h2 : 1 ≤ iN sp) : mfF sp m = (m + sp - 1) / sp := by
  rw [mfF, if_neg]
  rw [h1.1]
  intro z
  have := (nI_ltI (a := iN sp) (b := 1) (by have := h1.2; omega) (by decide)).mp z
  omega
theorem batLive {P N : Nat} {A : AA} {gi : GI} (h : Rel P A gi) (I : Inv N A) {x : Int32} : (∃ r, r < 6 ∧ x = nI r ∧ ¬ gi (P + 41 + r) 0 = 0) ↔ isBat A x := by
  constructor
  · rintro ⟨r, hr, rfl, hc⟩
    exact ⟨r, hr, rfl, (live_iff h I hr).mp hc⟩
  · rintro ⟨r, hr, rfl, hc⟩
    exact ⟨r, hr, rfl, (live_iff h I hr).mpr hc⟩
set_option maxHeartbeats 4000000 in
set_option maxRecDepth 100000 in
theorem ct_moveBatch (G : BcG) (gi : GI) {P : Nat} (hP : isP P) {N : Nat} {A : AA} (h : Rel P A gi) (I : Inv N A) (x y : Int32) : Ct G mX3_moveBatch [.ref (G.1 + P), .int x, .int y] (hp gi) (pOp P gi (fMove A x y)) := by
  refine ct_of [some (.ref (G.1 + P)), some (.int x), some (.int y), none, none, none, none, none, none, none] w_2 (by decide) rfl (Nat.le_of_ble_eq_true rfl) rfl ?_
  refine go_aload_n 1 dX3_moveBatch_0 rfl rfl ls_0 ?_
  refine go_iload_n 2 dX3_moveBatch_1 rfl rfl (ls_s ls_0) ?_
  refine go_V (M' := mX3_batchAt) 5 dX3_moveBatch_2 rfl w_483 okX3_batchAt ⟨Nat.le_of_ble_eq_true rfl, Nat.le_of_ble_eq_true rfl⟩ rfl rfl (Nat.le_of_ble_eq_true rfl) (Nat.le_of_ble_eq_true rfl) (ct_batchAt G gi hP _) rfl rfl (Nat.le_of_ble_eq_true rfl) (tP hP) (by decide) rfl (fun v_2 h_2 p_2 => ?_)
  simp only [pAt] at p_2
  obtain ⟨rfl, ⟨r_2, hr_2, hx_2, hc_2, rfl⟩ | ⟨hno_2, rfl⟩⟩ := p_2
  · subst hx_2
    have hl := (live_iff h I hr_2).mp hc_2
    have hB := (h.2.2.2.2.1 r_2 hr_2).2 hl
    have i := I.b1 hr_2 hl
    refine go_astore_n 6 dX3_moveBatch_5 rfl rfl (by decide) (st_s (st_s (st_s st_0))) ?_
    refine go_aload_n 7 dX3_moveBatch_6 rfl rfl ls_0 ?_
    refine go_iload_n 8 dX3_moveBatch_7 rfl rfl (ls_s (ls_s ls_0)) ?_
    refine go_V (M' := mX3_vesselAt) 11 dX3_moveBatch_8 rfl w_395 okX3_vesselAt ⟨Nat.le_of_ble_eq_true rfl, Nat.le_of_ble_eq_true rfl⟩ rfl rfl (Nat.le_of_ble_eq_true rfl) (Nat.le_of_ble_eq_true rfl) (ct_vesselAt G gi hP _ (nV A) (h.1.2.1.trans I.eV) I.nV6) rfl rfl (Nat.le_of_ble_eq_true rfl) (tP hP) (by decide) rfl (fun v_8 h_8 p_8 => ?_)
    simp only [pAt] at p_8
    obtain ⟨rfl, ⟨r_8, hr_8, hx_8, hc_8, rfl⟩ | ⟨hno_8, rfl⟩⟩ := p_8
    · subst hx_8
      have hv6 : r_8 < 6 := Nat.lt_of_lt_of_le hr_8 I.nV6
      have hV := (h.2.2.1 r_8 hv6).1 hr_8
      refine go_astore 13 dX3_moveBatch_11 rfl (by decide) (st_s (st_s (st_s (st_s st_0)))) ?_
      refine go_aload_n 14 dX3_moveBatch_13 rfl rfl (ls_s (ls_s (ls_s ls_0))) ?_
      refine go_ifnull 17 dX3_moveBatch_14 rfl ?_
      refine go_aload 19 dX3_moveBatch_17 rfl (ls_s (ls_s (ls_s (ls_s ls_0)))) ?_
      refine go_ifnonnull 24 dX3_moveBatch_19 (by decide) ?_
      rcases lt1_F I r_2 r_8 with hlt | ⟨k, hkL, hlt⟩
      · refine go_aload_n 25 dX3_moveBatch_24 rfl rfl ls_0 ?_
        refine go_aload_n 26 dX3_moveBatch_25 rfl rfl (ls_s (ls_s (ls_s ls_0))) ?_
        refine go_iload_n 27 dX3_moveBatch_26 rfl rfl (ls_s (ls_s ls_0)) ?_
        refine go_VI (M' := mX3_lineTo) 30 dX3_moveBatch_27 rfl w_487 okX3_lineTo ⟨Nat.le_of_ble_eq_true rfl, Nat.le_of_ble_eq_true rfl⟩ (ct_lineToE G hP h I hr_2 hl hr_8 hlt.2) rfl rfl (tP hP) (by decide) rfl (kk := ?_)
        refine go_istore 32 dX3_moveBatch_30 rfl (by decide) (st_s (st_s (st_s (st_s (st_s st_0))))) ?_
        refine go_aload_n 33 dX3_moveBatch_32 rfl rfl ls_0 ?_
        refine go_iload 35 dX3_moveBatch_33 rfl (ls_s (ls_s (ls_s (ls_s (ls_s ls_0))))) ?_
        refine go_VZ (M' := mX3_lineAt) 38 dX3_moveBatch_35 rfl w_413 okX3_lineAt ⟨Nat.le_of_ble_eq_true rfl, Nat.le_of_ble_eq_true rfl⟩ (Ct.weak (ct_lineAt G gi hP _ (nL A) (h.1.2.2.1.trans I.eL) I.nL3) (pAt_n (nt (fun ⟨r, hr, e⟩ => nI_pos (n := r) (by have := I.nL3; omega) (by rw [← e]; decide))))) rfl rfl (tP hP) (by decide) rfl (kk := ?_)
        refine go_astoreN 40 dX3_moveBatch_38 rfl (by decide) (st_s (st_s (st_s (st_s (st_s (st_s st_0)))))) ?_
        by_cases hk : bS A r_2 + 1 < nS A (bR A r_2)
        · refine go_aload_n 41 dX3_moveBatch_40 rfl rfl ls_0 ?_
          refine go_aload_n 42 dX3_moveBatch_41 rfl rfl (ls_s (ls_s (ls_s ls_0))) ?_
          refine go_VA (M' := mX3_nextStage) 45 dX3_moveBatch_42 rfl w_491 okX3_nextStage ⟨Nat.le_of_ble_eq_true rfl, Nat.le_of_ble_eq_true rfl⟩ (ct_nxY G hP h I hr_2 hl hk) rfl rfl (tP hP) (by decide) rfl (kk := ?_)
          refine go_astore 47 dX3_moveBatch_45 rfl (by decide) (st_s (st_s (st_s (st_s (st_s (st_s (st_s st_0))))))) ?_
          refine go_aloadN 49 dX3_moveBatch_47 rfl (ls_s (ls_s (ls_s (ls_s (ls_s (ls_s ls_0)))))) ?_
          refine go_ifnullN 57 dX3_moveBatch_49 (by decide) ?_
          refine go_bipush 59 (v := (-2)) dX3_moveBatch_57 rfl (by decide) ?_
          exact go_ret_i dX3_moveBatch_59 rfl rfl rfl (pOp_e (fMove_2 ⟨isBat_n hr_2 hl, isVes_n hr_8⟩ (by rw [iN_n (by omega), iN_n (by omega)]; exact hlt.1)) h)
        · refine go_aload_n 41 dX3_moveBatch_40 rfl rfl ls_0 ?_
          refine go_aload_n 42 dX3_moveBatch_41 rfl rfl (ls_s (ls_s (ls_s ls_0))) ?_
          refine go_VZ (M' := mX3_nextStage) 45 dX3_moveBatch_42 rfl w_491 okX3_nextStage ⟨Nat.le_of_ble_eq_true rfl, Nat.le_of_ble_eq_true rfl⟩ (ct_nxN G hP h I hr_2 hl hk) rfl rfl (tP hP) (by decide) rfl (kk := ?_)
          refine go_astoreN 47 dX3_moveBatch_45 rfl (by decide) (st_s (st_s (st_s (st_s (st_s (st_s (st_s st_0))))))) ?_
          refine go_aloadN 49 dX3_moveBatch_47 rfl (ls_s (ls_s (ls_s (ls_s (ls_s (ls_s ls_0)))))) ?_
          refine go_ifnullN 57 dX3_moveBatch_49 (by decide) ?_
          refine go_bipush 59 (v := (-2)) dX3_moveBatch_57 rfl (by decide) ?_
          exact go_ret_i dX3_moveBatch_59 rfl rfl rfl (pOp_e (fMove_2 ⟨isBat_n hr_2 hl, isVes_n hr_8⟩ (by rw [iN_n (by omega), iN_n (by omega)]; exact hlt.1)) h)
      · have hk3 : k < 3 := Nat.lt_of_lt_of_le hkL I.nL3
        refine go_aload_n 25 dX3_moveBatch_24 rfl rfl ls_0 ?_
        refine go_aload_n 26 dX3_moveBatch_25 rfl rfl (ls_s (ls_s (ls_s ls_0))) ?_
        refine go_iload_n 27 dX3_moveBatch_26 rfl rfl (ls_s (ls_s ls_0)) ?_
        refine go_VI (M' := mX3_lineTo) 30 dX3_moveBatch_27 rfl w_487 okX3_lineTo ⟨Nat.le_of_ble_eq_true rfl, Nat.le_of_ble_eq_true rfl⟩ (ct_lineToE G hP h I hr_2 hl hr_8 hlt.2.1) rfl rfl (tP hP) (by decide) rfl (kk := ?_)
        refine go_istore 32 dX3_moveBatch_30 rfl (by decide) (st_s (st_s (st_s (st_s (st_s st_0))))) ?_
        refine go_aload_n 33 dX3_moveBatch_32 rfl rfl ls_0 ?_
        refine go_iload 35 dX3_moveBatch_33 rfl (ls_s (ls_s (ls_s (ls_s (ls_s ls_0))))) ?_
        refine go_VA (M' := mX3_lineAt) 38 dX3_moveBatch_35 rfl w_413 okX3_lineAt ⟨Nat.le_of_ble_eq_true rfl, Nat.le_of_ble_eq_true rfl⟩ (Ct.weak (ct_lineAt G gi hP _ (nL A) (h.1.2.2.1.trans I.eL) I.nL3) (pAt_y (n := nL A) (f := fun r => P + 38 + r) (c := fun _ => True) (by have := I.nL3; omega) hkL trivial)) rfl rfl (tP hP) (by decide) rfl (kk := ?_)
        refine go_astore 40 dX3_moveBatch_38 rfl (by decide) (st_s (st_s (st_s (st_s (st_s (st_s st_0)))))) ?_
        have hk : bS A r_2 + 1 < nS A (bR A r_2) := hlt.2.2.2.1
        refine go_aload_n 41 dX3_moveBatch_40 rfl rfl ls_0 ?_
        refine go_aload_n 42 dX3_moveBatch_41 rfl rfl (ls_s (ls_s (ls_s ls_0))) ?_
        refine go_VA (M' := mX3_nextStage) 45 dX3_moveBatch_42 rfl w_491 okX3_nextStage ⟨Nat.le_of_ble_eq_true rfl, Nat.le_of_ble_eq_true rfl⟩ (ct_nxY G hP h I hr_2 hl hk) rfl rfl (tP hP) (by decide) rfl (kk := ?_)
        refine go_astore 47 dX3_moveBatch_45 rfl (by decide) (st_s (st_s (st_s (st_s (st_s (st_s (st_s st_0))))))) ?_
        refine go_aload 49 dX3_moveBatch_47 rfl (ls_s (ls_s (ls_s (ls_s (ls_s (ls_s ls_0)))))) ?_
        refine go_ifnull 52 dX3_moveBatch_49 rfl ?_
        refine go_aload 54 dX3_moveBatch_52 rfl (ls_s (ls_s (ls_s (ls_s (ls_s (ls_s (ls_s ls_0))))))) ?_
        refine go_ifnonnull 60 dX3_moveBatch_54 (by decide) ?_
        have hu6 := I.bV6 hr_2 hl
        have hr4 := I.bR4 hr_2 hl
        have hs4 : bS A r_2 + 1 < 4 := Nat.lt_of_lt_of_le hk (I.nS4 (I.bR4 hr_2 hl))
        have huv : bV A r_2 ≠ r_8 := fun e => by have z := hlt.2.2.2.2.1; rw [← e, i.2.2.1.2.2] at z; exact nI_pos (by omega) z
        have hcm : cmF (wI gi (P + 32 + bV A r_2) 2 (-1)) P r_8 (prF A r_2) = clF A r_8 (prF A r_2) := cm_rel' (by simp (disch := omega) only [wI_ne, wI_eq]; exact hV.2.2.2.1) (fun q hq => by simp (disch := omega) only [wI_ne, wI_eq]; exact h.2.2.2.2.2.1 q hq) (I.2.2.2.1 r_8 hv6).2.2.2.1 (I.2.2.1 _ (I.bR4 hr_2 hl)).1
        have hL := h.2.2.2.1 k hk3
        have hspd := (I.2.2.2.2.1 k hk3).1 hkL
        refine go_aload_n 61 dX3_moveBatch_60 rfl rfl ls_0 ?_
        refine go_aload_n 62 dX3_moveBatch_61 rfl rfl (ls_s (ls_s (ls_s ls_0))) ?_
        refine go_VN (M' := mX3_leaveVessel) 65 dX3_moveBatch_62 rfl w_507 okX3_leaveVessel ⟨Nat.le_of_ble_eq_true rfl, Nat.le_of_ble_eq_true rfl⟩ (ct_leaveVessel G gi hP (v := bV A r_2) (n := nV A) hr_2 hu6 (hB.2.2.2.2.2.2.2.1.trans i.2.2.1.1) (h.1.2.1.trans I.eV) I.nV6 i.2.2.1.2.1) rfl rfl (tP hP) (by decide) rfl (kk := ?_)
        refine go_aload_n 66 dX3_moveBatch_65 rfl rfl ls_0 ?_
        refine go_aload 68 dX3_moveBatch_66 rfl (ls_s (ls_s (ls_s (ls_s ls_0)))) ?_
        refine go_iload_n 69 dX3_moveBatch_68 rfl rfl (ls_s ls_0) ?_
        refine go_aload_n 70 dX3_moveBatch_69 rfl rfl (ls_s (ls_s (ls_s ls_0))) ?_
        refine gp_getI 73 dX3_moveBatch_70 rfl f_X3_220 rfl (tB hP hr_2) ?_
        refine go_top (y := (prF A r_2)) (by simp (disch := omega) only [wI_ne, wI_eq]; exact hB.2.1) ?_
        refine go_VI (M' := mX3_occupy) 76 dX3_moveBatch_73 rfl w_459 okX3_occupy ⟨Nat.le_of_ble_eq_true rfl, Nat.le_of_ble_eq_true rfl⟩ (ct_occupyA G _ hP hv6 _ _ hcm (by simp (disch := omega) only [wI_ne, wI_eq]; rw [hV.2.2.2.2])) rfl rfl (tP hP) (by decide) rfl (kk := ?_)
        refine go_istore 78 dX3_moveBatch_76 rfl (by decide) (st_s (st_s (st_s (st_s (st_s (st_s (st_s (st_s st_0)))))))) ?_
        refine go_aload 80 dX3_moveBatch_78 rfl (ls_s (ls_s (ls_s (ls_s (ls_s (ls_s ls_0)))))) ?_
        refine go_aload_n 81 dX3_moveBatch_80 rfl rfl ls_0 ?_
        refine gp_getI 84 dX3_moveBatch_81 rfl f_X3_71 rfl (tP hP) ?_
        refine go_top (y := (A 5)) (by simp (disch := omega) only [wI_ne, wI_eq]; exact h.1.2.2.2.1) ?_
        refine go_iload 86 dX3_moveBatch_84 rfl (ls_s (ls_s (ls_s (ls_s (ls_s (ls_s (ls_s (ls_s ls_0)))))))) ?_
        refine go_iadd 87 dX3_moveBatch_86 rfl ?_
        refine go_aload 89 dX3_moveBatch_87 rfl (ls_s (ls_s (ls_s (ls_s (ls_s (ls_s ls_0)))))) ?_
        refine go_aload_n 90 dX3_moveBatch_89 rfl rfl (ls_s (ls_s (ls_s ls_0))) ?_
        refine gp_getI 93 dX3_moveBatch_90 rfl f_X3_221 rfl (tB hP hr_2) ?_
        refine go_top (y := (A (145 + 9 * r_2 + 2))) (by simp (disch := omega) only [wI_ne, wI_eq]; exact hB.2.2.2.1) ?_
        refine go_VI (M' := mX2_minutesFor) 96 dX3_moveBatch_93 rfl w_511 okX2_minutesFor ⟨Nat.le_of_ble_eq_true rfl, Nat.le_of_ble_eq_true rfl⟩ (ct_minutesFor G _ _ (tL hP hk3) _) rfl rfl (tL hP hk3) (by decide) rfl (kk := ?_)
        refine go_top (y := (((A (145 + 9 * r_2 + 2)) + (A (133 + 4 * k + 1)) - 1) / (A (133 + 4 * k + 1)))) (by simp (disch := omega) only [wI_ne, wI_eq]; rw [hL.2.1, mf_rel hspd.1 hspd.2]) ?_
        refine go_iadd 97 dX3_moveBatch_96 rfl ?_
        refine go_top (y := (A 5 + mtF A r_2 r_8 k)) (by rw [mtF, Int32.add_assoc]) ?_
        refine gp_putI 100 dX3_moveBatch_97 rfl f_X3_227 rfl (tL hP hk3) rfl rfl ?_
        refine go_aload 102 dX3_moveBatch_100 rfl (ls_s (ls_s (ls_s (ls_s (ls_s (ls_s ls_0)))))) ?_
        refine go_dup 103 dX3_moveBatch_102 rfl rfl ?_
        refine gp_getI 106 dX3_moveBatch_103 rfl f_X3_230 rfl (tL hP hk3) ?_
        refine go_top (y := (A (133 + 4 * k + 3))) (by simp (disch := omega) only [wI_ne, wI_eq]; exact hL.2.2.2) ?_
        refine go_aload_n 107 dX3_moveBatch_106 rfl rfl (ls_s (ls_s (ls_s ls_0))) ?_
        refine gp_getI 110 dX3_moveBatch_107 rfl f_X3_221 rfl (tB hP hr_2) ?_
        refine go_top (y := (A (145 + 9 * r_2 + 2))) (by simp (disch := omega) only [wI_ne, wI_eq]; exact hB.2.2.2.1) ?_
        refine go_iadd 111 dX3_moveBatch_110 rfl ?_
        refine gp_putI 114 dX3_moveBatch_111 rfl f_X3_230 rfl (tL hP hk3) rfl rfl ?_
        refine go_aload_n 115 dX3_moveBatch_114 rfl rfl ls_0 ?_
        refine go_aload_n 116 dX3_moveBatch_115 rfl rfl (ls_s (ls_s (ls_s ls_0))) ?_
        refine gp_getI 119 dX3_moveBatch_116 rfl f_X3_221 rfl (tB hP hr_2) ?_
        refine go_top (y := (A (145 + 9 * r_2 + 2))) (by simp (disch := omega) only [wI_ne, wI_eq]; exact hB.2.2.2.1) ?_
        refine go_VI (M' := mX3_transferLoss) 122 dX3_moveBatch_119 rfl w_515 okX3_transferLoss ⟨Nat.le_of_ble_eq_true rfl, Nat.le_of_ble_eq_true rfl⟩ (ct_transferLoss G _ hP _) rfl rfl (tP hP) (by decide) rfl (kk := ?_)
        refine go_top (y := (lsF A (A (145 + 9 * r_2 + 2)))) (by simp (disch := omega) only [wI_ne, wI_eq]; rw [h.2.2.2.2.2.2.1]; rfl) ?_
        refine go_istore 124 dX3_moveBatch_122 rfl (by decide) (st_s (st_s (st_s (st_s (st_s (st_s (st_s (st_s (st_s st_0))))))))) ?_
        refine go_aload_n 125 dX3_moveBatch_124 rfl rfl ls_0 ?_
        refine go_dup 126 dX3_moveBatch_125 rfl rfl ?_
        refine gp_getI 129 dX3_moveBatch_126 rfl f_X3_80 rfl (tP hP) ?_
        refine go_top (y := (A 8)) (by simp (disch := omega) only [wI_ne, wI_eq]; exact h.1.2.2.2.2.2.2.1) ?_
        refine go_iload 131 dX3_moveBatch_129 rfl (ls_s (ls_s (ls_s (ls_s (ls_s (ls_s (ls_s (ls_s (ls_s ls_0))))))))) ?_
        refine go_iadd 132 dX3_moveBatch_131 rfl ?_
        refine gp_putI 135 dX3_moveBatch_132 rfl f_X3_80 rfl (tP hP) rfl rfl ?_
        refine go_aload_n 136 dX3_moveBatch_135 rfl rfl (ls_s (ls_s (ls_s ls_0))) ?_
        refine go_dup 137 dX3_moveBatch_136 rfl rfl ?_
        refine gp_getI 140 dX3_moveBatch_137 rfl f_X3_221 rfl (tB hP hr_2) ?_
        refine go_top (y := (A (145 + 9 * r_2 + 2))) (by simp (disch := omega) only [wI_ne, wI_eq]; exact hB.2.2.2.1) ?_
        refine go_iload 142 dX3_moveBatch_140 rfl (ls_s (ls_s (ls_s (ls_s (ls_s (ls_s (ls_s (ls_s (ls_s ls_0))))))))) ?_
        refine go_isub 143 dX3_moveBatch_142 rfl ?_
        refine gp_putI 146 dX3_moveBatch_143 rfl f_X3_221 rfl (tB hP hr_2) rfl rfl ?_
        refine go_aload_n 147 dX3_moveBatch_146 rfl rfl (ls_s (ls_s (ls_s ls_0))) ?_
        refine go_aload_n 148 dX3_moveBatch_147 rfl rfl (ls_s (ls_s (ls_s ls_0))) ?_
        refine gp_getI 151 dX3_moveBatch_148 rfl f_X3_236 rfl (tB hP hr_2) ?_
        refine go_top (y := (A (145 + 9 * r_2 + 3))) (by simp (disch := omega) only [wI_ne, wI_eq]; exact hB.2.2.2.2.2.2.1) ?_
        refine go_iconst 152 (v := 1) dX3_moveBatch_151 rfl (by decide) ?_
        refine go_iadd 153 dX3_moveBatch_152 rfl ?_
        refine go_aload 155 dX3_moveBatch_153 rfl (ls_s (ls_s (ls_s (ls_s (ls_s (ls_s (ls_s ls_0))))))) ?_
        refine go_iload_n 156 dX3_moveBatch_155 rfl rfl (ls_s (ls_s ls_0)) ?_
        refine go_aload 158 dX3_moveBatch_156 rfl (ls_s (ls_s (ls_s (ls_s (ls_s (ls_s ls_0)))))) ?_
        refine gp_getI 161 dX3_moveBatch_158 rfl f_X3_227 rfl (tL hP hk3) ?_
        refine go_top (y := (A 5 + mtF A r_2 r_8 k)) (by simp (disch := omega) only [wI_ne, wI_eq]) ?_
        refine go_VN (M' := mX0_enter) 164 dX3_moveBatch_161 rfl w_471 okX0_enter ⟨Nat.le_of_ble_eq_true rfl, Nat.le_of_ble_eq_true rfl⟩ (ct_enter G (wI (wI (wI (wI (wI (wI (wI (wI gi (P + 32 + bV A r_2) 2 (-1)) (P + 32 + r_8) 4 (A (103 + 5 * r_8 + 4) + clF A r_8 (prF A r_2))) (P + 32 + r_8) 2 (nI r_2)) (P + 32 + r_8) 3 (prF A r_2)) (P + 38 + k) 2 (A 5 + mtF A r_2 r_8 k)) (P + 38 + k) 3 ((A (133 + 4 * k + 3)) + (A (145 + 9 * r_2 + 2)))) (P) 13 ((A 8) + (lsF A (A (145 + 9 * r_2 + 2))))) (P + 41 + r_2) 4 ((A (145 + 9 * r_2 + 2)) - (lsF A (A (145 + 9 * r_2 + 2))))) _ _ (tB hP hr_2) (tS hP (I.bR4 hr_2 hl) (Nat.lt_of_lt_of_le hk (I.nS4 (I.bR4 hr_2 hl)))) (by omega) _ _ (A 5 + mtF A r_2 r_8 k) (stg A (bR A r_2) (bS A r_2 + 1) 1) (stg A (bR A r_2) (bS A r_2 + 1) 2) (stg A (bR A r_2) (bS A r_2 + 1) 3) (by simp (disch := omega) only [wI_ne, wI_eq]; exact ((h.2.1 _ (I.bR4 hr_2 hl)).2.2 _ hs4).2.1) (by simp (disch := omega) only [wI_ne, wI_eq]; exact ((h.2.1 _ (I.bR4 hr_2 hl)).2.2 _ hs4).2.2.1) (by simp (disch := omega) only [wI_ne, wI_eq]; exact ((h.2.1 _ (I.bR4 hr_2 hl)).2.2 _ hs4).2.2.2)) rfl rfl (tB hP hr_2) (by decide) rfl (kk := ?_)
        refine go_iload 166 dX3_moveBatch_164 rfl (ls_s (ls_s (ls_s (ls_s (ls_s ls_0))))) ?_
        exact go_ret_i dX3_moveBatch_166 rfl rfl rfl (pOp_m ((fMove_y ⟨isBat_n hr_2 hl, isVes_n hr_8⟩ (by rw [iN_n (by omega), iN_n (by omega), hlt.1]; exact nI_pos (by omega))).trans (by rw [iN_n (n := r_2) (by omega), iN_n (n := r_8) (by omega), hlt.1, iN_n (n := k) (by omega)]; rfl)) (rel_move h I hl hr_2 i.2.2.1.2.1 hr_8 huv hk3 (by rw [i.2.1.1, nI_1]) hs4) (by repeat (first | exact Out.rf _ _ | refine Out.wI ?_ (by omega) (by omega))))
    · refine go_astoreN 13 dX3_moveBatch_11 rfl (by decide) (st_s (st_s (st_s (st_s st_0)))) ?_
      refine go_aload_n 14 dX3_moveBatch_13 rfl rfl (ls_s (ls_s (ls_s ls_0))) ?_
      refine go_ifnull 17 dX3_moveBatch_14 rfl ?_
      refine go_aloadN 19 dX3_moveBatch_17 rfl (ls_s (ls_s (ls_s (ls_s ls_0)))) ?_
      refine go_ifnonnullN 22 dX3_moveBatch_19 rfl ?_
      refine go_iconst 23 (v := (-1)) dX3_moveBatch_22 rfl (by decide) ?_
      exact go_ret_i dX3_moveBatch_23 rfl rfl rfl (pOp_e (fMove_1 (fun z => hno_8 (z.2.elim fun r hr => ⟨r, hr.1, hr.2, trivial⟩))) h)
  · refine go_astore_nN 6 dX3_moveBatch_5 rfl rfl (by decide) (st_s (st_s (st_s st_0))) ?_
    refine go_aload_n 7 dX3_moveBatch_6 rfl rfl ls_0 ?_
    refine go_iload_n 8 dX3_moveBatch_7 rfl rfl (ls_s (ls_s ls_0)) ?_
    refine go_V (M' := mX3_vesselAt) 11 dX3_moveBatch_8 rfl w_395 okX3_vesselAt ⟨Nat.le_of_ble_eq_true rfl, Nat.le_of_ble_eq_true rfl⟩ rfl rfl (Nat.le_of_ble_eq_true rfl) (Nat.le_of_ble_eq_true rfl) (ct_vesselAt G gi hP _ (nV A) (h.1.2.1.trans I.eV) I.nV6) rfl rfl (Nat.le_of_ble_eq_true rfl) (tP hP) (by decide) rfl (fun v_8 h_8 p_8 => ?_)
    simp only [pAt] at p_8
    obtain ⟨rfl, ⟨r_8, hr_8, hx_8, hc_8, rfl⟩ | ⟨hno_8, rfl⟩⟩ := p_8
    · subst hx_8
      have hv6 : r_8 < 6 := Nat.lt_of_lt_of_le hr_8 I.nV6
      have hV := (h.2.2.1 r_8 hv6).1 hr_8
      refine go_astore 13 dX3_moveBatch_11 rfl (by decide) (st_s (st_s (st_s (st_s st_0)))) ?_
      refine go_aload_nN 14 dX3_moveBatch_13 rfl rfl (ls_s (ls_s (ls_s ls_0))) ?_
      refine go_ifnullN 22 dX3_moveBatch_14 (by decide) ?_
      refine go_iconst 23 (v := (-1)) dX3_moveBatch_22 rfl (by decide) ?_
      exact go_ret_i dX3_moveBatch_23 rfl rfl rfl (pOp_e (fMove_1 (fun z => hno_2 ((batLive h I).mpr z.1))) h)
    · refine go_astoreN 13 dX3_moveBatch_11 rfl (by decide) (st_s (st_s (st_s (st_s st_0)))) ?_
      refine go_aload_nN 14 dX3_moveBatch_13 rfl rfl (ls_s (ls_s (ls_s ls_0))) ?_
      refine go_ifnullN 22 dX3_moveBatch_14 (by decide) ?_
      refine go_iconst 23 (v := (-1)) dX3_moveBatch_22 rfl (by decide) ?_
      exact go_ret_i dX3_moveBatch_23 rfl rfl rfl (pOp_e (fMove_1 (fun z => hno_2 ((batLive h I).mpr z.1))) h)
