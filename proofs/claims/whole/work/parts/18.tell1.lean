/-! PLANTS: what is told -/
set_option maxHeartbeats 4000000 in
set_option maxRecDepth 100000 in
theorem lp_batchTotal (G : BcG) {gi : GI} {P : Nat} (hP : isP P) {N : Nat} {A : AA} (h : Rel P A gi) (I : Inv N A) : ∀ (n i : Nat) (s : Int32), i + n = 6 → BGo G mX3_batchTotal (KM G mX3_batchTotal 341 (pI (smF A (fun _ => 1) i n s) (hp gi))) (hp gi) 0 0 4 [some (.ref (G.1 + P)), some (.int s), some (.int (nI i))] [] := by
  intro n
  induction n with
  | zero =>
    intro i s hn 
    obtain rfl : i = 6 := by omega
    refine go_iload_n 5 dX3_batchTotal_4 rfl rfl (ls_s (ls_s ls_0)) ?_
    refine go_aload_n 6 dX3_batchTotal_5 rfl rfl ls_0 ?_
    refine gp_getR 9 dX3_batchTotal_6 rfl f_X3_31 rfl (tP hP) (rB hP) ?_
    refine gp_alen 10 (v := nI 6) dX3_batchTotal_9 rfl (aB hP) (by decide) (by decide) rfl ?_
    refine go_icmp_ge 39 13 dX3_batchTotal_10 (by decide) rfl (fun c_10 => ?_) (fun c_10 => absurd c_10 (by decide))
    refine go_iload_n 40 dX3_batchTotal_39 rfl rfl (ls_s ls_0) ?_
    exact go_ret_i dX3_batchTotal_40 rfl rfl rfl (pI_of rfl rfl)
  | succ n ih =>
    intro i s hn 
    have hi : i < 6 := by omega
    refine go_iload_n 5 dX3_batchTotal_4 rfl rfl (ls_s (ls_s ls_0)) ?_
    refine go_aload_n 6 dX3_batchTotal_5 rfl rfl ls_0 ?_
    refine gp_getR 9 dX3_batchTotal_6 rfl f_X3_31 rfl (tP hP) (rB hP) ?_
    refine gp_alen 10 (v := nI 6) dX3_batchTotal_9 rfl (aB hP) (by decide) (by decide) rfl ?_
    refine go_icmp_ge 39 13 dX3_batchTotal_10 (by decide) rfl (fun c_10 => absurd c_10 (nI_ge hi (by decide))) (fun c_10 => ?_)
    refine go_iload_n 14 dX3_batchTotal_13 rfl rfl (ls_s ls_0) ?_
    refine go_aload_n 15 dX3_batchTotal_14 rfl rfl ls_0 ?_
    refine gp_getR 18 dX3_batchTotal_15 rfl f_X3_31 rfl (tP hP) (rB hP) ?_
    refine go_iload_n 19 dX3_batchTotal_18 rfl rfl (ls_s (ls_s ls_0)) ?_
    refine gp_aald 20 (i := i) dX3_batchTotal_19 rfl (aB hP) (by decide) rfl rfl hi (by decide) (rBi hP hi) ?_
    refine gp_getI 23 dX3_batchTotal_20 rfl f_X3_102 rfl (tB hP hi) ?_
    refine go_if_eq 30 26 dX3_batchTotal_23 (by decide) rfl (fun c_23 => ?_) (fun c_23 => ?_)
    · refine go_iconst 31 (v := 0) dX3_batchTotal_30 rfl (by decide) ?_
      refine go_iadd 32 dX3_batchTotal_31 rfl ?_
      refine go_istore_n 33 dX3_batchTotal_32 rfl rfl (by decide) (st_s st_0) ?_
      refine go_iinc 36 (v := (nI (i + 1))) dX3_batchTotal_33 rfl (ls_s (ls_s ls_0)) (by exact nI_1 i) (by decide) (st_s (st_s st_0)) ?_
      refine go_goto 4 dX3_batchTotal_36 (by decide) ?_
      rw [show smF A (fun _ => 1) i (n + 1) s = smF A (fun _ => 1) (i + 1) n (s + 0) from by rw [smF, cIf_f (fun z => (live_iff h I hi).mpr z c_23)]]
      exact ih (i + 1) _ (by omega)
    · have hl := (live_iff h I hi).mp c_23
      refine go_iconst 27 (v := 1) dX3_batchTotal_26 rfl (by decide) ?_
      refine go_goto 31 dX3_batchTotal_27 (by decide) ?_
      refine go_iadd 32 dX3_batchTotal_31 rfl ?_
      refine go_istore_n 33 dX3_batchTotal_32 rfl rfl (by decide) (st_s st_0) ?_
      refine go_iinc 36 (v := (nI (i + 1))) dX3_batchTotal_33 rfl (ls_s (ls_s ls_0)) (by exact nI_1 i) (by decide) (st_s (st_s st_0)) ?_
      refine go_goto 4 dX3_batchTotal_36 (by decide) ?_
      rw [show smF A (fun _ => 1) i (n + 1) s = smF A (fun _ => 1) (i + 1) n (s + 1) from by rw [smF, cIf_t hl]]
      exact ih (i + 1) _ (by omega)
set_option maxHeartbeats 4000000 in
set_option maxRecDepth 100000 in
theorem ct_batchTotal (G : BcG) {gi : GI} {P : Nat} (hP : isP P) {N : Nat} {A : AA} (h : Rel P A gi) (I : Inv N A) : Ct G mX3_batchTotal [.ref (G.1 + P)] (hp gi) (pI (smF A (fun _ => 1) 0 6 0) (hp gi)) := by
  refine ct_of [some (.ref (G.1 + P)), none, none] w_2 (by decide) rfl (Nat.le_of_ble_eq_true rfl) rfl ?_
  refine go_iconst 1 (v := 0) dX3_batchTotal_0 rfl (by decide) ?_
  refine go_istore_n 2 dX3_batchTotal_1 rfl rfl (by decide) (st_s st_0) ?_
  refine go_iconst 3 (v := 0) dX3_batchTotal_2 rfl (by decide) ?_
  refine go_istore_n 4 dX3_batchTotal_3 rfl rfl (by decide) (st_s (st_s st_0)) ?_
  exact lp_batchTotal G hP h I 6 0 0 rfl
set_option maxHeartbeats 4000000 in
set_option maxRecDepth 100000 in
theorem lp_massTotal (G : BcG) {gi : GI} {P : Nat} (hP : isP P) {N : Nat} {A : AA} (h : Rel P A gi) (I : Inv N A) : ∀ (n i : Nat) (s : Int32), i + n = 6 → BGo G mX3_massTotal (KM G mX3_massTotal 341 (pI (smF A (fun b => A (145 + 9 * b + 2)) i n s) (hp gi))) (hp gi) 0 0 4 [some (.ref (G.1 + P)), some (.int s), some (.int (nI i))] [] := by
  intro n
  induction n with
  | zero =>
    intro i s hn 
    obtain rfl : i = 6 := by omega
    refine go_iload_n 5 dX3_massTotal_4 rfl rfl (ls_s (ls_s ls_0)) ?_
    refine go_aload_n 6 dX3_massTotal_5 rfl rfl ls_0 ?_
    refine gp_getR 9 dX3_massTotal_6 rfl f_X3_31 rfl (tP hP) (rB hP) ?_
    refine gp_alen 10 (v := nI 6) dX3_massTotal_9 rfl (aB hP) (by decide) (by decide) rfl ?_
    refine go_icmp_ge 47 13 dX3_massTotal_10 (by decide) rfl (fun c_10 => ?_) (fun c_10 => absurd c_10 (by decide))
    refine go_iload_n 48 dX3_massTotal_47 rfl rfl (ls_s ls_0) ?_
    exact go_ret_i dX3_massTotal_48 rfl rfl rfl (pI_of rfl rfl)
  | succ n ih =>
    intro i s hn 
    have hi : i < 6 := by omega
    refine go_iload_n 5 dX3_massTotal_4 rfl rfl (ls_s (ls_s ls_0)) ?_
    refine go_aload_n 6 dX3_massTotal_5 rfl rfl ls_0 ?_
    refine gp_getR 9 dX3_massTotal_6 rfl f_X3_31 rfl (tP hP) (rB hP) ?_
    refine gp_alen 10 (v := nI 6) dX3_massTotal_9 rfl (aB hP) (by decide) (by decide) rfl ?_
    refine go_icmp_ge 47 13 dX3_massTotal_10 (by decide) rfl (fun c_10 => absurd c_10 (nI_ge hi (by decide))) (fun c_10 => ?_)
    refine go_iload_n 14 dX3_massTotal_13 rfl rfl (ls_s ls_0) ?_
    refine go_aload_n 15 dX3_massTotal_14 rfl rfl ls_0 ?_
    refine gp_getR 18 dX3_massTotal_15 rfl f_X3_31 rfl (tP hP) (rB hP) ?_
    refine go_iload_n 19 dX3_massTotal_18 rfl rfl (ls_s (ls_s ls_0)) ?_
    refine gp_aald 20 (i := i) dX3_massTotal_19 rfl (aB hP) (by decide) rfl rfl hi (by decide) (rBi hP hi) ?_
    refine gp_getI 23 dX3_massTotal_20 rfl f_X3_102 rfl (tB hP hi) ?_
    refine go_if_eq 38 26 dX3_massTotal_23 (by decide) rfl (fun c_23 => ?_) (fun c_23 => ?_)
    · refine go_iconst 39 (v := 0) dX3_massTotal_38 rfl (by decide) ?_
      refine go_iadd 40 dX3_massTotal_39 rfl ?_
      refine go_istore_n 41 dX3_massTotal_40 rfl rfl (by decide) (st_s st_0) ?_
      refine go_iinc 44 (v := (nI (i + 1))) dX3_massTotal_41 rfl (ls_s (ls_s ls_0)) (by exact nI_1 i) (by decide) (st_s (st_s st_0)) ?_
      refine go_goto 4 dX3_massTotal_44 (by decide) ?_
      rw [show smF A (fun b => A (145 + 9 * b + 2)) i (n + 1) s = smF A (fun b => A (145 + 9 * b + 2)) (i + 1) n (s + 0) from by rw [smF, cIf_f (fun z => (live_iff h I hi).mpr z c_23)]]
      exact ih (i + 1) _ (by omega)
    · have hl := (live_iff h I hi).mp c_23
      refine go_aload_n 27 dX3_massTotal_26 rfl rfl ls_0 ?_
      refine gp_getR 30 dX3_massTotal_27 rfl f_X3_31 rfl (tP hP) (rB hP) ?_
      refine go_iload_n 31 dX3_massTotal_30 rfl rfl (ls_s (ls_s ls_0)) ?_
      refine gp_aald 32 (i := i) dX3_massTotal_31 rfl (aB hP) (by decide) rfl rfl hi (by decide) (rBi hP hi) ?_
      refine gp_getI 35 dX3_massTotal_32 rfl f_X3_221 rfl (tB hP hi) ?_
      refine go_top (y := (A (145 + 9 * i + 2))) ((h.2.2.2.2.1 i hi).2 hl).2.2.2.1 ?_
      refine go_goto 39 dX3_massTotal_35 (by decide) ?_
      refine go_iadd 40 dX3_massTotal_39 rfl ?_
      refine go_istore_n 41 dX3_massTotal_40 rfl rfl (by decide) (st_s st_0) ?_
      refine go_iinc 44 (v := (nI (i + 1))) dX3_massTotal_41 rfl (ls_s (ls_s ls_0)) (by exact nI_1 i) (by decide) (st_s (st_s st_0)) ?_
      refine go_goto 4 dX3_massTotal_44 (by decide) ?_
      rw [show smF A (fun b => A (145 + 9 * b + 2)) i (n + 1) s = smF A (fun b => A (145 + 9 * b + 2)) (i + 1) n (s + A (145 + 9 * i + 2)) from by rw [smF, cIf_t hl]]
      exact ih (i + 1) _ (by omega)
set_option maxHeartbeats 4000000 in
set_option maxRecDepth 100000 in
theorem ct_massTotal (G : BcG) {gi : GI} {P : Nat} (hP : isP P) {N : Nat} {A : AA} (h : Rel P A gi) (I : Inv N A) : Ct G mX3_massTotal [.ref (G.1 + P)] (hp gi) (pI (smF A (fun b => A (145 + 9 * b + 2)) 0 6 0) (hp gi)) := by
  refine ct_of [some (.ref (G.1 + P)), none, none] w_2 (by decide) rfl (Nat.le_of_ble_eq_true rfl) rfl ?_
  refine go_iconst 1 (v := 0) dX3_massTotal_0 rfl (by decide) ?_
  refine go_istore_n 2 dX3_massTotal_1 rfl rfl (by decide) (st_s st_0) ?_
  refine go_iconst 3 (v := 0) dX3_massTotal_2 rfl (by decide) ?_
  refine go_istore_n 4 dX3_massTotal_3 rfl rfl (by decide) (st_s (st_s st_0)) ?_
  exact lp_massTotal G hP h I 6 0 0 rfl
noncomputable def ctF (A : AA) (j : Nat) : Int32 := match j with
  | 0 => A 2 | 1 => A 3 | 2 => A 4 | 3 => smF A (fun _ => 1) 0 6 0 | 4 => A 5 | 5 => A 6 | 6 => A 7 | 7 => A 8 | 8 => smF A (fun b => A (145 + 9 * b + 2)) 0 6 0 | 9 => A 9 | _ => A 10
set_option maxHeartbeats 4000000 in
set_option maxRecDepth 100000 in
theorem ct_total (G : BcG) {gi : GI} {P : Nat} (hP : isP P) {N : Nat} {A : AA} (h : Rel P A gi) (I : Inv N A) (j : Nat) (hj : j < 11) : Ct G mX3_total [.ref (G.1 + P), .int (nI j)] (hp gi) (pI (ctF A j) (hp gi)) := by
  obtain rfl | rfl | rfl | rfl | rfl | rfl | rfl | rfl | rfl | rfl | rfl : j = 0 ∨ j = 1 ∨ j = 2 ∨ j = 3 ∨ j = 4 ∨ j = 5 ∨ j = 6 ∨ j = 7 ∨ j = 8 ∨ j = 9 ∨ j = 10 := by omega
  · refine ct_of [some (.ref (G.1 + P)), some (.int (nI 0))] w_2 (by decide) rfl (Nat.le_of_ble_eq_true rfl) rfl ?_
    refine go_iload_n 1 dX3_total_0 rfl rfl (ls_s ls_0) ?_
    refine go_tabIn 56 dX3_total_1 (off := 55) (by decide +kernel) (by decide +kernel) (by decide +kernel) (by decide) ?_
    refine go_aload_n 57 dX3_total_56 rfl rfl ls_0 ?_
    refine gp_getI 60 dX3_total_57 rfl f_X3_61 rfl (tP hP) ?_
    exact go_ret_i dX3_total_60 rfl rfl rfl (pI_of h.1.1 rfl)
  · refine ct_of [some (.ref (G.1 + P)), some (.int (nI 1))] w_2 (by decide) rfl (Nat.le_of_ble_eq_true rfl) rfl ?_
    refine go_iload_n 1 dX3_total_0 rfl rfl (ls_s ls_0) ?_
    refine go_tabIn 61 dX3_total_1 (off := 60) (by decide +kernel) (by decide +kernel) (by decide +kernel) (by decide) ?_
    refine go_aload_n 62 dX3_total_61 rfl rfl ls_0 ?_
    refine gp_getI 65 dX3_total_62 rfl f_X3_65 rfl (tP hP) ?_
    exact go_ret_i dX3_total_65 rfl rfl rfl (pI_of h.1.2.1 rfl)
  · refine ct_of [some (.ref (G.1 + P)), some (.int (nI 2))] w_2 (by decide) rfl (Nat.le_of_ble_eq_true rfl) rfl ?_
    refine go_iload_n 1 dX3_total_0 rfl rfl (ls_s ls_0) ?_
    refine go_tabIn 66 dX3_total_1 (off := 65) (by decide +kernel) (by decide +kernel) (by decide +kernel) (by decide) ?_
    refine go_aload_n 67 dX3_total_66 rfl rfl ls_0 ?_
    refine gp_getI 70 dX3_total_67 rfl f_X3_68 rfl (tP hP) ?_
    exact go_ret_i dX3_total_70 rfl rfl rfl (pI_of h.1.2.2.1 rfl)
  · refine ct_of [some (.ref (G.1 + P)), some (.int (nI 3))] w_2 (by decide) rfl (Nat.le_of_ble_eq_true rfl) rfl ?_
    refine go_iload_n 1 dX3_total_0 rfl rfl (ls_s ls_0) ?_
    refine go_tabIn 71 dX3_total_1 (off := 70) (by decide +kernel) (by decide +kernel) (by decide +kernel) (by decide) ?_
    refine go_aload_n 72 dX3_total_71 rfl rfl ls_0 ?_
    refine go_VI (M' := mX3_batchTotal) 75 dX3_total_72 rfl w_608 okX3_batchTotal ⟨Nat.le_of_ble_eq_true rfl, Nat.le_of_ble_eq_true rfl⟩ (ct_batchTotal G hP h I) rfl rfl (tP hP) (by decide) rfl (kk := ?_)
    exact go_ret_i dX3_total_75 rfl rfl rfl (pI_of rfl rfl)
  · refine ct_of [some (.ref (G.1 + P)), some (.int (nI 4))] w_2 (by decide) rfl (Nat.le_of_ble_eq_true rfl) rfl ?_
    refine go_iload_n 1 dX3_total_0 rfl rfl (ls_s ls_0) ?_
    refine go_tabIn 76 dX3_total_1 (off := 75) (by decide +kernel) (by decide +kernel) (by decide +kernel) (by decide) ?_
    refine go_aload_n 77 dX3_total_76 rfl rfl ls_0 ?_
    refine gp_getI 80 dX3_total_77 rfl f_X3_71 rfl (tP hP) ?_
    exact go_ret_i dX3_total_80 rfl rfl rfl (pI_of h.1.2.2.2.1 rfl)
  · refine ct_of [some (.ref (G.1 + P)), some (.int (nI 5))] w_2 (by decide) rfl (Nat.le_of_ble_eq_true rfl) rfl ?_
    refine go_iload_n 1 dX3_total_0 rfl rfl (ls_s ls_0) ?_
    refine go_tabIn 81 dX3_total_1 (off := 80) (by decide +kernel) (by decide +kernel) (by decide +kernel) (by decide) ?_
    refine go_aload_n 82 dX3_total_81 rfl rfl ls_0 ?_
    refine gp_getI 85 dX3_total_82 rfl f_X3_74 rfl (tP hP) ?_
    exact go_ret_i dX3_total_85 rfl rfl rfl (pI_of h.1.2.2.2.2.1 rfl)
  · refine ct_of [some (.ref (G.1 + P)), some (.int (nI 6))] w_2 (by decide) rfl (Nat.le_of_ble_eq_true rfl) rfl ?_
    refine go_iload_n 1 dX3_total_0 rfl rfl (ls_s ls_0) ?_
    refine go_tabIn 86 dX3_total_1 (off := 85) (by decide +kernel) (by decide +kernel) (by decide +kernel) (by decide) ?_
    refine go_aload_n 87 dX3_total_86 rfl rfl ls_0 ?_
    refine gp_getI 90 dX3_total_87 rfl f_X3_77 rfl (tP hP) ?_
    exact go_ret_i dX3_total_90 rfl rfl rfl (pI_of h.1.2.2.2.2.2.1 rfl)
  · refine ct_of [some (.ref (G.1 + P)), some (.int (nI 7))] w_2 (by decide) rfl (Nat.le_of_ble_eq_true rfl) rfl ?_
    refine go_iload_n 1 dX3_total_0 rfl rfl (ls_s ls_0) ?_
    refine go_tabIn 91 dX3_total_1 (off := 90) (by decide +kernel) (by decide +kernel) (by decide +kernel) (by decide) ?_
    refine go_aload_n 92 dX3_total_91 rfl rfl ls_0 ?_
    refine gp_getI 95 dX3_total_92 rfl f_X3_80 rfl (tP hP) ?_
    exact go_ret_i dX3_total_95 rfl rfl rfl (pI_of h.1.2.2.2.2.2.2.1 rfl)
  · refine ct_of [some (.ref (G.1 + P)), some (.int (nI 8))] w_2 (by decide) rfl (Nat.le_of_ble_eq_true rfl) rfl ?_
    refine go_iload_n 1 dX3_total_0 rfl rfl (ls_s ls_0) ?_
    refine go_tabIn 96 dX3_total_1 (off := 95) (by decide +kernel) (by decide +kernel) (by decide +kernel) (by decide) ?_
    refine go_aload_n 97 dX3_total_96 rfl rfl ls_0 ?_
    refine go_VI (M' := mX3_massTotal) 100 dX3_total_97 rfl w_612 okX3_massTotal ⟨Nat.le_of_ble_eq_true rfl, Nat.le_of_ble_eq_true rfl⟩ (ct_massTotal G hP h I) rfl rfl (tP hP) (by decide) rfl (kk := ?_)
    exact go_ret_i dX3_total_100 rfl rfl rfl (pI_of rfl rfl)
  · refine ct_of [some (.ref (G.1 + P)), some (.int (nI 9))] w_2 (by decide) rfl (Nat.le_of_ble_eq_true rfl) rfl ?_
    refine go_iload_n 1 dX3_total_0 rfl rfl (ls_s ls_0) ?_
    refine go_tabIn 101 dX3_total_1 (off := 100) (by decide +kernel) (by decide +kernel) (by decide +kernel) (by decide) ?_
    refine go_aload_n 102 dX3_total_101 rfl rfl ls_0 ?_
    refine gp_getI 105 dX3_total_102 rfl f_X3_83 rfl (tP hP) ?_
    exact go_ret_i dX3_total_105 rfl rfl rfl (pI_of h.1.2.2.2.2.2.2.2.1 rfl)
  · refine ct_of [some (.ref (G.1 + P)), some (.int (nI 10))] w_2 (by decide) rfl (Nat.le_of_ble_eq_true rfl) rfl ?_
    refine go_iload_n 1 dX3_total_0 rfl rfl (ls_s ls_0) ?_
    refine go_tabOut 106 dX3_total_1 (by decide +kernel) (by decide) ?_
    refine go_aload_n 107 dX3_total_106 rfl rfl ls_0 ?_
    refine gp_getI 110 dX3_total_107 rfl f_X3_86 rfl (tP hP) ?_
    exact go_ret_i dX3_total_110 rfl rfl rfl (pI_of h.1.2.2.2.2.2.2.2.2 rfl)
theorem ct_suitsA (G : BcG) {gi : GI} {P N v : Nat} (hP : isP P) {A : AA} (h : Rel P A gi) (I : Inv N A) (hv : v < nV A) (hv6 : v < 6) (kind m : Int32) : Ct G mX7_suits [.ref (G.1 + (P + 32 + v)), .int kind, .int m] (hp gi) (pI (bI (A (103 + 5 * v) = kind ∧ m ≤ A (103 + 5 * v + 1))) (hp gi)) := by
  obtain ⟨e0, e1, -⟩ := (h.2.2.1 v hv6).1 hv
  rw [← e0, ← e1]
  exact ct_suits G gi _ (tV hP hv6) kind m
set_option maxHeartbeats 4000000 in
set_option maxRecDepth 100000 in
theorem lp_hasVesselFor (G : BcG) {gi : GI} {P : Nat} (hP : isP P) {N : Nat} {A : AA} (h : Rel P A gi) (I : Inv N A) (kd m : Int32) : ∀ (n i : Nat), i + n = nV A → (∀ j, j < i → ¬ (A (103 + 5 * j) = kd ∧ m ≤ A (103 + 5 * j + 1))) → BGo G mX3_hasVesselFor (KM G mX3_hasVesselFor 341 (pI (bI (isRoom A kd m)) (hp gi))) (hp gi) 0 0 2 [some (.ref (G.1 + P)), some (.int kd), some (.int m), some (.int (nI i))] [] := by
  intro n
  induction n with
  | zero =>
    intro i  hn hno
    obtain rfl : i = nV A := by omega
    refine go_iload_n 3 dX3_hasVesselFor_2 rfl rfl (ls_s (ls_s (ls_s ls_0))) ?_
    refine go_aload_n 4 dX3_hasVesselFor_3 rfl rfl ls_0 ?_
    refine gp_getI 7 dX3_hasVesselFor_4 rfl f_X3_65 rfl (tP hP) ?_
    refine go_top (y := (nI (nV A))) (h.1.2.1.trans I.eV) ?_
    refine go_icmp_ge 41 10 dX3_hasVesselFor_7 (by decide) rfl (fun c_7 => ?_) (fun c_7 => absurd (Int32.le_refl _) c_7)
    refine go_iconst 42 (v := 0) dX3_hasVesselFor_41 rfl (by decide) ?_
    exact go_ret_z dX3_hasVesselFor_42 rfl rfl rfl rfl (pI_of (bI_0 (fun ⟨b, hb, z⟩ => hno b hb z)) rfl)
  | succ n ih =>
    intro i  hn hno
    have hV6 := I.nV6
    have hiV : i < nV A := by omega
    have hi6 : i < 6 := by omega
    refine go_iload_n 3 dX3_hasVesselFor_2 rfl rfl (ls_s (ls_s (ls_s ls_0))) ?_
    refine go_aload_n 4 dX3_hasVesselFor_3 rfl rfl ls_0 ?_
    refine gp_getI 7 dX3_hasVesselFor_4 rfl f_X3_65 rfl (tP hP) ?_
    refine go_top (y := (nI (nV A))) (h.1.2.1.trans I.eV) ?_
    refine go_icmp_ge 41 10 dX3_hasVesselFor_7 (by decide) rfl (fun c_7 => absurd c_7 (nI_ge hiV (by omega))) (fun c_7 => ?_)
    refine go_iload_n 11 dX3_hasVesselFor_10 rfl rfl (ls_s (ls_s (ls_s ls_0))) ?_
    refine go_aload_n 12 dX3_hasVesselFor_11 rfl rfl ls_0 ?_
    refine gp_getR 15 dX3_hasVesselFor_12 rfl f_X3_19 rfl (tP hP) (rV hP) ?_
    refine gp_alen 16 (v := nI 6) dX3_hasVesselFor_15 rfl (aV hP) (by decide) (by decide) rfl ?_
    refine go_icmp_ge 41 19 dX3_hasVesselFor_16 (by decide) rfl (fun c_16 => absurd c_16 (nI_ge hi6 (by decide))) (fun c_16 => ?_)
    refine go_aload_n 20 dX3_hasVesselFor_19 rfl rfl ls_0 ?_
    refine gp_getR 23 dX3_hasVesselFor_20 rfl f_X3_19 rfl (tP hP) (rV hP) ?_
    refine go_iload_n 24 dX3_hasVesselFor_23 rfl rfl (ls_s (ls_s (ls_s ls_0))) ?_
    refine gp_aald 25 (i := i) dX3_hasVesselFor_24 rfl (aV hP) (by decide) rfl rfl hi6 (by decide) (rVi hP hi6) ?_
    refine go_iload_n 26 dX3_hasVesselFor_25 rfl rfl (ls_s ls_0) ?_
    refine go_iload_n 27 dX3_hasVesselFor_26 rfl rfl (ls_s (ls_s ls_0)) ?_
    refine go_VI (M' := mX7_suits) 30 dX3_hasVesselFor_27 rfl w_650 okX7_suits ⟨Nat.le_of_ble_eq_true rfl, Nat.le_of_ble_eq_true rfl⟩ (ct_suitsA G hP h I hiV hi6 _ _) rfl rfl (tV hP hi6) (by decide) rfl (kk := ?_)
    refine go_ifeq_b 35 33 dX3_hasVesselFor_30 (by decide) rfl (fun c_30 => ?_) (fun c_30 => ?_)
    · refine go_iinc 38 (v := (nI (i + 1))) dX3_hasVesselFor_35 rfl (ls_s (ls_s (ls_s ls_0))) (by exact nI_1 i) (by decide) (st_s (st_s (st_s st_0))) ?_
      refine go_goto 2 dX3_hasVesselFor_38 (by decide) ?_
      exact ih (i + 1) (by omega) (fun j hj => (Nat.lt_succ_iff_lt_or_eq.mp hj).elim (hno j) (fun e => by subst e; exact c_30))
    · refine go_iconst 34 (v := 1) dX3_hasVesselFor_33 rfl (by decide) ?_
      exact go_ret_z dX3_hasVesselFor_34 rfl rfl rfl rfl (pI_of (bI_1 ⟨i, hiV, c_30⟩) rfl)
set_option maxHeartbeats 4000000 in
set_option maxRecDepth 100000 in
theorem ct_hasVesselFor (G : BcG) {gi : GI} {P : Nat} (hP : isP P) {N : Nat} {A : AA} (h : Rel P A gi) (I : Inv N A) (kd m : Int32) : Ct G mX3_hasVesselFor [.ref (G.1 + P), .int kd, .int m] (hp gi) (pI (bI (isRoom A kd m)) (hp gi)) := by
  refine ct_of [some (.ref (G.1 + P)), some (.int kd), some (.int m), none] w_2 (by decide) rfl (Nat.le_of_ble_eq_true rfl) rfl ?_
  refine go_iconst 1 (v := 0) dX3_hasVesselFor_0 rfl (by decide) ?_
  refine go_istore_n 2 dX3_hasVesselFor_1 rfl rfl (by decide) (st_s (st_s (st_s st_0))) ?_
  exact lp_hasVesselFor G hP h I kd m (nV A) 0 (Nat.zero_add _) (fun j hj => absurd hj (Nat.not_lt_zero j))
theorem lt1_neg {N : Nat} {A : AA} (I : Inv N A) (b v : Nat) : lt1 A b v = -1 ↔ ltF A b v < 0 := by
  rcases lt1_F I b v with ⟨h1, h2⟩ | ⟨k, hk, h1, h2, -⟩
  · exact ⟨fun _ => h1, fun _ => h2⟩
  · have hk3 := I.nL3
    rw [h1, h2]
    exact ⟨fun z => absurd z (fun z => nI_pos (n := k) (by omega) (by rw [z]; decide)), fun z => absurd z (nI_pos (by omega))⟩
set_option maxHeartbeats 4000000 in
set_option maxRecDepth 100000 in
theorem lp_openTargets (G : BcG) {gi : GI} {P : Nat} (hP : isP P) {N : Nat} {A : AA} (h : Rel P A gi) (I : Inv N A) {b : Nat} (hb : b < 6) (hl : live A b) : ∀ (n i : Nat) (s : Int32), i + n = nV A → BGo G mX3_openTargets (KM G mX3_openTargets 341 (pI (tgF A b i n s) (hp gi))) (hp gi) 0 0 4 [some (.ref (G.1 + P)), some (.ref (G.1 + (P + 41 + b))), some (.int s), some (.int (nI i))] [] := by
  intro n
  induction n with
  | zero =>
    intro i s hn 
    obtain rfl : i = nV A := by omega
    refine go_iload_n 5 dX3_openTargets_4 rfl rfl (ls_s (ls_s (ls_s ls_0))) ?_
    refine go_aload_n 6 dX3_openTargets_5 rfl rfl ls_0 ?_
    refine gp_getI 9 dX3_openTargets_6 rfl f_X3_65 rfl (tP hP) ?_
    refine go_top (y := (nI (nV A))) (h.1.2.1.trans I.eV) ?_
    refine go_icmp_ge 34 12 dX3_openTargets_9 (by decide) rfl (fun c_9 => ?_) (fun c_9 => absurd (Int32.le_refl _) c_9)
    refine go_iload_n 35 dX3_openTargets_34 rfl rfl (ls_s (ls_s ls_0)) ?_
    exact go_ret_i dX3_openTargets_35 rfl rfl rfl (pI_of rfl rfl)
  | succ n ih =>
    intro i s hn 
    have hV6 := I.nV6
    have hiV : i < nV A := by omega
    refine go_iload_n 5 dX3_openTargets_4 rfl rfl (ls_s (ls_s (ls_s ls_0))) ?_
    refine go_aload_n 6 dX3_openTargets_5 rfl rfl ls_0 ?_
    refine gp_getI 9 dX3_openTargets_6 rfl f_X3_65 rfl (tP hP) ?_
    refine go_top (y := (nI (nV A))) (h.1.2.1.trans I.eV) ?_
    refine go_icmp_ge 34 12 dX3_openTargets_9 (by decide) rfl (fun c_9 => absurd c_9 (nI_ge hiV (by omega))) (fun c_9 => ?_)
    refine go_aload_n 13 dX3_openTargets_12 rfl rfl ls_0 ?_
    refine go_aload_n 14 dX3_openTargets_13 rfl rfl (ls_s ls_0) ?_
    refine go_iload_n 15 dX3_openTargets_14 rfl rfl (ls_s (ls_s (ls_s ls_0))) ?_
    refine go_VI (M' := mX3_lineTo) 18 dX3_openTargets_15 rfl w_487 okX3_lineTo ⟨Nat.le_of_ble_eq_true rfl, Nat.le_of_ble_eq_true rfl⟩ (ct_lineTo G hP h I hb hl hiV) rfl rfl (tP hP) (by decide) rfl (kk := ?_)
    refine go_iconst 19 (v := (-1)) dX3_openTargets_18 rfl (by decide) ?_
    refine go_icmp_eq 28 22 dX3_openTargets_19 (by decide) rfl (fun c_19 => ?_) (fun c_19 => ?_)
    · refine go_iinc 31 (v := (nI (i + 1))) dX3_openTargets_28 rfl (ls_s (ls_s (ls_s ls_0))) (by exact nI_1 i) (by decide) (st_s (st_s (st_s st_0))) ?_
      refine go_goto 4 dX3_openTargets_31 (by decide) ?_
      rw [show tgF A b i (n + 1) s = tgF A b (i + 1) n (s) from by rw [tgF, cIf_t ((lt1_neg I b i).mp c_19), Int32.or_zero]]
      exact ih (i + 1) _ (by omega)
    · refine go_iload_n 23 dX3_openTargets_22 rfl rfl (ls_s (ls_s ls_0)) ?_
      refine go_iconst 24 (v := 1) dX3_openTargets_23 rfl (by decide) ?_
      refine go_iload_n 25 dX3_openTargets_24 rfl rfl (ls_s (ls_s (ls_s ls_0))) ?_
      refine go_ishl 26 dX3_openTargets_25 rfl ?_
      refine go_ior 27 dX3_openTargets_26 rfl ?_
      refine go_istore_n 28 dX3_openTargets_27 rfl rfl (by decide) (st_s (st_s st_0)) ?_
      refine go_iinc 31 (v := (nI (i + 1))) dX3_openTargets_28 rfl (ls_s (ls_s (ls_s ls_0))) (by exact nI_1 i) (by decide) (st_s (st_s (st_s st_0))) ?_
      refine go_goto 4 dX3_openTargets_31 (by decide) ?_
      rw [show tgF A b i (n + 1) s = tgF A b (i + 1) n (s ||| (1 : Int32) <<< (nI i &&& 31)) from by rw [tgF, cIf_f (fun z => c_19 ((lt1_neg I b i).mpr z))]]
      exact ih (i + 1) _ (by omega)
set_option maxHeartbeats 4000000 in
set_option maxRecDepth 100000 in
theorem ct_openTargets (G : BcG) {gi : GI} {P : Nat} (hP : isP P) {N : Nat} {A : AA} (h : Rel P A gi) (I : Inv N A) {b : Nat} (hb : b < 6) (hl : live A b) : Ct G mX3_openTargets [.ref (G.1 + P), .ref (G.1 + (P + 41 + b))] (hp gi) (pI (tgF A b 0 (nV A) 0) (hp gi)) := by
  refine ct_of [some (.ref (G.1 + P)), some (.ref (G.1 + (P + 41 + b))), none, none] w_2 (by decide) rfl (Nat.le_of_ble_eq_true rfl) rfl ?_
  refine go_iconst 1 (v := 0) dX3_openTargets_0 rfl (by decide) ?_
  refine go_istore_n 2 dX3_openTargets_1 rfl rfl (by decide) (st_s (st_s st_0)) ?_
  refine go_iconst 3 (v := 0) dX3_openTargets_2 rfl (by decide) ?_
  refine go_istore_n 4 dX3_openTargets_3 rfl rfl (by decide) (st_s (st_s (st_s st_0))) ?_
  exact lp_openTargets G hP h I hb hl (nV A) 0 0 (Nat.zero_add _)
noncomputable def mt1 (A : AA) (b v : Nat) : Int32 := cIf (ltF A b v < 0) (-1) (mtF A b v (iN (ltF A b v)))
set_option maxHeartbeats 4000000 in
set_option maxRecDepth 100000 in
theorem ct_minutesTo (G : BcG) {gi : GI} {P : Nat} (hP : isP P) {N : Nat} {A : AA} (h : Rel P A gi) (I : Inv N A) {b : Nat} (hb : b < 6) (hl : live A b) {v : Nat} (hv : v < nV A) : Ct G mX3_minutesTo [.ref (G.1 + P), .ref (G.1 + (P + 41 + b)), .int (nI v)] (hp gi) (pI (mt1 A b v) (hp gi)) := by
  have hv6 : v < 6 := Nat.lt_of_lt_of_le hv I.nV6
  have hV := (h.2.2.1 v hv6).1 hv
  have hB := (h.2.2.2.2.1 b hb).2 hl
  have i := I.b1 hb hl
  refine ct_of [some (.ref (G.1 + P)), some (.ref (G.1 + (P + 41 + b))), some (.int (nI v)), none, none] w_2 (by decide) rfl (Nat.le_of_ble_eq_true rfl) rfl ?_
  refine go_aload_n 1 dX3_minutesTo_0 rfl rfl ls_0 ?_
  refine go_iload_n 2 dX3_minutesTo_1 rfl rfl (ls_s (ls_s ls_0)) ?_
  refine go_VA (M' := mX3_vesselAt) 5 dX3_minutesTo_2 rfl w_395 okX3_vesselAt ⟨Nat.le_of_ble_eq_true rfl, Nat.le_of_ble_eq_true rfl⟩ (Ct.weak (ct_vesselAt G gi hP _ (nV A) (h.1.2.1.trans I.eV) I.nV6) (pAt_y (n := nV A) (f := fun r => P + 32 + r) (c := fun _ => True) (by have := I.nV6; omega) hv trivial)) rfl rfl (tP hP) (by decide) rfl (kk := ?_)
  refine go_astore_n 6 dX3_minutesTo_5 rfl rfl (by decide) (st_s (st_s (st_s st_0))) ?_
  rcases lt1_F I b v with hlt | ⟨k, hkL, hlt⟩
  · refine go_aload_n 7 dX3_minutesTo_6 rfl rfl ls_0 ?_
    refine go_aload_n 8 dX3_minutesTo_7 rfl rfl ls_0 ?_
    refine go_aload_n 9 dX3_minutesTo_8 rfl rfl (ls_s ls_0) ?_
    refine go_iload_n 10 dX3_minutesTo_9 rfl rfl (ls_s (ls_s ls_0)) ?_
    refine go_VI (M' := mX3_lineTo) 13 dX3_minutesTo_10 rfl w_487 okX3_lineTo ⟨Nat.le_of_ble_eq_true rfl, Nat.le_of_ble_eq_true rfl⟩ (ct_lineToE G hP h I hb hl hv hlt.2) rfl rfl (tP hP) (by decide) rfl (kk := ?_)
    refine go_VZ (M' := mX3_lineAt) 16 dX3_minutesTo_13 rfl w_413 okX3_lineAt ⟨Nat.le_of_ble_eq_true rfl, Nat.le_of_ble_eq_true rfl⟩ (Ct.weak (ct_lineAt G gi hP _ (nL A) (h.1.2.2.1.trans I.eL) I.nL3) (pAt_n (nt (fun ⟨r, hr, e⟩ => nI_pos (n := r) (by have := I.nL3; omega) (by rw [← e]; decide))))) rfl rfl (tP hP) (by decide) rfl (kk := ?_)
    refine go_astoreN 18 dX3_minutesTo_16 rfl (by decide) (st_s (st_s (st_s (st_s st_0)))) ?_
    refine go_aload_n 19 dX3_minutesTo_18 rfl rfl (ls_s (ls_s (ls_s ls_0))) ?_
    refine go_ifnull 22 dX3_minutesTo_19 rfl ?_
    refine go_aloadN 24 dX3_minutesTo_22 rfl (ls_s (ls_s (ls_s (ls_s ls_0)))) ?_
    refine go_ifnonnullN 27 dX3_minutesTo_24 rfl ?_
    refine go_iconst 28 (v := (-1)) dX3_minutesTo_27 rfl (by decide) ?_
    exact go_ret_i dX3_minutesTo_28 rfl rfl rfl (pI_of (by rw [mt1, cIf_t hlt.1]) rfl)
  · have hk3 : k < 3 := Nat.lt_of_lt_of_le hkL I.nL3
    have hL := h.2.2.2.1 k hk3
    have hspd := (I.2.2.2.2.1 k hk3).1 hkL
    refine go_aload_n 7 dX3_minutesTo_6 rfl rfl ls_0 ?_
    refine go_aload_n 8 dX3_minutesTo_7 rfl rfl ls_0 ?_
    refine go_aload_n 9 dX3_minutesTo_8 rfl rfl (ls_s ls_0) ?_
    refine go_iload_n 10 dX3_minutesTo_9 rfl rfl (ls_s (ls_s ls_0)) ?_
    refine go_VI (M' := mX3_lineTo) 13 dX3_minutesTo_10 rfl w_487 okX3_lineTo ⟨Nat.le_of_ble_eq_true rfl, Nat.le_of_ble_eq_true rfl⟩ (ct_lineToE G hP h I hb hl hv hlt.2.1) rfl rfl (tP hP) (by decide) rfl (kk := ?_)
    refine go_VA (M' := mX3_lineAt) 16 dX3_minutesTo_13 rfl w_413 okX3_lineAt ⟨Nat.le_of_ble_eq_true rfl, Nat.le_of_ble_eq_true rfl⟩ (Ct.weak (ct_lineAt G gi hP _ (nL A) (h.1.2.2.1.trans I.eL) I.nL3) (pAt_y (n := nL A) (f := fun r => P + 38 + r) (c := fun _ => True) (by have := I.nL3; omega) hkL trivial)) rfl rfl (tP hP) (by decide) rfl (kk := ?_)
    refine go_astore 18 dX3_minutesTo_16 rfl (by decide) (st_s (st_s (st_s (st_s st_0)))) ?_
    refine go_aload_n 19 dX3_minutesTo_18 rfl rfl (ls_s (ls_s (ls_s ls_0))) ?_
    refine go_ifnull 22 dX3_minutesTo_19 rfl ?_
    refine go_aload 24 dX3_minutesTo_22 rfl (ls_s (ls_s (ls_s (ls_s ls_0)))) ?_
    refine go_ifnonnull 29 dX3_minutesTo_24 (by decide) ?_
    refine go_aload_n 30 dX3_minutesTo_29 rfl rfl ls_0 ?_
    refine go_aload_n 31 dX3_minutesTo_30 rfl rfl (ls_s (ls_s (ls_s ls_0))) ?_
    refine go_aload_n 32 dX3_minutesTo_31 rfl rfl (ls_s ls_0) ?_
    refine gp_getI 35 dX3_minutesTo_32 rfl f_X3_220 rfl (tB hP hb) ?_
    refine go_top (y := (prF A b)) hB.2.1 ?_
    refine go_VI (M' := mX3_cleaningMinutes) 38 dX3_minutesTo_35 rfl w_463 okX3_cleaningMinutes ⟨Nat.le_of_ble_eq_true rfl, Nat.le_of_ble_eq_true rfl⟩ (ct_cleaningMinutes G gi hP hv6 _) rfl rfl (tP hP) (by decide) rfl (kk := ?_)
    refine go_top (y := (clF A v (prF A b))) (cm_rel' hV.2.2.2.1 h.2.2.2.2.2.1 (I.2.2.2.1 v hv6).2.2.2.1 (I.2.2.1 _ (I.bR4 hb hl)).1) ?_
    refine go_aload 40 dX3_minutesTo_38 rfl (ls_s (ls_s (ls_s (ls_s ls_0)))) ?_
    refine go_aload_n 41 dX3_minutesTo_40 rfl rfl (ls_s ls_0) ?_
    refine gp_getI 44 dX3_minutesTo_41 rfl f_X3_221 rfl (tB hP hb) ?_
    refine go_top (y := (A (145 + 9 * b + 2))) hB.2.2.2.1 ?_
    refine go_VI (M' := mX2_minutesFor) 47 dX3_minutesTo_44 rfl w_511 okX2_minutesFor ⟨Nat.le_of_ble_eq_true rfl, Nat.le_of_ble_eq_true rfl⟩ (ct_minutesFor G _ _ (tL hP hk3) _) rfl rfl (tL hP hk3) (by decide) rfl (kk := ?_)
    refine go_top (y := (((A (145 + 9 * b + 2)) + (A (133 + 4 * k + 1)) - 1) / (A (133 + 4 * k + 1)))) (by rw [hL.2.1, mf_rel hspd.1 hspd.2]) ?_
    refine go_iadd 48 dX3_minutesTo_47 rfl ?_
    exact go_ret_i dX3_minutesTo_48 rfl rfl rfl (pI_of (by rw [mt1, cIf_f (by rw [hlt.1]; exact nI_pos (by omega)), hlt.1, iN_n (by omega)]; rfl) rfl)
theorem clF_n {N : Nat} {A : AA} (I : Inv N A) {v : Nat} (hv : v < 6) {x : Int32} (hx : bd x 3) : ∃ c, c ≤ 99 ∧ clF A v x = nI c := by
  unfold clF
  by_cases h : A (103 + 5 * v + 3) < 0
  · exact ⟨0, by omega, by rw [cIf_t h]; rfl⟩
  · rw [cIf_f h]
    have h1 := (I.2.2.2.1 v hv).2.2.2.1.resolve_left (fun z => h (by rw [z]; decide))
    have h2 := I.2.1 (4 * iN (A (103 + 5 * v + 3)) + iN x) (by have := h1.2; have := hx.2; omega)
    rw [← Nat.add_assoc] at h2
    exact ⟨_, h2.2, h2.1⟩
theorem mt_n {m s : Nat} (hm : m ≤ 999) (h1 : 1 ≤ s) (h2 : s ≤ 99) : ∃ c, c ≤ 1097 ∧ (nI m + nI s - 1) / nI s = nI c := by
  refine ⟨(m + s - 1) / s, Nat.le_trans (Nat.div_le_self _ _) (by omega), ?_⟩
  rw [nI_add, show (1 : Int32) = nI 1 from rfl, pk_sub (by omega), pk_div (by omega) h1 (by omega)]
theorem mtF_n {N : Nat} {A : AA} (I : Inv N A) {b v k : Nat} (hb : b < 6) (hl : live A b) (hv : v < 6) (hk : k < nL A) : ∃ c, c ≤ 1196 ∧ mtF A b v k = nI c := by
  obtain ⟨c1, h1, e1⟩ := clF_n I hv (I.2.2.1 _ (I.bR4 hb hl)).1
  have hm := (I.b1 hb hl).2.2.2.1
  have hs := (I.2.2.2.2.1 k (Nat.lt_of_lt_of_le hk I.nL3)).1 hk
  obtain ⟨c2, h2, e2⟩ := mt_n hm.2 hs.2 hs.1.2
  rw [← hm.1, ← hs.1.1] at e2
  exact ⟨c1 + c2, by omega, by rw [mtF, prF, e1, e2, nI_add]⟩
theorem mt1_F {N : Nat} {A : AA} (I : Inv N A) {b v : Nat} (hb : b < 6) (hl : live A b) (hv : v < 6) : (ltF A b v < 0 ∧ mt1 A b v = -1) ∨ (¬ ltF A b v < 0 ∧ mt1 A b v = mtF A b v (iN (ltF A b v)) ∧ ∃ c, c ≤ 1196 ∧ mt1 A b v = nI c) := by
  rcases lt1_F I b v with ⟨h1, -⟩ | ⟨k, hk, h1, -⟩
  · exact Or.inl ⟨h1, by rw [mt1, cIf_t h1]⟩
  · have hk3 := I.nL3
    have h0 : ¬ ltF A b v < 0 := by rw [h1]; exact nI_pos (by omega)
    refine Or.inr ⟨h0, by rw [mt1, cIf_f h0], ?_⟩
    obtain ⟨c, hc, e⟩ := mtF_n I hb hl hv hk
    exact ⟨c, hc, by rw [mt1, cIf_f h0, h1, iN_n (by omega), e]⟩
/-- the class's best vessel so far and its minutes tell the same as s -/
def qkR (x y : Int32) (s : Option (Nat × Int32)) : Prop := (s = none ∧ x = -1) ∨ (∃ q, q < 6 ∧ s = some (q, y) ∧ x = nI q)
def qkV (s : Option (Nat × Int32)) : Int32 := match s with
  | none => -1
  | some q => nI q.1
set_option maxHeartbeats 4000000 in
set_option maxRecDepth 100000 in
theorem lp_quickest (G : BcG) {gi : GI} {P : Nat} (hP : isP P) {N : Nat} {A : AA} (h : Rel P A gi) (I : Inv N A) {b : Nat} (hb : b < 6) (hl : live A b) : ∀ (n i : Nat) (x y : Int32) (s : Option (Nat × Int32)), i + n = nV A → (qkR x y s) → BGo G mX3_quickestTarget (KM G mX3_quickestTarget 341 (pI (qkV (qkF A b i n s)) (hp gi))) (hp gi) 0 0 7 [some (.ref (G.1 + P)), some (.ref (G.1 + (P + 41 + b))), some (.int x), some (.int y), some (.int (nI i)), none] [] := by
  intro n
  induction n with
  | zero =>
    intro i x y s hn hs
    obtain rfl : i = nV A := by omega
    refine go_iload 9 dX3_quickestTarget_7 rfl (ls_s (ls_s (ls_s (ls_s ls_0)))) ?_
    refine go_aload_n 10 dX3_quickestTarget_9 rfl rfl ls_0 ?_
    refine gp_getI 13 dX3_quickestTarget_10 rfl f_X3_65 rfl (tP hP) ?_
    refine go_top (y := (nI (nV A))) (h.1.2.1.trans I.eV) ?_
    refine go_icmp_ge 54 16 dX3_quickestTarget_13 (by decide) rfl (fun c_13 => ?_) (fun c_13 => absurd (Int32.le_refl _) c_13)
    refine go_iload_n 55 dX3_quickestTarget_54 rfl rfl (ls_s (ls_s ls_0)) ?_
    exact go_ret_i dX3_quickestTarget_55 rfl rfl rfl (pI_of (by rcases hs with ⟨rfl, e⟩ | ⟨q, -, rfl, e⟩; exact e; exact e) rfl)
  | succ n ih =>
    intro i x y s hn hs
    have hV6 := I.nV6
    have hiV : i < nV A := by omega
    have hi6 : i < 6 := by omega
    refine go_iload 9 dX3_quickestTarget_7 rfl (ls_s (ls_s (ls_s (ls_s ls_0)))) ?_
    refine go_aload_n 10 dX3_quickestTarget_9 rfl rfl ls_0 ?_
    refine gp_getI 13 dX3_quickestTarget_10 rfl f_X3_65 rfl (tP hP) ?_
    refine go_top (y := (nI (nV A))) (h.1.2.1.trans I.eV) ?_
    refine go_icmp_ge 54 16 dX3_quickestTarget_13 (by decide) rfl (fun c_13 => absurd c_13 (nI_ge hiV (by omega))) (fun c_13 => ?_)
    refine go_aload_n 17 dX3_quickestTarget_16 rfl rfl ls_0 ?_
    refine go_aload_n 18 dX3_quickestTarget_17 rfl rfl (ls_s ls_0) ?_
    refine go_iload 20 dX3_quickestTarget_18 rfl (ls_s (ls_s (ls_s (ls_s ls_0)))) ?_
    refine go_VI (M' := mX3_minutesTo) 23 dX3_quickestTarget_20 rfl w_632 okX3_minutesTo ⟨Nat.le_of_ble_eq_true rfl, Nat.le_of_ble_eq_true rfl⟩ (ct_minutesTo G hP h I hb hl hiV) rfl rfl (tP hP) (by decide) rfl (kk := ?_)
    refine go_istore 25 dX3_quickestTarget_23 rfl (by decide) (st_s (st_s (st_s (st_s (st_s st_0))))) ?_
    refine go_iload 27 dX3_quickestTarget_25 rfl (ls_s (ls_s (ls_s (ls_s (ls_s ls_0))))) ?_
    refine go_iconst 28 (v := (-1)) dX3_quickestTarget_27 rfl (by decide) ?_
    refine go_icmp_eq 48 31 dX3_quickestTarget_28 (by decide) rfl (fun c_28 => ?_) (fun c_28 => ?_)
    · refine go_iinc 51 (v := (nI (i + 1))) dX3_quickestTarget_48 rfl (ls_s (ls_s (ls_s (ls_s ls_0)))) (by exact nI_1 i) (by decide) (st_s (st_s (st_s (st_s st_0)))) ?_
      refine go_goto 7 dX3_quickestTarget_51 (by decide) ?_
      refine go_less (le_k (le_k (le_k (le_k (le_k (le_n le_0)))))) ?_
      have hm := (mt1_F I hb hl hi6).resolve_right (fun z => by obtain ⟨c, hc, e⟩ := z.2.2; rw [c_28] at e; exact nI_pos (n := c) (by omega) (by rw [← e]; decide))
      rw [show qkF A b i (n + 1) s = qkF A b (i + 1) n s from by rw [qkF, cIf_f (fun z => z.1 hm.1)]]
      exact ih (i + 1) x y s (by omega) hs
    · refine go_iload_n 32 dX3_quickestTarget_31 rfl rfl (ls_s (ls_s ls_0)) ?_
      refine go_iconst 33 (v := (-1)) dX3_quickestTarget_32 rfl (by decide) ?_
      refine go_icmp_eq 42 36 dX3_quickestTarget_33 (by decide) rfl (fun c_33 => ?_) (fun c_33 => ?_)
      · refine go_iload 44 dX3_quickestTarget_42 rfl (ls_s (ls_s (ls_s (ls_s ls_0)))) ?_
        refine go_istore_n 45 dX3_quickestTarget_44 rfl rfl (by decide) (st_s (st_s st_0)) ?_
        refine go_iload 47 dX3_quickestTarget_45 rfl (ls_s (ls_s (ls_s (ls_s (ls_s ls_0))))) ?_
        refine go_istore_n 48 dX3_quickestTarget_47 rfl rfl (by decide) (st_s (st_s (st_s st_0))) ?_
        refine go_iinc 51 (v := (nI (i + 1))) dX3_quickestTarget_48 rfl (ls_s (ls_s (ls_s (ls_s ls_0)))) (by exact nI_1 i) (by decide) (st_s (st_s (st_s (st_s st_0)))) ?_
        refine go_goto 7 dX3_quickestTarget_51 (by decide) ?_
        refine go_less (le_k (le_k (le_k (le_k (le_k (le_n le_0)))))) ?_
        have hm := (mt1_F I hb hl hi6).resolve_left (fun z => c_28 z.2)
        have e : s = none := by
          rcases hs with hs | ⟨q, hq, -, hx⟩
          · exact hs.1
          · exact absurd c_33 (fun z => nI_pos (n := q) (by omega) (by rw [← hx, z]; decide))
        subst e
        rw [show qkF A b i (n + 1) none = qkF A b (i + 1) n (some (i, mtF A b i (iN (ltF A b i)))) from by rw [qkF, cIf_t ⟨hm.1, fun q z => by cases z⟩]]
        exact ih (i + 1) _ _ _ (by omega) (Or.inr ⟨i, hi6, by rw [hm.2.1], rfl⟩)
      · refine go_iload 38 dX3_quickestTarget_36 rfl (ls_s (ls_s (ls_s (ls_s (ls_s ls_0))))) ?_
        refine go_iload_n 39 dX3_quickestTarget_38 rfl rfl (ls_s (ls_s (ls_s ls_0))) ?_
        refine go_icmp_ge 48 42 dX3_quickestTarget_39 (by decide) rfl (fun c_39 => ?_) (fun c_39 => ?_)
        · refine go_iinc 51 (v := (nI (i + 1))) dX3_quickestTarget_48 rfl (ls_s (ls_s (ls_s (ls_s ls_0)))) (by exact nI_1 i) (by decide) (st_s (st_s (st_s (st_s st_0)))) ?_
          refine go_goto 7 dX3_quickestTarget_51 (by decide) ?_
          refine go_less (le_k (le_k (le_k (le_k (le_k (le_n le_0)))))) ?_
          have hm := (mt1_F I hb hl hi6).resolve_left (fun z => c_28 z.2)
          have hq : ∃ q, q < 6 ∧ s = some (q, y) ∧ x = nI q := hs.resolve_left (fun z => c_33 z.2)
          obtain ⟨q, hq6, rfl, hx⟩ := hq
          rw [show qkF A b i (n + 1) (some (q, y)) = qkF A b (i + 1) n (some (q, y)) from by rw [qkF, cIf_f (fun z => absurd (z.2 _ rfl) (Int32.not_lt.mpr (by rw [← hm.2.1]; exact c_39)))]]
          exact ih (i + 1) x y _ (by omega) hs
        · refine go_iload 44 dX3_quickestTarget_42 rfl (ls_s (ls_s (ls_s (ls_s ls_0)))) ?_
          refine go_istore_n 45 dX3_quickestTarget_44 rfl rfl (by decide) (st_s (st_s st_0)) ?_
          refine go_iload 47 dX3_quickestTarget_45 rfl (ls_s (ls_s (ls_s (ls_s (ls_s ls_0))))) ?_
          refine go_istore_n 48 dX3_quickestTarget_47 rfl rfl (by decide) (st_s (st_s (st_s st_0))) ?_
          refine go_iinc 51 (v := (nI (i + 1))) dX3_quickestTarget_48 rfl (ls_s (ls_s (ls_s (ls_s ls_0)))) (by exact nI_1 i) (by decide) (st_s (st_s (st_s (st_s st_0)))) ?_
          refine go_goto 7 dX3_quickestTarget_51 (by decide) ?_
          refine go_less (le_k (le_k (le_k (le_k (le_k (le_n le_0)))))) ?_
          have hm := (mt1_F I hb hl hi6).resolve_left (fun z => c_28 z.2)
          have hq : ∃ q, q < 6 ∧ s = some (q, y) ∧ x = nI q := hs.resolve_left (fun z => c_33 z.2)
          obtain ⟨q, hq6, rfl, hx⟩ := hq
          rw [show qkF A b i (n + 1) (some (q, y)) = qkF A b (i + 1) n (some (i, mtF A b i (iN (ltF A b i)))) from by rw [qkF, cIf_t ⟨hm.1, fun r z => by cases z; rw [← hm.2.1]; exact Int32.not_le.mp c_39⟩]]
          exact ih (i + 1) _ _ _ (by omega) (Or.inr ⟨i, hi6, by rw [hm.2.1], rfl⟩)
set_option maxHeartbeats 4000000 in
set_option maxRecDepth 100000 in
theorem ct_quickestTarget (G : BcG) {gi : GI} {P : Nat} (hP : isP P) {N : Nat} {A : AA} (h : Rel P A gi) (I : Inv N A) {b : Nat} (hb : b < 6) (hl : live A b) : Ct G mX3_quickestTarget [.ref (G.1 + P), .ref (G.1 + (P + 41 + b))] (hp gi) (pI (qkV (qkF A b 0 (nV A) none)) (hp gi)) := by
  refine ct_of [some (.ref (G.1 + P)), some (.ref (G.1 + (P + 41 + b))), none, none, none, none] w_2 (by decide) rfl (Nat.le_of_ble_eq_true rfl) rfl ?_
  refine go_iconst 1 (v := (-1)) dX3_quickestTarget_0 rfl (by decide) ?_
  refine go_istore_n 2 dX3_quickestTarget_1 rfl rfl (by decide) (st_s (st_s st_0)) ?_
  refine go_iconst 3 (v := 0) dX3_quickestTarget_2 rfl (by decide) ?_
  refine go_istore_n 4 dX3_quickestTarget_3 rfl rfl (by decide) (st_s (st_s (st_s st_0))) ?_
  refine go_iconst 5 (v := 0) dX3_quickestTarget_4 rfl (by decide) ?_
  refine go_istore 7 dX3_quickestTarget_5 rfl (by decide) (st_s (st_s (st_s (st_s st_0)))) ?_
  exact lp_quickest G hP h I hb hl (nV A) 0 (-1) 0 none (Nat.zero_add _) (Or.inl ⟨rfl, rfl⟩)
