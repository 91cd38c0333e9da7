/-! THE LEAVES -/
theorem go_top {G : BcG} {M : BcM} {KQ : BcK} {h : BcH} {k n pc : Nat} {ls : List (Option Value)} {st : List Value} {x y : Int32} (e : x = y) (kk : BGo G M KQ h k n pc ls (.int y :: st)) : BGo G M KQ h k n pc ls (.int x :: st) := by rw [e]; exact kk
theorem idx_of {x : Int32} {len : Nat} (hl : len < 2 ^ 31) (h1 : ¬ x < 0) (h2 : ¬ nI len ≤ x) : ∃ j : Nat, j < len ∧ x = nI j := by
  obtain h | h | ⟨j, hj, hx⟩ := pk_ix x hl
  · exact absurd h h1
  · exact absurd h h2
  · exact ⟨j, hj, hx⟩
theorem vp_in_g {x : Int32} {len : Nat} (hl : len < 2 ^ 31) (h1 : ¬ x < 0) (h2 : ¬ nI len ≤ x) : vp_in x len := by
  obtain ⟨j, hj, rfl⟩ := idx_of hl h1 h2
  exact vp_in_nI hj hl
theorem bI_1 {c : Prop} (h : c) : 1 = bI c := by rw [bI, if_pos h]
theorem bI_0 {c : Prop} (h : ¬ c) : 0 = bI c := by rw [bI, if_neg h]
def entF (gi : GI) (a len : Nat) (i : Int32) : Int32 := if ¬ i < 0 ∧ ¬ nI len ≤ i then gi a i.toNatClampNeg else 0
def putF (gi : GI) (a len : Nat) (i v : Int32) : GI := if ¬ i < 0 ∧ ¬ nI len ≤ i then wI gi a i.toNatClampNeg v else gi
theorem entF_n {gi : GI} {a len i : Nat} (hi : i < len) (hl : len < 2 ^ 31) : entF gi a len (nI i) = gi a i := by
  rw [entF, if_pos ⟨nI_pos (by omega), nI_ge hi hl⟩, nI_clamp (by omega)]
theorem putF_n {gi : GI} {a len i : Nat} {v : Int32} (hi : i < len) (hl : len < 2 ^ 31) : putF gi a len (nI i) v = wI gi a i v := by
  rw [putF, if_pos ⟨nI_pos (by omega), nI_ge hi hl⟩, nI_clamp (by omega)]
theorem ct_isWithin_dummy : True := trivial
set_option maxHeartbeats 4000000 in
set_option maxRecDepth 100000 in
theorem ct_isWithin (G : BcG) (gi : GI) (x a b : Int32) : Ct G mX8_isWithin [.int x, .int a, .int b] (hp gi) (pI (bI (a ≤ x ∧ x ≤ b)) (hp gi)) := by
  refine ct_of [some (.int x), some (.int a), some (.int b)] w_1 (by decide) rfl (Nat.le_of_ble_eq_true rfl) rfl ?_
  refine go_iload_n 1 dX8_isWithin_0 rfl rfl ls_0 ?_
  refine go_iload_n 2 dX8_isWithin_1 rfl rfl (ls_s ls_0) ?_
  refine go_icmp_lt 14 5 dX8_isWithin_2 (by decide) rfl (fun c_2 => ?_) (fun c_2 => ?_)
  · refine go_iconst 15 (v := 0) dX8_isWithin_14 rfl (by decide) ?_
    exact go_ret_z dX8_isWithin_15 rfl rfl rfl rfl (pI_of (bI_0 (c := a ≤ x ∧ x ≤ b) (fun z => absurd c_2 (Int32.not_lt.mpr z.1))) rfl)
  · refine go_iload_n 6 dX8_isWithin_5 rfl rfl ls_0 ?_
    refine go_iload_n 7 dX8_isWithin_6 rfl rfl (ls_s (ls_s ls_0)) ?_
    refine go_icmp_gt 14 10 dX8_isWithin_7 (by decide) rfl (fun c_7 => ?_) (fun c_7 => ?_)
    · refine go_iconst 15 (v := 0) dX8_isWithin_14 rfl (by decide) ?_
      exact go_ret_z dX8_isWithin_15 rfl rfl rfl rfl (pI_of (bI_0 (c := a ≤ x ∧ x ≤ b) (fun z => absurd c_7 (Int32.not_lt.mpr z.2))) rfl)
    · refine go_iconst 11 (v := 1) dX8_isWithin_10 rfl (by decide) ?_
      refine go_goto 15 dX8_isWithin_11 (by decide) ?_
      exact go_ret_z dX8_isWithin_15 rfl rfl rfl rfl (pI_of (bI_1 (c := a ≤ x ∧ x ≤ b) ⟨Int32.not_lt.mp c_2, Int32.not_lt.mp c_7⟩) rfl)
set_option maxHeartbeats 4000000 in
set_option maxRecDepth 100000 in
theorem ct_entryAt (G : BcG) (gi : GI) (a len : Nat) (x : Int32) (ha : tA a 20 len) (hl : len < 2 ^ 31) : Ct G mX8_entryAt [.ref (G.1 + a), .int x] (hp gi) (pI (entF gi a len x) (hp gi)) := by
  refine ct_of [some (.ref (G.1 + a)), some (.int x)] w_1 (by decide) rfl (Nat.le_of_ble_eq_true rfl) rfl ?_
  refine go_iload_n 1 dX8_entryAt_0 rfl rfl (ls_s ls_0) ?_
  refine go_if_lt 16 4 dX8_entryAt_1 (by decide) rfl (fun c_1 => ?_) (fun c_1 => ?_)
  · refine go_iconst 17 (v := 0) dX8_entryAt_16 rfl (by decide) ?_
    exact go_ret_i dX8_entryAt_17 rfl rfl rfl (pI_of (by simp [entF, *]) rfl)
  · refine go_iload_n 5 dX8_entryAt_4 rfl rfl (ls_s ls_0) ?_
    refine go_aload_n 6 dX8_entryAt_5 rfl rfl ls_0 ?_
    refine gp_alen 7 (v := nI len) dX8_entryAt_6 rfl ha (by decide) (by decide) rfl ?_
    refine go_icmp_ge 16 10 dX8_entryAt_7 (by decide) rfl (fun c_7 => ?_) (fun c_7 => ?_)
    · refine go_iconst 17 (v := 0) dX8_entryAt_16 rfl (by decide) ?_
      exact go_ret_i dX8_entryAt_17 rfl rfl rfl (pI_of (by simp [entF, *]) rfl)
    · refine go_aload_n 11 dX8_entryAt_10 rfl rfl ls_0 ?_
      refine go_iload_n 12 dX8_entryAt_11 rfl rfl (ls_s ls_0) ?_
      refine gp_iald 13 dX8_entryAt_12 rfl ha (vp_in_g hl c_1 c_7) ?_
      refine go_goto 17 dX8_entryAt_13 (by decide) ?_
      exact go_ret_i dX8_entryAt_17 rfl rfl rfl (pI_of (by simp [entF, *]) rfl)
set_option maxHeartbeats 4000000 in
set_option maxRecDepth 100000 in
theorem ct_putEntry (G : BcG) (gi : GI) (a len : Nat) (x y : Int32) (ha : tA a 20 len) (hl : len < 2 ^ 31) : Ct G mX8_putEntry [.ref (G.1 + a), .int x, .int y] (hp gi) (pV (hp (putF gi a len x y))) := by
  refine ct_of [some (.ref (G.1 + a)), some (.int x), some (.int y)] w_1 (by decide) rfl (Nat.le_of_ble_eq_true rfl) rfl ?_
  refine go_iload_n 1 dX8_putEntry_0 rfl rfl (ls_s ls_0) ?_
  refine go_if_lt 14 4 dX8_putEntry_1 (by decide) rfl (fun c_1 => ?_) (fun c_1 => ?_)
  · exact go_ret_v dX8_putEntry_14 rfl rfl rfl ⟨rfl, by simp [putF, *]⟩
  · refine go_iload_n 5 dX8_putEntry_4 rfl rfl (ls_s ls_0) ?_
    refine go_aload_n 6 dX8_putEntry_5 rfl rfl ls_0 ?_
    refine gp_alen 7 (v := nI len) dX8_putEntry_6 rfl ha (by decide) (by decide) rfl ?_
    refine go_icmp_ge 14 10 dX8_putEntry_7 (by decide) rfl (fun c_7 => ?_) (fun c_7 => ?_)
    · exact go_ret_v dX8_putEntry_14 rfl rfl rfl ⟨rfl, by simp [putF, *]⟩
    · refine go_aload_n 11 dX8_putEntry_10 rfl rfl ls_0 ?_
      refine go_iload_n 12 dX8_putEntry_11 rfl rfl (ls_s ls_0) ?_
      refine go_iload_n 13 dX8_putEntry_12 rfl rfl (ls_s (ls_s ls_0)) ?_
      refine gp_iast 14 dX8_putEntry_13 rfl ha (vp_in_g hl c_1 c_7) ?_
      exact go_ret_v dX8_putEntry_14 rfl rfl rfl ⟨rfl, by simp [putF, *]⟩
def rsF (x : Int32) : Int32 := if x = -1 then 2 else if 0 ≤ x then 0 else 3
set_option maxHeartbeats 4000000 in
set_option maxRecDepth 100000 in
theorem ct_reasonOf (G : BcG) (gi : GI) (x : Int32) : Ct G mX8_reasonOf [.int x] (hp gi) (pI (rsF x) (hp gi)) := by
  refine ct_of [some (.int x)] w_1 (by decide) rfl (Nat.le_of_ble_eq_true rfl) rfl ?_
  refine go_iload_n 1 dX8_reasonOf_0 rfl rfl ls_0 ?_
  refine go_iconst 2 (v := (-1)) dX8_reasonOf_1 rfl (by decide) ?_
  refine go_icmp_ne 7 5 dX8_reasonOf_2 (by decide) rfl (fun c_2 => ?_) (fun c_2 => ?_)
  · refine go_iload_n 8 dX8_reasonOf_7 rfl rfl ls_0 ?_
    refine go_if_ge 15 11 dX8_reasonOf_8 (by decide) rfl (fun c_8 => ?_) (fun c_8 => ?_)
    · refine go_iconst 16 (v := 0) dX8_reasonOf_15 rfl (by decide) ?_
      exact go_ret_i dX8_reasonOf_16 rfl rfl rfl (pI_of (by simp [rsF, *]) rfl)
    · refine go_iconst 12 (v := 3) dX8_reasonOf_11 rfl (by decide) ?_
      refine go_goto 16 dX8_reasonOf_12 (by decide) ?_
      exact go_ret_i dX8_reasonOf_16 rfl rfl rfl (pI_of (by simp [rsF, *]) rfl)
  · refine go_iconst 6 (v := 2) dX8_reasonOf_5 rfl (by decide) ?_
    exact go_ret_i dX8_reasonOf_6 rfl rfl rfl (pI_of (by simp [rsF, *]) rfl)
def dS (gi : GI) (k : Nat) (j : Nat) : Int32 := gi k j
set_option maxHeartbeats 4000000 in
set_option maxRecDepth 100000 in
theorem ct_Stage_detail (G : BcG) (gi : GI) (k : Nat) (hk : tO k 6) (j : Nat) (hj : j < 4) : Ct G mX6_detail [.ref (G.1 + k), .int (nI j)] (hp gi) (pI (gi k j) (hp gi)) := by
  obtain rfl | rfl | rfl | rfl : j = 0 ∨ j = 1 ∨ j = 2 ∨ j = 3 := by omega
  · refine ct_of [some (.ref (G.1 + k)), some (.int (nI 0))] w_4 (by decide) rfl (Nat.le_of_ble_eq_true rfl) rfl ?_
    refine go_iload_n 1 dX6_detail_0 rfl rfl (ls_s ls_0) ?_
    refine go_tabIn 28 dX6_detail_1 (off := 27) (by decide +kernel) (by decide +kernel) (by decide +kernel) (by decide) ?_
    refine go_aload_n 29 dX6_detail_28 rfl rfl ls_0 ?_
    refine gp_getI 32 dX6_detail_29 rfl f_X6_7 rfl hk ?_
    exact go_ret_i dX6_detail_32 rfl rfl rfl (pI_of rfl rfl)
  · refine ct_of [some (.ref (G.1 + k)), some (.int (nI 1))] w_4 (by decide) rfl (Nat.le_of_ble_eq_true rfl) rfl ?_
    refine go_iload_n 1 dX6_detail_0 rfl rfl (ls_s ls_0) ?_
    refine go_tabIn 33 dX6_detail_1 (off := 32) (by decide +kernel) (by decide +kernel) (by decide +kernel) (by decide) ?_
    refine go_aload_n 34 dX6_detail_33 rfl rfl ls_0 ?_
    refine gp_getI 37 dX6_detail_34 rfl f_X6_13 rfl hk ?_
    exact go_ret_i dX6_detail_37 rfl rfl rfl (pI_of rfl rfl)
  · refine ct_of [some (.ref (G.1 + k)), some (.int (nI 2))] w_4 (by decide) rfl (Nat.le_of_ble_eq_true rfl) rfl ?_
    refine go_iload_n 1 dX6_detail_0 rfl rfl (ls_s ls_0) ?_
    refine go_tabIn 38 dX6_detail_1 (off := 37) (by decide +kernel) (by decide +kernel) (by decide +kernel) (by decide) ?_
    refine go_aload_n 39 dX6_detail_38 rfl rfl ls_0 ?_
    refine gp_getI 42 dX6_detail_39 rfl f_X6_16 rfl hk ?_
    exact go_ret_i dX6_detail_42 rfl rfl rfl (pI_of rfl rfl)
  · refine ct_of [some (.ref (G.1 + k)), some (.int (nI 3))] w_4 (by decide) rfl (Nat.le_of_ble_eq_true rfl) rfl ?_
    refine go_iload_n 1 dX6_detail_0 rfl rfl (ls_s ls_0) ?_
    refine go_tabOut 43 dX6_detail_1 (by decide +kernel) (by decide) ?_
    refine go_aload_n 44 dX6_detail_43 rfl rfl ls_0 ?_
    refine gp_getI 47 dX6_detail_44 rfl f_X6_19 rfl hk ?_
    exact go_ret_i dX6_detail_47 rfl rfl rfl (pI_of rfl rfl)
set_option maxHeartbeats 4000000 in
set_option maxRecDepth 100000 in
theorem ct_Vessel_detail (G : BcG) (gi : GI) (k : Nat) (hk : tO k 7) (j : Nat) (hj : j < 5) : Ct G mX7_detail [.ref (G.1 + k), .int (nI j)] (hp gi) (pI (gi k j) (hp gi)) := by
  obtain rfl | rfl | rfl | rfl | rfl : j = 0 ∨ j = 1 ∨ j = 2 ∨ j = 3 ∨ j = 4 := by omega
  · refine ct_of [some (.ref (G.1 + k)), some (.int (nI 0))] w_5 (by decide) rfl (Nat.le_of_ble_eq_true rfl) rfl ?_
    refine go_iload_n 1 dX7_detail_0 rfl rfl (ls_s ls_0) ?_
    refine go_tabIn 32 dX7_detail_1 (off := 31) (by decide +kernel) (by decide +kernel) (by decide +kernel) (by decide) ?_
    refine go_aload_n 33 dX7_detail_32 rfl rfl ls_0 ?_
    refine gp_getI 36 dX7_detail_33 rfl f_X7_18 rfl hk ?_
    exact go_ret_i dX7_detail_36 rfl rfl rfl (pI_of rfl rfl)
  · refine ct_of [some (.ref (G.1 + k)), some (.int (nI 1))] w_5 (by decide) rfl (Nat.le_of_ble_eq_true rfl) rfl ?_
    refine go_iload_n 1 dX7_detail_0 rfl rfl (ls_s ls_0) ?_
    refine go_tabIn 37 dX7_detail_1 (off := 36) (by decide +kernel) (by decide +kernel) (by decide +kernel) (by decide) ?_
    refine go_aload_n 38 dX7_detail_37 rfl rfl ls_0 ?_
    refine gp_getI 41 dX7_detail_38 rfl f_X7_21 rfl hk ?_
    exact go_ret_i dX7_detail_41 rfl rfl rfl (pI_of rfl rfl)
  · refine ct_of [some (.ref (G.1 + k)), some (.int (nI 2))] w_5 (by decide) rfl (Nat.le_of_ble_eq_true rfl) rfl ?_
    refine go_iload_n 1 dX7_detail_0 rfl rfl (ls_s ls_0) ?_
    refine go_tabIn 42 dX7_detail_1 (off := 41) (by decide +kernel) (by decide +kernel) (by decide +kernel) (by decide) ?_
    refine go_aload_n 43 dX7_detail_42 rfl rfl ls_0 ?_
    refine gp_getI 46 dX7_detail_43 rfl f_X7_9 rfl hk ?_
    exact go_ret_i dX7_detail_46 rfl rfl rfl (pI_of rfl rfl)
  · refine ct_of [some (.ref (G.1 + k)), some (.int (nI 3))] w_5 (by decide) rfl (Nat.le_of_ble_eq_true rfl) rfl ?_
    refine go_iload_n 1 dX7_detail_0 rfl rfl (ls_s ls_0) ?_
    refine go_tabIn 47 dX7_detail_1 (off := 46) (by decide +kernel) (by decide +kernel) (by decide +kernel) (by decide) ?_
    refine go_aload_n 48 dX7_detail_47 rfl rfl ls_0 ?_
    refine gp_getI 51 dX7_detail_48 rfl f_X7_15 rfl hk ?_
    exact go_ret_i dX7_detail_51 rfl rfl rfl (pI_of rfl rfl)
  · refine ct_of [some (.ref (G.1 + k)), some (.int (nI 4))] w_5 (by decide) rfl (Nat.le_of_ble_eq_true rfl) rfl ?_
    refine go_iload_n 1 dX7_detail_0 rfl rfl (ls_s ls_0) ?_
    refine go_tabOut 52 dX7_detail_1 (by decide +kernel) (by decide) ?_
    refine go_aload_n 53 dX7_detail_52 rfl rfl ls_0 ?_
    refine gp_getI 56 dX7_detail_53 rfl f_X7_24 rfl hk ?_
    exact go_ret_i dX7_detail_56 rfl rfl rfl (pI_of rfl rfl)
/-- Math.max(0, x) as the class has it -/
def mx0 (x : Int32) : Int32 := if 0 < x then x else 0
def dL (gi : GI) (k : Nat) (t : Int32) (j : Nat) : Int32 := if j = 2 then mx0 (gi k 2 - t) else gi k j
noncomputable def dB (gi : GI) (k : Nat) (t : Int32) (j : Nat) : Int32 := match j with
  | 0 => gi k 1 | 1 => gi k 4 | 2 => gi k 7 | 3 => gi k 8 | 4 => gi k 9 | 5 => mx0 (t - gi k 10) | 6 => bI (gi k 11 ≤ t) | 7 => bI (¬ gi k 6 = 0) | 8 => gi k 5 | 9 => gi k 11 | _ => gi k 12
set_option maxHeartbeats 4000000 in
set_option maxRecDepth 100000 in
theorem ct_Line_detail (G : BcG) (gi : GI) (k : Nat) (hk : tO k 2) (t : Int32) (j : Nat) (hj : j < 4) : Ct G mX2_detail [.ref (G.1 + k), .int (nI j), .int t] (hp gi) (pI (dL gi k t j) (hp gi)) := by
  obtain rfl | rfl | rfl | rfl : j = 0 ∨ j = 1 ∨ j = 2 ∨ j = 3 := by omega
  · refine ct_of [some (.ref (G.1 + k)), some (.int (nI 0)), some (.int t)] w_6 (by decide) rfl (Nat.le_of_ble_eq_true rfl) rfl ?_
    refine go_iload_n 1 dX2_detail_0 rfl rfl (ls_s ls_0) ?_
    refine go_tabIn 28 dX2_detail_1 (off := 27) (by decide +kernel) (by decide +kernel) (by decide +kernel) (by decide) ?_
    refine go_aload_n 29 dX2_detail_28 rfl rfl ls_0 ?_
    refine gp_getI 32 dX2_detail_29 rfl f_X2_7 rfl hk ?_
    exact go_ret_i dX2_detail_32 rfl rfl rfl (pI_of rfl rfl)
  · refine ct_of [some (.ref (G.1 + k)), some (.int (nI 1)), some (.int t)] w_6 (by decide) rfl (Nat.le_of_ble_eq_true rfl) rfl ?_
    refine go_iload_n 1 dX2_detail_0 rfl rfl (ls_s ls_0) ?_
    refine go_tabIn 33 dX2_detail_1 (off := 32) (by decide +kernel) (by decide +kernel) (by decide +kernel) (by decide) ?_
    refine go_aload_n 34 dX2_detail_33 rfl rfl ls_0 ?_
    refine gp_getI 37 dX2_detail_34 rfl f_X2_13 rfl hk ?_
    exact go_ret_i dX2_detail_37 rfl rfl rfl (pI_of rfl rfl)
  · refine ct_of [some (.ref (G.1 + k)), some (.int (nI 2)), some (.int t)] w_6 (by decide) rfl (Nat.le_of_ble_eq_true rfl) rfl ?_
    refine go_iload_n 1 dX2_detail_0 rfl rfl (ls_s ls_0) ?_
    refine go_tabIn 38 dX2_detail_1 (off := 37) (by decide +kernel) (by decide +kernel) (by decide +kernel) (by decide) ?_
    refine go_iconst 39 (v := 0) dX2_detail_38 rfl (by decide) ?_
    refine go_aload_n 40 dX2_detail_39 rfl rfl ls_0 ?_
    refine gp_getI 43 dX2_detail_40 rfl f_X2_16 rfl hk ?_
    refine go_iload_n 44 dX2_detail_43 rfl rfl (ls_s (ls_s ls_0)) ?_
    refine go_isub 45 dX2_detail_44 rfl ?_
    refine go_mmax 48 dX2_detail_45 rfl w_598 w_577 w_11 w_578 (by decide) (Nat.le_of_ble_eq_true rfl) (by decide) (by decide) ?_
    exact go_ret_i dX2_detail_48 rfl rfl rfl (pI_of rfl rfl)
  · refine ct_of [some (.ref (G.1 + k)), some (.int (nI 3)), some (.int t)] w_6 (by decide) rfl (Nat.le_of_ble_eq_true rfl) rfl ?_
    refine go_iload_n 1 dX2_detail_0 rfl rfl (ls_s ls_0) ?_
    refine go_tabOut 49 dX2_detail_1 (by decide +kernel) (by decide) ?_
    refine go_aload_n 50 dX2_detail_49 rfl rfl ls_0 ?_
    refine gp_getI 53 dX2_detail_50 rfl f_X2_19 rfl hk ?_
    exact go_ret_i dX2_detail_53 rfl rfl rfl (pI_of rfl rfl)
set_option maxHeartbeats 4000000 in
set_option maxRecDepth 100000 in
theorem ct_isFree (G : BcG) (gi : GI) (k : Nat) (hk : tO k 2) (t : Int32) : Ct G mX2_isFree [.ref (G.1 + k), .int t] (hp gi) (pI (bI (gi k 2 ≤ t)) (hp gi)) := by
  refine ct_of [some (.ref (G.1 + k)), some (.int t)] w_6 (by decide) rfl (Nat.le_of_ble_eq_true rfl) rfl ?_
  refine go_aload_n 1 dX2_isFree_0 rfl rfl ls_0 ?_
  refine gp_getI 4 dX2_isFree_1 rfl f_X2_16 rfl hk ?_
  refine go_iload_n 5 dX2_isFree_4 rfl rfl (ls_s ls_0) ?_
  refine go_icmp_gt 12 8 dX2_isFree_5 (by decide) rfl (fun c_5 => ?_) (fun c_5 => ?_)
  · refine go_iconst 13 (v := 0) dX2_isFree_12 rfl (by decide) ?_
    exact go_ret_z dX2_isFree_13 rfl rfl rfl rfl (pI_of (bI_0 (c := gi k 2 ≤ t) (Int32.not_le.mpr c_5)) rfl)
  · refine go_iconst 9 (v := 1) dX2_isFree_8 rfl (by decide) ?_
    refine go_goto 13 dX2_isFree_9 (by decide) ?_
    exact go_ret_z dX2_isFree_13 rfl rfl rfl rfl (pI_of (bI_1 (c := gi k 2 ≤ t) (Int32.not_lt.mp c_5)) rfl)
def jnM (x y : Int32) : Int32 := (1 : Int32) <<< (x &&& 31) ||| (1 : Int32) <<< (y &&& 31)
set_option maxHeartbeats 4000000 in
set_option maxRecDepth 100000 in
theorem ct_joins (G : BcG) (gi : GI) (k : Nat) (hk : tO k 2) (x y : Int32) : Ct G mX2_joins [.ref (G.1 + k), .int x, .int y] (hp gi) (pI (bI (gi k 0 &&& jnM x y = jnM x y)) (hp gi)) := by
  refine ct_of [some (.ref (G.1 + k)), some (.int x), some (.int y), none] w_6 (by decide) rfl (Nat.le_of_ble_eq_true rfl) rfl ?_
  refine go_iconst 1 (v := 1) dX2_joins_0 rfl (by decide) ?_
  refine go_iload_n 2 dX2_joins_1 rfl rfl (ls_s ls_0) ?_
  refine go_ishl 3 dX2_joins_2 rfl ?_
  refine go_iconst 4 (v := 1) dX2_joins_3 rfl (by decide) ?_
  refine go_iload_n 5 dX2_joins_4 rfl rfl (ls_s (ls_s ls_0)) ?_
  refine go_ishl 6 dX2_joins_5 rfl ?_
  refine go_ior 7 dX2_joins_6 rfl ?_
  refine go_istore_n 8 dX2_joins_7 rfl rfl (by decide) (st_s (st_s (st_s st_0))) ?_
  refine go_aload_n 9 dX2_joins_8 rfl rfl ls_0 ?_
  refine gp_getI 12 dX2_joins_9 rfl f_X2_7 rfl hk ?_
  refine go_iload_n 13 dX2_joins_12 rfl rfl (ls_s (ls_s (ls_s ls_0))) ?_
  refine go_iand 14 dX2_joins_13 rfl ?_
  refine go_iload_n 15 dX2_joins_14 rfl rfl (ls_s (ls_s (ls_s ls_0))) ?_
  refine go_icmp_ne 22 18 dX2_joins_15 (by decide) rfl (fun c_15 => ?_) (fun c_15 => ?_)
  · refine go_iconst 23 (v := 0) dX2_joins_22 rfl (by decide) ?_
    exact go_ret_z dX2_joins_23 rfl rfl rfl rfl (pI_of (bI_0 (c := gi k 0 &&& jnM x y = jnM x y) c_15) rfl)
  · refine go_iconst 19 (v := 1) dX2_joins_18 rfl (by decide) ?_
    refine go_goto 23 dX2_joins_19 (by decide) ?_
    exact go_ret_z dX2_joins_23 rfl rfl rfl rfl (pI_of (bI_1 (c := gi k 0 &&& jnM x y = jnM x y) c_15) rfl)
def mfF (sp m : Int32) : Int32 := if sp < 1 then 0 else (m + sp - 1) / sp
set_option maxHeartbeats 4000000 in
set_option maxRecDepth 100000 in
theorem ct_minutesFor (G : BcG) (gi : GI) (k : Nat) (hk : tO k 2) (m : Int32) : Ct G mX2_minutesFor [.ref (G.1 + k), .int m] (hp gi) (pI (mfF (gi k 1) m) (hp gi)) := by
  refine ct_of [some (.ref (G.1 + k)), some (.int m)] w_6 (by decide) rfl (Nat.le_of_ble_eq_true rfl) rfl ?_
  refine go_aload_n 1 dX2_minutesFor_0 rfl rfl ls_0 ?_
  refine gp_getI 4 dX2_minutesFor_1 rfl f_X2_13 rfl hk ?_
  refine go_iconst 5 (v := 1) dX2_minutesFor_4 rfl (by decide) ?_
  refine go_icmp_ge 12 8 dX2_minutesFor_5 (by decide) rfl (fun c_5 => ?_) (fun c_5 => ?_)
  · refine go_iload_n 13 dX2_minutesFor_12 rfl rfl (ls_s ls_0) ?_
    refine go_aload_n 14 dX2_minutesFor_13 rfl rfl ls_0 ?_
    refine gp_getI 17 dX2_minutesFor_14 rfl f_X2_13 rfl hk ?_
    refine go_iadd 18 dX2_minutesFor_17 rfl ?_
    refine go_iconst 19 (v := 1) dX2_minutesFor_18 rfl (by decide) ?_
    refine go_isub 20 dX2_minutesFor_19 rfl ?_
    refine go_aload_n 21 dX2_minutesFor_20 rfl rfl ls_0 ?_
    refine gp_getI 24 dX2_minutesFor_21 rfl f_X2_13 rfl hk ?_
    refine go_idiv 25 dX2_minutesFor_24 rfl (fun z => by rw [z] at c_5; exact absurd c_5 (by decide)) ?_
    exact go_ret_i dX2_minutesFor_25 rfl rfl rfl (pI_of (by rw [mfF, if_neg (Int32.not_lt.mpr c_5)]) rfl)
  · refine go_iconst 9 (v := 0) dX2_minutesFor_8 rfl (by decide) ?_
    refine go_goto 25 dX2_minutesFor_9 (by decide) ?_
    exact go_ret_i dX2_minutesFor_25 rfl rfl rfl (pI_of (by rw [mfF, if_pos (Int32.not_le.mp c_5)]) rfl)
set_option maxHeartbeats 4000000 in
set_option maxRecDepth 100000 in
theorem ct_suits (G : BcG) (gi : GI) (k : Nat) (hk : tO k 7) (x m : Int32) : Ct G mX7_suits [.ref (G.1 + k), .int x, .int m] (hp gi) (pI (bI (gi k 0 = x ∧ m ≤ gi k 1)) (hp gi)) := by
  refine ct_of [some (.ref (G.1 + k)), some (.int x), some (.int m)] w_5 (by decide) rfl (Nat.le_of_ble_eq_true rfl) rfl ?_
  refine go_aload_n 1 dX7_suits_0 rfl rfl ls_0 ?_
  refine gp_getI 4 dX7_suits_1 rfl f_X7_18 rfl hk ?_
  refine go_iload_n 5 dX7_suits_4 rfl rfl (ls_s ls_0) ?_
  refine go_icmp_ne 20 8 dX7_suits_5 (by decide) rfl (fun c_5 => ?_) (fun c_5 => ?_)
  · refine go_iconst 21 (v := 0) dX7_suits_20 rfl (by decide) ?_
    exact go_ret_z dX7_suits_21 rfl rfl rfl rfl (pI_of (bI_0 (c := gi k 0 = x ∧ m ≤ gi k 1) (fun z => c_5 z.1)) rfl)
  · refine go_aload_n 9 dX7_suits_8 rfl rfl ls_0 ?_
    refine gp_getI 12 dX7_suits_9 rfl f_X7_21 rfl hk ?_
    refine go_iload_n 13 dX7_suits_12 rfl rfl (ls_s (ls_s ls_0)) ?_
    refine go_icmp_lt 20 16 dX7_suits_13 (by decide) rfl (fun c_13 => ?_) (fun c_13 => ?_)
    · refine go_iconst 21 (v := 0) dX7_suits_20 rfl (by decide) ?_
      exact go_ret_z dX7_suits_21 rfl rfl rfl rfl (pI_of (bI_0 (c := gi k 0 = x ∧ m ≤ gi k 1) (fun z => absurd c_13 (Int32.not_lt.mpr z.2))) rfl)
    · refine go_iconst 17 (v := 1) dX7_suits_16 rfl (by decide) ?_
      refine go_goto 21 dX7_suits_17 (by decide) ?_
      exact go_ret_z dX7_suits_21 rfl rfl rfl rfl (pI_of (bI_1 (c := gi k 0 = x ∧ m ≤ gi k 1) ⟨c_5, Int32.not_lt.mp c_13⟩) rfl)
set_option maxHeartbeats 4000000 in
set_option maxRecDepth 100000 in
theorem ct_canTake (G : BcG) (gi : GI) (k : Nat) (hk : tO k 7) (x m : Int32) : Ct G mX7_canTake [.ref (G.1 + k), .int x, .int m] (hp gi) (pI (bI (gi k 2 = -1 ∧ gi k 0 = x ∧ m ≤ gi k 1)) (hp gi)) := by
  refine ct_of [some (.ref (G.1 + k)), some (.int x), some (.int m)] w_5 (by decide) rfl (Nat.le_of_ble_eq_true rfl) rfl ?_
  refine go_aload_n 1 dX7_canTake_0 rfl rfl ls_0 ?_
  refine gp_getI 4 dX7_canTake_1 rfl f_X7_9 rfl hk ?_
  refine go_iconst 5 (v := (-1)) dX7_canTake_4 rfl (by decide) ?_
  refine go_icmp_ne 21 8 dX7_canTake_5 (by decide) rfl (fun c_5 => ?_) (fun c_5 => ?_)
  · refine go_iconst 22 (v := 0) dX7_canTake_21 rfl (by decide) ?_
    exact go_ret_z dX7_canTake_22 rfl rfl rfl rfl (pI_of (bI_0 (c := gi k 2 = -1 ∧ gi k 0 = x ∧ m ≤ gi k 1) (fun z => c_5 z.1)) rfl)
  · refine go_aload_n 9 dX7_canTake_8 rfl rfl ls_0 ?_
    refine go_iload_n 10 dX7_canTake_9 rfl rfl (ls_s ls_0) ?_
    refine go_iload_n 11 dX7_canTake_10 rfl rfl (ls_s (ls_s ls_0)) ?_
    refine go_VI (M' := mX7_suits) 14 dX7_canTake_11 rfl w_455 okX7_suits ⟨Nat.le_of_ble_eq_true rfl, Nat.le_of_ble_eq_true rfl⟩ (ct_suits G gi _ hk _ _) rfl rfl hk (by decide) rfl (kk := ?_)
    refine go_ifeq_b 21 17 dX7_canTake_14 (by decide) rfl (fun c_14 => ?_) (fun c_14 => ?_)
    · refine go_iconst 22 (v := 0) dX7_canTake_21 rfl (by decide) ?_
      exact go_ret_z dX7_canTake_22 rfl rfl rfl rfl (pI_of (bI_0 (c := gi k 2 = -1 ∧ gi k 0 = x ∧ m ≤ gi k 1) (fun z => c_14 z.2)) rfl)
    · refine go_iconst 18 (v := 1) dX7_canTake_17 rfl (by decide) ?_
      refine go_goto 22 dX7_canTake_18 (by decide) ?_
      exact go_ret_z dX7_canTake_22 rfl rfl rfl rfl (pI_of (bI_1 (c := gi k 2 = -1 ∧ gi k 0 = x ∧ m ≤ gi k 1) ⟨c_5, c_14⟩) rfl)
set_option maxHeartbeats 4000000 in
set_option maxRecDepth 100000 in
theorem ct_isRipe (G : BcG) (gi : GI) (k : Nat) (hk : tO k 0) (t : Int32) : Ct G mX0_isRipe [.ref (G.1 + k), .int t] (hp gi) (pI (bI (gi k 11 ≤ t)) (hp gi)) := by
  refine ct_of [some (.ref (G.1 + k)), some (.int t)] w_7 (by decide) rfl (Nat.le_of_ble_eq_true rfl) rfl ?_
  refine go_iload_n 1 dX0_isRipe_0 rfl rfl (ls_s ls_0) ?_
  refine go_aload_n 2 dX0_isRipe_1 rfl rfl ls_0 ?_
  refine gp_getI 5 dX0_isRipe_2 rfl f_X0_44 rfl hk ?_
  refine go_icmp_lt 12 8 dX0_isRipe_5 (by decide) rfl (fun c_5 => ?_) (fun c_5 => ?_)
  · refine go_iconst 13 (v := 0) dX0_isRipe_12 rfl (by decide) ?_
    exact go_ret_z dX0_isRipe_13 rfl rfl rfl rfl (pI_of (bI_0 (c := gi k 11 ≤ t) (Int32.not_le.mpr c_5)) rfl)
  · refine go_iconst 9 (v := 1) dX0_isRipe_8 rfl (by decide) ?_
    refine go_goto 13 dX0_isRipe_9 (by decide) ?_
    exact go_ret_z dX0_isRipe_13 rfl rfl rfl rfl (pI_of (bI_1 (c := gi k 11 ≤ t) (Int32.not_lt.mp c_5)) rfl)
set_option maxHeartbeats 4000000 in
set_option maxRecDepth 100000 in
theorem ct_Batch_detail (G : BcG) (gi : GI) (k : Nat) (hk : tO k 0) (t : Int32) (j : Nat) (hj : j < 11) : Ct G mX0_detail [.ref (G.1 + k), .int (nI j), .int t] (hp gi) (pI (dB gi k t j) (hp gi)) := by
  obtain rfl | rfl | rfl | rfl | rfl | rfl | rfl | rfl | rfl | rfl | rfl : j = 0 ∨ j = 1 ∨ j = 2 ∨ j = 3 ∨ j = 4 ∨ j = 5 ∨ j = 6 ∨ j = 7 ∨ j = 8 ∨ j = 9 ∨ j = 10 := by omega
  · refine ct_of [some (.ref (G.1 + k)), some (.int (nI 0)), some (.int t)] w_7 (by decide) rfl (Nat.le_of_ble_eq_true rfl) rfl ?_
    refine go_iload_n 1 dX0_detail_0 rfl rfl (ls_s ls_0) ?_
    refine go_tabIn 56 dX0_detail_1 (off := 55) (by decide +kernel) (by decide +kernel) (by decide +kernel) (by decide) ?_
    refine go_aload_n 57 dX0_detail_56 rfl rfl ls_0 ?_
    refine gp_getI 60 dX0_detail_57 rfl f_X0_13 rfl hk ?_
    exact go_ret_i dX0_detail_60 rfl rfl rfl (pI_of rfl rfl)
  · refine ct_of [some (.ref (G.1 + k)), some (.int (nI 1)), some (.int t)] w_7 (by decide) rfl (Nat.le_of_ble_eq_true rfl) rfl ?_
    refine go_iload_n 1 dX0_detail_0 rfl rfl (ls_s ls_0) ?_
    refine go_tabIn 61 dX0_detail_1 (off := 60) (by decide +kernel) (by decide +kernel) (by decide +kernel) (by decide) ?_
    refine go_aload_n 62 dX0_detail_61 rfl rfl ls_0 ?_
    refine gp_getI 65 dX0_detail_62 rfl f_X0_23 rfl hk ?_
    exact go_ret_i dX0_detail_65 rfl rfl rfl (pI_of rfl rfl)
  · refine ct_of [some (.ref (G.1 + k)), some (.int (nI 2)), some (.int t)] w_7 (by decide) rfl (Nat.le_of_ble_eq_true rfl) rfl ?_
    refine go_iload_n 1 dX0_detail_0 rfl rfl (ls_s ls_0) ?_
    refine go_tabIn 66 dX0_detail_1 (off := 65) (by decide +kernel) (by decide +kernel) (by decide +kernel) (by decide) ?_
    refine go_aload_n 67 dX0_detail_66 rfl rfl ls_0 ?_
    refine gp_getI 70 dX0_detail_67 rfl f_X0_32 rfl hk ?_
    exact go_ret_i dX0_detail_70 rfl rfl rfl (pI_of rfl rfl)
  · refine ct_of [some (.ref (G.1 + k)), some (.int (nI 3)), some (.int t)] w_7 (by decide) rfl (Nat.le_of_ble_eq_true rfl) rfl ?_
    refine go_iload_n 1 dX0_detail_0 rfl rfl (ls_s ls_0) ?_
    refine go_tabIn 71 dX0_detail_1 (off := 70) (by decide +kernel) (by decide +kernel) (by decide +kernel) (by decide) ?_
    refine go_aload_n 72 dX0_detail_71 rfl rfl ls_0 ?_
    refine gp_getI 75 dX0_detail_72 rfl f_X0_35 rfl hk ?_
    exact go_ret_i dX0_detail_75 rfl rfl rfl (pI_of rfl rfl)
  · refine ct_of [some (.ref (G.1 + k)), some (.int (nI 4)), some (.int t)] w_7 (by decide) rfl (Nat.le_of_ble_eq_true rfl) rfl ?_
    refine go_iload_n 1 dX0_detail_0 rfl rfl (ls_s ls_0) ?_
    refine go_tabIn 76 dX0_detail_1 (off := 75) (by decide +kernel) (by decide +kernel) (by decide +kernel) (by decide) ?_
    refine go_aload_n 77 dX0_detail_76 rfl rfl ls_0 ?_
    refine gp_getI 80 dX0_detail_77 rfl f_X0_38 rfl hk ?_
    exact go_ret_i dX0_detail_80 rfl rfl rfl (pI_of rfl rfl)
  · refine ct_of [some (.ref (G.1 + k)), some (.int (nI 5)), some (.int t)] w_7 (by decide) rfl (Nat.le_of_ble_eq_true rfl) rfl ?_
    refine go_iload_n 1 dX0_detail_0 rfl rfl (ls_s ls_0) ?_
    refine go_tabIn 81 dX0_detail_1 (off := 80) (by decide +kernel) (by decide +kernel) (by decide +kernel) (by decide) ?_
    refine go_iconst 82 (v := 0) dX0_detail_81 rfl (by decide) ?_
    refine go_iload_n 83 dX0_detail_82 rfl rfl (ls_s (ls_s ls_0)) ?_
    refine go_aload_n 84 dX0_detail_83 rfl rfl ls_0 ?_
    refine gp_getI 87 dX0_detail_84 rfl f_X0_41 rfl hk ?_
    refine go_isub 88 dX0_detail_87 rfl ?_
    refine go_mmax 91 dX0_detail_88 rfl w_576 w_577 w_11 w_578 (by decide) (Nat.le_of_ble_eq_true rfl) (by decide) (by decide) ?_
    exact go_ret_i dX0_detail_91 rfl rfl rfl (pI_of rfl rfl)
  · refine ct_of [some (.ref (G.1 + k)), some (.int (nI 6)), some (.int t)] w_7 (by decide) rfl (Nat.le_of_ble_eq_true rfl) rfl ?_
    refine go_iload_n 1 dX0_detail_0 rfl rfl (ls_s ls_0) ?_
    refine go_tabIn 92 dX0_detail_1 (off := 91) (by decide +kernel) (by decide +kernel) (by decide +kernel) (by decide) ?_
    refine go_aload_n 93 dX0_detail_92 rfl rfl ls_0 ?_
    refine go_iload_n 94 dX0_detail_93 rfl rfl (ls_s (ls_s ls_0)) ?_
    refine go_VI (M' := mX0_isRipe) 97 dX0_detail_94 rfl w_579 okX0_isRipe ⟨Nat.le_of_ble_eq_true rfl, Nat.le_of_ble_eq_true rfl⟩ (ct_isRipe G gi _ hk _) rfl rfl hk (by decide) rfl (kk := ?_)
    refine go_ifeq_b 104 100 dX0_detail_97 (by decide) rfl (fun c_97 => ?_) (fun c_97 => ?_)
    · refine go_iconst 105 (v := 0) dX0_detail_104 rfl (by decide) ?_
      exact go_ret_i dX0_detail_105 rfl rfl rfl (pI_of (bI_0 (c := gi k 11 ≤ t) c_97) rfl)
    · refine go_iconst 101 (v := 1) dX0_detail_100 rfl (by decide) ?_
      refine go_goto 105 dX0_detail_101 (by decide) ?_
      exact go_ret_i dX0_detail_105 rfl rfl rfl (pI_of (bI_1 (c := gi k 11 ≤ t) c_97) rfl)
  · refine ct_of [some (.ref (G.1 + k)), some (.int (nI 7)), some (.int t)] w_7 (by decide) rfl (Nat.le_of_ble_eq_true rfl) rfl ?_
    refine go_iload_n 1 dX0_detail_0 rfl rfl (ls_s ls_0) ?_
    refine go_tabIn 106 dX0_detail_1 (off := 105) (by decide +kernel) (by decide +kernel) (by decide +kernel) (by decide) ?_
    refine go_aload_n 107 dX0_detail_106 rfl rfl ls_0 ?_
    refine gp_getI 110 dX0_detail_107 rfl f_X0_29 rfl hk ?_
    refine go_if_eq 117 113 dX0_detail_110 (by decide) rfl (fun c_110 => ?_) (fun c_110 => ?_)
    · refine go_iconst 118 (v := 0) dX0_detail_117 rfl (by decide) ?_
      exact go_ret_i dX0_detail_118 rfl rfl rfl (pI_of (bI_0 (c := ¬ gi k 6 = 0) (fun z => z c_110)) rfl)
    · refine go_iconst 114 (v := 1) dX0_detail_113 rfl (by decide) ?_
      refine go_goto 118 dX0_detail_114 (by decide) ?_
      exact go_ret_i dX0_detail_118 rfl rfl rfl (pI_of (bI_1 (c := ¬ gi k 6 = 0) c_110) rfl)
  · refine ct_of [some (.ref (G.1 + k)), some (.int (nI 8)), some (.int t)] w_7 (by decide) rfl (Nat.le_of_ble_eq_true rfl) rfl ?_
    refine go_iload_n 1 dX0_detail_0 rfl rfl (ls_s ls_0) ?_
    refine go_tabIn 119 dX0_detail_1 (off := 118) (by decide +kernel) (by decide +kernel) (by decide +kernel) (by decide) ?_
    refine go_aload_n 120 dX0_detail_119 rfl rfl ls_0 ?_
    refine gp_getI 123 dX0_detail_120 rfl f_X0_26 rfl hk ?_
    exact go_ret_i dX0_detail_123 rfl rfl rfl (pI_of rfl rfl)
  · refine ct_of [some (.ref (G.1 + k)), some (.int (nI 9)), some (.int t)] w_7 (by decide) rfl (Nat.le_of_ble_eq_true rfl) rfl ?_
    refine go_iload_n 1 dX0_detail_0 rfl rfl (ls_s ls_0) ?_
    refine go_tabIn 124 dX0_detail_1 (off := 123) (by decide +kernel) (by decide +kernel) (by decide +kernel) (by decide) ?_
    refine go_aload_n 125 dX0_detail_124 rfl rfl ls_0 ?_
    refine gp_getI 128 dX0_detail_125 rfl f_X0_44 rfl hk ?_
    exact go_ret_i dX0_detail_128 rfl rfl rfl (pI_of rfl rfl)
  · refine ct_of [some (.ref (G.1 + k)), some (.int (nI 10)), some (.int t)] w_7 (by decide) rfl (Nat.le_of_ble_eq_true rfl) rfl ?_
    refine go_iload_n 1 dX0_detail_0 rfl rfl (ls_s ls_0) ?_
    refine go_tabOut 129 dX0_detail_1 (by decide +kernel) (by decide) ?_
    refine go_aload_n 130 dX0_detail_129 rfl rfl ls_0 ?_
    refine gp_getI 133 dX0_detail_130 rfl f_X0_47 rfl hk ?_
    exact go_ret_i dX0_detail_133 rfl rfl rfl (pI_of rfl rfl)
