/-! PLANTS: parts by their numbers, helpers over the cells -/
theorem ixn_1 {x : Int32} {n : Nat} (hn : n < 2 ^ 31) (h : x < 0) : ¬ ∃ r, r < n ∧ x = nI r := by
  rintro ⟨r, hr, rfl⟩
  exact nI_pos (by omega) h
theorem ixn_2 {x y : Int32} {n : Nat} (hn : n < 2 ^ 31) (hy : y = nI n) (h : y ≤ x) : ¬ ∃ r, r < n ∧ x = nI r := by
  rintro ⟨r, hr, rfl⟩
  rw [hy] at h
  exact nI_ge hr hn h
theorem ixn_3 {x : Int32} {n m : Nat} (hm : m < 2 ^ 31) (hnm : n ≤ m) (h : nI m ≤ x) : ¬ ∃ r, r < n ∧ x = nI r := by
  rintro ⟨r, hr, rfl⟩
  exact nI_ge (Nat.lt_of_lt_of_le hr hnm) hm h
theorem ix_y {x y : Int32} {n : Nat} (hn : n < 2 ^ 31) (hy : y = nI n) (h1 : ¬ x < 0) (h2 : ¬ y ≤ x) : ∃ r, r < n ∧ x = nI r := idx_of hn h1 (by rw [← hy]; exact h2)
theorem nI_in_r {a b : Nat} (ha : a < 2 ^ 31) (hb : b < 2 ^ 31) (h : nI a = nI b) : a = b := (nI_eq ha hb).mp h
/-- one of n parts (the f of its number), or null -/
def pAt (G : BcG) (gi : GI) (x : Int32) (n : Nat) (f : Nat → Nat) (c : Nat → Prop) : Option Value → BcH → Prop := fun v h' =>
  h' = hp gi ∧ ((∃ r, r < n ∧ x = nI r ∧ c r ∧ v = some (.ref (G.1 + f r))) ∨ ((¬ ∃ r, r < n ∧ x = nI r ∧ c r) ∧ v = some .null))
theorem pAt_y {G : BcG} {gi : GI} {n r : Nat} {f : Nat → Nat} {c : Nat → Prop} (hn : n < 2 ^ 31) (hr : r < n) (hc : c r) : ∀ v h', pAt G gi (nI r) n f c v h' → pA (G.1 + f r) (hp gi) v h' := by
  rintro v h' ⟨rfl, ⟨q, hq, e, -, rfl⟩ | ⟨hno, -⟩⟩
  · have := nI_in_r (by omega) (by omega) e
    subst this
    exact ⟨rfl, rfl⟩
  · exact absurd ⟨r, hr, rfl, hc⟩ hno
theorem pAt_n {G : BcG} {gi : GI} {x : Int32} {n : Nat} {f : Nat → Nat} {c : Nat → Prop} (hno : ¬ ∃ r, r < n ∧ x = nI r ∧ c r) : ∀ v h', pAt G gi x n f c v h' → pZ (hp gi) v h' := by
  rintro v h' ⟨rfl, ⟨q, hq, e, hc, -⟩ | ⟨-, rfl⟩⟩
  · exact absurd ⟨q, hq, e, hc⟩ hno
  · exact ⟨rfl, rfl⟩
theorem nt {x : Int32} {n : Nat} (h : ¬ ∃ r, r < n ∧ x = nI r) : ¬ ∃ r, r < n ∧ x = nI r ∧ True := fun ⟨r, a, b, _⟩ => h ⟨r, a, b⟩
set_option maxHeartbeats 4000000 in
set_option maxRecDepth 100000 in
theorem ct_recipeAt (G : BcG) (gi : GI) {P : Nat} (hP : isP P) (x : Int32) (n : Nat) (hc : gi P 1 = nI n) (hn : n ≤ 4) : Ct G mX3_recipeAt [.ref (G.1 + P), .int x] (hp gi) (pAt G gi x n (fun r => P + 8 + 6 * r) (fun _ => True)) := by
  refine ct_of [some (.ref (G.1 + P)), some (.int x), none] w_2 (by decide) rfl (Nat.le_of_ble_eq_true rfl) rfl ?_
  refine go_iload_n 1 dX3_recipeAt_0 rfl rfl (ls_s ls_0) ?_
  refine go_if_lt 25 4 dX3_recipeAt_1 (by decide) rfl (fun c_1 => ?_) (fun c_1 => ?_)
  · refine go_iconst 26 (v := 0) dX3_recipeAt_25 rfl (by decide) ?_
    refine go_istore_n 27 dX3_recipeAt_26 rfl rfl (by decide) (st_s (st_s st_0)) ?_
    refine go_iload_n 28 dX3_recipeAt_27 rfl rfl (ls_s (ls_s ls_0)) ?_
    refine go_if_eq 40 31 dX3_recipeAt_28 (by decide) rfl (fun c_28 => ?_) (fun c_28 => absurd c_28 (by decide))
    refine go_null 41 dX3_recipeAt_40 rfl ?_
    exact go_ret_n dX3_recipeAt_41 rfl rfl rfl ⟨rfl, Or.inr ⟨nt (ixn_1 (by omega) c_1), rfl⟩⟩
  · refine go_iload_n 5 dX3_recipeAt_4 rfl rfl (ls_s ls_0) ?_
    refine go_aload_n 6 dX3_recipeAt_5 rfl rfl ls_0 ?_
    refine gp_getI 9 dX3_recipeAt_6 rfl f_X3_61 rfl (tP hP) ?_
    refine go_icmp_ge 25 12 dX3_recipeAt_9 (by decide) rfl (fun c_9 => ?_) (fun c_9 => ?_)
    · refine go_iconst 26 (v := 0) dX3_recipeAt_25 rfl (by decide) ?_
      refine go_istore_n 27 dX3_recipeAt_26 rfl rfl (by decide) (st_s (st_s st_0)) ?_
      refine go_iload_n 28 dX3_recipeAt_27 rfl rfl (ls_s (ls_s ls_0)) ?_
      refine go_if_eq 40 31 dX3_recipeAt_28 (by decide) rfl (fun c_28 => ?_) (fun c_28 => absurd c_28 (by decide))
      refine go_null 41 dX3_recipeAt_40 rfl ?_
      exact go_ret_n dX3_recipeAt_41 rfl rfl rfl ⟨rfl, Or.inr ⟨nt (ixn_2 (by omega) hc c_9), rfl⟩⟩
    · refine go_iload_n 13 dX3_recipeAt_12 rfl rfl (ls_s ls_0) ?_
      refine go_aload_n 14 dX3_recipeAt_13 rfl rfl ls_0 ?_
      refine gp_getR 17 dX3_recipeAt_14 rfl f_X3_11 rfl (tP hP) (rR hP) ?_
      refine gp_alen 18 (v := nI 4) dX3_recipeAt_17 rfl (aR hP) (by decide) (by decide) rfl ?_
      refine go_icmp_ge 25 21 dX3_recipeAt_18 (by decide) rfl (fun c_18 => ?_) (fun c_18 => ?_)
      · refine go_iconst 26 (v := 0) dX3_recipeAt_25 rfl (by decide) ?_
        refine go_istore_n 27 dX3_recipeAt_26 rfl rfl (by decide) (st_s (st_s st_0)) ?_
        refine go_iload_n 28 dX3_recipeAt_27 rfl rfl (ls_s (ls_s ls_0)) ?_
        refine go_if_eq 40 31 dX3_recipeAt_28 (by decide) rfl (fun c_28 => ?_) (fun c_28 => absurd c_28 (by decide))
        refine go_null 41 dX3_recipeAt_40 rfl ?_
        exact go_ret_n dX3_recipeAt_41 rfl rfl rfl ⟨rfl, Or.inr ⟨nt (ixn_3 (m := 4) (by decide) hn c_18), rfl⟩⟩
      · refine go_iconst 22 (v := 1) dX3_recipeAt_21 rfl (by decide) ?_
        refine go_goto 26 dX3_recipeAt_22 (by decide) ?_
        refine go_istore_n 27 dX3_recipeAt_26 rfl rfl (by decide) (st_s (st_s st_0)) ?_
        refine go_iload_n 28 dX3_recipeAt_27 rfl rfl (ls_s (ls_s ls_0)) ?_
        refine go_if_eq 40 31 dX3_recipeAt_28 (by decide) rfl (fun c_28 => absurd c_28 (by decide)) (fun c_28 => ?_)
        obtain ⟨r, hr, hx⟩ := ix_y (by omega) hc c_1 c_9
        have hr4 : r < 4 := Nat.lt_of_lt_of_le hr hn
        refine go_aload_n 32 dX3_recipeAt_31 rfl rfl ls_0 ?_
        refine gp_getR 35 dX3_recipeAt_32 rfl f_X3_11 rfl (tP hP) (rR hP) ?_
        refine go_iload_n 36 dX3_recipeAt_35 rfl rfl (ls_s ls_0) ?_
        refine gp_aald 37 (i := r) dX3_recipeAt_36 rfl (aR hP) (by decide) rfl hx hr4 (by decide) (rRi hP hr4) ?_
        refine go_goto 41 dX3_recipeAt_37 (by decide) ?_
        exact go_ret_a dX3_recipeAt_41 rfl rfl rfl ⟨rfl, Or.inl ⟨r, hr, hx, trivial, rfl⟩⟩
set_option maxHeartbeats 4000000 in
set_option maxRecDepth 100000 in
theorem ct_vesselAt (G : BcG) (gi : GI) {P : Nat} (hP : isP P) (x : Int32) (n : Nat) (hc : gi P 3 = nI n) (hn : n ≤ 6) : Ct G mX3_vesselAt [.ref (G.1 + P), .int x] (hp gi) (pAt G gi x n (fun r => P + 32 + r) (fun _ => True)) := by
  refine ct_of [some (.ref (G.1 + P)), some (.int x), none] w_2 (by decide) rfl (Nat.le_of_ble_eq_true rfl) rfl ?_
  refine go_iload_n 1 dX3_vesselAt_0 rfl rfl (ls_s ls_0) ?_
  refine go_if_lt 25 4 dX3_vesselAt_1 (by decide) rfl (fun c_1 => ?_) (fun c_1 => ?_)
  · refine go_iconst 26 (v := 0) dX3_vesselAt_25 rfl (by decide) ?_
    refine go_istore_n 27 dX3_vesselAt_26 rfl rfl (by decide) (st_s (st_s st_0)) ?_
    refine go_iload_n 28 dX3_vesselAt_27 rfl rfl (ls_s (ls_s ls_0)) ?_
    refine go_if_eq 40 31 dX3_vesselAt_28 (by decide) rfl (fun c_28 => ?_) (fun c_28 => absurd c_28 (by decide))
    refine go_null 41 dX3_vesselAt_40 rfl ?_
    exact go_ret_n dX3_vesselAt_41 rfl rfl rfl ⟨rfl, Or.inr ⟨nt (ixn_1 (by omega) c_1), rfl⟩⟩
  · refine go_iload_n 5 dX3_vesselAt_4 rfl rfl (ls_s ls_0) ?_
    refine go_aload_n 6 dX3_vesselAt_5 rfl rfl ls_0 ?_
    refine gp_getI 9 dX3_vesselAt_6 rfl f_X3_65 rfl (tP hP) ?_
    refine go_icmp_ge 25 12 dX3_vesselAt_9 (by decide) rfl (fun c_9 => ?_) (fun c_9 => ?_)
    · refine go_iconst 26 (v := 0) dX3_vesselAt_25 rfl (by decide) ?_
      refine go_istore_n 27 dX3_vesselAt_26 rfl rfl (by decide) (st_s (st_s st_0)) ?_
      refine go_iload_n 28 dX3_vesselAt_27 rfl rfl (ls_s (ls_s ls_0)) ?_
      refine go_if_eq 40 31 dX3_vesselAt_28 (by decide) rfl (fun c_28 => ?_) (fun c_28 => absurd c_28 (by decide))
      refine go_null 41 dX3_vesselAt_40 rfl ?_
      exact go_ret_n dX3_vesselAt_41 rfl rfl rfl ⟨rfl, Or.inr ⟨nt (ixn_2 (by omega) hc c_9), rfl⟩⟩
    · refine go_iload_n 13 dX3_vesselAt_12 rfl rfl (ls_s ls_0) ?_
      refine go_aload_n 14 dX3_vesselAt_13 rfl rfl ls_0 ?_
      refine gp_getR 17 dX3_vesselAt_14 rfl f_X3_19 rfl (tP hP) (rV hP) ?_
      refine gp_alen 18 (v := nI 6) dX3_vesselAt_17 rfl (aV hP) (by decide) (by decide) rfl ?_
      refine go_icmp_ge 25 21 dX3_vesselAt_18 (by decide) rfl (fun c_18 => ?_) (fun c_18 => ?_)
      · refine go_iconst 26 (v := 0) dX3_vesselAt_25 rfl (by decide) ?_
        refine go_istore_n 27 dX3_vesselAt_26 rfl rfl (by decide) (st_s (st_s st_0)) ?_
        refine go_iload_n 28 dX3_vesselAt_27 rfl rfl (ls_s (ls_s ls_0)) ?_
        refine go_if_eq 40 31 dX3_vesselAt_28 (by decide) rfl (fun c_28 => ?_) (fun c_28 => absurd c_28 (by decide))
        refine go_null 41 dX3_vesselAt_40 rfl ?_
        exact go_ret_n dX3_vesselAt_41 rfl rfl rfl ⟨rfl, Or.inr ⟨nt (ixn_3 (m := 6) (by decide) hn c_18), rfl⟩⟩
      · refine go_iconst 22 (v := 1) dX3_vesselAt_21 rfl (by decide) ?_
        refine go_goto 26 dX3_vesselAt_22 (by decide) ?_
        refine go_istore_n 27 dX3_vesselAt_26 rfl rfl (by decide) (st_s (st_s st_0)) ?_
        refine go_iload_n 28 dX3_vesselAt_27 rfl rfl (ls_s (ls_s ls_0)) ?_
        refine go_if_eq 40 31 dX3_vesselAt_28 (by decide) rfl (fun c_28 => absurd c_28 (by decide)) (fun c_28 => ?_)
        obtain ⟨r, hr, hx⟩ := ix_y (by omega) hc c_1 c_9
        have hr4 : r < 6 := Nat.lt_of_lt_of_le hr hn
        refine go_aload_n 32 dX3_vesselAt_31 rfl rfl ls_0 ?_
        refine gp_getR 35 dX3_vesselAt_32 rfl f_X3_19 rfl (tP hP) (rV hP) ?_
        refine go_iload_n 36 dX3_vesselAt_35 rfl rfl (ls_s ls_0) ?_
        refine gp_aald 37 (i := r) dX3_vesselAt_36 rfl (aV hP) (by decide) rfl hx hr4 (by decide) (rVi hP hr4) ?_
        refine go_goto 41 dX3_vesselAt_37 (by decide) ?_
        exact go_ret_a dX3_vesselAt_41 rfl rfl rfl ⟨rfl, Or.inl ⟨r, hr, hx, trivial, rfl⟩⟩
set_option maxHeartbeats 4000000 in
set_option maxRecDepth 100000 in
theorem ct_lineAt (G : BcG) (gi : GI) {P : Nat} (hP : isP P) (x : Int32) (n : Nat) (hc : gi P 5 = nI n) (hn : n ≤ 3) : Ct G mX3_lineAt [.ref (G.1 + P), .int x] (hp gi) (pAt G gi x n (fun r => P + 38 + r) (fun _ => True)) := by
  refine ct_of [some (.ref (G.1 + P)), some (.int x), none] w_2 (by decide) rfl (Nat.le_of_ble_eq_true rfl) rfl ?_
  refine go_iload_n 1 dX3_lineAt_0 rfl rfl (ls_s ls_0) ?_
  refine go_if_lt 25 4 dX3_lineAt_1 (by decide) rfl (fun c_1 => ?_) (fun c_1 => ?_)
  · refine go_iconst 26 (v := 0) dX3_lineAt_25 rfl (by decide) ?_
    refine go_istore_n 27 dX3_lineAt_26 rfl rfl (by decide) (st_s (st_s st_0)) ?_
    refine go_iload_n 28 dX3_lineAt_27 rfl rfl (ls_s (ls_s ls_0)) ?_
    refine go_if_eq 40 31 dX3_lineAt_28 (by decide) rfl (fun c_28 => ?_) (fun c_28 => absurd c_28 (by decide))
    refine go_null 41 dX3_lineAt_40 rfl ?_
    exact go_ret_n dX3_lineAt_41 rfl rfl rfl ⟨rfl, Or.inr ⟨nt (ixn_1 (by omega) c_1), rfl⟩⟩
  · refine go_iload_n 5 dX3_lineAt_4 rfl rfl (ls_s ls_0) ?_
    refine go_aload_n 6 dX3_lineAt_5 rfl rfl ls_0 ?_
    refine gp_getI 9 dX3_lineAt_6 rfl f_X3_68 rfl (tP hP) ?_
    refine go_icmp_ge 25 12 dX3_lineAt_9 (by decide) rfl (fun c_9 => ?_) (fun c_9 => ?_)
    · refine go_iconst 26 (v := 0) dX3_lineAt_25 rfl (by decide) ?_
      refine go_istore_n 27 dX3_lineAt_26 rfl rfl (by decide) (st_s (st_s st_0)) ?_
      refine go_iload_n 28 dX3_lineAt_27 rfl rfl (ls_s (ls_s ls_0)) ?_
      refine go_if_eq 40 31 dX3_lineAt_28 (by decide) rfl (fun c_28 => ?_) (fun c_28 => absurd c_28 (by decide))
      refine go_null 41 dX3_lineAt_40 rfl ?_
      exact go_ret_n dX3_lineAt_41 rfl rfl rfl ⟨rfl, Or.inr ⟨nt (ixn_2 (by omega) hc c_9), rfl⟩⟩
    · refine go_iload_n 13 dX3_lineAt_12 rfl rfl (ls_s ls_0) ?_
      refine go_aload_n 14 dX3_lineAt_13 rfl rfl ls_0 ?_
      refine gp_getR 17 dX3_lineAt_14 rfl f_X3_25 rfl (tP hP) (rL hP) ?_
      refine gp_alen 18 (v := nI 3) dX3_lineAt_17 rfl (aL hP) (by decide) (by decide) rfl ?_
      refine go_icmp_ge 25 21 dX3_lineAt_18 (by decide) rfl (fun c_18 => ?_) (fun c_18 => ?_)
      · refine go_iconst 26 (v := 0) dX3_lineAt_25 rfl (by decide) ?_
        refine go_istore_n 27 dX3_lineAt_26 rfl rfl (by decide) (st_s (st_s st_0)) ?_
        refine go_iload_n 28 dX3_lineAt_27 rfl rfl (ls_s (ls_s ls_0)) ?_
        refine go_if_eq 40 31 dX3_lineAt_28 (by decide) rfl (fun c_28 => ?_) (fun c_28 => absurd c_28 (by decide))
        refine go_null 41 dX3_lineAt_40 rfl ?_
        exact go_ret_n dX3_lineAt_41 rfl rfl rfl ⟨rfl, Or.inr ⟨nt (ixn_3 (m := 3) (by decide) hn c_18), rfl⟩⟩
      · refine go_iconst 22 (v := 1) dX3_lineAt_21 rfl (by decide) ?_
        refine go_goto 26 dX3_lineAt_22 (by decide) ?_
        refine go_istore_n 27 dX3_lineAt_26 rfl rfl (by decide) (st_s (st_s st_0)) ?_
        refine go_iload_n 28 dX3_lineAt_27 rfl rfl (ls_s (ls_s ls_0)) ?_
        refine go_if_eq 40 31 dX3_lineAt_28 (by decide) rfl (fun c_28 => absurd c_28 (by decide)) (fun c_28 => ?_)
        obtain ⟨r, hr, hx⟩ := ix_y (by omega) hc c_1 c_9
        have hr4 : r < 3 := Nat.lt_of_lt_of_le hr hn
        refine go_aload_n 32 dX3_lineAt_31 rfl rfl ls_0 ?_
        refine gp_getR 35 dX3_lineAt_32 rfl f_X3_25 rfl (tP hP) (rL hP) ?_
        refine go_iload_n 36 dX3_lineAt_35 rfl rfl (ls_s ls_0) ?_
        refine gp_aald 37 (i := r) dX3_lineAt_36 rfl (aL hP) (by decide) rfl hx hr4 (by decide) (rLi hP hr4) ?_
        refine go_goto 41 dX3_lineAt_37 (by decide) ?_
        exact go_ret_a dX3_lineAt_41 rfl rfl rfl ⟨rfl, Or.inl ⟨r, hr, hx, trivial, rfl⟩⟩
set_option maxHeartbeats 4000000 in
set_option maxRecDepth 100000 in
theorem ct_stageAt (G : BcG) (gi : GI) {P : Nat} (hP : isP P) {i : Nat} (hi : i < 4) (x : Int32) (n : Nat) (hc : gi (P + 8 + 6 * i) 1 = nI n) (hn : n ≤ 4) : Ct G mX4_stageAt [.ref (G.1 + (P + 8 + 6 * i)), .int x] (hp gi) (pAt G gi x n (fun r => P + 10 + 6 * i + r) (fun _ => True)) := by
  refine ct_of [some (.ref (G.1 + (P + 8 + 6 * i))), some (.int x), none] w_3 (by decide) rfl (Nat.le_of_ble_eq_true rfl) rfl ?_
  refine go_iload_n 1 dX4_stageAt_0 rfl rfl (ls_s ls_0) ?_
  refine go_if_lt 25 4 dX4_stageAt_1 (by decide) rfl (fun c_1 => ?_) (fun c_1 => ?_)
  · refine go_iconst 26 (v := 0) dX4_stageAt_25 rfl (by decide) ?_
    refine go_istore_n 27 dX4_stageAt_26 rfl rfl (by decide) (st_s (st_s st_0)) ?_
    refine go_iload_n 28 dX4_stageAt_27 rfl rfl (ls_s (ls_s ls_0)) ?_
    refine go_if_eq 40 31 dX4_stageAt_28 (by decide) rfl (fun c_28 => ?_) (fun c_28 => absurd c_28 (by decide))
    refine go_null 41 dX4_stageAt_40 rfl ?_
    exact go_ret_n dX4_stageAt_41 rfl rfl rfl ⟨rfl, Or.inr ⟨nt (ixn_1 (by omega) c_1), rfl⟩⟩
  · refine go_iload_n 5 dX4_stageAt_4 rfl rfl (ls_s ls_0) ?_
    refine go_aload_n 6 dX4_stageAt_5 rfl rfl ls_0 ?_
    refine gp_getI 9 dX4_stageAt_6 rfl f_X4_22 rfl (tR hP hi) ?_
    refine go_icmp_ge 25 12 dX4_stageAt_9 (by decide) rfl (fun c_9 => ?_) (fun c_9 => ?_)
    · refine go_iconst 26 (v := 0) dX4_stageAt_25 rfl (by decide) ?_
      refine go_istore_n 27 dX4_stageAt_26 rfl rfl (by decide) (st_s (st_s st_0)) ?_
      refine go_iload_n 28 dX4_stageAt_27 rfl rfl (ls_s (ls_s ls_0)) ?_
      refine go_if_eq 40 31 dX4_stageAt_28 (by decide) rfl (fun c_28 => ?_) (fun c_28 => absurd c_28 (by decide))
      refine go_null 41 dX4_stageAt_40 rfl ?_
      exact go_ret_n dX4_stageAt_41 rfl rfl rfl ⟨rfl, Or.inr ⟨nt (ixn_2 (by omega) hc c_9), rfl⟩⟩
    · refine go_iload_n 13 dX4_stageAt_12 rfl rfl (ls_s ls_0) ?_
      refine go_aload_n 14 dX4_stageAt_13 rfl rfl ls_0 ?_
      refine gp_getR 17 dX4_stageAt_14 rfl f_X4_11 rfl (tR hP hi) (rK hP hi) ?_
      refine gp_alen 18 (v := nI 4) dX4_stageAt_17 rfl (aK hP hi) (by decide) (by decide) rfl ?_
      refine go_icmp_ge 25 21 dX4_stageAt_18 (by decide) rfl (fun c_18 => ?_) (fun c_18 => ?_)
      · refine go_iconst 26 (v := 0) dX4_stageAt_25 rfl (by decide) ?_
        refine go_istore_n 27 dX4_stageAt_26 rfl rfl (by decide) (st_s (st_s st_0)) ?_
        refine go_iload_n 28 dX4_stageAt_27 rfl rfl (ls_s (ls_s ls_0)) ?_
        refine go_if_eq 40 31 dX4_stageAt_28 (by decide) rfl (fun c_28 => ?_) (fun c_28 => absurd c_28 (by decide))
        refine go_null 41 dX4_stageAt_40 rfl ?_
        exact go_ret_n dX4_stageAt_41 rfl rfl rfl ⟨rfl, Or.inr ⟨nt (ixn_3 (m := 4) (by decide) hn c_18), rfl⟩⟩
      · refine go_iconst 22 (v := 1) dX4_stageAt_21 rfl (by decide) ?_
        refine go_goto 26 dX4_stageAt_22 (by decide) ?_
        refine go_istore_n 27 dX4_stageAt_26 rfl rfl (by decide) (st_s (st_s st_0)) ?_
        refine go_iload_n 28 dX4_stageAt_27 rfl rfl (ls_s (ls_s ls_0)) ?_
        refine go_if_eq 40 31 dX4_stageAt_28 (by decide) rfl (fun c_28 => absurd c_28 (by decide)) (fun c_28 => ?_)
        obtain ⟨r, hr, hx⟩ := ix_y (by omega) hc c_1 c_9
        have hr4 : r < 4 := Nat.lt_of_lt_of_le hr hn
        refine go_aload_n 32 dX4_stageAt_31 rfl rfl ls_0 ?_
        refine gp_getR 35 dX4_stageAt_32 rfl f_X4_11 rfl (tR hP hi) (rK hP hi) ?_
        refine go_iload_n 36 dX4_stageAt_35 rfl rfl (ls_s ls_0) ?_
        refine gp_aald 37 (i := r) dX4_stageAt_36 rfl (aK hP hi) (by decide) rfl hx hr4 (by decide) (rKi hP hi hr4) ?_
        refine go_goto 41 dX4_stageAt_37 (by decide) ?_
        exact go_ret_a dX4_stageAt_41 rfl rfl rfl ⟨rfl, Or.inl ⟨r, hr, hx, trivial, rfl⟩⟩
set_option maxHeartbeats 4000000 in
set_option maxRecDepth 100000 in
theorem ct_batchAt (G : BcG) (gi : GI) {P : Nat} (hP : isP P) (x : Int32) : Ct G mX3_batchAt [.ref (G.1 + P), .int x] (hp gi) (pAt G gi x 6 (fun r => P + 41 + r) (fun r => ¬ gi (P + 41 + r) 0 = 0)) := by
  refine ct_of [some (.ref (G.1 + P)), some (.int x), none] w_2 (by decide) rfl (Nat.le_of_ble_eq_true rfl) rfl ?_
  refine go_iload_n 1 dX3_batchAt_0 rfl rfl (ls_s ls_0) ?_
  refine go_if_lt 29 4 dX3_batchAt_1 (by decide) rfl (fun c_1 => ?_) (fun c_1 => ?_)
  · refine go_iconst 30 (v := 0) dX3_batchAt_29 rfl (by decide) ?_
    refine go_istore_n 31 dX3_batchAt_30 rfl rfl (by decide) (st_s (st_s st_0)) ?_
    refine go_iload_n 32 dX3_batchAt_31 rfl rfl (ls_s (ls_s ls_0)) ?_
    refine go_if_eq 44 35 dX3_batchAt_32 (by decide) rfl (fun c_32 => ?_) (fun c_32 => absurd c_32 (by decide))
    refine go_null 45 dX3_batchAt_44 rfl ?_
    exact go_ret_n dX3_batchAt_45 rfl rfl rfl ⟨rfl, Or.inr ⟨(fun z => ixn_1 (n := 6) (by decide) c_1 ⟨z.choose, z.choose_spec.1, z.choose_spec.2.1⟩), rfl⟩⟩
  · refine go_iload_n 5 dX3_batchAt_4 rfl rfl (ls_s ls_0) ?_
    refine go_aload_n 6 dX3_batchAt_5 rfl rfl ls_0 ?_
    refine gp_getR 9 dX3_batchAt_6 rfl f_X3_31 rfl (tP hP) (rB hP) ?_
    refine gp_alen 10 (v := nI 6) dX3_batchAt_9 rfl (aB hP) (by decide) (by decide) rfl ?_
    refine go_icmp_ge 29 13 dX3_batchAt_10 (by decide) rfl (fun c_10 => ?_) (fun c_10 => ?_)
    · refine go_iconst 30 (v := 0) dX3_batchAt_29 rfl (by decide) ?_
      refine go_istore_n 31 dX3_batchAt_30 rfl rfl (by decide) (st_s (st_s st_0)) ?_
      refine go_iload_n 32 dX3_batchAt_31 rfl rfl (ls_s (ls_s ls_0)) ?_
      refine go_if_eq 44 35 dX3_batchAt_32 (by decide) rfl (fun c_32 => ?_) (fun c_32 => absurd c_32 (by decide))
      refine go_null 45 dX3_batchAt_44 rfl ?_
      exact go_ret_n dX3_batchAt_45 rfl rfl rfl ⟨rfl, Or.inr ⟨(fun z => ixn_3 (n := 6) (m := 6) (by decide) (by decide) c_10 ⟨z.choose, z.choose_spec.1, z.choose_spec.2.1⟩), rfl⟩⟩
    · obtain ⟨r, hr, hx⟩ := idx_of (len := 6) (by decide) c_1 c_10
      refine go_aload_n 14 dX3_batchAt_13 rfl rfl ls_0 ?_
      refine gp_getR 17 dX3_batchAt_14 rfl f_X3_31 rfl (tP hP) (rB hP) ?_
      refine go_iload_n 18 dX3_batchAt_17 rfl rfl (ls_s ls_0) ?_
      refine gp_aald 19 (i := r) dX3_batchAt_18 rfl (aB hP) (by decide) rfl hx hr (by decide) (rBi hP hr) ?_
      refine gp_getI 22 dX3_batchAt_19 rfl f_X3_102 rfl (tB hP hr) ?_
      refine go_if_eq 29 25 dX3_batchAt_22 (by decide) rfl (fun c_22 => ?_) (fun c_22 => ?_)
      · refine go_iconst 30 (v := 0) dX3_batchAt_29 rfl (by decide) ?_
        refine go_istore_n 31 dX3_batchAt_30 rfl rfl (by decide) (st_s (st_s st_0)) ?_
        refine go_iload_n 32 dX3_batchAt_31 rfl rfl (ls_s (ls_s ls_0)) ?_
        refine go_if_eq 44 35 dX3_batchAt_32 (by decide) rfl (fun c_32 => ?_) (fun c_32 => absurd c_32 (by decide))
        refine go_null 45 dX3_batchAt_44 rfl ?_
        exact go_ret_n dX3_batchAt_45 rfl rfl rfl ⟨rfl, Or.inr ⟨(fun ⟨q, hq, e, hc⟩ => by rw [hx] at e; have := nI_in_r (by omega) (by omega) e; subst this; exact hc c_22), rfl⟩⟩
      · refine go_iconst 26 (v := 1) dX3_batchAt_25 rfl (by decide) ?_
        refine go_goto 30 dX3_batchAt_26 (by decide) ?_
        refine go_istore_n 31 dX3_batchAt_30 rfl rfl (by decide) (st_s (st_s st_0)) ?_
        refine go_iload_n 32 dX3_batchAt_31 rfl rfl (ls_s (ls_s ls_0)) ?_
        refine go_if_eq 44 35 dX3_batchAt_32 (by decide) rfl (fun c_32 => absurd c_32 (by decide)) (fun c_32 => ?_)
        refine go_aload_n 36 dX3_batchAt_35 rfl rfl ls_0 ?_
        refine gp_getR 39 dX3_batchAt_36 rfl f_X3_31 rfl (tP hP) (rB hP) ?_
        refine go_iload_n 40 dX3_batchAt_39 rfl rfl (ls_s ls_0) ?_
        refine gp_aald 41 (i := r) dX3_batchAt_40 rfl (aB hP) (by decide) rfl hx hr (by decide) (rBi hP hr) ?_
        refine go_goto 45 dX3_batchAt_41 (by decide) ?_
        exact go_ret_a dX3_batchAt_45 rfl rfl rfl ⟨rfl, Or.inl ⟨r, hr, hx, c_22, rfl⟩⟩
def cmF (gi : GI) (P v : Nat) (p : Int32) : Int32 := if gi (P + 32 + v) 3 = -1 then 0 else entF gi (P + 5) 16 (gi (P + 32 + v) 3 * 4 + p)
def ocF (gi : GI) (P v : Nat) (b p : Int32) : GI := wI (wI (wI gi (P + 32 + v) 4 (gi (P + 32 + v) 4 + cmF gi P v p)) (P + 32 + v) 2 b) (P + 32 + v) 3 p
set_option maxHeartbeats 4000000 in
set_option maxRecDepth 100000 in
theorem ct_cleaningMinutes (G : BcG) (gi : GI) {P : Nat} (hP : isP P) {v : Nat} (hv : v < 6) (p : Int32) : Ct G mX3_cleaningMinutes [.ref (G.1 + P), .ref (G.1 + (P + 32 + v)), .int p] (hp gi) (pI (cmF gi P v p) (hp gi)) := by
  refine ct_of [some (.ref (G.1 + P)), some (.ref (G.1 + (P + 32 + v))), some (.int p)] w_2 (by decide) rfl (Nat.le_of_ble_eq_true rfl) rfl ?_
  refine go_aload_n 1 dX3_cleaningMinutes_0 rfl rfl (ls_s ls_0) ?_
  refine gp_getI 4 dX3_cleaningMinutes_1 rfl f_X3_202 rfl (tV hP hv) ?_
  refine go_iconst 5 (v := (-1)) dX3_cleaningMinutes_4 rfl (by decide) ?_
  refine go_icmp_ne 10 8 dX3_cleaningMinutes_5 (by decide) rfl (fun c_5 => ?_) (fun c_5 => ?_)
  · refine go_aload_n 11 dX3_cleaningMinutes_10 rfl rfl ls_0 ?_
    refine gp_getR 14 dX3_cleaningMinutes_11 rfl f_X3_35 rfl (tP hP) (rT hP) ?_
    refine go_aload_n 15 dX3_cleaningMinutes_14 rfl rfl (ls_s ls_0) ?_
    refine gp_getI 18 dX3_cleaningMinutes_15 rfl f_X3_202 rfl (tV hP hv) ?_
    refine go_iconst 19 (v := 4) dX3_cleaningMinutes_18 rfl (by decide) ?_
    refine go_imul 20 dX3_cleaningMinutes_19 rfl ?_
    refine go_iload_n 21 dX3_cleaningMinutes_20 rfl rfl (ls_s (ls_s ls_0)) ?_
    refine go_iadd 22 dX3_cleaningMinutes_21 rfl ?_
    refine go_TI (M' := mX8_entryAt) 25 dX3_cleaningMinutes_22 rfl x_X3_168 okX8_entryAt ⟨Nat.le_of_ble_eq_true rfl, Nat.le_of_ble_eq_true rfl⟩ (ct_entryAt G gi _ 16 _ (aT hP) (by decide)) rfl rfl (kk := ?_)
    exact go_ret_i dX3_cleaningMinutes_25 rfl rfl rfl (pI_of (by rw [cmF, if_neg c_5]) rfl)
  · refine go_iconst 9 (v := 0) dX3_cleaningMinutes_8 rfl (by decide) ?_
    exact go_ret_i dX3_cleaningMinutes_9 rfl rfl rfl (pI_of (by rw [cmF, if_pos c_5]) rfl)
set_option maxHeartbeats 4000000 in
set_option maxRecDepth 100000 in
theorem ct_occupy (G : BcG) (gi : GI) {P : Nat} (hP : isP P) {v : Nat} (hv : v < 6) (b p : Int32) : Ct G mX3_occupy [.ref (G.1 + P), .ref (G.1 + (P + 32 + v)), .int b, .int p] (hp gi) (pI (cmF gi P v p) (hp (ocF gi P v b p))) := by
  refine ct_of [some (.ref (G.1 + P)), some (.ref (G.1 + (P + 32 + v))), some (.int b), some (.int p), none] w_2 (by decide) rfl (Nat.le_of_ble_eq_true rfl) rfl ?_
  refine go_aload_n 1 dX3_occupy_0 rfl rfl ls_0 ?_
  refine go_aload_n 2 dX3_occupy_1 rfl rfl (ls_s ls_0) ?_
  refine go_iload_n 3 dX3_occupy_2 rfl rfl (ls_s (ls_s (ls_s ls_0))) ?_
  refine go_VI (M' := mX3_cleaningMinutes) 6 dX3_occupy_3 rfl w_463 okX3_cleaningMinutes ⟨Nat.le_of_ble_eq_true rfl, Nat.le_of_ble_eq_true rfl⟩ (ct_cleaningMinutes G gi hP hv _) rfl rfl (tP hP) (by decide) rfl (kk := ?_)
  refine go_istore 8 dX3_occupy_6 rfl (by decide) (st_s (st_s (st_s (st_s st_0)))) ?_
  refine go_aload_n 9 dX3_occupy_8 rfl rfl (ls_s ls_0) ?_
  refine go_dup 10 dX3_occupy_9 rfl rfl ?_
  refine gp_getI 13 dX3_occupy_10 rfl f_X3_196 rfl (tV hP hv) ?_
  refine go_iload 15 dX3_occupy_13 rfl (ls_s (ls_s (ls_s (ls_s ls_0)))) ?_
  refine go_iadd 16 dX3_occupy_15 rfl ?_
  refine gp_putI 19 dX3_occupy_16 rfl f_X3_196 rfl (tV hP hv) rfl rfl ?_
  refine go_aload_n 20 dX3_occupy_19 rfl rfl (ls_s ls_0) ?_
  refine go_iload_n 21 dX3_occupy_20 rfl rfl (ls_s (ls_s ls_0)) ?_
  refine gp_putI 24 dX3_occupy_21 rfl f_X3_199 rfl (tV hP hv) rfl rfl ?_
  refine go_aload_n 25 dX3_occupy_24 rfl rfl (ls_s ls_0) ?_
  refine go_iload_n 26 dX3_occupy_25 rfl rfl (ls_s (ls_s (ls_s ls_0))) ?_
  refine gp_putI 29 dX3_occupy_26 rfl f_X3_202 rfl (tV hP hv) rfl rfl ?_
  refine go_iload 31 dX3_occupy_29 rfl (ls_s (ls_s (ls_s (ls_s ls_0)))) ?_
  exact go_ret_i dX3_occupy_31 rfl rfl rfl (pI_of rfl rfl)
set_option maxHeartbeats 4000000 in
set_option maxRecDepth 100000 in
theorem ct_transferLoss (G : BcG) (gi : GI) {P : Nat} (hP : isP P) (m : Int32) : Ct G mX3_transferLoss [.ref (G.1 + P), .int m] (hp gi) (pI (m * gi (P + 6) 0 / 1000) (hp gi)) := by
  refine ct_of [some (.ref (G.1 + P)), some (.int m)] w_2 (by decide) rfl (Nat.le_of_ble_eq_true rfl) rfl ?_
  refine go_iload_n 1 dX3_transferLoss_0 rfl rfl (ls_s ls_0) ?_
  refine go_aload_n 2 dX3_transferLoss_1 rfl rfl ls_0 ?_
  refine gp_getR 5 dX3_transferLoss_2 rfl f_X3_39 rfl (tP hP) (rS hP) ?_
  refine go_iconst 6 (v := 0) dX3_transferLoss_5 rfl (by decide) ?_
  refine go_TI (M' := mX8_entryAt) 9 dX3_transferLoss_6 rfl x_X3_168 okX8_entryAt ⟨Nat.le_of_ble_eq_true rfl, Nat.le_of_ble_eq_true rfl⟩ (ct_entryAt G gi _ 2 _ (aS hP) (by decide)) rfl rfl (kk := ?_)
  refine go_imul 10 dX3_transferLoss_9 rfl ?_
  refine go_sipush 13 (v := 1000) dX3_transferLoss_10 rfl (by decide) ?_
  refine go_idiv 14 dX3_transferLoss_13 rfl (by decide) ?_
  exact go_ret_i dX3_transferLoss_14 rfl rfl rfl (pI_of (by rw [show (0 : Int32) = nI 0 from rfl, entF_n (by decide) (by decide)]) rfl)
set_option maxHeartbeats 4000000 in
set_option maxRecDepth 100000 in
theorem ct_leaveVessel (G : BcG) (gi : GI) {P : Nat} (hP : isP P) {b v n : Nat} (hb : b < 6) (hv : v < 6) (hbv : gi (P + 41 + b) 8 = nI v) (hcV : gi P 3 = nI n) (hn6 : n ≤ 6) (hvn : v < n) : Ct G mX3_leaveVessel [.ref (G.1 + P), .ref (G.1 + (P + 41 + b))] (hp gi) (pV (hp (wI gi (P + 32 + v) 2 (-1)))) := by
  refine ct_of [some (.ref (G.1 + P)), some (.ref (G.1 + (P + 41 + b))), none] w_2 (by decide) rfl (Nat.le_of_ble_eq_true rfl) rfl ?_
  refine go_aload_n 1 dX3_leaveVessel_0 rfl rfl ls_0 ?_
  refine go_aload_n 2 dX3_leaveVessel_1 rfl rfl (ls_s ls_0) ?_
  refine gp_getI 5 dX3_leaveVessel_2 rfl f_X3_245 rfl (tB hP hb) ?_
  refine go_top (y := (nI v)) hbv ?_
  refine go_VA (M' := mX3_vesselAt) 8 dX3_leaveVessel_5 rfl w_395 okX3_vesselAt ⟨Nat.le_of_ble_eq_true rfl, Nat.le_of_ble_eq_true rfl⟩ (Ct.weak (ct_vesselAt G gi hP _ _ hcV hn6) (pAt_y (f := fun r => P + 32 + r) (c := fun _ => True) (by omega) hvn trivial)) rfl rfl (tP hP) (by decide) rfl (kk := ?_)
  refine go_astore_n 9 dX3_leaveVessel_8 rfl rfl (by decide) (st_s (st_s st_0)) ?_
  refine go_aload_n 10 dX3_leaveVessel_9 rfl rfl (ls_s (ls_s ls_0)) ?_
  refine go_ifnull 13 dX3_leaveVessel_10 rfl ?_
  refine go_aload_n 14 dX3_leaveVessel_13 rfl rfl (ls_s (ls_s ls_0)) ?_
  refine go_iconst 15 (v := (-1)) dX3_leaveVessel_14 rfl (by decide) ?_
  refine gp_putI 18 dX3_leaveVessel_15 rfl f_X3_199 rfl (tV hP hv) rfl rfl ?_
  exact go_ret_v dX3_leaveVessel_18 rfl rfl rfl ⟨rfl, rfl⟩
set_option maxHeartbeats 4000000 in
set_option maxRecDepth 100000 in
theorem ct_remove (G : BcG) (gi : GI) {P : Nat} (hP : isP P) {b v n : Nat} (hb : b < 6) (hv : v < 6) (hbv : gi (P + 41 + b) 8 = nI v) (hcV : gi P 3 = nI n) (hn6 : n ≤ 6) (hvn : v < n) : Ct G mX3_remove [.ref (G.1 + P), .ref (G.1 + (P + 41 + b))] (hp gi) (pV (hp (wI (wI gi (P + 32 + v) 2 (-1)) (P + 41 + b) 0 0))) := by
  refine ct_of [some (.ref (G.1 + P)), some (.ref (G.1 + (P + 41 + b)))] w_2 (by decide) rfl (Nat.le_of_ble_eq_true rfl) rfl ?_
  refine go_aload_n 1 dX3_remove_0 rfl rfl ls_0 ?_
  refine go_aload_n 2 dX3_remove_1 rfl rfl (ls_s ls_0) ?_
  refine go_VN (M' := mX3_leaveVessel) 5 dX3_remove_2 rfl w_507 okX3_leaveVessel ⟨Nat.le_of_ble_eq_true rfl, Nat.le_of_ble_eq_true rfl⟩ (ct_leaveVessel G gi hP (v := v) (n := n) hb hv hbv hcV hn6 hvn) rfl rfl (tP hP) (by decide) rfl (kk := ?_)
  refine go_aload_n 6 dX3_remove_5 rfl rfl (ls_s ls_0) ?_
  refine go_iconst 7 (v := 0) dX3_remove_6 rfl (by decide) ?_
  refine gp_putI 10 dX3_remove_7 rfl f_X3_102 rfl (tB hP hb) rfl rfl ?_
  exact go_ret_v dX3_remove_10 rfl rfl rfl ⟨rfl, rfl⟩
set_option maxHeartbeats 4000000 in
set_option maxRecDepth 100000 in
theorem ct_addOffGrade (G : BcG) (gi : GI) {P : Nat} (hP : isP P) {p : Nat} (hp4 : p < 4) (m : Int32) : Ct G mX3_addOffGrade [.ref (G.1 + P), .int (nI p), .int m] (hp gi) (pV (hp (wI gi (P + 7) p (gi (P + 7) p + m)))) := by
  refine ct_of [some (.ref (G.1 + P)), some (.int (nI p)), some (.int m)] w_2 (by decide) rfl (Nat.le_of_ble_eq_true rfl) rfl ?_
  refine go_aload_n 1 dX3_addOffGrade_0 rfl rfl ls_0 ?_
  refine gp_getR 4 dX3_addOffGrade_1 rfl f_X3_42 rfl (tP hP) (rO hP) ?_
  refine go_iload_n 5 dX3_addOffGrade_4 rfl rfl (ls_s ls_0) ?_
  refine go_aload_n 6 dX3_addOffGrade_5 rfl rfl ls_0 ?_
  refine gp_getR 9 dX3_addOffGrade_6 rfl f_X3_42 rfl (tP hP) (rO hP) ?_
  refine go_iload_n 10 dX3_addOffGrade_9 rfl rfl (ls_s ls_0) ?_
  refine go_TI (M' := mX8_entryAt) 13 dX3_addOffGrade_10 rfl x_X3_168 okX8_entryAt ⟨Nat.le_of_ble_eq_true rfl, Nat.le_of_ble_eq_true rfl⟩ (ct_entryAt G gi _ 4 _ (aO hP) (by decide)) rfl rfl (kk := ?_)
  refine go_iload_n 14 dX3_addOffGrade_13 rfl rfl (ls_s (ls_s ls_0)) ?_
  refine go_iadd 15 dX3_addOffGrade_14 rfl ?_
  refine go_TN (M' := mX8_putEntry) 18 dX3_addOffGrade_15 rfl x_X3_49 okX8_putEntry ⟨Nat.le_of_ble_eq_true rfl, Nat.le_of_ble_eq_true rfl⟩ (ct_putEntry G gi _ 4 _ _ (aO hP) (by decide)) rfl rfl (kk := ?_)
  exact go_ret_v dX3_addOffGrade_18 rfl rfl rfl ⟨rfl, by rw [entF_n hp4 (by decide), putF_n hp4 (by decide)]⟩
def nxS (gi : GI) (P r k n : Nat) : Prop := k + 1 < n
set_option maxHeartbeats 4000000 in
set_option maxRecDepth 100000 in
theorem ct_nextStage_y (G : BcG) (gi : GI) {P : Nat} (hP : isP P) {b r k n s : Nat} (hb : b < 6) (hr : r < 4) (hbr : gi (P + 41 + b) 1 = nI r) (hcR : gi P 1 = nI n) (hn4 : n ≤ 4) (hrn : r < n) (hbk : gi (P + 41 + b) 7 = nI k) (hk9 : k < 9) (hcS : gi (P + 8 + 6 * r) 1 = nI s) (hs4 : s ≤ 4) (hk : k + 1 < s) : Ct G mX3_nextStage [.ref (G.1 + P), .ref (G.1 + (P + 41 + b))] (hp gi) (pA (G.1 + (P + 10 + 6 * r + (k + 1))) (hp gi)) := by
  refine ct_of [some (.ref (G.1 + P)), some (.ref (G.1 + (P + 41 + b))), none] w_2 (by decide) rfl (Nat.le_of_ble_eq_true rfl) rfl ?_
  refine go_aload_n 1 dX3_nextStage_0 rfl rfl ls_0 ?_
  refine go_aload_n 2 dX3_nextStage_1 rfl rfl (ls_s ls_0) ?_
  refine gp_getI 5 dX3_nextStage_2 rfl f_X3_142 rfl (tB hP hb) ?_
  refine go_top (y := (nI r)) hbr ?_
  refine go_VA (M' := mX3_recipeAt) 8 dX3_nextStage_5 rfl w_362 okX3_recipeAt ⟨Nat.le_of_ble_eq_true rfl, Nat.le_of_ble_eq_true rfl⟩ (Ct.weak (ct_recipeAt G gi hP _ _ hcR hn4) (pAt_y (f := fun r => P + 8 + 6 * r) (c := fun _ => True) (by omega) hrn trivial)) rfl rfl (tP hP) (by decide) rfl (kk := ?_)
  refine go_astore_n 9 dX3_nextStage_8 rfl rfl (by decide) (st_s (st_s st_0)) ?_
  refine go_aload_n 10 dX3_nextStage_9 rfl rfl (ls_s (ls_s ls_0)) ?_
  refine go_ifnonnull 17 dX3_nextStage_10 (by decide) ?_
  refine go_aload_n 18 dX3_nextStage_17 rfl rfl (ls_s (ls_s ls_0)) ?_
  refine go_aload_n 19 dX3_nextStage_18 rfl rfl (ls_s ls_0) ?_
  refine gp_getI 22 dX3_nextStage_19 rfl f_X3_236 rfl (tB hP hb) ?_
  refine go_top (y := (nI k)) hbk ?_
  refine go_iconst 23 (v := 1) dX3_nextStage_22 rfl (by decide) ?_
  refine go_iadd 24 dX3_nextStage_23 rfl ?_
  refine go_top (y := (nI (k + 1))) (nI_1 k) ?_
  refine go_VA (M' := mX4_stageAt) 27 dX3_nextStage_24 rfl w_383 okX4_stageAt ⟨Nat.le_of_ble_eq_true rfl, Nat.le_of_ble_eq_true rfl⟩ (Ct.weak (ct_stageAt G gi hP hr _ _ hcS hs4) (pAt_y (f := fun q => P + 10 + 6 * r + q) (c := fun _ => True) (by omega) hk trivial)) rfl rfl (tR hP hr) (by decide) rfl (kk := ?_)
  exact go_ret_a dX3_nextStage_27 rfl rfl rfl ⟨rfl, rfl⟩
set_option maxHeartbeats 4000000 in
set_option maxRecDepth 100000 in
theorem ct_nextStage_n (G : BcG) (gi : GI) {P : Nat} (hP : isP P) {b r k n s : Nat} (hb : b < 6) (hr : r < 4) (hbr : gi (P + 41 + b) 1 = nI r) (hcR : gi P 1 = nI n) (hn4 : n ≤ 4) (hrn : r < n) (hbk : gi (P + 41 + b) 7 = nI k) (hk9 : k < 9) (hcS : gi (P + 8 + 6 * r) 1 = nI s) (hs4 : s ≤ 4) (hk : ¬ k + 1 < s) : Ct G mX3_nextStage [.ref (G.1 + P), .ref (G.1 + (P + 41 + b))] (hp gi) (pZ (hp gi)) := by
  refine ct_of [some (.ref (G.1 + P)), some (.ref (G.1 + (P + 41 + b))), none] w_2 (by decide) rfl (Nat.le_of_ble_eq_true rfl) rfl ?_
  refine go_aload_n 1 dX3_nextStage_0 rfl rfl ls_0 ?_
  refine go_aload_n 2 dX3_nextStage_1 rfl rfl (ls_s ls_0) ?_
  refine gp_getI 5 dX3_nextStage_2 rfl f_X3_142 rfl (tB hP hb) ?_
  refine go_top (y := (nI r)) hbr ?_
  refine go_VA (M' := mX3_recipeAt) 8 dX3_nextStage_5 rfl w_362 okX3_recipeAt ⟨Nat.le_of_ble_eq_true rfl, Nat.le_of_ble_eq_true rfl⟩ (Ct.weak (ct_recipeAt G gi hP _ _ hcR hn4) (pAt_y (f := fun r => P + 8 + 6 * r) (c := fun _ => True) (by omega) hrn trivial)) rfl rfl (tP hP) (by decide) rfl (kk := ?_)
  refine go_astore_n 9 dX3_nextStage_8 rfl rfl (by decide) (st_s (st_s st_0)) ?_
  refine go_aload_n 10 dX3_nextStage_9 rfl rfl (ls_s (ls_s ls_0)) ?_
  refine go_ifnonnull 17 dX3_nextStage_10 (by decide) ?_
  refine go_aload_n 18 dX3_nextStage_17 rfl rfl (ls_s (ls_s ls_0)) ?_
  refine go_aload_n 19 dX3_nextStage_18 rfl rfl (ls_s ls_0) ?_
  refine gp_getI 22 dX3_nextStage_19 rfl f_X3_236 rfl (tB hP hb) ?_
  refine go_top (y := (nI k)) hbk ?_
  refine go_iconst 23 (v := 1) dX3_nextStage_22 rfl (by decide) ?_
  refine go_iadd 24 dX3_nextStage_23 rfl ?_
  refine go_top (y := (nI (k + 1))) (nI_1 k) ?_
  refine go_VZ (M' := mX4_stageAt) 27 dX3_nextStage_24 rfl w_383 okX4_stageAt ⟨Nat.le_of_ble_eq_true rfl, Nat.le_of_ble_eq_true rfl⟩ (Ct.weak (ct_stageAt G gi hP hr _ _ hcS hs4) (pAt_n (nt (fun ⟨q, hq, e⟩ => hk (by have := nI_in_r (by omega) (by omega) e; omega))))) rfl rfl (tR hP hr) (by decide) rfl (kk := ?_)
  exact go_ret_n dX3_nextStage_27 rfl rfl rfl ⟨rfl, rfl⟩
