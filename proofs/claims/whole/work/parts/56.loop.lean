/-! THE LAW: the switch, the loop (by program) -/
set_option maxHeartbeats 4000000 in
set_option maxRecDepth 100000 in
theorem law_switch (G : BcG) {nm : String} {b L i N : Nat} {xs : Nat → Int32} {S : SS} {gi : GI} {x : Int32} (hi : i + 6 ≤ L) (hL : L ≤ 3072) (hN : N + 8000 < 100000000) (k : SOk N S) (c : RelC S gi) (m : RelM S gi) (kk : LK G nm b L xs i N) : BGo G (mLaw nm) (KL G b L xs) (hp gi) 341 3274 33 [some (.ref b), some (.ref (G.1 + 0)), some (.ref (G.1 + 335)), some (.int (nI i))] [.int (x &&& 31)] := by
  obtain ⟨j, hj, e⟩ := pk_andE x (m := 31) 5 (by decide)
  rw [e]
  have hj : j < 32 := hj
  obtain rfl | rfl | rfl | rfl | rfl | rfl | rfl | rfl | rfl | rfl | rfl | rfl | rfl | rfl | rfl | rfl | rfl | rfl | rfl | rfl | rfl | rfl | rfl | rfl | rfl | rfl | h : j = 0 ∨ j = 1 ∨ j = 2 ∨ j = 3 ∨ j = 4 ∨ j = 5 ∨ j = 6 ∨ j = 7 ∨ j = 8 ∨ j = 9 ∨ j = 10 ∨ j = 11 ∨ j = 12 ∨ j = 13 ∨ j = 14 ∨ j = 15 ∨ j = 16 ∨ j = 17 ∨ j = 18 ∨ j = 19 ∨ j = 20 ∨ j = 21 ∨ j = 22 ∨ j = 23 ∨ j = 24 ∨ j = 25 ∨ 26 ≤ j := by omega
  · refine go_tabIn 152 dL_law_33 (off := 119) (by decide +kernel) (by decide +kernel) (by decide +kernel) (by decide) ?_
    exact lc_recipe G hi hL hN k c m kk
  · refine go_tabIn 175 dL_law_33 (off := 142) (by decide +kernel) (by decide +kernel) (by decide +kernel) (by decide) ?_
    exact lc_stage G hi hL hN k c m kk
  · refine go_tabIn 238 dL_law_33 (off := 205) (by decide +kernel) (by decide +kernel) (by decide +kernel) (by decide) ?_
    exact lc_vessel G hi hL hN k c m kk
  · refine go_tabIn 271 dL_law_33 (off := 238) (by decide +kernel) (by decide +kernel) (by decide +kernel) (by decide) ?_
    exact lc_line G hi hL hN k c m kk
  · refine go_tabIn 304 dL_law_33 (off := 271) (by decide +kernel) (by decide +kernel) (by decide +kernel) (by decide) ?_
    exact lc_cleaning G hi hL hN k c m kk
  · refine go_tabIn 347 dL_law_33 (off := 314) (by decide +kernel) (by decide +kernel) (by decide +kernel) (by decide) ?_
    exact lc_stageOf G hi hL hN k c m kk
  · refine go_tabIn 390 dL_law_33 (off := 357) (by decide +kernel) (by decide +kernel) (by decide +kernel) (by decide) ?_
    exact lc_begin G hi hL hN k c m kk
  · refine go_tabIn 433 dL_law_33 (off := 400) (by decide +kernel) (by decide +kernel) (by decide +kernel) (by decide) ?_
    exact lc_move G hi hL hN k c m kk
  · refine go_tabIn 466 dL_law_33 (off := 433) (by decide +kernel) (by decide +kernel) (by decide +kernel) (by decide) ?_
    exact lc_end G hi hL hN k c m kk
  · refine go_tabIn 489 dL_law_33 (off := 456) (by decide +kernel) (by decide +kernel) (by decide +kernel) (by decide) ?_
    exact lc_discard G hi hL hN k c m kk
  · refine go_tabIn 512 dL_law_33 (off := 479) (by decide +kernel) (by decide +kernel) (by decide +kernel) (by decide) ?_
    exact lc_blend G hi hL hN k c m kk
  · refine go_tabIn 545 dL_law_33 (off := 512) (by decide +kernel) (by decide +kernel) (by decide +kernel) (by decide) ?_
    exact lc_pass G hi hL hN k c m kk
  · refine go_tabIn 568 dL_law_33 (off := 535) (by decide +kernel) (by decide +kernel) (by decide +kernel) (by decide) ?_
    exact lc_set G hi hL hN k c m kk
  · refine go_tabIn 601 dL_law_33 (off := 568) (by decide +kernel) (by decide +kernel) (by decide +kernel) (by decide) ?_
    exact lc_batchOf G hi hL hN k c m kk
  · refine go_tabIn 634 dL_law_33 (off := 601) (by decide +kernel) (by decide +kernel) (by decide +kernel) (by decide) ?_
    exact lc_vesselOf G hi hL hN k c m kk
  · refine go_tabIn 667 dL_law_33 (off := 634) (by decide +kernel) (by decide +kernel) (by decide +kernel) (by decide) ?_
    exact lc_lineOf G hi hL hN k c m kk
  · refine go_tabIn 700 dL_law_33 (off := 667) (by decide +kernel) (by decide +kernel) (by decide +kernel) (by decide) ?_
    exact lc_count G hi hL hN k c m kk
  · refine go_tabIn 723 dL_law_33 (off := 690) (by decide +kernel) (by decide +kernel) (by decide +kernel) (by decide) ?_
    exact lc_targets G hi hL hN k c m kk
  · refine go_tabIn 746 dL_law_33 (off := 713) (by decide +kernel) (by decide +kernel) (by decide +kernel) (by decide) ?_
    exact lc_quickest G hi hL hN k c m kk
  · refine go_tabIn 779 dL_law_33 (off := 746) (by decide +kernel) (by decide +kernel) (by decide +kernel) (by decide) ?_
    exact lc_soonest G hi hL hN k c m kk
  · refine go_tabIn 802 dL_law_33 (off := 769) (by decide +kernel) (by decide +kernel) (by decide +kernel) (by decide) ?_
    exact lc_urgent G hi hL hN k c m kk
  · refine go_tabIn 825 dL_law_33 (off := 792) (by decide +kernel) (by decide +kernel) (by decide +kernel) (by decide) ?_
    exact lc_undo G hi hL hN k c m kk
  · refine go_tabIn 838 dL_law_33 (off := 805) (by decide +kernel) (by decide +kernel) (by decide +kernel) (by decide) ?_
    exact lc_type G hi hL hN k c m kk
  · refine go_tabIn 861 dL_law_33 (off := 828) (by decide +kernel) (by decide +kernel) (by decide +kernel) (by decide) ?_
    exact lc_clearText G hi hL hN k c m kk
  · refine go_tabIn 874 dL_law_33 (off := 841) (by decide +kernel) (by decide +kernel) (by decide +kernel) (by decide) ?_
    exact lc_fault G hi hL hN k c m kk
  · refine go_tabIn 897 dL_law_33 (off := 864) (by decide +kernel) (by decide +kernel) (by decide +kernel) (by decide) ?_
    exact lc_play G hi hL hN k c m kk
  · refine go_tabOut 910 dL_law_33 (Or.inr (by rw [nI_toInt (by omega)]; omega)) (by decide) ?_
    exact kk N S gi (by omega) k c m
set_option maxHeartbeats 4000000 in
set_option maxRecDepth 100000 in
/-- the loop: j calls at most are left -/
theorem law_loop (G : BcG) {nm : String} {b L : Nat} {xs : Nat → Int32} (hL : L ≤ 3072) : ∀ (j i N : Nat) (S : SS) (gi : GI), L < i + 6 * j + 6 → i ≤ 3072 → N + 8000 * j < 99000000 → SOk N S → RelC S gi → RelM S gi → BGo G (mLaw nm) (KL G b L xs) (hp gi) 341 3274 18 [some (.ref b), some (.ref (G.1 + 0)), some (.ref (G.1 + 335)), some (.int (nI i))] [] := by
  intro j
  induction j with
  | zero =>
    intro i N S gi h1 h2 h3 k c m
    refine go_iload_n 19 dL_law_18 rfl rfl (ls_s (ls_s (ls_s ls_0))) ?_
    refine go_aload_n 20 dL_law_19 rfl rfl ls_0 ?_
    refine gl_slen 21 dL_law_20 rfl ?_
    refine go_bipush 23 (v := 6) dL_law_21 rfl (by decide) ?_
    refine go_isub 24 dL_law_23 rfl ?_
    refine go_icmp_gt 916 27 dL_law_24 (by decide) rfl (fun _ => ?_) (fun z => absurd ((law_gt hL h2).mpr (by omega)) z)
    refine go_iconst 917 (v := 1) dL_law_916 rfl (by decide) ?_
    exact gl_ret dL_law_917 (Nat.le_of_ble_eq_true rfl) (Nat.le_of_ble_eq_true rfl)
  | succ j ih =>
    intro i N S gi h1 h2 h3 k c m
    refine go_iload_n 19 dL_law_18 rfl rfl (ls_s (ls_s (ls_s ls_0))) ?_
    refine go_aload_n 20 dL_law_19 rfl rfl ls_0 ?_
    refine gl_slen 21 dL_law_20 rfl ?_
    refine go_bipush 23 (v := 6) dL_law_21 rfl (by decide) ?_
    refine go_isub 24 dL_law_23 rfl ?_
    refine go_icmp_gt 916 27 dL_law_24 (by decide) rfl (fun _ => ?_) (fun z => ?_)
    · refine go_iconst 917 (v := 1) dL_law_916 rfl (by decide) ?_
      exact gl_ret dL_law_917 (Nat.le_of_ble_eq_true rfl) (Nat.le_of_ble_eq_true rfl)
    · have hi : i + 6 ≤ L := by
        rcases Nat.lt_or_ge L (i + 6) with q | q
        · exact absurd ((law_gt hL h2).mpr q) z
        · exact q
      refine go_aload_n 28 dL_law_27 rfl rfl ls_0 ?_
      refine go_iload_n 29 dL_law_28 rfl rfl (ls_s (ls_s (ls_s ls_0))) ?_
      refine gl_sld 30 i dL_law_29 rfl rfl (by omega) hL ?_
      refine go_bipush 32 (v := 31) dL_law_30 rfl (by decide) ?_
      refine go_iand 33 dL_law_32 rfl ?_
      refine law_switch G hi hL (by omega) k c m (fun N2 S2 g2 n2 k2 c2 m2 => ?_)
      refine go_iinc 913 (v := nI (i + 6)) dL_law_910 rfl (ls_s (ls_s (ls_s ls_0))) (by exact nI_add i 6) (by show 3 < 4; decide) (st_s (st_s (st_s st_0))) ?_
      refine go_goto 18 dL_law_913 (by decide) ?_
      exact ih (i + 6) N2 S2 g2 (by omega) (by omega) (by omega) k2 c2 m2
