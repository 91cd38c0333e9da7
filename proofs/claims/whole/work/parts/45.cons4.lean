/-! THE CONSTRUCTORS: plants, loop by loop -/
theorem bt_leaf {k n : Nat} {gr : Nat → Nat → Option Nat} {gi : GI} {ci : Nat} (b : Bl n gr gi) (hk : n ≤ k) (hl : k < 341) (hs : SH k = (ci, 0)) (h3 : ci = 6 ∨ ci = 2 ∨ ci = 0) : Bt gr gi k := by
  obtain ⟨b1, b2⟩ := b k hk
  refine ⟨by rw [b1, GR_leaf hl (by rw [hs]; rcases h3 with rfl | rfl | rfl; exact Or.inl rfl; exact Or.inr (Or.inr (Or.inl rfl)); exact Or.inr (Or.inr (Or.inr (Or.inl rfl))))], ?_⟩
  rw [b2, I0_z (fun z => by rw [z] at hs; have := congrArg Prod.fst hs; have q : (20 : Nat) = ci := this; omega) (by rw [hs]; show ci ≠ 7; omega) (by rw [hs]; show ci ≠ 20; omega)]
theorem bt_ves {k n : Nat} {gr : Nat → Nat → Option Nat} {gi : GI} (b : Bl n gr gi) (hk : n ≤ k) (hl : k < 341) (hs : SH k = (7, 0)) : Bt gr (wI (wI gi k 2 (-1)) k 3 (-1)) k := by
  obtain ⟨b1, b2⟩ := b k hk
  refine ⟨by rw [b1, GR_leaf hl (by rw [hs]; exact Or.inr (Or.inl rfl))], ?_⟩
  funext j
  have h0 : k ≠ 336 := fun z => by rw [z] at hs; revert hs; decide
  unfold I0
  rw [if_neg h0, if_pos (by rw [hs])]
  by_cases e : j = 3
  · subst e; rw [wI_eq, if_pos (Or.inr rfl)]
  · rw [wI_ne (by omega)]
    by_cases e2 : j = 2
    · subst e2; rw [wI_eq, if_pos (Or.inl rfl)]
    · rw [wI_ne (by omega), b2, if_neg (by omega)]
set_option maxHeartbeats 4000000 in
set_option maxRecDepth 100000 in
theorem lp_plR (G : BcG) {P : Nat} (hP : isP P) {gr0 : Nat → Nat → Option Nat} {gi0 : GI} {post : Option Value → BcH → Prop} (kk : ∀ gr gi, PlI P 4 0 0 0 (P + 32) gr0 gi0 gr gi → BGo G mX3_init (KM G mX3_init (P + 1) post) (hq (P + 32) gr gi) 31 133 90 [some (.ref (G.1 + P)), none] []) : ∀ (m i : Nat) (gr : Nat → Nat → Option Nat) (gi : GI), i + m = 4 → PlI P i 0 0 0 (P + 8 + 6 * i) gr0 gi0 gr gi → BGo G mX3_init (KM G mX3_init (P + 1) post) (hq (P + 8 + 6 * i) gr gi) (7 + 6 * i) (41 + 23 * i) 62 [some (.ref (G.1 + P)), some (.int (nI i))] [] := by
  obtain ⟨s0, s1, s2, s3, s4, s5, s6, s7, s8⟩ := sh_P hP
  obtain ⟨v1, v2, v3⟩ := sh_PV hP
  have hg := gr_P hP
  intro m
  induction m with
  | zero =>
    intro i gr gi hi R
    obtain rfl : i = 4 := by omega
    obtain ⟨b, h1, h2, -⟩ := id R
    refine go_iload_n 63 dX3_init_62 rfl rfl (ls_s ls_0) ?_
    refine go_aload_n 64 dX3_init_63 rfl rfl ls_0 ?_
    refine go_getR (a := P) (a1 := P + 1) 67 dX3_init_64 rfl f_X3_11 rfl ⟨by show P < P + 8 + 6 * 4; omega, by show (SH P).1 = 3; rw [s1]⟩ (by show gr P 0 = _; rw [h2.1, (hg 0 (by decide)).1]; rfl) ?_
    refine go_alen (a := P + 1) (len := 4) (t := 23) 68 (v := nI 4) dX3_init_67 rfl ⟨by show P + 1 < P + 8 + 6 * 4; omega, s2⟩ (by decide) (by decide) rfl ?_
    refine go_icmp_ge 90 71 dX3_init_68 (by decide) rfl (fun c_1 => ?_) (fun c_1 => absurd (Int32.le_refl _) c_1)
    exact go_less (le_k (le_n le_0)) (kk gr gi R)
  | succ m ih =>
    intro i gr gi hi R
    have hi4 : i < 4 := by omega
    obtain ⟨b, h1, h2, -⟩ := id R
    refine go_iload_n 63 dX3_init_62 rfl rfl (ls_s ls_0) ?_
    refine go_aload_n 64 dX3_init_63 rfl rfl ls_0 ?_
    refine go_getR (a := P) (a1 := P + 1) 67 dX3_init_64 rfl f_X3_11 rfl ⟨by show P < P + 8 + 6 * i; omega, by show (SH P).1 = 3; rw [s1]⟩ (by show gr P 0 = _; rw [h2.1, (hg 0 (by decide)).1]; rfl) ?_
    refine go_alen (a := P + 1) (len := 4) (t := 23) 68 (v := nI 4) dX3_init_67 rfl ⟨by show P + 1 < P + 8 + 6 * i; omega, s2⟩ (by decide) (by decide) rfl ?_
    refine go_icmp_ge 90 71 dX3_init_68 (by decide) rfl (fun c_1 => absurd c_1 (nI_ge hi4 (by decide))) (fun c_1 => ?_)
    refine go_aload_n 72 dX3_init_71 rfl rfl ls_0 ?_
    refine go_getR (a := P) (a1 := P + 1) 75 dX3_init_72 rfl f_X3_11 rfl ⟨by show P < P + 8 + 6 * i; omega, by show (SH P).1 = 3; rw [s1]⟩ (by show gr P 0 = _; rw [h2.1, (hg 0 (by decide)).1]; rfl) ?_
    refine go_iload_n 76 dX3_init_75 rfl rfl (ls_s ls_0) ?_
    refine go_new 79 dX3_init_76 rfl okC4 w_28 w_36 w_3 (by show 7 + 6 * i + 1 ≤ 46; omega) (by show 41 + 23 * i + 3 ≤ 253; omega) ?_
    have hsR := sh_R hP hi4
    refine nw_eqv hsR.2.1 b ?_
    refine go_dup 80 dX3_init_79 rfl rfl ?_
    refine go_I (M' := mX4_init) 83 (7 + 6 * i + 1 + 5) (41 + 23 * i + 3 + 20) dX3_init_80 rfl w_37 okX4_init ⟨Nat.le_of_ble_eq_true rfl, Nat.le_of_ble_eq_true rfl⟩ rfl rfl (by show 7 + 6 * i + 1 + 5 ≤ 46; omega) (by show 41 + 23 * i + 3 + 20 ≤ 253; omega) (ct_newR G hP hi4 rfl b) rfl rfl (Nat.le_of_ble_eq_true rfl) (fun v h' hv => ?_)
    obtain ⟨rfl, gr2, gi2, rfl, b2, e, t⟩ := hv
    refine go_aast (a := P + 1) (len := 4) (t := 23) (kv := P + 8 + 6 * i) (cv := 4) (y := nI i) 84 dX3_init_83 rfl ⟨by show P + 1 < P + 8 + 6 * i + 6; omega, s2⟩ (by decide) rfl ⟨by show P + 8 + 6 * i < P + 8 + 6 * i + 6; omega, by show (SH (P + 8 + 6 * i)).1 = 4; rw [hsR.2.1]⟩ (by decide) rfl (vp_in_nI hi4 (by decide)) ?_
    rw [nI_clamp (by omega)]
    refine go_iinc 87 (v := nI (i + 1)) dX3_init_84 rfl (ls_s ls_0) (nI_1 i) (by decide) (st_s st_0) ?_
    refine go_goto 62 dX3_init_87 (by decide) ?_
    exact ih (i + 1) _ _ (by omega) (PlI_1 (PlI_up R (by omega) (by omega) b2 e t) (by omega))
set_option maxHeartbeats 4000000 in
set_option maxRecDepth 100000 in
theorem lp_plV (G : BcG) {P : Nat} (hP : isP P) {gr0 : Nat → Nat → Option Nat} {gi0 : GI} {post : Option Value → BcH → Prop} (kk : ∀ gr gi, PlI P 4 6 0 0 (P + 38) gr0 gi0 gr gi → BGo G mX3_init (KM G mX3_init (P + 1) post) (hq (P + 38) gr gi) 37 163 120 [some (.ref (G.1 + P)), none] []) : ∀ (m i : Nat) (gr : Nat → Nat → Option Nat) (gi : GI), i + m = 6 → PlI P 4 i 0 0 (P + 32 + i) gr0 gi0 gr gi → BGo G mX3_init (KM G mX3_init (P + 1) post) (hq (P + 32 + i) gr gi) (31 + i) (133 + 5 * i) 92 [some (.ref (G.1 + P)), some (.int (nI i))] [] := by
  obtain ⟨s0, s1, s2, s3, s4, s5, s6, s7, s8⟩ := sh_P hP
  obtain ⟨v1, v2, v3⟩ := sh_PV hP
  have hg := gr_P hP
  intro m
  induction m with
  | zero =>
    intro i gr gi hi R
    obtain rfl : i = 6 := by omega
    obtain ⟨b, h1, h2, -⟩ := id R
    refine go_iload_n 93 dX3_init_92 rfl rfl (ls_s ls_0) ?_
    refine go_aload_n 94 dX3_init_93 rfl rfl ls_0 ?_
    refine go_getR (a := P) (a1 := P + 2) 97 dX3_init_94 rfl f_X3_19 rfl ⟨by show P < P + 32 + 6; omega, by show (SH P).1 = 3; rw [s1]⟩ (by show gr P 2 = _; rw [h2.1, (hg 2 (by decide)).1]; rfl) ?_
    refine go_alen (a := P + 2) (len := 6) (t := 25) 98 (v := nI 6) dX3_init_97 rfl ⟨by show P + 2 < P + 32 + 6; omega, s3⟩ (by decide) (by decide) rfl ?_
    refine go_icmp_ge 120 101 dX3_init_98 (by decide) rfl (fun c_1 => ?_) (fun c_1 => absurd (Int32.le_refl _) c_1)
    exact go_less (le_k (le_n le_0)) (kk gr gi R)
  | succ m ih =>
    intro i gr gi hi R
    have hi4 : i < 6 := by omega
    obtain ⟨b, h1, h2, -⟩ := id R
    refine go_iload_n 93 dX3_init_92 rfl rfl (ls_s ls_0) ?_
    refine go_aload_n 94 dX3_init_93 rfl rfl ls_0 ?_
    refine go_getR (a := P) (a1 := P + 2) 97 dX3_init_94 rfl f_X3_19 rfl ⟨by show P < P + 32 + i; omega, by show (SH P).1 = 3; rw [s1]⟩ (by show gr P 2 = _; rw [h2.1, (hg 2 (by decide)).1]; rfl) ?_
    refine go_alen (a := P + 2) (len := 6) (t := 25) 98 (v := nI 6) dX3_init_97 rfl ⟨by show P + 2 < P + 32 + i; omega, s3⟩ (by decide) (by decide) rfl ?_
    refine go_icmp_ge 120 101 dX3_init_98 (by decide) rfl (fun c_1 => absurd c_1 (nI_ge hi4 (by decide))) (fun c_1 => ?_)
    refine go_aload_n 102 dX3_init_101 rfl rfl ls_0 ?_
    refine go_getR (a := P) (a1 := P + 2) 105 dX3_init_102 rfl f_X3_19 rfl ⟨by show P < P + 32 + i; omega, by show (SH P).1 = 3; rw [s1]⟩ (by show gr P 2 = _; rw [h2.1, (hg 2 (by decide)).1]; rfl) ?_
    refine go_iload_n 106 dX3_init_105 rfl rfl (ls_s ls_0) ?_
    refine go_new 109 dX3_init_106 rfl okC7 w_30 w_82 w_5 (by show 31 + i + 1 ≤ 46; omega) (by show 133 + 5 * i + 5 ≤ 253; omega) ?_
    refine nw_eqv (v1 i hi4) b ?_
    refine go_dup 110 dX3_init_109 rfl rfl ?_
    refine go_IN (M' := mX7_init) 113 (31 + i + 1) (133 + 5 * i + 5) dX3_init_110 rfl x_X3_46 okX7_init ⟨Nat.le_of_ble_eq_true rfl, Nat.le_of_ble_eq_true rfl⟩ rfl rfl (by show 31 + i + 1 ≤ 46; omega) (by show 133 + 5 * i + 5 ≤ 253; omega) (ct_objV G _ _ ⟨by show P + 32 + i < P + 32 + i + 1; omega, by show (SH (P + 32 + i)).1 = 7; rw [v1 i hi4]⟩) rfl rfl (Nat.le_of_ble_eq_true rfl) (fun v h' hv => ?_)
    obtain ⟨rfl, rfl⟩ := hv
    refine go_aast (a := P + 2) (len := 6) (t := 25) (kv := P + 32 + i) (cv := 7) (y := nI i) 114 dX3_init_113 rfl ⟨by show P + 2 < P + 32 + i + 1; omega, s3⟩ (by decide) rfl ⟨by show P + 32 + i < P + 32 + i + 1; omega, by show (SH (P + 32 + i)).1 = 7; rw [v1 i hi4]⟩ (by decide) rfl (vp_in_nI hi4 (by decide)) ?_
    rw [nI_clamp (by omega)]
    refine go_iinc 117 (v := nI (i + 1)) dX3_init_114 rfl (ls_s ls_0) (nI_1 i) (by decide) (st_s st_0) ?_
    refine go_goto 92 dX3_init_117 (by decide) ?_
    show BGo G mX3_init _ (hq (P + 32 + i + 1) (sR gr (P + 2) i (P + 32 + i)) (wI (wI gi (P + 32 + i) 2 (-1)) (P + 32 + i) 3 (-1))) _ _ _ _ _
    refine ih (i + 1) _ _ (by omega) (PlI_2 (PlI_up (n' := P + 32 + i + 1) R (by omega) (by omega) (((b.up (by omega)).wI (by omega)).wI (by omega)) (fun k hk => ⟨rfl, by rw [wI_row (by omega), wI_row (by omega)]⟩) (fun k q1 q2 => ?_)) (by omega))
    obtain rfl : k = P + 32 + i := by omega
    exact bt_ves b (Nat.le_refl _) (by omega) (v1 i hi4)
set_option maxHeartbeats 4000000 in
set_option maxRecDepth 100000 in
theorem lp_plL (G : BcG) {P : Nat} (hP : isP P) {gr0 : Nat → Nat → Option Nat} {gi0 : GI} {post : Option Value → BcH → Prop} (kk : ∀ gr gi, PlI P 4 6 3 0 (P + 41) gr0 gi0 gr gi → BGo G mX3_init (KM G mX3_init (P + 1) post) (hq (P + 41) gr gi) 40 175 150 [some (.ref (G.1 + P)), none] []) : ∀ (m i : Nat) (gr : Nat → Nat → Option Nat) (gi : GI), i + m = 3 → PlI P 4 6 i 0 (P + 38 + i) gr0 gi0 gr gi → BGo G mX3_init (KM G mX3_init (P + 1) post) (hq (P + 38 + i) gr gi) (37 + i) (163 + 4 * i) 122 [some (.ref (G.1 + P)), some (.int (nI i))] [] := by
  obtain ⟨s0, s1, s2, s3, s4, s5, s6, s7, s8⟩ := sh_P hP
  obtain ⟨v1, v2, v3⟩ := sh_PV hP
  have hg := gr_P hP
  intro m
  induction m with
  | zero =>
    intro i gr gi hi R
    obtain rfl : i = 3 := by omega
    obtain ⟨b, h1, h2, -⟩ := id R
    refine go_iload_n 123 dX3_init_122 rfl rfl (ls_s ls_0) ?_
    refine go_aload_n 124 dX3_init_123 rfl rfl ls_0 ?_
    refine go_getR (a := P) (a1 := P + 3) 127 dX3_init_124 rfl f_X3_25 rfl ⟨by show P < P + 38 + 3; omega, by show (SH P).1 = 3; rw [s1]⟩ (by show gr P 4 = _; rw [h2.1, (hg 4 (by decide)).1]; rfl) ?_
    refine go_alen (a := P + 3) (len := 3) (t := 26) 128 (v := nI 3) dX3_init_127 rfl ⟨by show P + 3 < P + 38 + 3; omega, s4⟩ (by decide) (by decide) rfl ?_
    refine go_icmp_ge 150 131 dX3_init_128 (by decide) rfl (fun c_1 => ?_) (fun c_1 => absurd (Int32.le_refl _) c_1)
    exact go_less (le_k (le_n le_0)) (kk gr gi R)
  | succ m ih =>
    intro i gr gi hi R
    have hi4 : i < 3 := by omega
    obtain ⟨b, h1, h2, -⟩ := id R
    refine go_iload_n 123 dX3_init_122 rfl rfl (ls_s ls_0) ?_
    refine go_aload_n 124 dX3_init_123 rfl rfl ls_0 ?_
    refine go_getR (a := P) (a1 := P + 3) 127 dX3_init_124 rfl f_X3_25 rfl ⟨by show P < P + 38 + i; omega, by show (SH P).1 = 3; rw [s1]⟩ (by show gr P 4 = _; rw [h2.1, (hg 4 (by decide)).1]; rfl) ?_
    refine go_alen (a := P + 3) (len := 3) (t := 26) 128 (v := nI 3) dX3_init_127 rfl ⟨by show P + 3 < P + 38 + i; omega, s4⟩ (by decide) (by decide) rfl ?_
    refine go_icmp_ge 150 131 dX3_init_128 (by decide) rfl (fun c_1 => absurd c_1 (nI_ge hi4 (by decide))) (fun c_1 => ?_)
    refine go_aload_n 132 dX3_init_131 rfl rfl ls_0 ?_
    refine go_getR (a := P) (a1 := P + 3) 135 dX3_init_132 rfl f_X3_25 rfl ⟨by show P < P + 38 + i; omega, by show (SH P).1 = 3; rw [s1]⟩ (by show gr P 4 = _; rw [h2.1, (hg 4 (by decide)).1]; rfl) ?_
    refine go_iload_n 136 dX3_init_135 rfl rfl (ls_s ls_0) ?_
    refine go_new 139 dX3_init_136 rfl okC2 w_32 w_108 w_6 (by show 37 + i + 1 ≤ 46; omega) (by show 163 + 4 * i + 4 ≤ 253; omega) ?_
    refine nw_eqv (v2 i hi4) b ?_
    refine go_dup 140 dX3_init_139 rfl rfl ?_
    refine go_IN (M' := mX2_init) 143 (37 + i + 1) (163 + 4 * i + 4) dX3_init_140 rfl x_X3_47 okX2_init ⟨Nat.le_of_ble_eq_true rfl, Nat.le_of_ble_eq_true rfl⟩ rfl rfl (by show 37 + i + 1 ≤ 46; omega) (by show 163 + 4 * i + 4 ≤ 253; omega) (ct_objL G _ _) rfl rfl (Nat.le_of_ble_eq_true rfl) (fun v h' hv => ?_)
    obtain ⟨rfl, rfl⟩ := hv
    refine go_aast (a := P + 3) (len := 3) (t := 26) (kv := P + 38 + i) (cv := 2) (y := nI i) 144 dX3_init_143 rfl ⟨by show P + 3 < P + 38 + i + 1; omega, s4⟩ (by decide) rfl ⟨by show P + 38 + i < P + 38 + i + 1; omega, by show (SH (P + 38 + i)).1 = 2; rw [v2 i hi4]⟩ (by decide) rfl (vp_in_nI hi4 (by decide)) ?_
    rw [nI_clamp (by omega)]
    refine go_iinc 147 (v := nI (i + 1)) dX3_init_144 rfl (ls_s ls_0) (nI_1 i) (by decide) (st_s st_0) ?_
    refine go_goto 122 dX3_init_147 (by decide) ?_
    refine ih (i + 1) _ _ (by omega) (PlI_3 (PlI_up (n' := P + 38 + i + 1) R (by omega) (by omega) (b.up (by omega)) (fun k hk => ⟨rfl, rfl⟩) (fun k q1 q2 => ?_)) (by omega))
    obtain rfl : k = P + 38 + i := by omega
    exact bt_leaf b (Nat.le_refl _) (by omega) (v2 i hi4) (Or.inr (Or.inl rfl))
set_option maxHeartbeats 4000000 in
set_option maxRecDepth 100000 in
theorem lp_plB (G : BcG) {P : Nat} (hP : isP P) {gr0 : Nat → Nat → Option Nat} {gi0 : GI} {post : Option Value → BcH → Prop} (kk : ∀ gr gi, PlI P 4 6 3 6 (P + 47) gr0 gi0 gr gi → BGo G mX3_init (KM G mX3_init (P + 1) post) (hq (P + 47) gr gi) 46 253 180 [some (.ref (G.1 + P)), none] []) : ∀ (m i : Nat) (gr : Nat → Nat → Option Nat) (gi : GI), i + m = 6 → PlI P 4 6 3 i (P + 41 + i) gr0 gi0 gr gi → BGo G mX3_init (KM G mX3_init (P + 1) post) (hq (P + 41 + i) gr gi) (40 + i) (175 + 13 * i) 152 [some (.ref (G.1 + P)), some (.int (nI i))] [] := by
  obtain ⟨s0, s1, s2, s3, s4, s5, s6, s7, s8⟩ := sh_P hP
  obtain ⟨v1, v2, v3⟩ := sh_PV hP
  have hg := gr_P hP
  intro m
  induction m with
  | zero =>
    intro i gr gi hi R
    obtain rfl : i = 6 := by omega
    obtain ⟨b, h1, h2, -⟩ := id R
    refine go_iload_n 153 dX3_init_152 rfl rfl (ls_s ls_0) ?_
    refine go_aload_n 154 dX3_init_153 rfl rfl ls_0 ?_
    refine go_getR (a := P) (a1 := P + 4) 157 dX3_init_154 rfl f_X3_31 rfl ⟨by show P < P + 41 + 6; omega, by show (SH P).1 = 3; rw [s1]⟩ (by show gr P 6 = _; rw [h2.1, (hg 6 (by decide)).1]; rfl) ?_
    refine go_alen (a := P + 4) (len := 6) (t := 27) 158 (v := nI 6) dX3_init_157 rfl ⟨by show P + 4 < P + 41 + 6; omega, s5⟩ (by decide) (by decide) rfl ?_
    refine go_icmp_ge 180 161 dX3_init_158 (by decide) rfl (fun c_1 => ?_) (fun c_1 => absurd (Int32.le_refl _) c_1)
    exact go_less (le_k (le_n le_0)) (kk gr gi R)
  | succ m ih =>
    intro i gr gi hi R
    have hi4 : i < 6 := by omega
    obtain ⟨b, h1, h2, -⟩ := id R
    refine go_iload_n 153 dX3_init_152 rfl rfl (ls_s ls_0) ?_
    refine go_aload_n 154 dX3_init_153 rfl rfl ls_0 ?_
    refine go_getR (a := P) (a1 := P + 4) 157 dX3_init_154 rfl f_X3_31 rfl ⟨by show P < P + 41 + i; omega, by show (SH P).1 = 3; rw [s1]⟩ (by show gr P 6 = _; rw [h2.1, (hg 6 (by decide)).1]; rfl) ?_
    refine go_alen (a := P + 4) (len := 6) (t := 27) 158 (v := nI 6) dX3_init_157 rfl ⟨by show P + 4 < P + 41 + i; omega, s5⟩ (by decide) (by decide) rfl ?_
    refine go_icmp_ge 180 161 dX3_init_158 (by decide) rfl (fun c_1 => absurd c_1 (nI_ge hi4 (by decide))) (fun c_1 => ?_)
    refine go_aload_n 162 dX3_init_161 rfl rfl ls_0 ?_
    refine go_getR (a := P) (a1 := P + 4) 165 dX3_init_162 rfl f_X3_31 rfl ⟨by show P < P + 41 + i; omega, by show (SH P).1 = 3; rw [s1]⟩ (by show gr P 6 = _; rw [h2.1, (hg 6 (by decide)).1]; rfl) ?_
    refine go_iload_n 166 dX3_init_165 rfl rfl (ls_s ls_0) ?_
    refine go_new 169 dX3_init_166 rfl okC0 w_34 w_130 w_7 (by show 40 + i + 1 ≤ 46; omega) (by show 175 + 13 * i + 13 ≤ 253; omega) ?_
    refine nw_eqv (v3 i hi4) b ?_
    refine go_dup 170 dX3_init_169 rfl rfl ?_
    refine go_IN (M' := mX0_init) 173 (40 + i + 1) (175 + 13 * i + 13) dX3_init_170 rfl x_X3_48 okX0_init ⟨Nat.le_of_ble_eq_true rfl, Nat.le_of_ble_eq_true rfl⟩ rfl rfl (by show 40 + i + 1 ≤ 46; omega) (by show 175 + 13 * i + 13 ≤ 253; omega) (ct_objB G _ _) rfl rfl (Nat.le_of_ble_eq_true rfl) (fun v h' hv => ?_)
    obtain ⟨rfl, rfl⟩ := hv
    refine go_aast (a := P + 4) (len := 6) (t := 27) (kv := P + 41 + i) (cv := 0) (y := nI i) 174 dX3_init_173 rfl ⟨by show P + 4 < P + 41 + i + 1; omega, s5⟩ (by decide) rfl ⟨by show P + 41 + i < P + 41 + i + 1; omega, by show (SH (P + 41 + i)).1 = 0; rw [v3 i hi4]⟩ (by decide) rfl (vp_in_nI hi4 (by decide)) ?_
    rw [nI_clamp (by omega)]
    refine go_iinc 177 (v := nI (i + 1)) dX3_init_174 rfl (ls_s ls_0) (nI_1 i) (by decide) (st_s st_0) ?_
    refine go_goto 152 dX3_init_177 (by decide) ?_
    refine ih (i + 1) _ _ (by omega) (PlI_4 (PlI_up (n' := P + 41 + i + 1) R (by omega) (by omega) (b.up (by omega)) (fun k hk => ⟨rfl, rfl⟩) (fun k q1 q2 => ?_)) (by omega))
    obtain rfl : k = P + 41 + i := by omega
    exact bt_leaf b (Nat.le_refl _) (by omega) (v3 i hi4) (Or.inr (Or.inr rfl))
