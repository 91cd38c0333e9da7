/-! THE CONSTRUCTORS: recipes -/
section RCP
variable {P : Nat} (hP : isP P) {r : Nat} (hr : r < 4)
theorem sh_R (hP : isP P) (hr : r < 4) : P + 8 + 6 * r + 6 ≤ 341 ∧ SH (P + 8 + 6 * r) = (4, 0) ∧ SH (P + 8 + 6 * r + 1) = (24, 4) ∧ ∀ i, i < 4 → SH (P + 8 + 6 * r + 2 + i) = (6, 0) := (by decide +kernel : ∀ P ∈ plants, ∀ r, r < 4 → P + 8 + 6 * r + 6 ≤ 341 ∧ SH (P + 8 + 6 * r) = (4, 0) ∧ SH (P + 8 + 6 * r + 1) = (24, 4) ∧ ∀ i, i < 4 → SH (P + 8 + 6 * r + 2 + i) = (6, 0)) P hP r hr
theorem gr_R (hP : isP P) (hr : r < 4) : ∀ j, j < 16 → GR (P + 8 + 6 * r) j = (if j = 2 then some (P + 8 + 6 * r + 1) else none) ∧ GR (P + 8 + 6 * r + 1) j = (if j < 4 then some (P + 8 + 6 * r + 2 + j) else none) := (by decide +kernel : ∀ P ∈ plants, ∀ r, r < 4 → ∀ j, j < 16 → GR (P + 8 + 6 * r) j = (if j = 2 then some (P + 8 + 6 * r + 1) else none) ∧ GR (P + 8 + 6 * r + 1) j = (if j < 4 then some (P + 8 + 6 * r + 2 + j) else none)) P hP r hr
end RCP
set_option maxHeartbeats 4000000 in
set_option maxRecDepth 100000 in
theorem lp_newR (G : BcG) {P : Nat} (hP : isP P) {r : Nat} (hr : r < 4) {a : Nat} (ha : a = P + 8 + 6 * r) {gr0 : Nat → Nat → Option Nat} {gi0 : GI} : ∀ (m i : Nat) (gr : Nat → Nat → Option Nat) (gi : GI), i + m = 4 → RcI a i gr0 gi0 gr gi → BGo G mX4_init (KM G mX4_init (a + 1) (pBu a (a + 6) gr0 gi0)) (hq (a + 2 + i) gr gi) (1 + i) (4 + 4 * i) 14 [some (.ref (G.1 + a)), some (.int (nI i))] [] := by
  subst ha
  obtain ⟨s0, s1, s2, s3⟩ := sh_R hP hr
  have hg := gr_R hP hr
  intro m
  induction m with
  | zero =>
    intro i gr gi hi R
    obtain rfl : i = 4 := by omega
    obtain ⟨b, h1, h2, h3, h4, h5⟩ := id R
    refine go_iload_n 15 dX4_init_14 rfl rfl (ls_s ls_0) ?_
    refine go_aload_n 16 dX4_init_15 rfl rfl ls_0 ?_
    refine go_getR (a := P + 8 + 6 * r) (a1 := P + 8 + 6 * r + 1) 19 dX4_init_16 rfl f_X4_11 rfl ⟨by show P + 8 + 6 * r < P + 8 + 6 * r + 2 + 4; omega, by show (SH (P + 8 + 6 * r)).1 = 4; rw [s1]⟩ (by show gr (P + 8 + 6 * r) 2 = _; rw [h2.1, (hg 2 (by decide)).1]; rfl) ?_
    refine go_alen (a := P + 8 + 6 * r + 1) (len := 4) (t := 24) 20 (v := nI 4) dX4_init_19 rfl ⟨by show P + 8 + 6 * r + 1 < P + 8 + 6 * r + 2 + 4; omega, s2⟩ (by decide) (by decide) rfl ?_
    refine go_icmp_ge 42 23 dX4_init_20 (by decide) rfl (fun c_20 => ?_) (fun c_20 => absurd (Int32.le_refl _) c_20)
    refine go_ret_v dX4_init_42 rfl rfl rfl ⟨rfl, gr, gi, rfl, b, h1, fun k q1 q2 => ?_⟩
    by_cases e0 : k = P + 8 + 6 * r
    · subst e0; exact h2
    · by_cases e1 : k = P + 8 + 6 * r + 1
      · subst e1
        refine ⟨?_, ?_⟩
        · funext j
          rw [h3 j]
          by_cases hj : j < 16
          · rw [(hg j hj).2]
          · rw [GR_hi _ j (by omega), if_neg (by omega)]
        · rw [h4, I0_z (fun z => by rw [z] at s2; revert s2; decide) (by rw [s2]; decide) (by rw [s2]; decide)]
      · exact h5 k (by omega) (by omega)
  | succ m ih =>
    intro i gr gi hi R
    have hi4 : i < 4 := by omega
    obtain ⟨b, h1, h2, h3, h4, h5⟩ := id R
    refine go_iload_n 15 dX4_init_14 rfl rfl (ls_s ls_0) ?_
    refine go_aload_n 16 dX4_init_15 rfl rfl ls_0 ?_
    refine go_getR (a := P + 8 + 6 * r) (a1 := P + 8 + 6 * r + 1) 19 dX4_init_16 rfl f_X4_11 rfl ⟨by show P + 8 + 6 * r < P + 8 + 6 * r + 2 + i; omega, by show (SH (P + 8 + 6 * r)).1 = 4; rw [s1]⟩ (by show gr (P + 8 + 6 * r) 2 = _; rw [h2.1, (hg 2 (by decide)).1]; rfl) ?_
    refine go_alen (a := P + 8 + 6 * r + 1) (len := 4) (t := 24) 20 (v := nI 4) dX4_init_19 rfl ⟨by show P + 8 + 6 * r + 1 < P + 8 + 6 * r + 2 + i; omega, s2⟩ (by decide) (by decide) rfl ?_
    refine go_icmp_ge 42 23 dX4_init_20 (by decide) rfl (fun c_20 => absurd c_20 (nI_ge hi4 (by decide))) (fun c_20 => ?_)
    refine go_aload_n 24 dX4_init_23 rfl rfl ls_0 ?_
    refine go_getR (a := P + 8 + 6 * r) (a1 := P + 8 + 6 * r + 1) 27 dX4_init_24 rfl f_X4_11 rfl ⟨by show P + 8 + 6 * r < P + 8 + 6 * r + 2 + i; omega, by show (SH (P + 8 + 6 * r)).1 = 4; rw [s1]⟩ (by show gr (P + 8 + 6 * r) 2 = _; rw [h2.1, (hg 2 (by decide)).1]; rfl) ?_
    refine go_iload_n 28 dX4_init_27 rfl rfl (ls_s ls_0) ?_
    refine go_new 31 dX4_init_28 rfl okC6 w_41 w_43 w_4 (by show 1 + i + 1 ≤ 5; omega) (by show 4 + 4 * i + 4 ≤ 20; omega) ?_
    refine nw_eqv (s3 i hi4) b ?_
    refine go_dup 32 dX4_init_31 rfl rfl ?_
    refine go_IN (M' := mX6_init) 35 (1 + i + 1) (4 + 4 * i + 4) dX4_init_32 rfl x_X4_17 okX6_init ⟨Nat.le_of_ble_eq_true rfl, Nat.le_of_ble_eq_true rfl⟩ rfl rfl (by show 1 + i + 1 ≤ 5; omega) (by show 4 + 4 * i + 4 ≤ 20; omega) (ct_objS G _ _) rfl rfl (Nat.le_of_ble_eq_true rfl) (fun v h' hv => ?_)
    obtain ⟨rfl, rfl⟩ := hv
    refine go_aast (a := P + 8 + 6 * r + 1) (len := 4) (t := 24) (kv := P + 8 + 6 * r + 2 + i) (cv := 6) (y := nI i) 36 dX4_init_35 rfl ⟨by show P + 8 + 6 * r + 1 < P + 8 + 6 * r + 2 + i + 1; omega, s2⟩ (by decide) rfl ⟨by show P + 8 + 6 * r + 2 + i < P + 8 + 6 * r + 2 + i + 1; omega, by show (SH (P + 8 + 6 * r + 2 + i)).1 = 6; rw [s3 i hi4]⟩ (by decide) rfl (vp_in_nI hi4 (by decide)) ?_
    rw [nI_clamp (by omega)]
    refine go_iinc 39 (v := nI (i + 1)) dX4_init_36 rfl (ls_s ls_0) (nI_1 i) (by decide) (st_s st_0) ?_
    refine go_goto 14 dX4_init_39 (by decide) ?_
    exact ih (i + 1) _ _ (by omega) (RcI_s R (by omega) (s3 i hi4))
set_option maxHeartbeats 4000000 in
set_option maxRecDepth 100000 in
theorem ct_newR (G : BcG) {P : Nat} (hP : isP P) {r : Nat} (hr : r < 4) {a : Nat} (ha : a = P + 8 + 6 * r) {gr : Nat → Nat → Option Nat} {gi : GI} (b : Bl a gr gi) : Ct G mX4_init [.ref (G.1 + a)] (hq (a + 1) gr gi) (pBu a (a + 6) gr gi) := by
  subst ha
  obtain ⟨s0, s1, s2, s3⟩ := sh_R hP hr
  have hg := gr_R hP hr
  obtain ⟨b1, b2⟩ := b (P + 8 + 6 * r) (Nat.le_refl _)
  obtain ⟨b3, b4⟩ := b (P + 8 + 6 * r + 1) (by omega)
  refine ct_of [some (.ref (G.1 + (P + 8 + 6 * r))), none] w_3 (by decide) rfl (Nat.le_of_ble_eq_true rfl) rfl ?_
  refine go_aload_n 1 dX4_init_0 rfl rfl ls_0 ?_
  refine go_objInit 4 dX4_init_1 rfl w_40 w_20 w_21 (Nat.le_of_ble_eq_true rfl) (Nat.le_of_ble_eq_true rfl) ?_
  refine go_aload_n 5 dX4_init_4 rfl rfl ls_0 ?_
  refine go_iconst 6 (v := 4) dX4_init_5 rfl (by decide) ?_
  refine go_newQ (t := 24) (len := 4) 9 dX4_init_6 rfl (by decide) rfl w_41 (by decide) rfl (by decide) (Nat.le_of_ble_eq_true rfl) (Nat.le_of_ble_eq_true rfl) ?_
  refine nw_eqv s2 (b.up (by omega)) ?_
  refine go_putF (a := P + 8 + 6 * r) (kv := P + 8 + 6 * r + 1) 12 dX4_init_9 rfl f_X4_11 rfl ⟨by show P + 8 + 6 * r < P + 8 + 6 * r + 1 + 1; omega, by show (SH (P + 8 + 6 * r)).1 = 4; rw [s1]⟩ rfl rfl rfl rfl ?_
  refine go_iconst 13 (v := 0) dX4_init_12 rfl (by decide) ?_
  refine go_istore_n 14 dX4_init_13 rfl rfl (by decide) (st_s st_0) ?_
  refine lp_newR G hP hr rfl 4 0 (sR gr (P + 8 + 6 * r) 2 (P + 8 + 6 * r + 1)) gi rfl ⟨(b.up (by omega)).sR (by omega), fun k hk => ⟨by rw [sR_row (by omega)], rfl⟩, ⟨?_, ?_⟩, fun j => ?_, b4, fun k q1 q2 => by omega⟩
  · funext j
    by_cases e : j = 2
    · subst e
      rw [sR_eq, (hg 2 (by decide)).1]; rfl
    · rw [sR_ne (by omega), b1]
      by_cases hj : j < 16
      · rw [(hg j hj).1, if_neg e]
      · rw [GR_hi _ j (by omega)]
  · rw [b2, I0_z (fun z => by rw [z] at s1; revert s1; decide) (by rw [s1]; decide) (by rw [s1]; decide)]
  · rw [sR_row (by omega), b3, if_neg (Nat.not_lt_zero _)]
