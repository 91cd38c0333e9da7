/-! THE CONSTRUCTORS: the history -/
def HsI (i : Nat) (gr0 : Nat → Nat → Option Nat) (gi0 : GI) (gr : Nat → Nat → Option Nat) (gi : GI) : Prop :=
  Bl (97 + 47 * i) gr gi ∧ (∀ k, k < 95 → gr k = gr0 k ∧ gi k = gi0 k) ∧ Bt gr gi 95 ∧ (∀ j, gr 96 j = if j < i then some (97 + 47 * j) else none) ∧ gi 96 = (fun _ => 0) ∧ ∀ k, 97 ≤ k → k < 97 + 47 * i → Bt gr gi k
theorem HsI_s {i : Nat} {gr0 gr gr' : Nat → Nat → Option Nat} {gi0 gi gi' : GI} (h : HsI i gr0 gi0 gr gi) (b : Bl (97 + 47 * i + 47) gr' gi') (e : ∀ k, k < 97 + 47 * i → gr' k = gr k ∧ gi' k = gi k) (t : ∀ k, 97 + 47 * i ≤ k → k < 97 + 47 * i + 47 → Bt gr' gi' k) : HsI (i + 1) gr0 gi0 (sR gr' 96 i (97 + 47 * i)) gi' := by
  obtain ⟨h0, h1, ⟨h2, h2'⟩, h3, h4, h5⟩ := h
  refine ⟨Bl.sR (b.up (by omega)) (by omega), fun k hk => ⟨by rw [sR_row (by omega), (e k (by omega)).1]; exact (h1 k hk).1, by rw [(e k (by omega)).2]; exact (h1 k hk).2⟩, ⟨by rw [sR_row (by omega), (e 95 (by omega)).1]; exact h2, by rw [(e 95 (by omega)).2]; exact h2'⟩, fun j => ?_, by rw [(e 96 (by omega)).2]; exact h4, fun k q1 q2 => ?_⟩
  · rw [sR_at]
    exact if_st (f := fun j => 97 + 47 * j) (fun j => by rw [(e 96 (by omega)).1]; exact h3 j)
  · by_cases q : k < 97 + 47 * i
    · obtain ⟨t1, t2⟩ := h5 k q1 q
      exact ⟨by rw [sR_row (by omega), (e k q).1]; exact t1, by rw [(e k q).2]; exact t2⟩
    · obtain ⟨t1, t2⟩ := t k (by omega) (by omega)
      exact ⟨by rw [sR_row (by omega)]; exact t1, t2⟩
theorem gr_H : ∀ j, j < 16 → GR 95 j = (if j = 0 then some 96 else none) ∧ GR 96 j = (if j < 5 then some (97 + 47 * j) else none) := by decide +kernel
set_option maxHeartbeats 4000000 in
set_option maxRecDepth 100000 in
theorem lp_newH (G : BcG) {gr0 : Nat → Nat → Option Nat} {gi0 : GI} : ∀ (m i : Nat) (gr : Nat → Nat → Option Nat) (gi : GI), i + m = 5 → HsI i gr0 gi0 gr gi → BGo G mX1_init (KM G mX1_init 96 (pBu 95 332 gr0 gi0)) (hq (97 + 47 * i) gr gi) (1 + 47 * i) (5 + 269 * i) 14 [some (.ref (G.1 + 95)), some (.int (nI i))] [] := by
  intro m
  induction m with
  | zero =>
    intro i gr gi hi R
    obtain rfl : i = 5 := by omega
    obtain ⟨b, h1, h2, h3, h4, h5⟩ := id R
    refine go_iload_n 15 dX1_init_14 rfl rfl (ls_s ls_0) ?_
    refine go_aload_n 16 dX1_init_15 rfl rfl ls_0 ?_
    refine go_getR (a := 95) (a1 := 96) 19 dX1_init_16 rfl f_X1_11 rfl ⟨by show 95 < 97 + 47 * 5; omega, rfl⟩ (by show gr 95 0 = _; rw [h2.1]; rfl) ?_
    refine go_alen (a := 96) (len := 5) (t := 22) 20 (v := nI 5) dX1_init_19 rfl ⟨by show 96 < 97 + 47 * 5; omega, rfl⟩ (by decide) (by decide) rfl ?_
    refine go_icmp_ge 42 23 dX1_init_20 (by decide) rfl (fun c_20 => ?_) (fun c_20 => absurd (Int32.le_refl _) c_20)
    refine go_ret_v dX1_init_42 rfl rfl rfl ⟨rfl, gr, gi, rfl, b, h1, fun k q1 q2 => ?_⟩
    by_cases e0 : k = 95
    · subst e0; exact h2
    · by_cases e1 : k = 96
      · subst e1
        exact ⟨fn_eq (fun j hj => by rw [h3 j, (gr_H j hj).2]) (fun j hj => by rw [h3 j, if_neg (by omega)]) (fun j hj => GR_hi _ j hj), by rw [h4]; exact (i0_z _ (by decide) (by decide) (by decide) (by decide) (by decide)).symm⟩
      · exact h5 k (by omega) (by omega)
  | succ m ih =>
    intro i gr gi hi R
    have hi4 : i < 5 := by omega
    have hPi : isP (97 + 47 * i) := isH hi4
    have hsh := (sh_P hPi).2.1
    obtain ⟨b, h1, h2, h3, h4, h5⟩ := id R
    refine go_iload_n 15 dX1_init_14 rfl rfl (ls_s ls_0) ?_
    refine go_aload_n 16 dX1_init_15 rfl rfl ls_0 ?_
    refine go_getR (a := 95) (a1 := 96) 19 dX1_init_16 rfl f_X1_11 rfl ⟨by show 95 < 97 + 47 * i; omega, rfl⟩ (by show gr 95 0 = _; rw [h2.1]; rfl) ?_
    refine go_alen (a := 96) (len := 5) (t := 22) 20 (v := nI 5) dX1_init_19 rfl ⟨by show 96 < 97 + 47 * i; omega, rfl⟩ (by decide) (by decide) rfl ?_
    refine go_icmp_ge 42 23 dX1_init_20 (by decide) rfl (fun c_20 => absurd c_20 (nI_ge hi4 (by decide))) (fun c_20 => ?_)
    refine go_aload_n 24 dX1_init_23 rfl rfl ls_0 ?_
    refine go_getR (a := 95) (a1 := 96) 27 dX1_init_24 rfl f_X1_11 rfl ⟨by show 95 < 97 + 47 * i; omega, rfl⟩ (by show gr 95 0 = _; rw [h2.1]; rfl) ?_
    refine go_iload_n 28 dX1_init_27 rfl rfl (ls_s ls_0) ?_
    refine go_new 31 dX1_init_28 rfl okC3 w_247 w_23 w_2 (by show 1 + 47 * i + 1 ≤ 236; omega) (by show 5 + 269 * i + 16 ≤ 1350; omega) ?_
    refine nw_eqv hsh b ?_
    refine go_dup 32 dX1_init_31 rfl rfl ?_
    refine go_I (M' := mX3_init) 35 (1 + 47 * i + 1 + 46) (5 + 269 * i + 16 + 253) dX1_init_32 rfl w_249 okX3_init ⟨Nat.le_of_ble_eq_true rfl, Nat.le_of_ble_eq_true rfl⟩ rfl rfl (by show 1 + 47 * i + 1 + 46 ≤ 236; omega) (by show 5 + 269 * i + 16 + 253 ≤ 1350; omega) (ct_newP G hPi b) rfl rfl (Nat.le_of_ble_eq_true rfl) (fun v h' hv => ?_)
    obtain ⟨rfl, gr2, gi2, rfl, b2, e, t⟩ := hv
    refine go_aast (a := 96) (len := 5) (t := 22) (kv := 97 + 47 * i) (cv := 3) (y := nI i) 36 dX1_init_35 rfl ⟨by show 96 < 97 + 47 * i + 47; omega, rfl⟩ (by decide) rfl ⟨by show 97 + 47 * i < 97 + 47 * i + 47; omega, by show (SH (97 + 47 * i)).1 = 3; rw [hsh]⟩ (by decide) rfl (vp_in_nI hi4 (by decide)) ?_
    rw [nI_clamp (by omega)]
    refine go_iinc 39 (v := nI (i + 1)) dX1_init_36 rfl (ls_s ls_0) (nI_1 i) (by decide) (st_s st_0) ?_
    refine go_goto 14 dX1_init_39 (by decide) ?_
    exact ih (i + 1) _ _ (by omega) (HsI_s R b2 e t)
set_option maxHeartbeats 4000000 in
set_option maxRecDepth 100000 in
theorem ct_newH (G : BcG) {gr : Nat → Nat → Option Nat} {gi : GI} (b : Bl 95 gr gi) : Ct G mX1_init [.ref (G.1 + 95)] (hq 96 gr gi) (pBu 95 332 gr gi) := by
  obtain ⟨b1, b2⟩ := b 95 (Nat.le_refl _)
  obtain ⟨b3, b4⟩ := b 96 (by omega)
  refine ct_of [some (.ref (G.1 + 95)), none] w_8 (by decide) rfl (Nat.le_of_ble_eq_true rfl) rfl ?_
  refine go_aload_n 1 dX1_init_0 rfl rfl ls_0 ?_
  refine go_objInit 4 dX1_init_1 rfl w_246 w_20 w_21 (Nat.le_of_ble_eq_true rfl) (Nat.le_of_ble_eq_true rfl) ?_
  refine go_aload_n 5 dX1_init_4 rfl rfl ls_0 ?_
  refine go_iconst 6 (v := 5) dX1_init_5 rfl (by decide) ?_
  refine go_newQ (t := 22) (len := 5) 9 dX1_init_6 rfl (by decide) rfl w_247 (by decide) rfl (by decide) (Nat.le_of_ble_eq_true rfl) (Nat.le_of_ble_eq_true rfl) ?_
  refine nw_eqv (m := 96) rfl (b.up (by omega)) ?_
  refine go_putF (a := 95) (kv := 96) 12 dX1_init_9 rfl f_X1_11 rfl ⟨by show 95 < 97; omega, rfl⟩ rfl rfl rfl rfl ?_
  refine go_iconst 13 (v := 0) dX1_init_12 rfl (by decide) ?_
  refine go_istore_n 14 dX1_init_13 rfl rfl (by decide) (st_s st_0) ?_
  refine lp_newH G 5 0 (sR gr 95 0 96) gi rfl ⟨(b.up (by omega)).sR (by omega), fun k hk => ⟨by rw [sR_row (by omega)], rfl⟩, ⟨?_, ?_⟩, fun j => by rw [sR_row (by omega), b3, if_neg (Nat.not_lt_zero _)], b4, fun k q1 q2 => by omega⟩
  · refine fn_eq (fun j hj => ?_) (fun j hj => ?_) (fun j hj => GR_hi _ j hj)
    · rw [sR_at, b1, (gr_H j hj).1]
    · rw [sR_at, b1, if_neg (by omega)]
  · rw [b2]; exact (i0_z _ (by decide) (by decide) (by decide) (by decide) (by decide)).symm
