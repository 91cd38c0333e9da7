/-! PLANTS: copied whole -/
theorem apart {P Q : Nat} (hP : isP P) (hQ : isP Q) (h : P ≠ Q) : P + 47 ≤ Q ∨ Q + 47 ≤ P := (by decide +kernel : ∀ P ∈ plants, ∀ Q ∈ plants, P ≠ Q → P + 47 ≤ Q ∨ Q + 47 ≤ P) P hP Q hQ h
def need (r j : Nat) : Prop := (r = 0 ∧ (j = 1 ∨ j = 3 ∨ j = 5 ∨ (10 ≤ j ∧ j ≤ 15))) ∨ (r = 5 ∧ j < 16) ∨ (r = 6 ∧ j < 2) ∨ (r = 7 ∧ j < 4) ∨ (8 ≤ r ∧ r < 32 ∧ (r - 8) % 6 = 0 ∧ j < 2) ∨ (8 ≤ r ∧ r < 32 ∧ 2 ≤ (r - 8) % 6 ∧ j < 4) ∨ (32 ≤ r ∧ r < 38 ∧ j < 5) ∨ (38 ≤ r ∧ r < 41 ∧ j < 4) ∨ (41 ≤ r ∧ r < 47 ∧ j < 13)
def cpI (P Q : Nat) (g0 gi : GI) (lim : Nat) : Prop := (∀ r j, need r j → 8 ≤ r → r < lim → gi (P + r) j = g0 (Q + r) j) ∧ ∀ k, k < P ∨ P + 47 ≤ k → gi k = g0 k
theorem cpI_step {P Q : Nat} {g0 gi : GI} {lim n k q : Nat} (h : cpI P Q g0 gi lim) (hk : k = P + lim) (hq : q = Q + lim) (hA : P + 47 ≤ Q ∨ Q + 47 ≤ P) (hl : lim < 47) (hn : ∀ j, need lim j → j < n) : cpI P Q g0 (cpC gi k q n) (lim + 1) := by
  subst hk
  subst hq
  refine ⟨fun r j hr h1 h2 => ?_, fun a ha => by rw [cpC_ne (by omega)]; exact h.2 a ha⟩
  by_cases e : r = lim
  · subst e
    rw [cpC_eq (hn j hr), h.2 _ (by omega)]
  · rw [cpC_ne (by omega)]
    exact h.1 r j hr h1 (by omega)
theorem cpI_skip {P Q : Nat} {g0 gi : GI} {lim : Nat} (h : cpI P Q g0 gi lim) (hn : ∀ j, ¬ need lim j) : cpI P Q g0 gi (lim + 1) := by
  refine ⟨fun r j hr h1 h2 => ?_, h.2⟩
  by_cases e : r = lim
  · subst e
    exact absurd hr (hn j)
  · exact h.1 r j hr h1 (by omega)
theorem cpI_0 (P Q : Nat) (g0 : GI) : cpI P Q g0 g0 8 := ⟨fun r j _ h1 h2 => by omega, fun _ _ => rfl⟩
theorem rel_copy {P Q : Nat} {A : AA} {gi g' : GI} (h : Rel Q A gi) (e : ∀ r j, need r j → g' (P + r) j = gi (Q + r) j) : Rel P A g' := by
  obtain ⟨hS, hR, hV, hL, hB, hT⟩ := h
  have e0 : ∀ j, need 0 j → g' P j = gi Q j := fun j hj => e 0 j hj
  refine ⟨?_, fun r hr => ?_, fun v hv => ?_, fun k hk => ?_, fun b hb => ?_, fun i hi => ?_, ?_, ?_, fun i hi => ?_⟩
  · unfold RelS at *
    rw [e0 1 (by unfold need; omega), e0 3 (by unfold need; omega), e0 5 (by unfold need; omega), e0 10 (by unfold need; omega), e0 11 (by unfold need; omega), e0 12 (by unfold need; omega), e0 13 (by unfold need; omega), e0 14 (by unfold need; omega), e0 15 (by unfold need; omega)]
    exact hS
  · obtain ⟨h1, h2, h3⟩ := hR r hr
    rw [Nat.add_assoc P, e _ _ (by unfold need; omega), e _ _ (by unfold need; omega), ← Nat.add_assoc]
    refine ⟨h1, h2, fun k hk => ?_⟩
    have q := h3 k hk
    rw [show P + 10 + 6 * r + k = P + (10 + 6 * r + k) by omega, e _ _ (by unfold need; omega), e _ _ (by unfold need; omega), e _ _ (by unfold need; omega), e _ _ (by unfold need; omega), show Q + (10 + 6 * r + k) = Q + 10 + 6 * r + k by omega]
    exact q
  · have q := hV v hv
    rw [Nat.add_assoc P, e _ _ (by unfold need; omega), e _ _ (by unfold need; omega), e _ _ (by unfold need; omega), e _ _ (by unfold need; omega), e _ _ (by unfold need; omega), ← Nat.add_assoc]
    exact q
  · have q := hL k hk
    rw [Nat.add_assoc P, e _ _ (by unfold need; omega), e _ _ (by unfold need; omega), e _ _ (by unfold need; omega), e _ _ (by unfold need; omega), ← Nat.add_assoc]
    exact q
  · have q := hB b hb
    unfold RelB1 at *
    rw [Nat.add_assoc P, e _ 0 (by unfold need; omega), e _ 1 (by unfold need; omega), e _ 2 (by unfold need; omega), e _ 3 (by unfold need; omega), e _ 4 (by unfold need; omega), e _ 5 (by unfold need; omega), e _ 6 (by unfold need; omega), e _ 7 (by unfold need; omega), e _ 8 (by unfold need; omega), e _ 9 (by unfold need; omega), e _ 10 (by unfold need; omega), e _ 11 (by unfold need; omega), e _ 12 (by unfold need; omega), ← Nat.add_assoc]
    exact q
  · rw [e 5 i (by unfold need; omega)]; exact hT.1 i hi
  · rw [e 6 0 (by unfold need; omega)]; exact hT.2.1
  · rw [e 6 1 (by unfold need; omega)]; exact hT.2.2.1
  · rw [e 7 i (by unfold need; omega)]; exact hT.2.2.2 i hi
theorem zb_copy {P Q : Nat} {gi g' : GI} (h : Zb Q gi) (e : ∀ r j, need r j → g' (P + r) j = gi (Q + r) j) : Zb P g' := by
  intro b hb
  rw [Nat.add_assoc P, e _ 6 (by unfold need; omega), ← Nat.add_assoc]
  exact h b hb
set_option maxHeartbeats 4000000 in
set_option maxRecDepth 100000 in
theorem ct_cpRecipe (G : BcG) (gi : GI) {P Q : Nat} (hP : isP P) (hQ : isP Q) (hA : P + 47 ≤ Q ∨ Q + 47 ≤ P) {i : Nat} (hi : i < 4) : Ct G mX4_copyFrom [.ref (G.1 + (P + 8 + 6 * i)), .ref (G.1 + (Q + 8 + 6 * i))] (hp gi) (pV (hp (cpC (cpC (cpC (cpC (cpC gi (P + 8 + 6 * i) (Q + 8 + 6 * i) 2) (P + 10 + 6 * i + 0) (Q + 10 + 6 * i + 0) 4) (P + 10 + 6 * i + 1) (Q + 10 + 6 * i + 1) 4) (P + 10 + 6 * i + 2) (Q + 10 + 6 * i + 2) 4) (P + 10 + 6 * i + 3) (Q + 10 + 6 * i + 3) 4))) := by
  refine ct_of [some (.ref (G.1 + (P + 8 + 6 * i))), some (.ref (G.1 + (Q + 8 + 6 * i))), none] w_3 (by decide) rfl (Nat.le_of_ble_eq_true rfl) rfl ?_
  refine go_aload_n 1 dX4_copyFrom_0 rfl rfl ls_0 ?_
  refine go_aload_n 2 dX4_copyFrom_1 rfl rfl (ls_s ls_0) ?_
  refine gp_getI 5 dX4_copyFrom_2 rfl f_X4_18 rfl (tR hQ hi) ?_
  refine gp_putI 8 dX4_copyFrom_5 rfl f_X4_18 rfl (tR hP hi) rfl rfl ?_
  refine go_aload_n 9 dX4_copyFrom_8 rfl rfl ls_0 ?_
  refine go_aload_n 10 dX4_copyFrom_9 rfl rfl (ls_s ls_0) ?_
  refine gp_getI 13 dX4_copyFrom_10 rfl f_X4_22 rfl (tR hQ hi) ?_
  refine go_top (y := (gi (Q + 8 + 6 * i) 1)) (by simp (disch := omega) only [wI_ne, wI_eq]) ?_
  refine gp_putI 16 dX4_copyFrom_13 rfl f_X4_22 rfl (tR hP hi) rfl rfl ?_
  refine go_iconst 17 (v := 0) dX4_copyFrom_16 rfl (by decide) ?_
  refine go_istore_n 18 dX4_copyFrom_17 rfl rfl (by decide) (st_s (st_s st_0)) ?_
  refine go_iload_n 19 dX4_copyFrom_18 rfl rfl (ls_s (ls_s ls_0)) ?_
  refine go_aload_n 20 dX4_copyFrom_19 rfl rfl ls_0 ?_
  refine gp_getR 23 dX4_copyFrom_20 rfl f_X4_11 rfl (tR hP hi) (rK hP hi) ?_
  refine gp_alen 24 (v := nI 4) dX4_copyFrom_23 rfl (aK hP hi) (by decide) (by decide) rfl ?_
  refine go_icmp_ge 57 27 dX4_copyFrom_24 (by decide) rfl (fun c_24 => absurd c_24 (by decide)) (fun c_24 => ?_)
  refine go_iload_n 28 dX4_copyFrom_27 rfl rfl (ls_s (ls_s ls_0)) ?_
  refine go_aload_n 29 dX4_copyFrom_28 rfl rfl (ls_s ls_0) ?_
  refine gp_getR 32 dX4_copyFrom_29 rfl f_X4_11 rfl (tR hQ hi) (rK hQ hi) ?_
  refine gp_alen 33 (v := nI 4) dX4_copyFrom_32 rfl (aK hQ hi) (by decide) (by decide) rfl ?_
  refine go_icmp_ge 57 36 dX4_copyFrom_33 (by decide) rfl (fun c_33 => absurd c_33 (by decide)) (fun c_33 => ?_)
  refine go_aload_n 37 dX4_copyFrom_36 rfl rfl ls_0 ?_
  refine gp_getR 40 dX4_copyFrom_37 rfl f_X4_11 rfl (tR hP hi) (rK hP hi) ?_
  refine go_iload_n 41 dX4_copyFrom_40 rfl rfl (ls_s (ls_s ls_0)) ?_
  refine gp_aald 42 (i := 0) dX4_copyFrom_41 rfl (aK hP hi) (by decide) rfl rfl (by decide) (by decide) (rKi hP hi (by decide)) ?_
  refine go_aload_n 43 dX4_copyFrom_42 rfl rfl (ls_s ls_0) ?_
  refine gp_getR 46 dX4_copyFrom_43 rfl f_X4_11 rfl (tR hQ hi) (rK hQ hi) ?_
  refine go_iload_n 47 dX4_copyFrom_46 rfl rfl (ls_s (ls_s ls_0)) ?_
  refine gp_aald 48 (i := 0) dX4_copyFrom_47 rfl (aK hQ hi) (by decide) rfl rfl (by decide) (by decide) (rKi hQ hi (by decide)) ?_
  refine go_VN (M' := mX6_copyFrom) 51 dX4_copyFrom_48 rfl w_330 okX6_copyFrom ⟨Nat.le_of_ble_eq_true rfl, Nat.le_of_ble_eq_true rfl⟩ (ct_cpStage G (wI (wI gi (P + 8 + 6 * i) 0 (gi (Q + 8 + 6 * i) 0)) (P + 8 + 6 * i) 1 (gi (Q + 8 + 6 * i) 1)) _ _ (tS hP hi (by decide)) (tS hQ hi (by decide)) (by omega)) rfl rfl (tS hP hi (by decide)) (by decide) rfl (kk := ?_)
  refine go_iinc 54 (v := 1) dX4_copyFrom_51 rfl (ls_s (ls_s ls_0)) (by decide) (by decide) (st_s (st_s st_0)) ?_
  refine go_goto 18 dX4_copyFrom_54 (by decide) ?_
  refine go_iload_n 19 dX4_copyFrom_18 rfl rfl (ls_s (ls_s ls_0)) ?_
  refine go_aload_n 20 dX4_copyFrom_19 rfl rfl ls_0 ?_
  refine gp_getR 23 dX4_copyFrom_20 rfl f_X4_11 rfl (tR hP hi) (rK hP hi) ?_
  refine gp_alen 24 (v := nI 4) dX4_copyFrom_23 rfl (aK hP hi) (by decide) (by decide) rfl ?_
  refine go_icmp_ge 57 27 dX4_copyFrom_24 (by decide) rfl (fun c_24 => absurd c_24 (by decide)) (fun c_24 => ?_)
  refine go_iload_n 28 dX4_copyFrom_27 rfl rfl (ls_s (ls_s ls_0)) ?_
  refine go_aload_n 29 dX4_copyFrom_28 rfl rfl (ls_s ls_0) ?_
  refine gp_getR 32 dX4_copyFrom_29 rfl f_X4_11 rfl (tR hQ hi) (rK hQ hi) ?_
  refine gp_alen 33 (v := nI 4) dX4_copyFrom_32 rfl (aK hQ hi) (by decide) (by decide) rfl ?_
  refine go_icmp_ge 57 36 dX4_copyFrom_33 (by decide) rfl (fun c_33 => absurd c_33 (by decide)) (fun c_33 => ?_)
  refine go_aload_n 37 dX4_copyFrom_36 rfl rfl ls_0 ?_
  refine gp_getR 40 dX4_copyFrom_37 rfl f_X4_11 rfl (tR hP hi) (rK hP hi) ?_
  refine go_iload_n 41 dX4_copyFrom_40 rfl rfl (ls_s (ls_s ls_0)) ?_
  refine gp_aald 42 (i := 1) dX4_copyFrom_41 rfl (aK hP hi) (by decide) rfl rfl (by decide) (by decide) (rKi hP hi (by decide)) ?_
  refine go_aload_n 43 dX4_copyFrom_42 rfl rfl (ls_s ls_0) ?_
  refine gp_getR 46 dX4_copyFrom_43 rfl f_X4_11 rfl (tR hQ hi) (rK hQ hi) ?_
  refine go_iload_n 47 dX4_copyFrom_46 rfl rfl (ls_s (ls_s ls_0)) ?_
  refine gp_aald 48 (i := 1) dX4_copyFrom_47 rfl (aK hQ hi) (by decide) rfl rfl (by decide) (by decide) (rKi hQ hi (by decide)) ?_
  refine go_VN (M' := mX6_copyFrom) 51 dX4_copyFrom_48 rfl w_330 okX6_copyFrom ⟨Nat.le_of_ble_eq_true rfl, Nat.le_of_ble_eq_true rfl⟩ (ct_cpStage G (cpC (wI (wI gi (P + 8 + 6 * i) 0 (gi (Q + 8 + 6 * i) 0)) (P + 8 + 6 * i) 1 (gi (Q + 8 + 6 * i) 1)) (P + 10 + 6 * i + 0) (Q + 10 + 6 * i + 0) 4) _ _ (tS hP hi (by decide)) (tS hQ hi (by decide)) (by omega)) rfl rfl (tS hP hi (by decide)) (by decide) rfl (kk := ?_)
  refine go_iinc 54 (v := 2) dX4_copyFrom_51 rfl (ls_s (ls_s ls_0)) (by decide) (by decide) (st_s (st_s st_0)) ?_
  refine go_goto 18 dX4_copyFrom_54 (by decide) ?_
  refine go_iload_n 19 dX4_copyFrom_18 rfl rfl (ls_s (ls_s ls_0)) ?_
  refine go_aload_n 20 dX4_copyFrom_19 rfl rfl ls_0 ?_
  refine gp_getR 23 dX4_copyFrom_20 rfl f_X4_11 rfl (tR hP hi) (rK hP hi) ?_
  refine gp_alen 24 (v := nI 4) dX4_copyFrom_23 rfl (aK hP hi) (by decide) (by decide) rfl ?_
  refine go_icmp_ge 57 27 dX4_copyFrom_24 (by decide) rfl (fun c_24 => absurd c_24 (by decide)) (fun c_24 => ?_)
  refine go_iload_n 28 dX4_copyFrom_27 rfl rfl (ls_s (ls_s ls_0)) ?_
  refine go_aload_n 29 dX4_copyFrom_28 rfl rfl (ls_s ls_0) ?_
  refine gp_getR 32 dX4_copyFrom_29 rfl f_X4_11 rfl (tR hQ hi) (rK hQ hi) ?_
  refine gp_alen 33 (v := nI 4) dX4_copyFrom_32 rfl (aK hQ hi) (by decide) (by decide) rfl ?_
  refine go_icmp_ge 57 36 dX4_copyFrom_33 (by decide) rfl (fun c_33 => absurd c_33 (by decide)) (fun c_33 => ?_)
  refine go_aload_n 37 dX4_copyFrom_36 rfl rfl ls_0 ?_
  refine gp_getR 40 dX4_copyFrom_37 rfl f_X4_11 rfl (tR hP hi) (rK hP hi) ?_
  refine go_iload_n 41 dX4_copyFrom_40 rfl rfl (ls_s (ls_s ls_0)) ?_
  refine gp_aald 42 (i := 2) dX4_copyFrom_41 rfl (aK hP hi) (by decide) rfl rfl (by decide) (by decide) (rKi hP hi (by decide)) ?_
  refine go_aload_n 43 dX4_copyFrom_42 rfl rfl (ls_s ls_0) ?_
  refine gp_getR 46 dX4_copyFrom_43 rfl f_X4_11 rfl (tR hQ hi) (rK hQ hi) ?_
  refine go_iload_n 47 dX4_copyFrom_46 rfl rfl (ls_s (ls_s ls_0)) ?_
  refine gp_aald 48 (i := 2) dX4_copyFrom_47 rfl (aK hQ hi) (by decide) rfl rfl (by decide) (by decide) (rKi hQ hi (by decide)) ?_
  refine go_VN (M' := mX6_copyFrom) 51 dX4_copyFrom_48 rfl w_330 okX6_copyFrom ⟨Nat.le_of_ble_eq_true rfl, Nat.le_of_ble_eq_true rfl⟩ (ct_cpStage G (cpC (cpC (wI (wI gi (P + 8 + 6 * i) 0 (gi (Q + 8 + 6 * i) 0)) (P + 8 + 6 * i) 1 (gi (Q + 8 + 6 * i) 1)) (P + 10 + 6 * i + 0) (Q + 10 + 6 * i + 0) 4) (P + 10 + 6 * i + 1) (Q + 10 + 6 * i + 1) 4) _ _ (tS hP hi (by decide)) (tS hQ hi (by decide)) (by omega)) rfl rfl (tS hP hi (by decide)) (by decide) rfl (kk := ?_)
  refine go_iinc 54 (v := 3) dX4_copyFrom_51 rfl (ls_s (ls_s ls_0)) (by decide) (by decide) (st_s (st_s st_0)) ?_
  refine go_goto 18 dX4_copyFrom_54 (by decide) ?_
  refine go_iload_n 19 dX4_copyFrom_18 rfl rfl (ls_s (ls_s ls_0)) ?_
  refine go_aload_n 20 dX4_copyFrom_19 rfl rfl ls_0 ?_
  refine gp_getR 23 dX4_copyFrom_20 rfl f_X4_11 rfl (tR hP hi) (rK hP hi) ?_
  refine gp_alen 24 (v := nI 4) dX4_copyFrom_23 rfl (aK hP hi) (by decide) (by decide) rfl ?_
  refine go_icmp_ge 57 27 dX4_copyFrom_24 (by decide) rfl (fun c_24 => absurd c_24 (by decide)) (fun c_24 => ?_)
  refine go_iload_n 28 dX4_copyFrom_27 rfl rfl (ls_s (ls_s ls_0)) ?_
  refine go_aload_n 29 dX4_copyFrom_28 rfl rfl (ls_s ls_0) ?_
  refine gp_getR 32 dX4_copyFrom_29 rfl f_X4_11 rfl (tR hQ hi) (rK hQ hi) ?_
  refine gp_alen 33 (v := nI 4) dX4_copyFrom_32 rfl (aK hQ hi) (by decide) (by decide) rfl ?_
  refine go_icmp_ge 57 36 dX4_copyFrom_33 (by decide) rfl (fun c_33 => absurd c_33 (by decide)) (fun c_33 => ?_)
  refine go_aload_n 37 dX4_copyFrom_36 rfl rfl ls_0 ?_
  refine gp_getR 40 dX4_copyFrom_37 rfl f_X4_11 rfl (tR hP hi) (rK hP hi) ?_
  refine go_iload_n 41 dX4_copyFrom_40 rfl rfl (ls_s (ls_s ls_0)) ?_
  refine gp_aald 42 (i := 3) dX4_copyFrom_41 rfl (aK hP hi) (by decide) rfl rfl (by decide) (by decide) (rKi hP hi (by decide)) ?_
  refine go_aload_n 43 dX4_copyFrom_42 rfl rfl (ls_s ls_0) ?_
  refine gp_getR 46 dX4_copyFrom_43 rfl f_X4_11 rfl (tR hQ hi) (rK hQ hi) ?_
  refine go_iload_n 47 dX4_copyFrom_46 rfl rfl (ls_s (ls_s ls_0)) ?_
  refine gp_aald 48 (i := 3) dX4_copyFrom_47 rfl (aK hQ hi) (by decide) rfl rfl (by decide) (by decide) (rKi hQ hi (by decide)) ?_
  refine go_VN (M' := mX6_copyFrom) 51 dX4_copyFrom_48 rfl w_330 okX6_copyFrom ⟨Nat.le_of_ble_eq_true rfl, Nat.le_of_ble_eq_true rfl⟩ (ct_cpStage G (cpC (cpC (cpC (wI (wI gi (P + 8 + 6 * i) 0 (gi (Q + 8 + 6 * i) 0)) (P + 8 + 6 * i) 1 (gi (Q + 8 + 6 * i) 1)) (P + 10 + 6 * i + 0) (Q + 10 + 6 * i + 0) 4) (P + 10 + 6 * i + 1) (Q + 10 + 6 * i + 1) 4) (P + 10 + 6 * i + 2) (Q + 10 + 6 * i + 2) 4) _ _ (tS hP hi (by decide)) (tS hQ hi (by decide)) (by omega)) rfl rfl (tS hP hi (by decide)) (by decide) rfl (kk := ?_)
  refine go_iinc 54 (v := 4) dX4_copyFrom_51 rfl (ls_s (ls_s ls_0)) (by decide) (by decide) (st_s (st_s st_0)) ?_
  refine go_goto 18 dX4_copyFrom_54 (by decide) ?_
  refine go_iload_n 19 dX4_copyFrom_18 rfl rfl (ls_s (ls_s ls_0)) ?_
  refine go_aload_n 20 dX4_copyFrom_19 rfl rfl ls_0 ?_
  refine gp_getR 23 dX4_copyFrom_20 rfl f_X4_11 rfl (tR hP hi) (rK hP hi) ?_
  refine gp_alen 24 (v := nI 4) dX4_copyFrom_23 rfl (aK hP hi) (by decide) (by decide) rfl ?_
  refine go_icmp_ge 57 27 dX4_copyFrom_24 (by decide) rfl (fun c_24 => ?_) (fun c_24 => absurd c_24 (by decide))
  exact go_ret_v dX4_copyFrom_57 rfl rfl rfl ⟨rfl, rfl⟩
def pCp (P Q : Nat) (g0 : GI) (lim : Nat) : Option Value → BcH → Prop := fun v h' => v = none ∧ ∃ gi, h' = hp gi ∧ cpI P Q g0 gi lim
set_option maxHeartbeats 4000000 in
set_option maxRecDepth 100000 in
theorem lp_cpB (G : BcG) {P Q : Nat} (hP : isP P) (hQ : isP Q) (hA : P + 47 ≤ Q ∨ Q + 47 ≤ P) (g0 : GI) (h0 : ∀ b, b < 6 → g0 (Q + 41 + b) 0 = 0 ∨ g0 (Q + 41 + b) 0 = 1) (h6 : Zb Q g0) : ∀ (n i : Nat) (gi : GI), i + n = 6 → (cpI P Q g0 gi (41 + i)) → BGo G mX3_copyParts (KM G mX3_copyParts 341 (pCp P Q g0 47)) (hp gi) 0 0 125 [some (.ref (G.1 + P)), some (.ref (G.1 + Q)), some (.int (nI i))] [] := by
  intro n
  induction n with
  | zero =>
    intro i gi hn ci
    obtain rfl : i = 6 := by omega
    refine go_iload_n 126 dX3_copyParts_125 rfl rfl (ls_s (ls_s ls_0)) ?_
    refine go_aload_n 127 dX3_copyParts_126 rfl rfl ls_0 ?_
    refine gp_getR 130 dX3_copyParts_127 rfl f_X3_31 rfl (tP hP) (rB hP) ?_
    refine gp_alen 131 (v := nI 6) dX3_copyParts_130 rfl (aB hP) (by decide) (by decide) rfl ?_
    refine go_icmp_ge 164 134 dX3_copyParts_131 (by decide) rfl (fun c_131 => ?_) (fun c_131 => absurd c_131 (by decide))
    exact go_ret_v dX3_copyParts_164 rfl rfl rfl ⟨rfl, _, rfl, ci⟩
  | succ n ih =>
    intro i gi hn ci
    have hi : i < 6 := by omega
    refine go_iload_n 126 dX3_copyParts_125 rfl rfl (ls_s (ls_s ls_0)) ?_
    refine go_aload_n 127 dX3_copyParts_126 rfl rfl ls_0 ?_
    refine gp_getR 130 dX3_copyParts_127 rfl f_X3_31 rfl (tP hP) (rB hP) ?_
    refine gp_alen 131 (v := nI 6) dX3_copyParts_130 rfl (aB hP) (by decide) (by decide) rfl ?_
    refine go_icmp_ge 164 134 dX3_copyParts_131 (by decide) rfl (fun c_131 => absurd c_131 (nI_ge hi (by decide))) (fun c_131 => ?_)
    refine go_iload_n 135 dX3_copyParts_134 rfl rfl (ls_s (ls_s ls_0)) ?_
    refine go_aload_n 136 dX3_copyParts_135 rfl rfl (ls_s ls_0) ?_
    refine gp_getR 139 dX3_copyParts_136 rfl f_X3_31 rfl (tP hQ) (rB hQ) ?_
    refine gp_alen 140 (v := nI 6) dX3_copyParts_139 rfl (aB hQ) (by decide) (by decide) rfl ?_
    refine go_icmp_ge 164 143 dX3_copyParts_140 (by decide) rfl (fun c_140 => absurd c_140 (nI_ge hi (by decide))) (fun c_140 => ?_)
    refine go_aload_n 144 dX3_copyParts_143 rfl rfl ls_0 ?_
    refine gp_getR 147 dX3_copyParts_144 rfl f_X3_31 rfl (tP hP) (rB hP) ?_
    refine go_iload_n 148 dX3_copyParts_147 rfl rfl (ls_s (ls_s ls_0)) ?_
    refine gp_aald 149 (i := i) dX3_copyParts_148 rfl (aB hP) (by decide) rfl rfl hi (by decide) (rBi hP hi) ?_
    refine go_aload_n 150 dX3_copyParts_149 rfl rfl (ls_s ls_0) ?_
    refine gp_getR 153 dX3_copyParts_150 rfl f_X3_31 rfl (tP hQ) (rB hQ) ?_
    refine go_iload_n 154 dX3_copyParts_153 rfl rfl (ls_s (ls_s ls_0)) ?_
    refine gp_aald 155 (i := i) dX3_copyParts_154 rfl (aB hQ) (by decide) rfl rfl hi (by decide) (rBi hQ hi) ?_
    refine go_VN (M' := mX0_copyFrom) 158 dX3_copyParts_155 rfl w_342 okX0_copyFrom ⟨Nat.le_of_ble_eq_true rfl, Nat.le_of_ble_eq_true rfl⟩ (ct_cpBatch G gi _ _ (tB hP hi) (tB hQ hi) (by omega) (by rw [ci.2 _ (by omega)]; exact h0 i hi) (by rw [ci.2 _ (by omega)]; exact h6 i hi)) rfl rfl (tB hP hi) (by decide) rfl (kk := ?_)
    refine go_iinc 161 (v := (nI (i + 1))) dX3_copyParts_158 rfl (ls_s (ls_s ls_0)) (by exact nI_1 i) (by decide) (st_s (st_s st_0)) ?_
    refine go_goto 125 dX3_copyParts_161 (by decide) ?_
    exact ih (i + 1) _ (by omega) (cpI_step (lim := 41 + i) ci (by omega) (by omega) hA (by omega) (fun j hj => by unfold need at hj; omega))
set_option maxHeartbeats 4000000 in
set_option maxRecDepth 100000 in
theorem lp_cpL (G : BcG) {P Q : Nat} (hP : isP P) (hQ : isP Q) (hA : P + 47 ≤ Q ∨ Q + 47 ≤ P) (g0 : GI) (h0 : ∀ b, b < 6 → g0 (Q + 41 + b) 0 = 0 ∨ g0 (Q + 41 + b) 0 = 1) (h6 : Zb Q g0) : ∀ (n i : Nat) (gi : GI), i + n = 3 → (cpI P Q g0 gi (38 + i)) → BGo G mX3_copyParts (KM G mX3_copyParts 341 (pCp P Q g0 47)) (hp gi) 0 0 84 [some (.ref (G.1 + P)), some (.ref (G.1 + Q)), some (.int (nI i))] [] := by
  intro n
  induction n with
  | zero =>
    intro i gi hn ci
    obtain rfl : i = 3 := by omega
    refine go_iload_n 85 dX3_copyParts_84 rfl rfl (ls_s (ls_s ls_0)) ?_
    refine go_aload_n 86 dX3_copyParts_85 rfl rfl ls_0 ?_
    refine gp_getR 89 dX3_copyParts_86 rfl f_X3_25 rfl (tP hP) (rL hP) ?_
    refine gp_alen 90 (v := nI 3) dX3_copyParts_89 rfl (aL hP) (by decide) (by decide) rfl ?_
    refine go_icmp_ge 123 93 dX3_copyParts_90 (by decide) rfl (fun c_90 => ?_) (fun c_90 => absurd c_90 (by decide))
    refine go_iconst 124 (v := 0) dX3_copyParts_123 rfl (by decide) ?_
    refine go_istore_n 125 dX3_copyParts_124 rfl rfl (by decide) (st_s (st_s st_0)) ?_
    exact lp_cpB G hP hQ hA g0 h0 h6 6 0 _ rfl ci
  | succ n ih =>
    intro i gi hn ci
    have hi : i < 3 := by omega
    refine go_iload_n 85 dX3_copyParts_84 rfl rfl (ls_s (ls_s ls_0)) ?_
    refine go_aload_n 86 dX3_copyParts_85 rfl rfl ls_0 ?_
    refine gp_getR 89 dX3_copyParts_86 rfl f_X3_25 rfl (tP hP) (rL hP) ?_
    refine gp_alen 90 (v := nI 3) dX3_copyParts_89 rfl (aL hP) (by decide) (by decide) rfl ?_
    refine go_icmp_ge 123 93 dX3_copyParts_90 (by decide) rfl (fun c_90 => absurd c_90 (nI_ge hi (by decide))) (fun c_90 => ?_)
    refine go_iload_n 94 dX3_copyParts_93 rfl rfl (ls_s (ls_s ls_0)) ?_
    refine go_aload_n 95 dX3_copyParts_94 rfl rfl (ls_s ls_0) ?_
    refine gp_getR 98 dX3_copyParts_95 rfl f_X3_25 rfl (tP hQ) (rL hQ) ?_
    refine gp_alen 99 (v := nI 3) dX3_copyParts_98 rfl (aL hQ) (by decide) (by decide) rfl ?_
    refine go_icmp_ge 123 102 dX3_copyParts_99 (by decide) rfl (fun c_99 => absurd c_99 (nI_ge hi (by decide))) (fun c_99 => ?_)
    refine go_aload_n 103 dX3_copyParts_102 rfl rfl ls_0 ?_
    refine gp_getR 106 dX3_copyParts_103 rfl f_X3_25 rfl (tP hP) (rL hP) ?_
    refine go_iload_n 107 dX3_copyParts_106 rfl rfl (ls_s (ls_s ls_0)) ?_
    refine gp_aald 108 (i := i) dX3_copyParts_107 rfl (aL hP) (by decide) rfl rfl hi (by decide) (rLi hP hi) ?_
    refine go_aload_n 109 dX3_copyParts_108 rfl rfl (ls_s ls_0) ?_
    refine gp_getR 112 dX3_copyParts_109 rfl f_X3_25 rfl (tP hQ) (rL hQ) ?_
    refine go_iload_n 113 dX3_copyParts_112 rfl rfl (ls_s (ls_s ls_0)) ?_
    refine gp_aald 114 (i := i) dX3_copyParts_113 rfl (aL hQ) (by decide) rfl rfl hi (by decide) (rLi hQ hi) ?_
    refine go_VN (M' := mX2_copyFrom) 117 dX3_copyParts_114 rfl w_338 okX2_copyFrom ⟨Nat.le_of_ble_eq_true rfl, Nat.le_of_ble_eq_true rfl⟩ (ct_cpLine G gi _ _ (tL hP hi) (tL hQ hi) (by omega)) rfl rfl (tL hP hi) (by decide) rfl (kk := ?_)
    refine go_iinc 120 (v := (nI (i + 1))) dX3_copyParts_117 rfl (ls_s (ls_s ls_0)) (by exact nI_1 i) (by decide) (st_s (st_s st_0)) ?_
    refine go_goto 84 dX3_copyParts_120 (by decide) ?_
    exact ih (i + 1) _ (by omega) (cpI_step (lim := 38 + i) ci (by omega) (by omega) hA (by omega) (fun j hj => by unfold need at hj; omega))
set_option maxHeartbeats 4000000 in
set_option maxRecDepth 100000 in
theorem lp_cpV (G : BcG) {P Q : Nat} (hP : isP P) (hQ : isP Q) (hA : P + 47 ≤ Q ∨ Q + 47 ≤ P) (g0 : GI) (h0 : ∀ b, b < 6 → g0 (Q + 41 + b) 0 = 0 ∨ g0 (Q + 41 + b) 0 = 1) (h6 : Zb Q g0) : ∀ (n i : Nat) (gi : GI), i + n = 6 → (cpI P Q g0 gi (32 + i)) → BGo G mX3_copyParts (KM G mX3_copyParts 341 (pCp P Q g0 47)) (hp gi) 0 0 43 [some (.ref (G.1 + P)), some (.ref (G.1 + Q)), some (.int (nI i))] [] := by
  intro n
  induction n with
  | zero =>
    intro i gi hn ci
    obtain rfl : i = 6 := by omega
    refine go_iload_n 44 dX3_copyParts_43 rfl rfl (ls_s (ls_s ls_0)) ?_
    refine go_aload_n 45 dX3_copyParts_44 rfl rfl ls_0 ?_
    refine gp_getR 48 dX3_copyParts_45 rfl f_X3_19 rfl (tP hP) (rV hP) ?_
    refine gp_alen 49 (v := nI 6) dX3_copyParts_48 rfl (aV hP) (by decide) (by decide) rfl ?_
    refine go_icmp_ge 82 52 dX3_copyParts_49 (by decide) rfl (fun c_49 => ?_) (fun c_49 => absurd c_49 (by decide))
    refine go_iconst 83 (v := 0) dX3_copyParts_82 rfl (by decide) ?_
    refine go_istore_n 84 dX3_copyParts_83 rfl rfl (by decide) (st_s (st_s st_0)) ?_
    exact lp_cpL G hP hQ hA g0 h0 h6 3 0 _ rfl ci
  | succ n ih =>
    intro i gi hn ci
    have hi : i < 6 := by omega
    refine go_iload_n 44 dX3_copyParts_43 rfl rfl (ls_s (ls_s ls_0)) ?_
    refine go_aload_n 45 dX3_copyParts_44 rfl rfl ls_0 ?_
    refine gp_getR 48 dX3_copyParts_45 rfl f_X3_19 rfl (tP hP) (rV hP) ?_
    refine gp_alen 49 (v := nI 6) dX3_copyParts_48 rfl (aV hP) (by decide) (by decide) rfl ?_
    refine go_icmp_ge 82 52 dX3_copyParts_49 (by decide) rfl (fun c_49 => absurd c_49 (nI_ge hi (by decide))) (fun c_49 => ?_)
    refine go_iload_n 53 dX3_copyParts_52 rfl rfl (ls_s (ls_s ls_0)) ?_
    refine go_aload_n 54 dX3_copyParts_53 rfl rfl (ls_s ls_0) ?_
    refine gp_getR 57 dX3_copyParts_54 rfl f_X3_19 rfl (tP hQ) (rV hQ) ?_
    refine gp_alen 58 (v := nI 6) dX3_copyParts_57 rfl (aV hQ) (by decide) (by decide) rfl ?_
    refine go_icmp_ge 82 61 dX3_copyParts_58 (by decide) rfl (fun c_58 => absurd c_58 (nI_ge hi (by decide))) (fun c_58 => ?_)
    refine go_aload_n 62 dX3_copyParts_61 rfl rfl ls_0 ?_
    refine gp_getR 65 dX3_copyParts_62 rfl f_X3_19 rfl (tP hP) (rV hP) ?_
    refine go_iload_n 66 dX3_copyParts_65 rfl rfl (ls_s (ls_s ls_0)) ?_
    refine gp_aald 67 (i := i) dX3_copyParts_66 rfl (aV hP) (by decide) rfl rfl hi (by decide) (rVi hP hi) ?_
    refine go_aload_n 68 dX3_copyParts_67 rfl rfl (ls_s ls_0) ?_
    refine gp_getR 71 dX3_copyParts_68 rfl f_X3_19 rfl (tP hQ) (rV hQ) ?_
    refine go_iload_n 72 dX3_copyParts_71 rfl rfl (ls_s (ls_s ls_0)) ?_
    refine gp_aald 73 (i := i) dX3_copyParts_72 rfl (aV hQ) (by decide) rfl rfl hi (by decide) (rVi hQ hi) ?_
    refine go_VN (M' := mX7_copyFrom) 76 dX3_copyParts_73 rfl w_334 okX7_copyFrom ⟨Nat.le_of_ble_eq_true rfl, Nat.le_of_ble_eq_true rfl⟩ (ct_cpVessel G gi _ _ (tV hP hi) (tV hQ hi) (by omega)) rfl rfl (tV hP hi) (by decide) rfl (kk := ?_)
    refine go_iinc 79 (v := (nI (i + 1))) dX3_copyParts_76 rfl (ls_s (ls_s ls_0)) (by exact nI_1 i) (by decide) (st_s (st_s st_0)) ?_
    refine go_goto 43 dX3_copyParts_79 (by decide) ?_
    exact ih (i + 1) _ (by omega) (cpI_step (lim := 32 + i) ci (by omega) (by omega) hA (by omega) (fun j hj => by unfold need at hj; omega))
set_option maxHeartbeats 4000000 in
set_option maxRecDepth 100000 in
theorem lp_cpR (G : BcG) {P Q : Nat} (hP : isP P) (hQ : isP Q) (hA : P + 47 ≤ Q ∨ Q + 47 ≤ P) (g0 : GI) (h0 : ∀ b, b < 6 → g0 (Q + 41 + b) 0 = 0 ∨ g0 (Q + 41 + b) 0 = 1) (h6 : Zb Q g0) : ∀ (n i : Nat) (gi : GI), i + n = 4 → (cpI P Q g0 gi (8 + 6 * i)) → BGo G mX3_copyParts (KM G mX3_copyParts 341 (pCp P Q g0 47)) (hp gi) 0 0 2 [some (.ref (G.1 + P)), some (.ref (G.1 + Q)), some (.int (nI i))] [] := by
  intro n
  induction n with
  | zero =>
    intro i gi hn ci
    obtain rfl : i = 4 := by omega
    refine go_iload_n 3 dX3_copyParts_2 rfl rfl (ls_s (ls_s ls_0)) ?_
    refine go_aload_n 4 dX3_copyParts_3 rfl rfl ls_0 ?_
    refine gp_getR 7 dX3_copyParts_4 rfl f_X3_11 rfl (tP hP) (rR hP) ?_
    refine gp_alen 8 (v := nI 4) dX3_copyParts_7 rfl (aR hP) (by decide) (by decide) rfl ?_
    refine go_icmp_ge 41 11 dX3_copyParts_8 (by decide) rfl (fun c_8 => ?_) (fun c_8 => absurd c_8 (by decide))
    refine go_iconst 42 (v := 0) dX3_copyParts_41 rfl (by decide) ?_
    refine go_istore_n 43 dX3_copyParts_42 rfl rfl (by decide) (st_s (st_s st_0)) ?_
    exact lp_cpV G hP hQ hA g0 h0 h6 6 0 _ rfl ci
  | succ n ih =>
    intro i gi hn ci
    have hi : i < 4 := by omega
    refine go_iload_n 3 dX3_copyParts_2 rfl rfl (ls_s (ls_s ls_0)) ?_
    refine go_aload_n 4 dX3_copyParts_3 rfl rfl ls_0 ?_
    refine gp_getR 7 dX3_copyParts_4 rfl f_X3_11 rfl (tP hP) (rR hP) ?_
    refine gp_alen 8 (v := nI 4) dX3_copyParts_7 rfl (aR hP) (by decide) (by decide) rfl ?_
    refine go_icmp_ge 41 11 dX3_copyParts_8 (by decide) rfl (fun c_8 => absurd c_8 (nI_ge hi (by decide))) (fun c_8 => ?_)
    refine go_iload_n 12 dX3_copyParts_11 rfl rfl (ls_s (ls_s ls_0)) ?_
    refine go_aload_n 13 dX3_copyParts_12 rfl rfl (ls_s ls_0) ?_
    refine gp_getR 16 dX3_copyParts_13 rfl f_X3_11 rfl (tP hQ) (rR hQ) ?_
    refine gp_alen 17 (v := nI 4) dX3_copyParts_16 rfl (aR hQ) (by decide) (by decide) rfl ?_
    refine go_icmp_ge 41 20 dX3_copyParts_17 (by decide) rfl (fun c_17 => absurd c_17 (nI_ge hi (by decide))) (fun c_17 => ?_)
    refine go_aload_n 21 dX3_copyParts_20 rfl rfl ls_0 ?_
    refine gp_getR 24 dX3_copyParts_21 rfl f_X3_11 rfl (tP hP) (rR hP) ?_
    refine go_iload_n 25 dX3_copyParts_24 rfl rfl (ls_s (ls_s ls_0)) ?_
    refine gp_aald 26 (i := i) dX3_copyParts_25 rfl (aR hP) (by decide) rfl rfl hi (by decide) (rRi hP hi) ?_
    refine go_aload_n 27 dX3_copyParts_26 rfl rfl (ls_s ls_0) ?_
    refine gp_getR 30 dX3_copyParts_27 rfl f_X3_11 rfl (tP hQ) (rR hQ) ?_
    refine go_iload_n 31 dX3_copyParts_30 rfl rfl (ls_s (ls_s ls_0)) ?_
    refine gp_aald 32 (i := i) dX3_copyParts_31 rfl (aR hQ) (by decide) rfl rfl hi (by decide) (rRi hQ hi) ?_
    refine go_VN (M' := mX4_copyFrom) 35 dX3_copyParts_32 rfl w_326 okX4_copyFrom ⟨Nat.le_of_ble_eq_true rfl, Nat.le_of_ble_eq_true rfl⟩ (ct_cpRecipe G gi hP hQ hA hi) rfl rfl (tR hP hi) (by decide) rfl (kk := ?_)
    refine go_iinc 38 (v := (nI (i + 1))) dX3_copyParts_35 rfl (ls_s (ls_s ls_0)) (by exact nI_1 i) (by decide) (st_s (st_s st_0)) ?_
    refine go_goto 2 dX3_copyParts_38 (by decide) ?_
    exact ih (i + 1) _ (by omega) (by rw [show 8 + 6 * (i + 1) = 8 + 6 * i + 2 + 3 + 1 by omega]; exact cpI_step (lim := 8 + 6 * i + 2 + 3) (cpI_step (lim := 8 + 6 * i + 2 + 2) (cpI_step (lim := 8 + 6 * i + 2 + 1) (cpI_step (lim := 8 + 6 * i + 2 + 0) (cpI_skip (lim := 8 + 6 * i + 1) (cpI_step ci (lim := 8 + 6 * i) (n := 2) (by omega) (by omega) hA (by omega) (fun j hj => by unfold need at hj; omega)) (fun j hj => by unfold need at hj; omega)) (n := 4) (by omega) (by omega) hA (by omega) (fun j hj => by unfold need at hj; omega)) (n := 4) (by omega) (by omega) hA (by omega) (fun j hj => by unfold need at hj; omega)) (n := 4) (by omega) (by omega) hA (by omega) (fun j hj => by unfold need at hj; omega)) (n := 4) (by omega) (by omega) hA (by omega) (fun j hj => by unfold need at hj; omega))
set_option maxHeartbeats 4000000 in
set_option maxRecDepth 100000 in
theorem ct_copyParts (G : BcG) {P Q : Nat} (hP : isP P) (hQ : isP Q) (hA : P + 47 ≤ Q ∨ Q + 47 ≤ P) (g0 : GI) (h0 : ∀ b, b < 6 → g0 (Q + 41 + b) 0 = 0 ∨ g0 (Q + 41 + b) 0 = 1) (h6 : Zb Q g0) : Ct G mX3_copyParts [.ref (G.1 + P), .ref (G.1 + Q)] (hp g0) (pCp P Q g0 47) := by
  refine ct_of [some (.ref (G.1 + P)), some (.ref (G.1 + Q)), none] w_2 (by decide) rfl (Nat.le_of_ble_eq_true rfl) rfl ?_
  refine go_iconst 1 (v := 0) dX3_copyParts_0 rfl (by decide) ?_
  refine go_istore_n 2 dX3_copyParts_1 rfl rfl (by decide) (st_s (st_s st_0)) ?_
  exact lp_cpR G hP hQ hA g0 h0 h6 4 0 _ rfl (cpI_0 P Q g0)
set_option maxHeartbeats 4000000 in
set_option maxRecDepth 100000 in
theorem ct_copyEntries (G : BcG) (gi : GI) (a b len : Nat) (ha : tA a 20 len) (hb : tA b 20 len) (hl : len < 100000) : Ct G mX8_copyEntries [.ref (G.1 + a), .ref (G.1 + b)] (hp gi) (pV (hp (wA gi b (va_cpy (gi a) (gi b) 0 0 len)))) := by
  refine ct_of [some (.ref (G.1 + a)), some (.ref (G.1 + b))] w_1 (by decide) rfl (Nat.le_of_ble_eq_true rfl) rfl ?_
  refine go_aload_n 1 dX8_copyEntries_0 rfl rfl ls_0 ?_
  refine go_iconst 2 (v := 0) dX8_copyEntries_1 rfl (by decide) ?_
  refine go_aload_n 3 dX8_copyEntries_2 rfl rfl (ls_s ls_0) ?_
  refine go_iconst 4 (v := 0) dX8_copyEntries_3 rfl (by decide) ?_
  refine go_aload_n 5 dX8_copyEntries_4 rfl rfl ls_0 ?_
  refine gp_alen 6 (v := nI len) dX8_copyEntries_5 rfl ha (by decide) (by decide) rfl ?_
  refine go_aload_n 7 dX8_copyEntries_6 rfl rfl (ls_s ls_0) ?_
  refine gp_alen 8 (v := nI len) dX8_copyEntries_7 rfl hb (by decide) (by decide) rfl ?_
  refine go_mmin 11 dX8_copyEntries_8 rfl w_349 w_350 w_11 w_351 (by decide) (Nat.le_of_ble_eq_true rfl) (by decide) (by decide) ?_
  refine go_top (y := nI len) (by split <;> rfl) ?_
  refine gp_copy (w := len) 14 dX8_copyEntries_11 rfl w_352 w_354 w_353 w_12 ha hb rfl (Nat.le_refl _) (Nat.le_refl _) hl (by decide) (by decide) ?_
  exact go_ret_v dX8_copyEntries_14 rfl rfl rfl ⟨rfl, rfl⟩
/-- the plant Q is copied into the plant P -/
def pCopy (P Q : Nat) (g0 : GI) : Option Value → BcH → Prop := fun v h' => v = none ∧ ∃ gi, h' = hp gi ∧ (∀ r j, need r j → gi (P + r) j = g0 (Q + r) j) ∧ ∀ k, k < P ∨ P + 47 ≤ k → gi k = g0 k
theorem wA_ne {gi : GI} {k a b : Nat} {f : Nat → Int32} (h : a ≠ k) : wA gi k f a b = gi a b := by rw [wA_row h]
theorem wA_cpy {gi : GI} {k q n j : Nat} (hj : j < n) : wA gi k (va_cpy (gi q) (gi k) 0 0 n) k j = gi q j := by
  rw [wA_eq, va_cpy, if_pos ⟨Nat.zero_le _, by omega⟩]
  congr 1
  omega
set_option maxHeartbeats 4000000 in
set_option maxRecDepth 100000 in
theorem ct_copyPlant (G : BcG) {P Q : Nat} (hP : isP P) (hQ : isP Q) (hA : P + 47 ≤ Q ∨ Q + 47 ≤ P) (g0 : GI) (h0 : ∀ b, b < 6 → g0 (Q + 41 + b) 0 = 0 ∨ g0 (Q + 41 + b) 0 = 1) (h6 : Zb Q g0) : Ct G mX3_copyFrom [.ref (G.1 + P), .ref (G.1 + Q)] (hp g0) (pCopy P Q g0) := by
  refine ct_of [some (.ref (G.1 + P)), some (.ref (G.1 + Q))] w_2 (by decide) rfl (Nat.le_of_ble_eq_true rfl) rfl ?_
  refine go_aload_n 1 dX3_copyFrom_0 rfl rfl ls_0 ?_
  refine go_aload_n 2 dX3_copyFrom_1 rfl rfl (ls_s ls_0) ?_
  refine go_V (M' := mX3_copyParts) 5 dX3_copyFrom_2 rfl w_322 okX3_copyParts ⟨Nat.le_of_ble_eq_true rfl, Nat.le_of_ble_eq_true rfl⟩ rfl rfl (Nat.le_of_ble_eq_true rfl) (Nat.le_of_ble_eq_true rfl) (ct_copyParts G hP hQ hA g0 h0 h6) rfl rfl (Nat.le_of_ble_eq_true rfl) (tP hP) (by decide) rfl (fun v_2 h_2 p_2 => ?_)
  obtain ⟨rfl, gi, rfl, ci⟩ := p_2
  refine go_aload_n 6 dX3_copyFrom_5 rfl rfl (ls_s ls_0) ?_
  refine gp_getR 9 dX3_copyFrom_6 rfl f_X3_35 rfl (tP hQ) (rT hQ) ?_
  refine go_aload_n 10 dX3_copyFrom_9 rfl rfl ls_0 ?_
  refine gp_getR 13 dX3_copyFrom_10 rfl f_X3_35 rfl (tP hP) (rT hP) ?_
  refine go_TN (M' := mX8_copyEntries) 16 dX3_copyFrom_13 rfl x_X3_57 okX8_copyEntries ⟨Nat.le_of_ble_eq_true rfl, Nat.le_of_ble_eq_true rfl⟩ (ct_copyEntries G gi _ _ _ (aT hQ) (aT hP) (by decide)) rfl rfl (kk := ?_)
  refine go_aload_n 17 dX3_copyFrom_16 rfl rfl (ls_s ls_0) ?_
  refine gp_getR 20 dX3_copyFrom_17 rfl f_X3_39 rfl (tP hQ) (rS hQ) ?_
  refine go_aload_n 21 dX3_copyFrom_20 rfl rfl ls_0 ?_
  refine gp_getR 24 dX3_copyFrom_21 rfl f_X3_39 rfl (tP hP) (rS hP) ?_
  refine go_TN (M' := mX8_copyEntries) 27 dX3_copyFrom_24 rfl x_X3_57 okX8_copyEntries ⟨Nat.le_of_ble_eq_true rfl, Nat.le_of_ble_eq_true rfl⟩ (ct_copyEntries G (wA gi (P + 5) (va_cpy (gi (Q + 5)) (gi (P + 5)) 0 0 16)) _ _ _ (aS hQ) (aS hP) (by decide)) rfl rfl (kk := ?_)
  refine go_aload_n 28 dX3_copyFrom_27 rfl rfl (ls_s ls_0) ?_
  refine gp_getR 31 dX3_copyFrom_28 rfl f_X3_42 rfl (tP hQ) (rO hQ) ?_
  refine go_aload_n 32 dX3_copyFrom_31 rfl rfl ls_0 ?_
  refine gp_getR 35 dX3_copyFrom_32 rfl f_X3_42 rfl (tP hP) (rO hP) ?_
  refine go_TN (M' := mX8_copyEntries) 38 dX3_copyFrom_35 rfl x_X3_57 okX8_copyEntries ⟨Nat.le_of_ble_eq_true rfl, Nat.le_of_ble_eq_true rfl⟩ (ct_copyEntries G (wA (wA gi (P + 5) (va_cpy (gi (Q + 5)) (gi (P + 5)) 0 0 16)) (P + 6) (va_cpy ((wA gi (P + 5) (va_cpy (gi (Q + 5)) (gi (P + 5)) 0 0 16)) (Q + 6)) ((wA gi (P + 5) (va_cpy (gi (Q + 5)) (gi (P + 5)) 0 0 16)) (P + 6)) 0 0 2)) _ _ _ (aO hQ) (aO hP) (by decide)) rfl rfl (kk := ?_)
  refine go_aload_n 39 dX3_copyFrom_38 rfl rfl ls_0 ?_
  refine go_aload_n 40 dX3_copyFrom_39 rfl rfl (ls_s ls_0) ?_
  refine gp_getI 43 dX3_copyFrom_40 rfl f_X3_61 rfl (tP hQ) ?_
  refine go_top (y := (g0 Q 1)) (by simp (disch := omega) only [wI_ne, wI_eq, wA_ne]; rw [ci.2 Q (by omega)]) ?_
  refine gp_putI 46 dX3_copyFrom_43 rfl f_X3_61 rfl (tP hP) rfl rfl ?_
  refine go_aload_n 47 dX3_copyFrom_46 rfl rfl ls_0 ?_
  refine go_aload_n 48 dX3_copyFrom_47 rfl rfl (ls_s ls_0) ?_
  refine gp_getI 51 dX3_copyFrom_48 rfl f_X3_65 rfl (tP hQ) ?_
  refine go_top (y := (g0 Q 3)) (by simp (disch := omega) only [wI_ne, wI_eq, wA_ne]; rw [ci.2 Q (by omega)]) ?_
  refine gp_putI 54 dX3_copyFrom_51 rfl f_X3_65 rfl (tP hP) rfl rfl ?_
  refine go_aload_n 55 dX3_copyFrom_54 rfl rfl ls_0 ?_
  refine go_aload_n 56 dX3_copyFrom_55 rfl rfl (ls_s ls_0) ?_
  refine gp_getI 59 dX3_copyFrom_56 rfl f_X3_68 rfl (tP hQ) ?_
  refine go_top (y := (g0 Q 5)) (by simp (disch := omega) only [wI_ne, wI_eq, wA_ne]; rw [ci.2 Q (by omega)]) ?_
  refine gp_putI 62 dX3_copyFrom_59 rfl f_X3_68 rfl (tP hP) rfl rfl ?_
  refine go_aload_n 63 dX3_copyFrom_62 rfl rfl ls_0 ?_
  refine go_aload_n 64 dX3_copyFrom_63 rfl rfl (ls_s ls_0) ?_
  refine gp_getI 67 dX3_copyFrom_64 rfl f_X3_71 rfl (tP hQ) ?_
  refine go_top (y := (g0 Q 10)) (by simp (disch := omega) only [wI_ne, wI_eq, wA_ne]; rw [ci.2 Q (by omega)]) ?_
  refine gp_putI 70 dX3_copyFrom_67 rfl f_X3_71 rfl (tP hP) rfl rfl ?_
  refine go_aload_n 71 dX3_copyFrom_70 rfl rfl ls_0 ?_
  refine go_aload_n 72 dX3_copyFrom_71 rfl rfl (ls_s ls_0) ?_
  refine gp_getI 75 dX3_copyFrom_72 rfl f_X3_74 rfl (tP hQ) ?_
  refine go_top (y := (g0 Q 11)) (by simp (disch := omega) only [wI_ne, wI_eq, wA_ne]; rw [ci.2 Q (by omega)]) ?_
  refine gp_putI 78 dX3_copyFrom_75 rfl f_X3_74 rfl (tP hP) rfl rfl ?_
  refine go_aload_n 79 dX3_copyFrom_78 rfl rfl ls_0 ?_
  refine go_aload_n 80 dX3_copyFrom_79 rfl rfl (ls_s ls_0) ?_
  refine gp_getI 83 dX3_copyFrom_80 rfl f_X3_77 rfl (tP hQ) ?_
  refine go_top (y := (g0 Q 12)) (by simp (disch := omega) only [wI_ne, wI_eq, wA_ne]; rw [ci.2 Q (by omega)]) ?_
  refine gp_putI 86 dX3_copyFrom_83 rfl f_X3_77 rfl (tP hP) rfl rfl ?_
  refine go_aload_n 87 dX3_copyFrom_86 rfl rfl ls_0 ?_
  refine go_aload_n 88 dX3_copyFrom_87 rfl rfl (ls_s ls_0) ?_
  refine gp_getI 91 dX3_copyFrom_88 rfl f_X3_80 rfl (tP hQ) ?_
  refine go_top (y := (g0 Q 13)) (by simp (disch := omega) only [wI_ne, wI_eq, wA_ne]; rw [ci.2 Q (by omega)]) ?_
  refine gp_putI 94 dX3_copyFrom_91 rfl f_X3_80 rfl (tP hP) rfl rfl ?_
  refine go_aload_n 95 dX3_copyFrom_94 rfl rfl ls_0 ?_
  refine go_aload_n 96 dX3_copyFrom_95 rfl rfl (ls_s ls_0) ?_
  refine gp_getI 99 dX3_copyFrom_96 rfl f_X3_83 rfl (tP hQ) ?_
  refine go_top (y := (g0 Q 14)) (by simp (disch := omega) only [wI_ne, wI_eq, wA_ne]; rw [ci.2 Q (by omega)]) ?_
  refine gp_putI 102 dX3_copyFrom_99 rfl f_X3_83 rfl (tP hP) rfl rfl ?_
  refine go_aload_n 103 dX3_copyFrom_102 rfl rfl ls_0 ?_
  refine go_aload_n 104 dX3_copyFrom_103 rfl rfl (ls_s ls_0) ?_
  refine gp_getI 107 dX3_copyFrom_104 rfl f_X3_86 rfl (tP hQ) ?_
  refine go_top (y := (g0 Q 15)) (by simp (disch := omega) only [wI_ne, wI_eq, wA_ne]; rw [ci.2 Q (by omega)]) ?_
  refine gp_putI 110 dX3_copyFrom_107 rfl f_X3_86 rfl (tP hP) rfl rfl ?_
  refine go_ret_v dX3_copyFrom_110 rfl rfl rfl ?_
  refine ⟨rfl, _, rfl, fun r j hn => ?_, fun a ha => ?_⟩
  · by_cases h8 : 8 ≤ r
    · have h47 : r < 47 := by unfold need at hn; omega
      have := ci.1 r j hn h8 h47
      simp (disch := omega) only [wI_ne, wA_ne]
      exact this
    · by_cases r0 : r = 0
      · subst r0
        have hj : j = 1 ∨ j = 3 ∨ j = 5 ∨ j = 10 ∨ j = 11 ∨ j = 12 ∨ j = 13 ∨ j = 14 ∨ j = 15 := by unfold need at hn; omega
        rcases hj with rfl | rfl | rfl | rfl | rfl | rfl | rfl | rfl | rfl <;> simp (disch := omega) only [Nat.add_zero, wI_ne, wI_eq]
      · have hr : (r = 5 ∧ j < 16) ∨ (r = 6 ∧ j < 2) ∨ (r = 7 ∧ j < 4) := by unfold need at hn; omega
        rcases hr with ⟨rfl, hj⟩ | ⟨rfl, hj⟩ | ⟨rfl, hj⟩
        · simp (disch := omega) only [wI_ne, wA_ne]
          rw [wA_cpy hj, ci.2 _ (by omega)]
        · simp (disch := omega) only [wI_ne, wA_ne]
          rw [wA_cpy hj]
          simp (disch := omega) only [wA_ne]
          rw [ci.2 _ (by omega)]
        · simp (disch := omega) only [wI_ne, wA_ne]
          rw [wA_cpy hj]
          simp (disch := omega) only [wA_ne]
          rw [ci.2 _ (by omega)]
  · simp (disch := omega) only [wI_row, wA_row]
    exact ci.2 a ha
