/-! A COMMAND IS READ -/
def pRc (gi0 : GI) (l : Int32) (w : Nat) (R : Option (Nat × (Nat → Int32))) : Option Value → BcH → Prop := fun v h' => ∃ gi, h' = hp gi ∧ (∀ k, k ≠ 332 → k ≠ 334 → gi k = gi0 k) ∧ gi 332 1 = gi0 332 1 ∧ ((R = none ∧ v = some (.int 0)) ∨ ∃ q, R = some q ∧ v = some (.int 1) ∧ gi 332 2 = l ∧ gi 332 4 = nI q.1 ∧ ∀ j, j < w → gi 334 j = q.2 j)
def OutR (gi0 : GI) (l : Int32) (gi : GI) : Prop := (∀ k, k ≠ 332 → k ≠ 334 → gi k = gi0 k) ∧ gi 332 1 = gi0 332 1 ∧ gi 332 2 = l
theorem RelX.outR {T : TX} {L : Nat} {gi0 gi : GI} {l : Int32} (h : RelX T L gi0) (o : OutR gi0 l gi) : RelX T L gi := h.same o.2.1 (o.1 333 (by decide) (by decide))
theorem OutR.put {gi0 gi g2 : GI} {l v : Int32} (o : OutR gi0 l gi) (n4 : ∀ j, j ≠ 4 → g2 332 j = gi 332 j) (n5 : ∀ k, k ≠ 332 → k ≠ 334 → g2 k = gi k) : OutR gi0 l (wI g2 332 4 v) := ⟨fun k h1 h2 => by rw [wI_row h1, n5 k h1 h2]; exact o.1 k h1 h2, by rw [wI_ne (by omega), n4 1 (by decide)]; exact o.2.1, by rw [wI_ne (by omega), n4 2 (by decide)]; exact o.2.2⟩
theorem OutR.put' {gi0 gi g2 : GI} {l : Int32} (o : OutR gi0 l gi) (n4 : ∀ j, j ≠ 4 → g2 332 j = gi 332 j) (n5 : ∀ k, k ≠ 332 → k ≠ 334 → g2 k = gi k) : OutR gi0 l g2 := ⟨fun k h1 h2 => by rw [n5 k h1 h2]; exact o.1 k h1 h2, by rw [n4 1 (by decide)]; exact o.2.1, by rw [n4 2 (by decide)]; exact o.2.2⟩
set_option maxHeartbeats 4000000 in
set_option maxRecDepth 100000 in
theorem lp_readCommand (G : BcG) {gi0 : GI} {T : TX} {L : Nat} (X : TxI T L) (hX : RelX T L gi0) {l : Int32} {w : Nat} (hw0 : 0 < w) (hw3 : w ≤ 3) : ∀ (n i : Nat) (p : Nat) (E : Nat → Int32) (gi : GI), i + n = w → (p ≤ 100 + 4 * i) → (gi 332 4 = nI p) → (OutR gi0 l gi) → (∀ j, j < i → gi 334 j = E j) → BGo G mX5_readCommand (KM G mX5_readCommand 341 (pRc gi0 l w (nbF T L n i p E))) (hp gi) 0 0 26 [some (.ref (G.1 + 332)), none, some (.int (nI w)), some (.int (nI i)), none] [] := by
  intro n
  induction n with
  | zero =>
    intro i p E gi hn hpb h4 ho hE
    have e : w = i := by omega
    subst e
    refine go_iload_n 27 dX5_readCommand_26 rfl rfl (ls_s (ls_s (ls_s ls_0))) ?_
    refine go_iload_n 28 dX5_readCommand_27 rfl rfl (ls_s (ls_s ls_0)) ?_
    refine go_icmp_ge 86 31 dX5_readCommand_28 (by decide) rfl (fun c_28 => ?_) (fun c_28 => absurd (Int32.le_refl _) c_28)
    refine go_iload_n 87 dX5_readCommand_86 rfl rfl (ls_s (ls_s ls_0)) ?_
    refine go_if_le 94 90 dX5_readCommand_87 (by decide) rfl (fun c_87 => absurd c_87 (nI_ge hw0 (by omega))) (fun c_87 => ?_)
    refine go_iconst 91 (v := 1) dX5_readCommand_90 rfl (by decide) ?_
    refine go_goto 95 dX5_readCommand_91 (by decide) ?_
    exact go_ret_z dX5_readCommand_95 rfl rfl rfl rfl ⟨_, rfl, ho.1, ho.2.1, Or.inr ⟨(p, E), rfl, rfl, ho.2.2, h4, hE⟩⟩
  | succ n ih =>
    intro i p E gi hn hpb h4 ho hE
    have hiw : i < w := by omega
    have hi3 : i < 3 := by omega
    refine go_iload_n 27 dX5_readCommand_26 rfl rfl (ls_s (ls_s (ls_s ls_0))) ?_
    refine go_iload_n 28 dX5_readCommand_27 rfl rfl (ls_s (ls_s ls_0)) ?_
    refine go_icmp_ge 86 31 dX5_readCommand_28 (by decide) rfl (fun c_28 => absurd c_28 (nI_ge hiw (by omega))) (fun c_28 => ?_)
    refine go_iload_n 32 dX5_readCommand_31 rfl rfl (ls_s (ls_s (ls_s ls_0))) ?_
    refine go_iconst 33 (v := 1) dX5_readCommand_32 rfl (by decide) ?_
    refine go_iadd 34 dX5_readCommand_33 rfl ?_
    refine go_top (y := (nI (i + 1))) (nI_1 _) ?_
    refine go_iload_n 35 dX5_readCommand_34 rfl rfl (ls_s (ls_s ls_0)) ?_
    refine go_icmp_ge 43 38 dX5_readCommand_35 (by decide) rfl (fun c_35 => ?_) (fun c_35 => ?_)
    · refine go_bipush 45 (v := 59) dX5_readCommand_43 rfl (by decide) ?_
      refine go_top (y := (clS n)) (by rw [clS, if_pos (Nat.le_zero.mp (Nat.le_of_not_lt (fun z => nI_ge (show i + 1 < w by omega) (by omega) c_35)))]) ?_
      refine go_istore 47 dX5_readCommand_45 rfl (by decide) (st_s (st_s (st_s (st_s st_0)))) ?_
      refine go_aload_n 48 dX5_readCommand_47 rfl rfl ls_0 ?_
      refine go_iload_n 49 dX5_readCommand_48 rfl rfl (ls_s (ls_s (ls_s ls_0))) ?_
      refine go_V (M' := mX5_readNumber) 52 dX5_readCommand_49 rfl w_708 okX5_readNumber ⟨Nat.le_of_ble_eq_true rfl, Nat.le_of_ble_eq_true rfl⟩ rfl rfl (Nat.le_of_ble_eq_true rfl) (Nat.le_of_ble_eq_true rfl) (ct_readNumber G X (hX.outR ho) (i := i) (p0 := p) hi3 (by omega) h4) rfl rfl (Nat.le_of_ble_eq_true rfl) o332 (by decide) rfl (fun v_49 h_49 p_49 => ?_)
      obtain ⟨rfl, gi2, rfl, n1, n2, n3, n4, n5⟩ := p_49
      have o2 := ho.put' n4 n5
      have hX2 : RelX T L gi2 := hX.outR o2
      have hle := nmF_le T L p
      refine go_ifeq_b 68 55 dX5_readCommand_52 (by decide) rfl (fun c_52 => ?_) (fun c_52 => ?_)
      · refine go_iconst 69 (v := 0) dX5_readCommand_68 rfl (by decide) ?_
        exact go_ret_z dX5_readCommand_69 rfl rfl rfl rfl ⟨_, rfl, o2.1, o2.2.1, Or.inl ⟨nbF_f (fun z => c_52 z.1), rfl⟩⟩
      · refine go_aload_n 56 dX5_readCommand_55 rfl rfl ls_0 ?_
        refine go_aload_n 57 dX5_readCommand_56 rfl rfl ls_0 ?_
        refine gp_getI 60 dX5_readCommand_57 rfl f_X5_39 rfl o332 ?_
        refine go_top (y := (nI (nmF T L p).2)) n3 ?_
        refine go_VI (M' := mX5_signAt) 63 dX5_readCommand_60 rfl w_701 okX5_signAt ⟨Nat.le_of_ble_eq_true rfl, Nat.le_of_ble_eq_true rfl⟩ (ct_signAt G X hX2 (p := (nmF T L p).2) (by omega)) rfl rfl o332 (by decide) rfl (kk := ?_)
        refine go_iload 65 dX5_readCommand_63 rfl (ls_s (ls_s (ls_s (ls_s ls_0)))) ?_
        refine go_icmp_eq 70 68 dX5_readCommand_65 (by decide) rfl (fun c_65 => ?_) (fun c_65 => ?_)
        · refine go_aload_n 71 dX5_readCommand_70 rfl rfl ls_0 ?_
          refine go_dup 72 dX5_readCommand_71 rfl rfl ?_
          refine gp_getI 75 dX5_readCommand_72 rfl f_X5_39 rfl o332 ?_
          refine go_top (y := (nI (nmF T L p).2)) n3 ?_
          refine go_iconst 76 (v := 1) dX5_readCommand_75 rfl (by decide) ?_
          refine go_iadd 77 dX5_readCommand_76 rfl ?_
          refine go_top (y := (nI ((nmF T L p).2 + 1))) (nI_1 _) ?_
          refine gp_putI 80 dX5_readCommand_77 rfl f_X5_39 rfl o332 rfl rfl ?_
          refine go_iinc 83 (v := (nI (i + 1))) dX5_readCommand_80 rfl (ls_s (ls_s (ls_s ls_0))) (by exact nI_1 i) (by decide) (st_s (st_s (st_s st_0))) ?_
          refine go_goto 26 dX5_readCommand_83 (by decide) ?_
          rw [nbF_t ⟨c_52, c_65⟩]
          refine go_less (le_k (le_k (le_k (le_k (le_n le_0))))) ?_
          refine ih (i + 1) _ _ _ (by omega) (by omega) (by rw [wI_eq]) (ho.put n4 n5) (fun j hj => ?_)
          rw [wI_ne (by omega)]
          by_cases e : j = i
          · subst e
            rw [upd_eq, n1]
          · rw [upd_ne e, n2 j e]
            exact hE j (by omega)
        · refine go_iconst 69 (v := 0) dX5_readCommand_68 rfl (by decide) ?_
          exact go_ret_z dX5_readCommand_69 rfl rfl rfl rfl ⟨_, rfl, o2.1, o2.2.1, Or.inl ⟨nbF_f (fun z => c_65 z.2), rfl⟩⟩
    · refine go_bipush 40 (v := 44) dX5_readCommand_38 rfl (by decide) ?_
      refine go_goto 45 dX5_readCommand_40 (by decide) ?_
      refine go_top (y := (clS n)) (by rw [clS, if_neg (fun z => c_35 (nI_le (by omega) (by omega)))]) ?_
      refine go_istore 47 dX5_readCommand_45 rfl (by decide) (st_s (st_s (st_s (st_s st_0)))) ?_
      refine go_aload_n 48 dX5_readCommand_47 rfl rfl ls_0 ?_
      refine go_iload_n 49 dX5_readCommand_48 rfl rfl (ls_s (ls_s (ls_s ls_0))) ?_
      refine go_V (M' := mX5_readNumber) 52 dX5_readCommand_49 rfl w_708 okX5_readNumber ⟨Nat.le_of_ble_eq_true rfl, Nat.le_of_ble_eq_true rfl⟩ rfl rfl (Nat.le_of_ble_eq_true rfl) (Nat.le_of_ble_eq_true rfl) (ct_readNumber G X (hX.outR ho) (i := i) (p0 := p) hi3 (by omega) h4) rfl rfl (Nat.le_of_ble_eq_true rfl) o332 (by decide) rfl (fun v_49 h_49 p_49 => ?_)
      obtain ⟨rfl, gi2, rfl, n1, n2, n3, n4, n5⟩ := p_49
      have o2 := ho.put' n4 n5
      have hX2 : RelX T L gi2 := hX.outR o2
      have hle := nmF_le T L p
      refine go_ifeq_b 68 55 dX5_readCommand_52 (by decide) rfl (fun c_52 => ?_) (fun c_52 => ?_)
      · refine go_iconst 69 (v := 0) dX5_readCommand_68 rfl (by decide) ?_
        exact go_ret_z dX5_readCommand_69 rfl rfl rfl rfl ⟨_, rfl, o2.1, o2.2.1, Or.inl ⟨nbF_f (fun z => c_52 z.1), rfl⟩⟩
      · refine go_aload_n 56 dX5_readCommand_55 rfl rfl ls_0 ?_
        refine go_aload_n 57 dX5_readCommand_56 rfl rfl ls_0 ?_
        refine gp_getI 60 dX5_readCommand_57 rfl f_X5_39 rfl o332 ?_
        refine go_top (y := (nI (nmF T L p).2)) n3 ?_
        refine go_VI (M' := mX5_signAt) 63 dX5_readCommand_60 rfl w_701 okX5_signAt ⟨Nat.le_of_ble_eq_true rfl, Nat.le_of_ble_eq_true rfl⟩ (ct_signAt G X hX2 (p := (nmF T L p).2) (by omega)) rfl rfl o332 (by decide) rfl (kk := ?_)
        refine go_iload 65 dX5_readCommand_63 rfl (ls_s (ls_s (ls_s (ls_s ls_0)))) ?_
        refine go_icmp_eq 70 68 dX5_readCommand_65 (by decide) rfl (fun c_65 => ?_) (fun c_65 => ?_)
        · refine go_aload_n 71 dX5_readCommand_70 rfl rfl ls_0 ?_
          refine go_dup 72 dX5_readCommand_71 rfl rfl ?_
          refine gp_getI 75 dX5_readCommand_72 rfl f_X5_39 rfl o332 ?_
          refine go_top (y := (nI (nmF T L p).2)) n3 ?_
          refine go_iconst 76 (v := 1) dX5_readCommand_75 rfl (by decide) ?_
          refine go_iadd 77 dX5_readCommand_76 rfl ?_
          refine go_top (y := (nI ((nmF T L p).2 + 1))) (nI_1 _) ?_
          refine gp_putI 80 dX5_readCommand_77 rfl f_X5_39 rfl o332 rfl rfl ?_
          refine go_iinc 83 (v := (nI (i + 1))) dX5_readCommand_80 rfl (ls_s (ls_s (ls_s ls_0))) (by exact nI_1 i) (by decide) (st_s (st_s (st_s st_0))) ?_
          refine go_goto 26 dX5_readCommand_83 (by decide) ?_
          rw [nbF_t ⟨c_52, c_65⟩]
          refine go_less (le_k (le_k (le_k (le_k (le_n le_0))))) ?_
          refine ih (i + 1) _ _ _ (by omega) (by omega) (by rw [wI_eq]) (ho.put n4 n5) (fun j hj => ?_)
          rw [wI_ne (by omega)]
          by_cases e : j = i
          · subst e
            rw [upd_eq, n1]
          · rw [upd_ne e, n2 j e]
            exact hE j (by omega)
        · refine go_iconst 69 (v := 0) dX5_readCommand_68 rfl (by decide) ?_
          exact go_ret_z dX5_readCommand_69 rfl rfl rfl rfl ⟨_, rfl, o2.1, o2.2.1, Or.inl ⟨nbF_f (fun z => c_65 z.2), rfl⟩⟩
theorem chr_4 : ∀ m, m < 127 → fits .char (.int (nI m)) = true := by decide +kernel
theorem chr_sgf {T : TX} {L : Nat} (X : TxI T L) (p : Nat) : fits .char (.int (sg T L p)) = true := by
  obtain ⟨m, h1, h2⟩ := sg_m X p
  rw [h2]
  exact chr_4 m h1
theorem mny_3 (l : Int32) : mny l ≤ 3 := by
  unfold mny
  split
  · omega
  · split
    · omega
    · split <;> omega
set_option maxHeartbeats 4000000 in
set_option maxRecDepth 100000 in
theorem ct_readCommand (G : BcG) {gi : GI} {T : TX} {L : Nat} (X : TxI T L) (hX : RelX T L gi) {p : Nat} (hp9 : p ≤ 80) : Ct G mX5_readCommand [.ref (G.1 + 332), .int (nI p)] (hp gi) (pRc gi (sg T L p) (mny (sg T L p)) (cdF T L p)) := by
  have hw3 := mny_3 (sg T L p)
  refine ct_of [some (.ref (G.1 + 332)), some (.int (nI p)), none, none, none] w_9 (by decide) rfl (Nat.le_of_ble_eq_true rfl) rfl ?_
  refine go_aload_n 1 dX5_readCommand_0 rfl rfl ls_0 ?_
  refine go_aload_n 2 dX5_readCommand_1 rfl rfl ls_0 ?_
  refine go_iload_n 3 dX5_readCommand_2 rfl rfl (ls_s ls_0) ?_
  refine go_VI (M' := mX5_signAt) 6 dX5_readCommand_3 rfl w_701 okX5_signAt ⟨Nat.le_of_ble_eq_true rfl, Nat.le_of_ble_eq_true rfl⟩ (ct_signAt G X hX (p := p) (by omega)) rfl rfl o332 (by decide) rfl (kk := ?_)
  refine gp_putI 9 dX5_readCommand_6 rfl f_X5_31 rfl o332 (chr_sg X p) (chr_sgf X p) ?_
  refine go_aload_n 10 dX5_readCommand_9 rfl rfl ls_0 ?_
  refine gp_getI 13 dX5_readCommand_10 rfl f_X5_31 rfl o332 ?_
  refine go_top (y := (sg T L p)) (by rw [wI_eq]) ?_
  refine go_SI (M' := mX5_numbersOf) 16 dX5_readCommand_13 rfl w_705 okX5_numbersOf ⟨Nat.le_of_ble_eq_true rfl, Nat.le_of_ble_eq_true rfl⟩ (ct_nbOf G (wI gi (332) 2 (sg T L p)) X p) rfl rfl (kk := ?_)
  refine go_istore_n 17 dX5_readCommand_16 rfl rfl (by decide) (st_s (st_s st_0)) ?_
  refine go_aload_n 18 dX5_readCommand_17 rfl rfl ls_0 ?_
  refine go_iload_n 19 dX5_readCommand_18 rfl rfl (ls_s ls_0) ?_
  refine go_iconst 20 (v := 1) dX5_readCommand_19 rfl (by decide) ?_
  refine go_iadd 21 dX5_readCommand_20 rfl ?_
  refine go_top (y := (nI (p + 1))) (nI_1 _) ?_
  refine gp_putI 24 dX5_readCommand_21 rfl f_X5_39 rfl o332 rfl rfl ?_
  refine go_iconst 25 (v := 0) dX5_readCommand_24 rfl (by decide) ?_
  refine go_istore_n 26 dX5_readCommand_25 rfl rfl (by decide) (st_s (st_s (st_s st_0))) ?_
  rcases Nat.eq_zero_or_pos (mny (sg T L p)) with e0 | e0
  · refine go_iload_n 27 dX5_readCommand_26 rfl rfl (ls_s (ls_s (ls_s ls_0))) ?_
    refine go_iload_n 28 dX5_readCommand_27 rfl rfl (ls_s (ls_s ls_0)) ?_
    refine go_icmp_ge 86 31 dX5_readCommand_28 (by decide) rfl (fun c_28 => ?_) (fun c_28 => absurd (show nI (mny (sg T L p)) ≤ 0 by rw [e0]; decide) c_28)
    refine go_iload_n 87 dX5_readCommand_86 rfl rfl (ls_s (ls_s ls_0)) ?_
    refine go_if_le 94 90 dX5_readCommand_87 (by decide) rfl (fun c_87 => ?_) (fun c_87 => absurd (show nI (mny (sg T L p)) ≤ 0 by rw [e0]; decide) c_87)
    refine go_iconst 95 (v := 0) dX5_readCommand_94 rfl (by decide) ?_
    exact go_ret_z dX5_readCommand_95 rfl rfl rfl rfl ⟨_, rfl, fun k h1 h2 => by rw [wI_row h1, wI_row h1], by rw [wI_ne (by omega), wI_ne (by omega)], Or.inl ⟨by rw [cdF, if_pos e0], rfl⟩⟩
  · have e : cdF T L p = nbF T L (mny (sg T L p)) 0 (p + 1) (fun _ => 0) := by rw [cdF, if_neg (Nat.pos_iff_ne_zero.mp e0)]
    rw [e]
    refine go_less (le_k (le_n (le_k (le_k (le_n le_0))))) ?_
    exact lp_readCommand G X hX e0 hw3 (mny (sg T L p)) 0 (p + 1) _ _ (by omega) (by omega) (by rw [wI_eq]) ⟨fun k h1 h2 => by rw [wI_row h1, wI_row h1], by rw [wI_ne (by omega), wI_ne (by omega)], by rw [wI_ne (by omega), wI_eq]⟩ (fun j hj => absurd hj (Nat.not_lt_zero _))
/-! THE HISTORY: a ring of five plants -/
theorem o95 : tO 95 1 := ⟨by decide, rfl⟩
theorem a96 : tA 96 22 5 := ⟨by decide, rfl⟩
theorem gHR {o : Nat} (_ : True) (ho : o < 5) : GR 96 o = some (97 + 47 * o) := (by decide +kernel : ∀ o, o < 5 → GR 96 o = some (97 + 47 * o)) o ho
theorem isH {o : Nat} (ho : o < 5) : isP (97 + 47 * o) := (by decide +kernel : ∀ o, o < 5 → 97 + 47 * o ∈ plants) o ho
theorem is1 : isP 1 := (by decide : 1 ∈ plants)
theorem is48 : isP 48 := (by decide : 48 ∈ plants)
def nxO (o : Nat) : Nat := if o + 1 < 5 then o + 1 else 0
def prO (o : Nat) : Nat := if 0 < o then o - 1 else 4
def nxC (s : Nat) : Nat := if s < 4 then s + 1 else 4
theorem nxO_lt (o : Nat) : nxO o < 5 := by unfold nxO; split <;> omega
theorem prO_lt {o : Nat} (h : o < 5) : prO o < 5 := by unfold prO; split <;> omega
theorem nxC_le (s : Nat) : nxC s ≤ 4 := by unfold nxC; split <;> omega
theorem nxC_m : ∀ s, s < 5 → (if (4 : Int32) < nI (s + 1) then 4 else nI (s + 1)) = nI (nxC s) := by decide +kernel
def stF (gi : GI) (o s : Nat) (x : Int32) : GI := if x < 0 then gi else wI (wI gi 95 1 (nI (nxO o))) 95 2 (nI (nxC s))
set_option maxHeartbeats 4000000 in
set_option maxRecDepth 100000 in
theorem ct_prepare (G : BcG) {gi : GI} {o : Nat} (ho : o < 5) (h1 : gi 95 1 = nI o) (h0 : ∀ b, b < 6 → gi (1 + 41 + b) 0 = 0 ∨ gi (1 + 41 + b) 0 = 1) (h6 : Zb 1 gi) : Ct G mX1_prepare [.ref (G.1 + 95), .ref (G.1 + 1)] (hp gi) (pCopy (97 + 47 * o) 1 gi) := by
  refine ct_of [some (.ref (G.1 + 95)), some (.ref (G.1 + 1))] w_8 (by decide) rfl (Nat.le_of_ble_eq_true rfl) rfl ?_
  refine go_aload_n 1 dX1_prepare_0 rfl rfl ls_0 ?_
  refine gp_getI 4 dX1_prepare_1 rfl f_X1_18 rfl o95 ?_
  refine go_top (y := (nI o)) h1 ?_
  refine go_if_lt 32 7 dX1_prepare_4 (by decide) rfl (fun c_4 => absurd c_4 (nI_pos (by omega))) (fun c_4 => ?_)
  refine go_aload_n 8 dX1_prepare_7 rfl rfl ls_0 ?_
  refine gp_getI 11 dX1_prepare_8 rfl f_X1_18 rfl o95 ?_
  refine go_top (y := (nI o)) h1 ?_
  refine go_aload_n 12 dX1_prepare_11 rfl rfl ls_0 ?_
  refine gp_getR 15 dX1_prepare_12 rfl f_X1_11 rfl o95 rfl ?_
  refine gp_alen 16 (v := nI 5) dX1_prepare_15 rfl a96 (by decide) (by decide) rfl ?_
  refine go_icmp_ge 32 19 dX1_prepare_16 (by decide) rfl (fun c_16 => absurd c_16 (nI_ge ho (by decide))) (fun c_16 => ?_)
  refine go_aload_n 20 dX1_prepare_19 rfl rfl ls_0 ?_
  refine gp_getR 23 dX1_prepare_20 rfl f_X1_11 rfl o95 rfl ?_
  refine go_aload_n 24 dX1_prepare_23 rfl rfl ls_0 ?_
  refine gp_getI 27 dX1_prepare_24 rfl f_X1_18 rfl o95 ?_
  refine go_top (y := (nI o)) h1 ?_
  refine gp_aald 28 (i := o) dX1_prepare_27 rfl a96 (by decide) rfl rfl ho (by decide) (gHR trivial ho) ?_
  refine go_aload_n 29 dX1_prepare_28 rfl rfl (ls_s ls_0) ?_
  refine go_V (M' := mX3_copyFrom) 32 dX1_prepare_29 rfl w_318 okX3_copyFrom ⟨Nat.le_of_ble_eq_true rfl, Nat.le_of_ble_eq_true rfl⟩ rfl rfl (Nat.le_of_ble_eq_true rfl) (Nat.le_of_ble_eq_true rfl) (ct_copyPlant G (isH ho) is1 (by omega) gi h0 h6) rfl rfl (Nat.le_of_ble_eq_true rfl) (tP (isH ho)) (by decide) rfl (fun v_29 h_29 p_29 => ?_)
  obtain ⟨rfl, gi2, rfl, e1, e2⟩ := p_29
  exact go_ret_v dX1_prepare_32 rfl rfl rfl ⟨rfl, _, rfl, e1, e2⟩
set_option maxHeartbeats 4000000 in
set_option maxRecDepth 100000 in
theorem ct_settle (G : BcG) {gi : GI} {o : Nat} (ho : o < 5) (h1 : gi 95 1 = nI o) {s : Nat} (hs : s ≤ 4) (h2 : gi 95 2 = nI s) (x : Int32) : Ct G mX1_settle [.ref (G.1 + 95), .int x] (hp gi) (pI x (hp (stF gi o s x))) := by
  refine ct_of [some (.ref (G.1 + 95)), some (.int x)] w_8 (by decide) rfl (Nat.le_of_ble_eq_true rfl) rfl ?_
  refine go_iload_n 1 dX1_settle_0 rfl rfl (ls_s ls_0) ?_
  refine go_if_lt 46 4 dX1_settle_1 (by decide) rfl (fun c_1 => ?_) (fun c_1 => ?_)
  · refine go_iload_n 47 dX1_settle_46 rfl rfl (ls_s ls_0) ?_
    exact go_ret_i dX1_settle_47 rfl rfl rfl (pI_of rfl (by rw [stF, if_pos c_1]))
  · refine go_aload_n 5 dX1_settle_4 rfl rfl ls_0 ?_
    refine go_aload_n 6 dX1_settle_5 rfl rfl ls_0 ?_
    refine gp_getI 9 dX1_settle_6 rfl f_X1_18 rfl o95 ?_
    refine go_top (y := (nI o)) h1 ?_
    refine go_iconst 10 (v := 1) dX1_settle_9 rfl (by decide) ?_
    refine go_iadd 11 dX1_settle_10 rfl ?_
    refine go_top (y := (nI (o + 1))) (nI_1 _) ?_
    refine go_aload_n 12 dX1_settle_11 rfl rfl ls_0 ?_
    refine gp_getR 15 dX1_settle_12 rfl f_X1_11 rfl o95 rfl ?_
    refine gp_alen 16 (v := nI 5) dX1_settle_15 rfl a96 (by decide) (by decide) rfl ?_
    refine go_icmp_ge 28 19 dX1_settle_16 (by decide) rfl (fun c_16 => ?_) (fun c_16 => ?_)
    · refine go_iconst 29 (v := 0) dX1_settle_28 rfl (by decide) ?_
      refine go_top (y := (nI (nxO o))) (by rw [nxO, if_neg (fun z => nI_ge z (by decide) c_16)]; rfl) ?_
      refine gp_putI 32 dX1_settle_29 rfl f_X1_18 rfl o95 rfl rfl ?_
      refine go_aload_n 33 dX1_settle_32 rfl rfl ls_0 ?_
      refine go_aload_n 34 dX1_settle_33 rfl rfl ls_0 ?_
      refine gp_getI 37 dX1_settle_34 rfl f_X1_26 rfl o95 ?_
      refine go_top (y := (nI s)) (by simp (disch := omega) only [wI_ne, wI_eq]; exact h2) ?_
      refine go_iconst 38 (v := 1) dX1_settle_37 rfl (by decide) ?_
      refine go_iadd 39 dX1_settle_38 rfl ?_
      refine go_top (y := (nI (s + 1))) (nI_1 _) ?_
      refine go_iconst 40 (v := 4) dX1_settle_39 rfl (by decide) ?_
      refine go_mmin 43 dX1_settle_40 rfl w_370 w_350 w_11 w_351 (by decide) (Nat.le_of_ble_eq_true rfl) (by decide) (by decide) ?_
      refine go_top (y := (nI (nxC s))) (nxC_m s (by omega)) ?_
      refine gp_putI 46 dX1_settle_43 rfl f_X1_26 rfl o95 rfl rfl ?_
      refine go_iload_n 47 dX1_settle_46 rfl rfl (ls_s ls_0) ?_
      exact go_ret_i dX1_settle_47 rfl rfl rfl (pI_of rfl (by rw [stF, if_neg c_1]))
    · refine go_aload_n 20 dX1_settle_19 rfl rfl ls_0 ?_
      refine gp_getI 23 dX1_settle_20 rfl f_X1_18 rfl o95 ?_
      refine go_top (y := (nI o)) h1 ?_
      refine go_iconst 24 (v := 1) dX1_settle_23 rfl (by decide) ?_
      refine go_iadd 25 dX1_settle_24 rfl ?_
      refine go_top (y := (nI (o + 1))) (nI_1 _) ?_
      refine go_goto 29 dX1_settle_25 (by decide) ?_
      refine go_top (y := (nI (nxO o))) (by rw [nxO, if_pos (Nat.lt_of_not_le (fun z => c_16 (nI_le z (by omega))))]) ?_
      refine gp_putI 32 dX1_settle_29 rfl f_X1_18 rfl o95 rfl rfl ?_
      refine go_aload_n 33 dX1_settle_32 rfl rfl ls_0 ?_
      refine go_aload_n 34 dX1_settle_33 rfl rfl ls_0 ?_
      refine gp_getI 37 dX1_settle_34 rfl f_X1_26 rfl o95 ?_
      refine go_top (y := (nI s)) (by simp (disch := omega) only [wI_ne, wI_eq]; exact h2) ?_
      refine go_iconst 38 (v := 1) dX1_settle_37 rfl (by decide) ?_
      refine go_iadd 39 dX1_settle_38 rfl ?_
      refine go_top (y := (nI (s + 1))) (nI_1 _) ?_
      refine go_iconst 40 (v := 4) dX1_settle_39 rfl (by decide) ?_
      refine go_mmin 43 dX1_settle_40 rfl w_370 w_350 w_11 w_351 (by decide) (Nat.le_of_ble_eq_true rfl) (by decide) (by decide) ?_
      refine go_top (y := (nI (nxC s))) (nxC_m s (by omega)) ?_
      refine gp_putI 46 dX1_settle_43 rfl f_X1_26 rfl o95 rfl rfl ?_
      refine go_iload_n 47 dX1_settle_46 rfl rfl (ls_s ls_0) ?_
      exact go_ret_i dX1_settle_47 rfl rfl rfl (pI_of rfl (by rw [stF, if_neg c_1]))
def pRs (gi0 : GI) (o s : Nat) : Option Value → BcH → Prop := fun v h' => v = some (.int (nI s)) ∧ ∃ gi, h' = hp gi ∧ (∀ r j, need r j → gi (1 + r) j = gi0 (97 + 47 * prO o + r) j) ∧ (∀ k, k < 1 ∨ 48 ≤ k → k ≠ 95 → gi k = gi0 k) ∧ gi 95 1 = nI (prO o) ∧ gi 95 2 = nI s
set_option maxHeartbeats 4000000 in
set_option maxRecDepth 100000 in
theorem ct_restore0 (G : BcG) (gi : GI) (h2 : gi 95 2 = 0) : Ct G mX1_restore [.ref (G.1 + 95), .ref (G.1 + 1)] (hp gi) (pI (-2) (hp gi)) := by
  refine ct_of [some (.ref (G.1 + 95)), some (.ref (G.1 + 1))] w_8 (by decide) rfl (Nat.le_of_ble_eq_true rfl) rfl ?_
  refine go_aload_n 1 dX1_restore_0 rfl rfl ls_0 ?_
  refine gp_getI 4 dX1_restore_1 rfl f_X1_26 rfl o95 ?_
  refine go_top (y := 0) h2 ?_
  refine go_if_ne 10 7 dX1_restore_4 (by decide) rfl (fun c_4 => absurd c_4 (by decide)) (fun c_4 => ?_)
  refine go_bipush 9 (v := (-2)) dX1_restore_7 rfl (by decide) ?_
  exact go_ret_i dX1_restore_9 rfl rfl rfl (pI_of rfl rfl)
set_option maxHeartbeats 4000000 in
set_option maxRecDepth 100000 in
theorem ct_restoreS (G : BcG) {gi : GI} {o : Nat} (ho : o < 5) (h1 : gi 95 1 = nI o) {s : Nat} (hs : s < 4) (h2 : gi 95 2 = nI (s + 1)) (h0 : ∀ b, b < 6 → gi (97 + 47 * prO o + 41 + b) 0 = 0 ∨ gi (97 + 47 * prO o + 41 + b) 0 = 1) (h6 : Zb (97 + 47 * prO o) gi) : Ct G mX1_restore [.ref (G.1 + 95), .ref (G.1 + 1)] (hp gi) (pRs gi o s) := by
  have hq5 : prO o < 5 := prO_lt ho
  refine ct_of [some (.ref (G.1 + 95)), some (.ref (G.1 + 1))] w_8 (by decide) rfl (Nat.le_of_ble_eq_true rfl) rfl ?_
  refine go_aload_n 1 dX1_restore_0 rfl rfl ls_0 ?_
  refine gp_getI 4 dX1_restore_1 rfl f_X1_26 rfl o95 ?_
  refine go_top (y := (nI (s + 1))) h2 ?_
  refine go_if_ne 10 7 dX1_restore_4 (by decide) rfl (fun c_4 => ?_) (fun c_4 => absurd c_4 (fun z => nI_not (n := 0) (m := s + 1) (by omega) (by omega) z.symm))
  refine go_aload_n 11 dX1_restore_10 rfl rfl ls_0 ?_
  refine go_dup 12 dX1_restore_11 rfl rfl ?_
  refine gp_getI 15 dX1_restore_12 rfl f_X1_26 rfl o95 ?_
  refine go_top (y := (nI (s + 1))) h2 ?_
  refine go_iconst 16 (v := 1) dX1_restore_15 rfl (by decide) ?_
  refine go_isub 17 dX1_restore_16 rfl ?_
  refine go_top (y := (nI s)) (nI_pred _) ?_
  refine gp_putI 20 dX1_restore_17 rfl f_X1_26 rfl o95 rfl rfl ?_
  refine go_aload_n 21 dX1_restore_20 rfl rfl ls_0 ?_
  refine go_aload_n 22 dX1_restore_21 rfl rfl ls_0 ?_
  refine gp_getI 25 dX1_restore_22 rfl f_X1_18 rfl o95 ?_
  refine go_top (y := (nI o)) (by simp (disch := omega) only [wI_ne, wI_eq]; exact h1) ?_
  refine go_if_le 37 28 dX1_restore_25 (by decide) rfl (fun c_25 => ?_) (fun c_25 => ?_)
  · refine go_aload_n 38 dX1_restore_37 rfl rfl ls_0 ?_
    refine gp_getR 41 dX1_restore_38 rfl f_X1_11 rfl o95 rfl ?_
    refine gp_alen 42 (v := nI 5) dX1_restore_41 rfl a96 (by decide) (by decide) rfl ?_
    refine go_iconst 43 (v := 1) dX1_restore_42 rfl (by decide) ?_
    refine go_isub 44 dX1_restore_43 rfl ?_
    refine go_top (y := (nI (prO o))) (by rw [prO, if_neg (fun z => nI_ge z (by omega) c_25)]; rfl) ?_
    refine gp_putI 47 dX1_restore_44 rfl f_X1_18 rfl o95 rfl rfl ?_
    refine go_aload_n 48 dX1_restore_47 rfl rfl ls_0 ?_
    refine gp_getI 51 dX1_restore_48 rfl f_X1_18 rfl o95 ?_
    refine go_top (y := (nI (prO o))) (by rw [wI_eq]) ?_
    refine go_if_lt 79 54 dX1_restore_51 (by decide) rfl (fun c_51 => absurd c_51 (nI_pos (by omega))) (fun c_51 => ?_)
    refine go_aload_n 55 dX1_restore_54 rfl rfl ls_0 ?_
    refine gp_getI 58 dX1_restore_55 rfl f_X1_18 rfl o95 ?_
    refine go_top (y := (nI (prO o))) (by rw [wI_eq]) ?_
    refine go_aload_n 59 dX1_restore_58 rfl rfl ls_0 ?_
    refine gp_getR 62 dX1_restore_59 rfl f_X1_11 rfl o95 rfl ?_
    refine gp_alen 63 (v := nI 5) dX1_restore_62 rfl a96 (by decide) (by decide) rfl ?_
    refine go_icmp_ge 79 66 dX1_restore_63 (by decide) rfl (fun c_63 => absurd c_63 (nI_ge hq5 (by decide))) (fun c_63 => ?_)
    refine go_aload_n 67 dX1_restore_66 rfl rfl (ls_s ls_0) ?_
    refine go_aload_n 68 dX1_restore_67 rfl rfl ls_0 ?_
    refine gp_getR 71 dX1_restore_68 rfl f_X1_11 rfl o95 rfl ?_
    refine go_aload_n 72 dX1_restore_71 rfl rfl ls_0 ?_
    refine gp_getI 75 dX1_restore_72 rfl f_X1_18 rfl o95 ?_
    refine go_top (y := (nI (prO o))) (by rw [wI_eq]) ?_
    refine gp_aald 76 (i := (prO o)) dX1_restore_75 rfl a96 (by decide) rfl rfl hq5 (by decide) (gHR trivial hq5) ?_
    refine go_V (M' := mX3_copyFrom) 79 dX1_restore_76 rfl w_318 okX3_copyFrom ⟨Nat.le_of_ble_eq_true rfl, Nat.le_of_ble_eq_true rfl⟩ rfl rfl (Nat.le_of_ble_eq_true rfl) (Nat.le_of_ble_eq_true rfl) (ct_copyPlant G is1 (isH hq5) (by omega) _ (fun b hb => by rw [wI_ne (by omega), wI_ne (by omega)]; exact h0 b hb) (fun b hb => by rw [wI_ne (by omega), wI_ne (by omega)]; exact h6 b hb)) rfl rfl (Nat.le_of_ble_eq_true rfl) (tP is1) (by decide) rfl (fun v_76 h_76 p_76 => ?_)
    obtain ⟨rfl, gi2, rfl, e1, e2⟩ := p_76
    refine go_aload_n 80 dX1_restore_79 rfl rfl ls_0 ?_
    refine gp_getI 83 dX1_restore_80 rfl f_X1_26 rfl o95 ?_
    refine go_top (y := (nI s)) (by rw [e2 95 (by omega), wI_ne (by omega), wI_eq]) ?_
    exact go_ret_i dX1_restore_83 rfl rfl rfl ⟨rfl, _, rfl, fun r j hn => by rw [e1 r j hn, wI_ne (by omega), wI_ne (by omega)], fun k hk hk2 => by rw [e2 k hk, wI_row hk2, wI_row hk2], by rw [e2 95 (by omega), wI_eq], by rw [e2 95 (by omega), wI_ne (by omega), wI_eq]⟩
  · refine go_aload_n 29 dX1_restore_28 rfl rfl ls_0 ?_
    refine gp_getI 32 dX1_restore_29 rfl f_X1_18 rfl o95 ?_
    refine go_top (y := (nI o)) (by simp (disch := omega) only [wI_ne, wI_eq]; exact h1) ?_
    refine go_iconst 33 (v := 1) dX1_restore_32 rfl (by decide) ?_
    refine go_isub 34 dX1_restore_33 rfl ?_
    refine go_goto 44 dX1_restore_34 (by decide) ?_
    refine go_top (y := (nI (prO o))) (by obtain ⟨q, rfl⟩ : ∃ q, o = q + 1 := ⟨o - 1, by have : 0 < o := Nat.lt_of_not_le (fun z => c_25 (nI_le z (by decide))); omega⟩; rw [nI_pred, prO, if_pos (Nat.succ_pos _)]; rfl) ?_
    refine gp_putI 47 dX1_restore_44 rfl f_X1_18 rfl o95 rfl rfl ?_
    refine go_aload_n 48 dX1_restore_47 rfl rfl ls_0 ?_
    refine gp_getI 51 dX1_restore_48 rfl f_X1_18 rfl o95 ?_
    refine go_top (y := (nI (prO o))) (by rw [wI_eq]) ?_
    refine go_if_lt 79 54 dX1_restore_51 (by decide) rfl (fun c_51 => absurd c_51 (nI_pos (by omega))) (fun c_51 => ?_)
    refine go_aload_n 55 dX1_restore_54 rfl rfl ls_0 ?_
    refine gp_getI 58 dX1_restore_55 rfl f_X1_18 rfl o95 ?_
    refine go_top (y := (nI (prO o))) (by rw [wI_eq]) ?_
    refine go_aload_n 59 dX1_restore_58 rfl rfl ls_0 ?_
    refine gp_getR 62 dX1_restore_59 rfl f_X1_11 rfl o95 rfl ?_
    refine gp_alen 63 (v := nI 5) dX1_restore_62 rfl a96 (by decide) (by decide) rfl ?_
    refine go_icmp_ge 79 66 dX1_restore_63 (by decide) rfl (fun c_63 => absurd c_63 (nI_ge hq5 (by decide))) (fun c_63 => ?_)
    refine go_aload_n 67 dX1_restore_66 rfl rfl (ls_s ls_0) ?_
    refine go_aload_n 68 dX1_restore_67 rfl rfl ls_0 ?_
    refine gp_getR 71 dX1_restore_68 rfl f_X1_11 rfl o95 rfl ?_
    refine go_aload_n 72 dX1_restore_71 rfl rfl ls_0 ?_
    refine gp_getI 75 dX1_restore_72 rfl f_X1_18 rfl o95 ?_
    refine go_top (y := (nI (prO o))) (by rw [wI_eq]) ?_
    refine gp_aald 76 (i := (prO o)) dX1_restore_75 rfl a96 (by decide) rfl rfl hq5 (by decide) (gHR trivial hq5) ?_
    refine go_V (M' := mX3_copyFrom) 79 dX1_restore_76 rfl w_318 okX3_copyFrom ⟨Nat.le_of_ble_eq_true rfl, Nat.le_of_ble_eq_true rfl⟩ rfl rfl (Nat.le_of_ble_eq_true rfl) (Nat.le_of_ble_eq_true rfl) (ct_copyPlant G is1 (isH hq5) (by omega) _ (fun b hb => by rw [wI_ne (by omega), wI_ne (by omega)]; exact h0 b hb) (fun b hb => by rw [wI_ne (by omega), wI_ne (by omega)]; exact h6 b hb)) rfl rfl (Nat.le_of_ble_eq_true rfl) (tP is1) (by decide) rfl (fun v_76 h_76 p_76 => ?_)
    obtain ⟨rfl, gi2, rfl, e1, e2⟩ := p_76
    refine go_aload_n 80 dX1_restore_79 rfl rfl ls_0 ?_
    refine gp_getI 83 dX1_restore_80 rfl f_X1_26 rfl o95 ?_
    refine go_top (y := (nI s)) (by rw [e2 95 (by omega), wI_ne (by omega), wI_eq]) ?_
    exact go_ret_i dX1_restore_83 rfl rfl rfl ⟨rfl, _, rfl, fun r j hn => by rw [e1 r j hn, wI_ne (by omega), wI_ne (by omega)], fun k hk hk2 => by rw [e2 k hk, wI_row hk2, wI_row hk2], by rw [e2 95 (by omega), wI_eq], by rw [e2 95 (by omega), wI_ne (by omega), wI_eq]⟩
