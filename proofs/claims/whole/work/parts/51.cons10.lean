/-! THE CONSTRUCTORS: the reference -/
def MdI (i : Nat) (g0 gi : GI) : Prop := (∀ k, k ≠ 336 → gi k = g0 k) ∧ ∀ j, gi 336 j = if j < 2 then 10 else if 15 ≤ j ∧ j < 15 + i then tb0 (j - 15) else 0
theorem MdI_s {i : Nat} {g0 gi : GI} {v : Int32} (h : MdI i g0 gi) (hv : v = tb0 i) : MdI (i + 1) g0 (wI gi 336 (15 + i) v) := by
  refine ⟨fun k hk => by rw [wI_row hk]; exact h.1 k hk, fun j => ?_⟩
  by_cases e : j = 15 + i
  · subst e
    rw [wI_eq, if_neg (by omega), if_pos (by omega), hv, show 15 + i - 15 = i by omega]
  · rw [wI_ne (by omega), h.2 j]
    by_cases q : j < 2
    · rw [if_pos q, if_pos q]
    · rw [if_neg q, if_neg q]
      by_cases r : 15 ≤ j ∧ j < 15 + i
      · rw [if_pos r, if_pos (by omega)]
      · rw [if_neg r, if_neg (by omega)]
set_option maxHeartbeats 4000000 in
set_option maxRecDepth 100000 in
theorem lp_newM (G : BcG) {gr : Nat → Nat → Option Nat} (h7 : gr 335 0 = some 336) {g0 : GI} {post : Option Value → BcH → Prop} (hpost : ∀ gi, MdI 16 g0 gi → post none (hq 341 gr gi)) : ∀ (m i : Nat) (gi : GI), i + m = 16 → MdI i g0 gi → BGo G mX9_init (KM G mX9_init 336 post) (hq 341 gr gi) 5 1277 64 [some (.ref (G.1 + 335)), some (.int (nI i))] [] := by
  intro m
  induction m with
  | zero =>
    intro i gi hi T
    obtain rfl : i = 16 := by omega
    refine go_iload_n 65 dX9_init_64 rfl rfl (ls_s ls_0) ?_
    refine go_bipush 67 (v := nI 16) dX9_init_65 rfl (by decide) ?_
    refine go_icmp_ge 99 70 dX9_init_67 (by decide) rfl (fun c_1 => ?_) (fun c_1 => absurd (Int32.le_refl _) c_1)
    exact go_ret_v dX9_init_99 rfl rfl rfl (hpost gi T)
  | succ m ih =>
    intro i gi hi T
    have hi4 : i < 16 := by omega
    refine go_iload_n 65 dX9_init_64 rfl rfl (ls_s ls_0) ?_
    refine go_bipush 67 (v := nI 16) dX9_init_65 rfl (by decide) ?_
    refine go_icmp_ge 99 70 dX9_init_67 (by decide) rfl (fun c_1 => absurd c_1 (nI_ge hi4 (by decide))) (fun c_1 => ?_)
    refine go_aload_n 71 dX9_init_70 rfl rfl ls_0 ?_
    refine go_getR (a := 335) (a1 := 336) 74 dX9_init_71 rfl f_X9_7 rfl ⟨by show 335 < 341; omega, rfl⟩ h7 ?_
    refine go_bipush 76 (v := nI 15) dX9_init_74 rfl (by decide) ?_
    refine go_iload_n 77 dX9_init_76 rfl rfl (ls_s ls_0) ?_
    refine go_iadd 78 dX9_init_77 rfl ?_
    refine go_top (y := nI (15 + i)) (nI_add _ _) ?_
    refine go_iload_n 79 dX9_init_78 rfl rfl (ls_s ls_0) ?_
    refine go_iconst 80 (v := 4) dX9_init_79 rfl (by decide) ?_
    refine go_idiv 81 dX9_init_80 rfl (by decide) ?_
    refine go_iload_n 82 dX9_init_81 rfl rfl (ls_s ls_0) ?_
    refine go_iconst 83 (v := 4) dX9_init_82 rfl (by decide) ?_
    refine go_irem 84 dX9_init_83 rfl (by decide) ?_
    refine go_icmp_ne 91 87 dX9_init_84 (by decide) rfl (fun c_2 => ?_) (fun c_2 => ?_)
    · refine go_iconst 92 (v := 5) dX9_init_91 rfl (by decide) ?_
      refine go_iast (a := 336) (len := 199) 93 dX9_init_92 rfl ⟨by show 336 < 341; omega, rfl⟩ (vp_in_nI (by omega) (by decide)) ?_
      rw [nI_clamp (by omega)]
      refine go_iinc 96 (v := nI (i + 1)) dX9_init_93 rfl (ls_s ls_0) (nI_1 i) (by decide) (st_s st_0) ?_
      refine go_goto 64 dX9_init_96 (by decide) ?_
      exact ih (i + 1) _ (by omega) (MdI_s T (by rw [tb0, if_pos hi4, if_neg (fun z => c_2 ((tb_d i hi4).mpr z))]))
    · refine go_iconst 88 (v := 0) dX9_init_87 rfl (by decide) ?_
      refine go_goto 92 dX9_init_88 (by decide) ?_
      refine go_iast (a := 336) (len := 199) 93 dX9_init_92 rfl ⟨by show 336 < 341; omega, rfl⟩ (vp_in_nI (by omega) (by decide)) ?_
      rw [nI_clamp (by omega)]
      refine go_iinc 96 (v := nI (i + 1)) dX9_init_93 rfl (ls_s ls_0) (nI_1 i) (by decide) (st_s st_0) ?_
      refine go_goto 64 dX9_init_96 (by decide) ?_
      exact ih (i + 1) _ (by omega) (MdI_s T (by rw [tb0, if_pos hi4, if_pos ((tb_d i hi4).mp c_2)]))
