/-! THE CONSTRUCTORS: a plant, whole -/
set_option maxHeartbeats 4000000 in
set_option maxRecDepth 100000 in
theorem ct_putG (G : BcG) (h : BcH) (a len i : Nat) (y : Int32) (ha : bc_a h a 20 len) (hi : i < len) (hl : len < 2 ^ 31) : Ct G mX8_putEntry [.ref (G.1 + a), .int (nI i), .int y] h (pV (bc_si h a i y)) := by
  refine ct_of [some (.ref (G.1 + a)), some (.int (nI i)), some (.int y)] w_1 (by decide) rfl (Nat.le_of_ble_eq_true rfl) rfl ?_
  refine go_iload_n 1 dX8_putEntry_0 rfl rfl (ls_s ls_0) ?_
  refine go_if_lt 14 4 dX8_putEntry_1 (by decide) rfl (fun c_1 => absurd c_1 (nI_pos (by omega))) (fun c_1 => ?_)
  refine go_iload_n 5 dX8_putEntry_4 rfl rfl (ls_s ls_0) ?_
  refine go_aload_n 6 dX8_putEntry_5 rfl rfl ls_0 ?_
  refine go_alen 7 (v := nI len) dX8_putEntry_6 rfl ha (by decide) (by decide) rfl ?_
  refine go_icmp_ge 14 10 dX8_putEntry_7 (by decide) rfl (fun c_7 => absurd c_7 (nI_ge hi hl)) (fun c_7 => ?_)
  refine go_aload_n 11 dX8_putEntry_10 rfl rfl ls_0 ?_
  refine go_iload_n 12 dX8_putEntry_11 rfl rfl (ls_s ls_0) ?_
  refine go_iload_n 13 dX8_putEntry_12 rfl rfl (ls_s (ls_s ls_0)) ?_
  refine go_iast 14 dX8_putEntry_13 rfl ha (vp_in_nI hi hl) ?_
  rw [nI_clamp (by omega)]
  exact go_ret_v dX8_putEntry_14 rfl rfl rfl ⟨rfl, rfl⟩
def TbI (P i : Nat) (g0 gi : GI) : Prop := (∀ k, k ≠ P + 5 → gi k = g0 k) ∧ ∀ j, gi (P + 5) j = if j < i then tb0 j else 0
theorem TbI_s {P i : Nat} {g0 gi : GI} {v : Int32} (h : TbI P i g0 gi) (hv : v = tb0 i) : TbI P (i + 1) g0 (wI gi (P + 5) i v) := by
  refine ⟨fun k hk => by rw [wI_row hk]; exact h.1 k hk, fun j => ?_⟩
  by_cases e : j = i
  · subst e; rw [wI_eq, if_pos (by omega), hv]
  · rw [wI_ne (by omega), h.2 j]
    by_cases q : j < i
    · rw [if_pos q, if_pos (by omega)]
    · rw [if_neg q, if_neg (by omega)]
theorem tb_d : ∀ i, i < 16 → ((nI i / 4 = nI i - nI i / 4 * 4) ↔ i / 4 = i % 4) := by decide +kernel
set_option maxHeartbeats 4000000 in
set_option maxRecDepth 100000 in
theorem lp_plT (G : BcG) {P : Nat} (hP : isP P) {gr : Nat → Nat → Option Nat} (h2 : gr P = GR P) {g0 : GI} {post : Option Value → BcH → Prop} (kk : ∀ gi, TbI P 16 g0 gi → BGo G mX3_init (KM G mX3_init (P + 1) post) (hq (P + 47) gr gi) 46 253 217 [some (.ref (G.1 + P)), none] []) : ∀ (m i : Nat) (gi : GI), i + m = 16 → TbI P i g0 gi → BGo G mX3_init (KM G mX3_init (P + 1) post) (hq (P + 47) gr gi) 46 253 182 [some (.ref (G.1 + P)), some (.int (nI i))] [] := by
  obtain ⟨s0, s1, s2, s3, s4, s5, s6, s7, s8⟩ := sh_P hP
  have hg := gr_P hP
  have h7 : gr P 7 = some (P + 5) := by rw [h2, (hg 7 (by decide)).1]; rfl
  intro m
  induction m with
  | zero =>
    intro i gi hi T
    obtain rfl : i = 16 := by omega
    refine go_iload_n 183 dX3_init_182 rfl rfl (ls_s ls_0) ?_
    refine go_aload_n 184 dX3_init_183 rfl rfl ls_0 ?_
    refine go_getR (a := P) (a1 := P + 5) 187 dX3_init_184 rfl f_X3_35 rfl ⟨by show P < P + 47; omega, by show (SH P).1 = 3; rw [s1]⟩ h7 ?_
    refine go_alen (a := P + 5) (len := 16) (t := 20) 188 (v := nI 16) dX3_init_187 rfl ⟨by show P + 5 < P + 47; omega, s6⟩ (by decide) (by decide) rfl ?_
    refine go_icmp_ge 217 191 dX3_init_188 (by decide) rfl (fun c_1 => ?_) (fun c_1 => absurd (Int32.le_refl _) c_1)
    exact go_less (le_k (le_n le_0)) (kk gi T)
  | succ m ih =>
    intro i gi hi T
    have hi4 : i < 16 := by omega
    refine go_iload_n 183 dX3_init_182 rfl rfl (ls_s ls_0) ?_
    refine go_aload_n 184 dX3_init_183 rfl rfl ls_0 ?_
    refine go_getR (a := P) (a1 := P + 5) 187 dX3_init_184 rfl f_X3_35 rfl ⟨by show P < P + 47; omega, by show (SH P).1 = 3; rw [s1]⟩ h7 ?_
    refine go_alen (a := P + 5) (len := 16) (t := 20) 188 (v := nI 16) dX3_init_187 rfl ⟨by show P + 5 < P + 47; omega, s6⟩ (by decide) (by decide) rfl ?_
    refine go_icmp_ge 217 191 dX3_init_188 (by decide) rfl (fun c_1 => absurd c_1 (nI_ge hi4 (by decide))) (fun c_1 => ?_)
    refine go_aload_n 192 dX3_init_191 rfl rfl ls_0 ?_
    refine go_getR (a := P) (a1 := P + 5) 195 dX3_init_192 rfl f_X3_35 rfl ⟨by show P < P + 47; omega, by show (SH P).1 = 3; rw [s1]⟩ h7 ?_
    refine go_iload_n 196 dX3_init_195 rfl rfl (ls_s ls_0) ?_
    refine go_iload_n 197 dX3_init_196 rfl rfl (ls_s ls_0) ?_
    refine go_iconst 198 (v := 4) dX3_init_197 rfl (by decide) ?_
    refine go_idiv 199 dX3_init_198 rfl (by decide) ?_
    refine go_iload_n 200 dX3_init_199 rfl rfl (ls_s ls_0) ?_
    refine go_iconst 201 (v := 4) dX3_init_200 rfl (by decide) ?_
    refine go_irem 202 dX3_init_201 rfl (by decide) ?_
    refine go_icmp_ne 209 205 dX3_init_202 (by decide) rfl (fun c_2 => ?_) (fun c_2 => ?_)
    · refine go_iconst 210 (v := 5) dX3_init_209 rfl (by decide) ?_
      refine go_iast (a := P + 5) (len := 16) 211 dX3_init_210 rfl ⟨by show P + 5 < P + 47; omega, s6⟩ (vp_in_nI hi4 (by decide)) ?_
      rw [nI_clamp (by omega)]
      refine go_iinc 214 (v := nI (i + 1)) dX3_init_211 rfl (ls_s ls_0) (nI_1 i) (by decide) (st_s st_0) ?_
      refine go_goto 182 dX3_init_214 (by decide) ?_
      exact ih (i + 1) _ (by omega) (TbI_s T (by rw [tb0, if_pos hi4, if_neg (fun z => c_2 ((tb_d i hi4).mpr z))]))
    · refine go_iconst 206 (v := 0) dX3_init_205 rfl (by decide) ?_
      refine go_goto 210 dX3_init_206 (by decide) ?_
      refine go_iast (a := P + 5) (len := 16) 211 dX3_init_210 rfl ⟨by show P + 5 < P + 47; omega, s6⟩ (vp_in_nI hi4 (by decide)) ?_
      rw [nI_clamp (by omega)]
      refine go_iinc 214 (v := nI (i + 1)) dX3_init_211 rfl (ls_s ls_0) (nI_1 i) (by decide) (st_s st_0) ?_
      refine go_goto 182 dX3_init_214 (by decide) ?_
      exact ih (i + 1) _ (by omega) (TbI_s T (by rw [tb0, if_pos hi4, if_pos ((tb_d i hi4).mp c_2)]))
