/-! THE REFERENCE: urgency: it takes the last that fits, the class the first; only one fits -/
theorem ah_lt {A : AA} {a b : Nat} (h : ∀ k, bfr A k a → bfr A k b) : ∀ (n k s t : Nat), (s ≤ t → ahF A a k n s ≤ ahF A b k n t) ∧ (s < t → ahF A a k n s < ahF A b k n t) ∧ (s ≤ t → (∃ i, k ≤ i ∧ i < k + n ∧ bfr A i b ∧ ¬ bfr A i a) → ahF A a k n s < ahF A b k n t) := by
  intro n
  induction n with
  | zero => intro k s t; exact ⟨fun h => h, fun h => h, fun _ ⟨i, h1, h2, _⟩ => by omega⟩
  | succ n ih =>
    intro k s t
    rw [ahF, ahF]
    by_cases ha : bfr A k a
    · rw [cIf_t ha, cIf_t (h k ha)]
      obtain ⟨i1, i2, i3⟩ := ih (k + 1) (s + 1) (t + 1)
      refine ⟨fun z => i1 (by omega), fun z => i2 (by omega), fun z ⟨i, h1, h2, h3, h4⟩ => i3 (by omega) ⟨i, ?_, by omega, h3, h4⟩⟩
      rcases Nat.eq_or_lt_of_le h1 with e | e
      · subst e; exact absurd ha h4
      · exact e
    · rw [cIf_f ha]
      by_cases hb : bfr A k b
      · rw [cIf_t hb]
        obtain ⟨i1, i2, i3⟩ := ih (k + 1) s (t + 1)
        exact ⟨fun z => i1 (by omega), fun z => i2 (by omega), fun z _ => i2 (by omega)⟩
      · rw [cIf_f hb]
        obtain ⟨i1, i2, i3⟩ := ih (k + 1) s t
        refine ⟨fun z => i1 z, fun z => i2 z, fun z ⟨i, h1, h2, h3, h4⟩ => i3 z ⟨i, ?_, by omega, h3, h4⟩⟩
        rcases Nat.eq_or_lt_of_le h1 with e | e
        · subst e; exact absurd h3 hb
        · exact e
theorem lt_tr {a b c : Int32} (h1 : a < b) (h2 : b < c) : a < c := by
  rw [Int32.lt_iff_toInt_lt] at *
  omega
theorem lt_as {a b : Int32} (h1 : a < b) : ¬ b < a := by
  rw [Int32.lt_iff_toInt_lt] at *
  omega
theorem lt_tot {a b : Int32} (h : ¬ a = b) : a < b ∨ b < a := by
  by_cases h1 : a < b
  · exact Or.inl h1
  · by_cases h2 : b < a
    · exact Or.inr h2
    · exact absurd (Int32.toInt_inj.mp (by rw [Int32.lt_iff_toInt_lt] at *; omega)) h
/-- being ahead is an order among those that may spoil -/
theorem bf_ne {A : AA} {a b : Nat} (ha : cnS A a) (hab : bfr A a b) (ha6 : a < 6) : ahF A a 0 6 0 < ahF A b 0 6 0 := by
  refine (ah_lt (a := a) (b := b) (fun k hk => ?_) 6 0 0 0).2.2 (Nat.le_refl _) ⟨a, Nat.zero_le _, by omega, hab, fun z => ?_⟩
  · obtain ⟨h1, h2⟩ := hk
    obtain ⟨-, h3⟩ := hab
    refine ⟨h1, ?_⟩
    rcases h2 with p | ⟨p, p'⟩ <;> rcases h3 with q | ⟨q, q'⟩
    · exact Or.inl (lt_tr p q)
    · rw [q] at p; exact Or.inl p
    · rw [← p] at q; exact Or.inl q
    · exact Or.inr ⟨p.trans q, by omega⟩
  · rcases z.2 with p | ⟨p, p'⟩
    · exact lt_as p p
    · omega
theorem ah_inj {A : AA} {a b : Nat} (ha : cnS A a) (hb : cnS A b) (ha6 : a < 6) (hb6 : b < 6) (h : ahF A a 0 6 0 = ahF A b 0 6 0) : a = b := by
  apply Classical.byContradiction
  intro hne
  by_cases e : gdF A a = gdF A b
  · rcases Nat.lt_or_gt_of_ne hne with q | q
    · have := bf_ne ha (b := b) ⟨ha, Or.inr ⟨e, q⟩⟩ ha6; omega
    · have := bf_ne hb (b := a) ⟨hb, Or.inr ⟨e.symm, q⟩⟩ hb6; omega
  · rcases lt_tot e with q | q
    · have := bf_ne ha (b := b) ⟨ha, Or.inl q⟩ ha6; omega
    · have := bf_ne hb (b := a) ⟨hb, Or.inl q⟩ hb6; omega
theorem ah_le {A : AA} {b : Nat} : ∀ (n k s : Nat), ahF A b k n s ≤ s + n := by
  intro n
  induction n with
  | zero => intro k s; exact Nat.le_refl _
  | succ n ih =>
    intro k s
    rw [ahF]
    have := ih (k + 1) (cIf (bfr A k b) (s + 1) s)
    have h2 : cIf (bfr A k b) (s + 1) s ≤ s + 1 := by
      by_cases h : bfr A k b
      · rw [cIf_t h]; exact Nat.le_refl _
      · rw [cIf_f h]; omega
    omega
def ugC (A : AA) (x : Int32) (b : Nat) : Prop := cnS A b ∧ nI (ahF A b 0 6 0) = x
theorem ug_un {A : AA} {x : Int32} {a b : Nat} (ha6 : a < 6) (hb6 : b < 6) (ha : ugC A x a) (hb : ugC A x b) : a = b := by
  have h1 := ah_le (A := A) (b := a) 6 0 0
  have h2 := ah_le (A := A) (b := b) 6 0 0
  exact ah_inj ha.1 hb.1 ha6 hb6 (nI_in_r (by omega) (by omega) (ha.2.trans hb.2.symm))
theorem ug_n {A : AA} {x : Int32} : ∀ (n i : Nat), (∀ b, i ≤ b → b < i + n → ¬ ugC A x b) → ugF A x i n = -4 := by
  intro n
  induction n with
  | zero => intro i _; rfl
  | succ n ih =>
    intro i h
    rw [ugF, cIf_f (c := cnS A i ∧ nI (ahF A i 0 6 0) = x) (h i (Nat.le_refl _) (by omega))]
    exact ih (i + 1) (fun b h1 h2 => h b (by omega) (by omega))
theorem ug_y {A : AA} {x : Int32} {b : Nat} (hb : ugC A x b) (hb6 : b < 6) : ∀ (n i : Nat), i ≤ b → b < i + n → i + n ≤ 6 → ugF A x i n = nI b := by
  intro n
  induction n with
  | zero => intro i h1 h2; omega
  | succ n ih =>
    intro i h1 h2 h3
    rw [ugF]
    by_cases h : cnS A i ∧ nI (ahF A i 0 6 0) = x
    · rw [cIf_t h, ug_un (by omega) hb6 h hb]
    · rw [cIf_f h]
      refine ih (i + 1) ?_ (by omega) (by omega)
      rcases Nat.eq_or_lt_of_le h1 with e | e
      · subst e; exact absurd hb h
      · exact e
/-- what is found among the first i -/
def ugS (A : AA) (x : Int32) (i : Nat) (f : Int32) : Prop := (f = -4 ∧ ∀ b, b < i → ¬ ugC A x b) ∨ ∃ b, b < i ∧ ugC A x b ∧ f = nI b
theorem ugS_y {A : AA} {x : Int32} {i : Nat} (h : ugC A x i) : ugS A x (i + 1) (nI i) := Or.inr ⟨i, by omega, h, rfl⟩
theorem ugS_n {A : AA} {x f : Int32} {i : Nat} (h : ¬ ugC A x i) (s : ugS A x i f) : ugS A x (i + 1) f := by
  rcases s with ⟨h1, h2⟩ | ⟨b, h1, h2, h3⟩
  · refine Or.inl ⟨h1, fun b hb => ?_⟩
    by_cases e : b = i
    · subst e; exact h
    · exact h2 b (by omega)
  · exact Or.inr ⟨b, by omega, h2, h3⟩
theorem ugS_6 {A : AA} {x f : Int32} (s : ugS A x 6 f) : f = ugF A x 0 6 := by
  rcases s with ⟨h1, h2⟩ | ⟨b, h1, h2, h3⟩
  · rw [h1, ug_n 6 0 (fun b _ hb => h2 b (by omega))]
  · rw [h3, ug_y h2 h1 6 0 (Nat.zero_le _) (by omega) (by omega)]
theorem gd_n {N : Nat} {A : AA} (I : Inv N A) {b : Nat} (hb : b < 6) (hl : live A b) : ∃ g, g ≤ 32700 ∧ gdF A b = nI g := by
  obtain ⟨o, ho, eo⟩ := ov_n I hb hl
  have h2 := ((I.2.2.1 _ (I.bR4 hb hl)).2.2 _ (I.bS4 hb hl)).2.2.2
  exact ⟨o + iN (stg A (bR A b) (bS A b) 3), by have := h2.2; omega, by rw [gdF, eo]; conv => lhs; rw [h2.1, nI_add]⟩
theorem gd_lt {N : Nat} {A : AA} (I : Inv N A) {a b : Nat} (ha : a < 6) (la : live A a) (hb : b < 6) (lb : live A b) : (gdF A a - gdF A b < 0 ↔ gdF A a < gdF A b) ∧ (gdF A a - gdF A b = 0 ↔ gdF A a = gdF A b) := by
  obtain ⟨g, hg, eg⟩ := gd_n I ha la
  obtain ⟨k, hk, ek⟩ := gd_n I hb lb
  rw [eg, ek]
  constructor
  · rw [Int32.lt_iff_toInt_lt, Int32.lt_iff_toInt_lt, pk_sub_toInt (by omega) (by omega), nI_toInt (by omega), nI_toInt (by omega)]
    show _ < (0 : Int) ↔ _
    omega
  · constructor
    · intro z
      have q := congrArg Int32.toInt z
      rw [pk_sub_toInt (by omega) (by omega)] at q
      have q' : (g : Int) - (k : Int) = 0 := q
      rw [show g = k by omega]
    · intro z
      have := nI_in_r (by omega) (by omega) z
      subst this
      exact Int32.sub_self _
theorem ah_s {A : AA} {b k n s : Nat} (h : bfr A k b) : ahF A b k (n + 1) s = ahF A b (k + 1) n (s + 1) := by rw [ahF, cIf_t h]
theorem ah_k {A : AA} {b k n s : Nat} (h : ¬ bfr A k b) : ahF A b k (n + 1) s = ahF A b (k + 1) n s := by rw [ahF, cIf_f h]
set_option maxHeartbeats 4000000 in
set_option maxRecDepth 100000 in
theorem lm_ahead (G : BcG) {gi : GI} {N : Nat} (I : Inv N (gi 336)) {b : Nat} (hb : b < 6) (hl : live (gi 336) b) {x f : Int32} {post : Option Value → BcH → Prop} {q : Nat} (kk : BGo G mX9_urgent (KM G mX9_urgent 341 post) (hp gi) 0 0 130 [some (.ref (G.1 + 335)), some (.int x), some (.int f), some (.int (nI b)), some (.int (nI q)), none, none, none] []) : ∀ (n i : Nat) (s : Nat), i + n = 6 → (ahF (gi 336) b i n s = q) → BGo G mX9_urgent (KM G mX9_urgent 341 (post)) (hp gi) 0 0 41 [some (.ref (G.1 + 335)), some (.int x), some (.int f), some (.int (nI b)), some (.int (nI s)), some (.int (nI i)), none, none] [] := by
  intro n
  induction n with
  | zero =>
    intro i s hn hs
    obtain rfl : i = 6 := by omega
    refine go_iload 43 dX9_urgent_41 rfl (ls_s (ls_s (ls_s (ls_s (ls_s ls_0))))) ?_
    refine go_bipush 45 (v := 6) dX9_urgent_43 rfl (by decide) ?_
    refine go_icmp_ge 130 48 dX9_urgent_45 (by decide) rfl (fun c_45 => ?_) (fun c_45 => absurd c_45 (by decide))
    have hs2 : s = q := hs
    subst hs2
    exact go_less (le_k (le_k (le_k (le_k (le_k (le_n (le_n (le_n le_0)))))))) kk
  | succ n ih =>
    intro i s hn hs
    have hi6 : i < 6 := by omega
    refine go_iload 43 dX9_urgent_41 rfl (ls_s (ls_s (ls_s (ls_s (ls_s ls_0))))) ?_
    refine go_bipush 45 (v := 6) dX9_urgent_43 rfl (by decide) ?_
    refine go_icmp_ge 130 48 dX9_urgent_45 (by decide) rfl (fun c_45 => absurd c_45 (nI_ge hi6 (by decide))) (fun c_45 => ?_)
    refine go_aload_n 49 dX9_urgent_48 rfl rfl ls_0 ?_
    refine go_iload 51 dX9_urgent_49 rfl (ls_s (ls_s (ls_s (ls_s (ls_s ls_0))))) ?_
    refine go_VI (M' := mX9_isBatch) 54 dX9_urgent_51 rfl w_787 okX9_isBatch ⟨Nat.le_of_ble_eq_true rfl, Nat.le_of_ble_eq_true rfl⟩ (m_isBatch G gi _) rfl rfl o335 (by decide) rfl (kk := ?_)
    refine go_ifeq_b 72 57 dX9_urgent_54 (by decide) rfl (fun c_54 => ?_) (fun c_54 => ?_)
    · refine go_iconst 73 (v := 0) dX9_urgent_72 rfl (by decide) ?_
      refine go_istore 75 dX9_urgent_73 rfl (by decide) (st_s (st_s (st_s (st_s (st_s (st_s st_0)))))) ?_
      refine go_iload 77 dX9_urgent_75 rfl (ls_s (ls_s (ls_s (ls_s (ls_s (ls_s ls_0)))))) ?_
      refine go_if_eq 95 80 dX9_urgent_77 (by decide) rfl (fun c_77 => ?_) (fun c_77 => absurd c_77 (by decide))
      refine go_iconst 96 (v := 1) dX9_urgent_95 rfl (by decide) ?_
      refine go_istore 98 dX9_urgent_96 rfl (by decide) (st_s (st_s (st_s (st_s (st_s (st_s (st_s st_0))))))) ?_
      refine go_iload 100 dX9_urgent_98 rfl (ls_s (ls_s (ls_s (ls_s ls_0)))) ?_
      refine go_iload 102 dX9_urgent_100 rfl (ls_s (ls_s (ls_s (ls_s (ls_s (ls_s (ls_s ls_0))))))) ?_
      refine go_if_lt 116 105 dX9_urgent_102 (by decide) rfl (fun c_102 => absurd c_102 (by decide)) (fun c_102 => ?_)
      refine go_iload 107 dX9_urgent_105 rfl (ls_s (ls_s (ls_s (ls_s (ls_s (ls_s (ls_s ls_0))))))) ?_
      refine go_if_ne 120 110 dX9_urgent_107 (by decide) rfl (fun c_107 => ?_) (fun c_107 => absurd c_107 (by decide))
      refine go_iconst 121 (v := 0) dX9_urgent_120 rfl (by decide) ?_
      refine go_iadd 122 dX9_urgent_121 rfl ?_
      refine go_top (y := (nI s)) (Int32.add_zero _) ?_
      refine go_istore 124 dX9_urgent_122 rfl (by decide) (st_s (st_s (st_s (st_s st_0)))) ?_
      refine go_iinc 127 (v := (nI (i + 1))) dX9_urgent_124 rfl (ls_s (ls_s (ls_s (ls_s (ls_s ls_0))))) (by exact nI_1 i) (by decide) (st_s (st_s (st_s (st_s (st_s st_0))))) ?_
      refine go_goto 41 dX9_urgent_127 (by decide) ?_
      refine go_less (le_k (le_k (le_k (le_k (le_k (le_k (le_n (le_n le_0)))))))) ?_
      exact ih (i + 1) s (by omega) (by rw [← ah_k (fun z => c_54 ((bat_i hi6).mpr z.1.1))]; exact hs)
    · have hli : live (gi 336) i := (bat_i hi6).mp c_54
      refine go_aload_n 58 dX9_urgent_57 rfl rfl ls_0 ?_
      refine go_iload 60 dX9_urgent_58 rfl (ls_s (ls_s (ls_s (ls_s (ls_s ls_0))))) ?_
      refine go_bipush 62 (v := 6) dX9_urgent_60 rfl (by decide) ?_
      refine go_VI (M' := mX9_of) 65 dX9_urgent_62 rfl w_791 okX9_of ⟨Nat.le_of_ble_eq_true rfl, Nat.le_of_ble_eq_true rfl⟩ (m_of G gi (j := 145 + 9 * i + 6) rfl (by omega)) rfl rfl o335 (by decide) rfl (kk := ?_)
      refine go_if_ne 72 68 dX9_urgent_65 (by decide) rfl (fun c_65 => ?_) (fun c_65 => ?_)
      · refine go_iconst 73 (v := 0) dX9_urgent_72 rfl (by decide) ?_
        refine go_istore 75 dX9_urgent_73 rfl (by decide) (st_s (st_s (st_s (st_s (st_s (st_s st_0)))))) ?_
        refine go_iload 77 dX9_urgent_75 rfl (ls_s (ls_s (ls_s (ls_s (ls_s (ls_s ls_0)))))) ?_
        refine go_if_eq 95 80 dX9_urgent_77 (by decide) rfl (fun c_77 => ?_) (fun c_77 => absurd c_77 (by decide))
        refine go_iconst 96 (v := 1) dX9_urgent_95 rfl (by decide) ?_
        refine go_istore 98 dX9_urgent_96 rfl (by decide) (st_s (st_s (st_s (st_s (st_s (st_s (st_s st_0))))))) ?_
        refine go_iload 100 dX9_urgent_98 rfl (ls_s (ls_s (ls_s (ls_s ls_0)))) ?_
        refine go_iload 102 dX9_urgent_100 rfl (ls_s (ls_s (ls_s (ls_s (ls_s (ls_s (ls_s ls_0))))))) ?_
        refine go_if_lt 116 105 dX9_urgent_102 (by decide) rfl (fun c_102 => absurd c_102 (by decide)) (fun c_102 => ?_)
        refine go_iload 107 dX9_urgent_105 rfl (ls_s (ls_s (ls_s (ls_s (ls_s (ls_s (ls_s ls_0))))))) ?_
        refine go_if_ne 120 110 dX9_urgent_107 (by decide) rfl (fun c_107 => ?_) (fun c_107 => absurd c_107 (by decide))
        refine go_iconst 121 (v := 0) dX9_urgent_120 rfl (by decide) ?_
        refine go_iadd 122 dX9_urgent_121 rfl ?_
        refine go_top (y := (nI s)) (Int32.add_zero _) ?_
        refine go_istore 124 dX9_urgent_122 rfl (by decide) (st_s (st_s (st_s (st_s st_0)))) ?_
        refine go_iinc 127 (v := (nI (i + 1))) dX9_urgent_124 rfl (ls_s (ls_s (ls_s (ls_s (ls_s ls_0))))) (by exact nI_1 i) (by decide) (st_s (st_s (st_s (st_s (st_s st_0))))) ?_
        refine go_goto 41 dX9_urgent_127 (by decide) ?_
        refine go_less (le_k (le_k (le_k (le_k (le_k (le_k (le_n (le_n le_0)))))))) ?_
        exact ih (i + 1) s (by omega) (by rw [← ah_k (fun z => c_65 z.1.2)]; exact hs)
      · refine go_iconst 69 (v := 1) dX9_urgent_68 rfl (by decide) ?_
        refine go_goto 73 dX9_urgent_69 (by decide) ?_
        refine go_istore 75 dX9_urgent_73 rfl (by decide) (st_s (st_s (st_s (st_s (st_s (st_s st_0)))))) ?_
        refine go_iload 77 dX9_urgent_75 rfl (ls_s (ls_s (ls_s (ls_s (ls_s (ls_s ls_0)))))) ?_
        refine go_if_eq 95 80 dX9_urgent_77 (by decide) rfl (fun c_77 => absurd c_77 (by decide)) (fun c_77 => ?_)
        refine go_aload_n 81 dX9_urgent_80 rfl rfl ls_0 ?_
        refine go_iload 83 dX9_urgent_81 rfl (ls_s (ls_s (ls_s (ls_s (ls_s ls_0))))) ?_
        refine go_VI (M' := mX9_goodTill) 86 dX9_urgent_83 rfl w_910 okX9_goodTill ⟨Nat.le_of_ble_eq_true rfl, Nat.le_of_ble_eq_true rfl⟩ (m_goodTill G I hi6 hli) rfl rfl o335 (by decide) rfl (kk := ?_)
        refine go_aload_n 87 dX9_urgent_86 rfl rfl ls_0 ?_
        refine go_iload_n 88 dX9_urgent_87 rfl rfl (ls_s (ls_s (ls_s ls_0))) ?_
        refine go_VI (M' := mX9_goodTill) 91 dX9_urgent_88 rfl w_910 okX9_goodTill ⟨Nat.le_of_ble_eq_true rfl, Nat.le_of_ble_eq_true rfl⟩ (m_goodTill G I hb hl) rfl rfl o335 (by decide) rfl (kk := ?_)
        refine go_isub 92 dX9_urgent_91 rfl ?_
        refine go_goto 96 dX9_urgent_92 (by decide) ?_
        refine go_istore 98 dX9_urgent_96 rfl (by decide) (st_s (st_s (st_s (st_s (st_s (st_s (st_s st_0))))))) ?_
        refine go_iload 100 dX9_urgent_98 rfl (ls_s (ls_s (ls_s (ls_s ls_0)))) ?_
        refine go_iload 102 dX9_urgent_100 rfl (ls_s (ls_s (ls_s (ls_s (ls_s (ls_s (ls_s ls_0))))))) ?_
        refine go_if_lt 116 105 dX9_urgent_102 (by decide) rfl (fun c_102 => ?_) (fun c_102 => ?_)
        · refine go_iconst 117 (v := 1) dX9_urgent_116 rfl (by decide) ?_
          refine go_goto 121 dX9_urgent_117 (by decide) ?_
          refine go_iadd 122 dX9_urgent_121 rfl ?_
          refine go_top (y := (nI (s + 1))) (nI_1 _) ?_
          refine go_istore 124 dX9_urgent_122 rfl (by decide) (st_s (st_s (st_s (st_s st_0)))) ?_
          refine go_iinc 127 (v := (nI (i + 1))) dX9_urgent_124 rfl (ls_s (ls_s (ls_s (ls_s (ls_s ls_0))))) (by exact nI_1 i) (by decide) (st_s (st_s (st_s (st_s (st_s st_0))))) ?_
          refine go_goto 41 dX9_urgent_127 (by decide) ?_
          refine go_less (le_k (le_k (le_k (le_k (le_k (le_k (le_n (le_n le_0)))))))) ?_
          exact ih (i + 1) (s + 1) (by omega) (by rw [← ah_s ⟨⟨hli, c_65⟩, Or.inl ((gd_lt I hi6 hli hb hl).1.mp c_102)⟩]; exact hs)
        · refine go_iload 107 dX9_urgent_105 rfl (ls_s (ls_s (ls_s (ls_s (ls_s (ls_s (ls_s ls_0))))))) ?_
          refine go_if_ne 120 110 dX9_urgent_107 (by decide) rfl (fun c_107 => ?_) (fun c_107 => ?_)
          · refine go_iconst 121 (v := 0) dX9_urgent_120 rfl (by decide) ?_
            refine go_iadd 122 dX9_urgent_121 rfl ?_
            refine go_top (y := (nI s)) (Int32.add_zero _) ?_
            refine go_istore 124 dX9_urgent_122 rfl (by decide) (st_s (st_s (st_s (st_s st_0)))) ?_
            refine go_iinc 127 (v := (nI (i + 1))) dX9_urgent_124 rfl (ls_s (ls_s (ls_s (ls_s (ls_s ls_0))))) (by exact nI_1 i) (by decide) (st_s (st_s (st_s (st_s (st_s st_0))))) ?_
            refine go_goto 41 dX9_urgent_127 (by decide) ?_
            refine go_less (le_k (le_k (le_k (le_k (le_k (le_k (le_n (le_n le_0)))))))) ?_
            exact ih (i + 1) s (by omega) (by rw [← ah_k (fun z => by rcases z.2 with p | ⟨p, p2⟩; exact c_102 ((gd_lt I hi6 hli hb hl).1.mpr p); exact c_107 ((gd_lt I hi6 hli hb hl).2.mpr p))]; exact hs)
          · refine go_iload 112 dX9_urgent_110 rfl (ls_s (ls_s (ls_s (ls_s (ls_s ls_0))))) ?_
            refine go_iload_n 113 dX9_urgent_112 rfl rfl (ls_s (ls_s (ls_s ls_0))) ?_
            refine go_icmp_ge 120 116 dX9_urgent_113 (by decide) rfl (fun c_113 => ?_) (fun c_113 => ?_)
            · refine go_iconst 121 (v := 0) dX9_urgent_120 rfl (by decide) ?_
              refine go_iadd 122 dX9_urgent_121 rfl ?_
              refine go_top (y := (nI s)) (Int32.add_zero _) ?_
              refine go_istore 124 dX9_urgent_122 rfl (by decide) (st_s (st_s (st_s (st_s st_0)))) ?_
              refine go_iinc 127 (v := (nI (i + 1))) dX9_urgent_124 rfl (ls_s (ls_s (ls_s (ls_s (ls_s ls_0))))) (by exact nI_1 i) (by decide) (st_s (st_s (st_s (st_s (st_s st_0))))) ?_
              refine go_goto 41 dX9_urgent_127 (by decide) ?_
              refine go_less (le_k (le_k (le_k (le_k (le_k (le_k (le_n (le_n le_0)))))))) ?_
              exact ih (i + 1) s (by omega) (by rw [← ah_k (fun z => by rcases z.2 with p | ⟨p, p2⟩; exact c_102 ((gd_lt I hi6 hli hb hl).1.mpr p); exact nI_ge p2 (by omega) c_113)]; exact hs)
            · refine go_iconst 117 (v := 1) dX9_urgent_116 rfl (by decide) ?_
              refine go_goto 121 dX9_urgent_117 (by decide) ?_
              refine go_iadd 122 dX9_urgent_121 rfl ?_
              refine go_top (y := (nI (s + 1))) (nI_1 _) ?_
              refine go_istore 124 dX9_urgent_122 rfl (by decide) (st_s (st_s (st_s (st_s st_0)))) ?_
              refine go_iinc 127 (v := (nI (i + 1))) dX9_urgent_124 rfl (ls_s (ls_s (ls_s (ls_s (ls_s ls_0))))) (by exact nI_1 i) (by decide) (st_s (st_s (st_s (st_s (st_s st_0))))) ?_
              refine go_goto 41 dX9_urgent_127 (by decide) ?_
              refine go_less (le_k (le_k (le_k (le_k (le_k (le_k (le_n (le_n le_0)))))))) ?_
              exact ih (i + 1) (s + 1) (by omega) (by rw [← ah_s ⟨⟨hli, c_65⟩, Or.inr ⟨(gd_lt I hi6 hli hb hl).2.mp c_107, Nat.lt_of_not_le (fun z => c_113 (nI_le z (by omega)))⟩⟩]; exact hs)
set_option maxHeartbeats 4000000 in
set_option maxRecDepth 100000 in
theorem lm_urgent (G : BcG) {gi : GI} {N : Nat} (I : Inv N (gi 336)) (x : Int32) : ∀ (n i : Nat) (f : Int32), i + n = 6 → (ugS (gi 336) x i f) → BGo G mX9_urgent (KM G mX9_urgent 341 (pI (ugF (gi 336) x 0 6) (hp gi))) (hp gi) 0 0 11 [some (.ref (G.1 + 335)), some (.int x), some (.int f), some (.int (nI i)), none, none, none, none] [] := by
  intro n
  induction n with
  | zero =>
    intro i f hn hf
    obtain rfl : i = 6 := by omega
    refine go_iload_n 12 dX9_urgent_11 rfl rfl (ls_s (ls_s (ls_s ls_0))) ?_
    refine go_bipush 14 (v := 6) dX9_urgent_12 rfl (by decide) ?_
    refine go_icmp_ge 148 17 dX9_urgent_14 (by decide) rfl (fun c_14 => ?_) (fun c_14 => absurd c_14 (by decide))
    refine go_iload_n 149 dX9_urgent_148 rfl rfl (ls_s (ls_s ls_0)) ?_
    exact go_ret_i dX9_urgent_149 rfl rfl rfl (pI_of (ugS_6 hf) rfl)
  | succ n ih =>
    intro i f hn hf
    have hi6 : i < 6 := by omega
    refine go_iload_n 12 dX9_urgent_11 rfl rfl (ls_s (ls_s (ls_s ls_0))) ?_
    refine go_bipush 14 (v := 6) dX9_urgent_12 rfl (by decide) ?_
    refine go_icmp_ge 148 17 dX9_urgent_14 (by decide) rfl (fun c_14 => absurd c_14 (nI_ge hi6 (by decide))) (fun c_14 => ?_)
    refine go_aload_n 18 dX9_urgent_17 rfl rfl ls_0 ?_
    refine go_iload_n 19 dX9_urgent_18 rfl rfl (ls_s (ls_s (ls_s ls_0))) ?_
    refine go_VI (M' := mX9_isBatch) 22 dX9_urgent_19 rfl w_787 okX9_isBatch ⟨Nat.le_of_ble_eq_true rfl, Nat.le_of_ble_eq_true rfl⟩ (m_isBatch G gi _) rfl rfl o335 (by decide) rfl (kk := ?_)
    refine go_ifeq_b 142 25 dX9_urgent_22 (by decide) rfl (fun c_22 => ?_) (fun c_22 => ?_)
    · refine go_iinc 145 (v := (nI (i + 1))) dX9_urgent_142 rfl (ls_s (ls_s (ls_s ls_0))) (by exact nI_1 i) (by decide) (st_s (st_s (st_s st_0))) ?_
      refine go_goto 11 dX9_urgent_145 (by decide) ?_
      refine go_less (le_k (le_k (le_k (le_k (le_n (le_n (le_n (le_n le_0)))))))) ?_
      exact ih (i + 1) _ (by omega) (ugS_n (fun z => c_22 ((bat_i hi6).mpr z.1.1)) hf)
    · have hl : live (gi 336) i := (bat_i hi6).mp c_22
      refine go_aload_n 26 dX9_urgent_25 rfl rfl ls_0 ?_
      refine go_iload_n 27 dX9_urgent_26 rfl rfl (ls_s (ls_s (ls_s ls_0))) ?_
      refine go_bipush 29 (v := 6) dX9_urgent_27 rfl (by decide) ?_
      refine go_VI (M' := mX9_of) 32 dX9_urgent_29 rfl w_791 okX9_of ⟨Nat.le_of_ble_eq_true rfl, Nat.le_of_ble_eq_true rfl⟩ (m_of G gi (j := 145 + 9 * i + 6) rfl (by omega)) rfl rfl o335 (by decide) rfl (kk := ?_)
      refine go_if_ne 142 35 dX9_urgent_32 (by decide) rfl (fun c_32 => ?_) (fun c_32 => ?_)
      · refine go_iinc 145 (v := (nI (i + 1))) dX9_urgent_142 rfl (ls_s (ls_s (ls_s ls_0))) (by exact nI_1 i) (by decide) (st_s (st_s (st_s st_0))) ?_
        refine go_goto 11 dX9_urgent_145 (by decide) ?_
        refine go_less (le_k (le_k (le_k (le_k (le_n (le_n (le_n (le_n le_0)))))))) ?_
        exact ih (i + 1) _ (by omega) (ugS_n (fun z => c_32 z.1.2) hf)
      · refine go_iconst 36 (v := 0) dX9_urgent_35 rfl (by decide) ?_
        refine go_istore 38 dX9_urgent_36 rfl (by decide) (st_s (st_s (st_s (st_s st_0)))) ?_
        refine go_iconst 39 (v := 0) dX9_urgent_38 rfl (by decide) ?_
        refine go_istore 41 dX9_urgent_39 rfl (by decide) (st_s (st_s (st_s (st_s (st_s st_0))))) ?_
        refine go_less (le_k (le_k (le_k (le_k (le_k (le_k (le_n (le_n le_0)))))))) ?_
        refine lm_ahead G I hi6 hl (x := x) (f := f) ?_ 6 0 0 rfl rfl
        refine go_iload 132 dX9_urgent_130 rfl (ls_s (ls_s (ls_s (ls_s ls_0)))) ?_
        refine go_iload_n 133 dX9_urgent_132 rfl rfl (ls_s ls_0) ?_
        refine go_icmp_ne 140 136 dX9_urgent_133 (by decide) rfl (fun c_133 => ?_) (fun c_133 => ?_)
        · refine go_iload_n 141 dX9_urgent_140 rfl rfl (ls_s (ls_s ls_0)) ?_
          refine go_istore_n 142 dX9_urgent_141 rfl rfl (by decide) (st_s (st_s st_0)) ?_
          refine go_iinc 145 (v := (nI (i + 1))) dX9_urgent_142 rfl (ls_s (ls_s (ls_s ls_0))) (by exact nI_1 i) (by decide) (st_s (st_s (st_s st_0))) ?_
          refine go_goto 11 dX9_urgent_145 (by decide) ?_
          refine go_less (le_k (le_k (le_k (le_k (le_n (le_n (le_n (le_n le_0)))))))) ?_
          exact ih (i + 1) _ (by omega) (ugS_n (fun z => c_133 z.2) hf)
        · refine go_iload_n 137 dX9_urgent_136 rfl rfl (ls_s (ls_s (ls_s ls_0))) ?_
          refine go_goto 141 dX9_urgent_137 (by decide) ?_
          refine go_istore_n 142 dX9_urgent_141 rfl rfl (by decide) (st_s (st_s st_0)) ?_
          refine go_iinc 145 (v := (nI (i + 1))) dX9_urgent_142 rfl (ls_s (ls_s (ls_s ls_0))) (by exact nI_1 i) (by decide) (st_s (st_s (st_s st_0))) ?_
          refine go_goto 11 dX9_urgent_145 (by decide) ?_
          refine go_less (le_k (le_k (le_k (le_k (le_n (le_n (le_n (le_n le_0)))))))) ?_
          exact ih (i + 1) _ (by omega) (ugS_y ⟨⟨hl, c_32⟩, c_133⟩)
set_option maxHeartbeats 4000000 in
set_option maxRecDepth 100000 in
theorem mx_urgent (G : BcG) {gi : GI} {N : Nat} (I : Inv N (gi 336)) (x : Int32) : Ct G mX9_urgent [.ref (G.1 + 335), .int x] (hp gi) (pI (fUrgent (gi 336) x) (hp gi)) := by
  refine ct_of [some (.ref (G.1 + 335)), some (.int x), none, none, none, none, none, none] w_10 (by decide) rfl (Nat.le_of_ble_eq_true rfl) rfl ?_
  refine go_iload_n 1 dX9_urgent_0 rfl rfl (ls_s ls_0) ?_
  refine go_if_ge 6 4 dX9_urgent_1 (by decide) rfl (fun c_1 => ?_) (fun c_1 => ?_)
  · refine go_bipush 8 (v := (-4)) dX9_urgent_6 rfl (by decide) ?_
    refine go_istore_n 9 dX9_urgent_8 rfl rfl (by decide) (st_s (st_s st_0)) ?_
    refine go_iconst 10 (v := 0) dX9_urgent_9 rfl (by decide) ?_
    refine go_istore_n 11 dX9_urgent_10 rfl rfl (by decide) (st_s (st_s (st_s st_0))) ?_
    rw [fUrgent, cIf_f (Int32.not_lt.mpr c_1)]
    exact lm_urgent G I x 6 0 _ rfl (Or.inl ⟨rfl, fun b h => absurd h (Nat.not_lt_zero _)⟩)
  · refine go_iconst 5 (v := (-1)) dX9_urgent_4 rfl (by decide) ?_
    exact go_ret_i dX9_urgent_5 rfl rfl rfl (pI_of (by rw [fUrgent, cIf_t (Int32.not_le.mp c_1)]) rfl)
