/-! THE LAW: its start: what the tables say of the classes and arrays; both objects are made (by program) -/
theorem nx_44 : Cond.methodLinkNest RX4 17 yX6_init RX8 ∈ lw_tbl := lwT_1 (List.mem_of_getElem? (i := 44) (by decide +kernel))
theorem nx_83 : Cond.methodLinkNest RX3 46 yX7_init RX8 ∈ lw_tbl := lwT_1 (List.mem_of_getElem? (i := 83) (by decide +kernel))
theorem nx_109 : Cond.methodLinkNest RX3 47 yX2_init RX8 ∈ lw_tbl := lwT_1 (List.mem_of_getElem? (i := 109) (by decide +kernel))
theorem nx_131 : Cond.methodLinkNest RX3 48 yX0_init RX8 ∈ lw_tbl := lwT_1 (List.mem_of_getElem? (i := 131) (by decide +kernel))
theorem nx_186 : Cond.methodLinkNest RX3 49 yX8_putEntry RX8 ∈ lw_tbl := lwT_1 (List.mem_of_getElem? (i := 186) (by decide +kernel))
theorem nx_263 : Cond.methodLinkNest RX8 28 yX5_init RX8 ∈ lw_tbl := lwT_2 (List.mem_of_getElem? (i := 23) (by decide +kernel))
theorem nx_346 : Cond.methodLinkNest RX3 57 yX8_copyEntries RX8 ∈ lw_tbl := lwT_2 (List.mem_of_getElem? (i := 106) (by decide +kernel))
theorem nx_359 : Cond.methodLinkNest RX3 106 yX8_isWithin RX8 ∈ lw_tbl := lwT_2 (List.mem_of_getElem? (i := 119) (by decide +kernel))
theorem nx_425 : Cond.methodLinkNest RX3 168 yX8_entryAt RX8 ∈ lw_tbl := lwT_2 (List.mem_of_getElem? (i := 185) (by decide +kernel))
theorem nx_683 : Cond.methodLinkNest RX5 19 yX8_isWithin RX8 ∈ lw_tbl := lwT_3 (List.mem_of_getElem? (i := 203) (by decide +kernel))
theorem nx_712 : Cond.methodLinkNest RX5 46 yX8_putEntry RX8 ∈ lw_tbl := lwT_3 (List.mem_of_getElem? (i := 232) (by decide +kernel))
theorem ao_RX3 : Cond.arrayOver (.object RX3) ∈ lw_tbl := lwT_2 (List.mem_of_getElem? (i := 8) (by decide +kernel))
theorem ao_RX4 : Cond.arrayOver (.object RX4) ∈ lw_tbl := lwT_1 (List.mem_of_getElem? (i := 29) (by decide +kernel))
theorem ao_RX6 : Cond.arrayOver (.object RX6) ∈ lw_tbl := lwT_1 (List.mem_of_getElem? (i := 42) (by decide +kernel))
theorem ao_RX7 : Cond.arrayOver (.object RX7) ∈ lw_tbl := lwT_1 (List.mem_of_getElem? (i := 31) (by decide +kernel))
theorem ao_RX2 : Cond.arrayOver (.object RX2) ∈ lw_tbl := lwT_1 (List.mem_of_getElem? (i := 33) (by decide +kernel))
theorem ao_RX0 : Cond.arrayOver (.object RX0) ∈ lw_tbl := lwT_1 (List.mem_of_getElem? (i := 35) (by decide +kernel))
theorem nx_all : ∀ q ∈ bc_nx, Cond.methodLinkNest q.1 q.2.1 q.2.2 RX8 ∈ lw_tbl := List.forall_mem_cons.mpr ⟨nx_44, List.forall_mem_cons.mpr ⟨nx_83, List.forall_mem_cons.mpr ⟨nx_109, List.forall_mem_cons.mpr ⟨nx_131, List.forall_mem_cons.mpr ⟨nx_186, List.forall_mem_cons.mpr ⟨nx_263, List.forall_mem_cons.mpr ⟨nx_346, List.forall_mem_cons.mpr ⟨nx_359, List.forall_mem_cons.mpr ⟨nx_425, List.forall_mem_cons.mpr ⟨nx_683, List.forall_mem_cons.mpr ⟨nx_712, fun _ h => absurd h List.not_mem_nil⟩⟩⟩⟩⟩⟩⟩⟩⟩⟩⟩
theorem ao_all : ∀ C ∈ bc_ao, Cond.arrayOver (.object C) ∈ lw_tbl := List.forall_mem_cons.mpr ⟨ao_RX3, List.forall_mem_cons.mpr ⟨ao_RX4, List.forall_mem_cons.mpr ⟨ao_RX6, List.forall_mem_cons.mpr ⟨ao_RX7, List.forall_mem_cons.mpr ⟨ao_RX2, List.forall_mem_cons.mpr ⟨ao_RX0, fun _ h => absurd h List.not_mem_nil⟩⟩⟩⟩⟩⟩
theorem ar_P {args : Array Value} {s : State} {ty : FieldType} (h : (Cond.arrayClass ty).before args s = true) (hty : ty = .int ∨ ty = .char) : ∃ cA, ArrOfT s cA ty ∧ va_RA s cA ty := by
  obtain ⟨cA, kA, comp, h1, h2, h3⟩ := Cond.arrayClass_spec h
  refine ⟨cA, fun n z => ⟨fun k h => (by cases h), kA, h2, comp, h3⟩, ?_⟩
  rcases hty with rfl | rfl
  · exact h1
  · exact h1
theorem ar_O {args : Array Value} {s : State} {C : String} (h : (Cond.arrayOver (.object C)).before args s = true) : ∃ cA, ArrOfT s cA (.object C) ∧ va_RA s cA (.object C) := by
  obtain ⟨comp, cA, kA, h1, h2, h3, h4, h5⟩ := Cond.arrayOver_spec h
  exact ⟨cA, fun n z => ⟨fun k h => (by cases h), kA, h3, comp, h4⟩, kA, comp, h3, h4, h1, h5⟩
theorem st_cl {args : Array Value} {s : State} (hG : ∀ w ∈ lwG, w.before args s = true) (c : Nat) : ∃ z : ClassId × (Nat → Nat), ∀ q, bc_cl[c]? = some q → u_Kn s q.1 q.2.1 q.2.2 z.1 z.2 := by
  by_cases hc : c < 10
  · obtain rfl | rfl | rfl | rfl | rfl | rfl | rfl | rfl | rfl | rfl : c = 0 ∨ c = 1 ∨ c = 2 ∨ c = 3 ∨ c = 4 ∨ c = 5 ∨ c = 6 ∨ c = 7 ∨ c = 8 ∨ c = 9 := by omega
    · obtain ⟨cC, iS, h⟩ := u_known (C := RX0) (T := TX0) (N := 13) hG inG0 (hG _ w_130)
      exact ⟨(cC, iS), fun q hq => by
        have hq : some ((RX0, TX0, 13) : vw_C) = some q := hq
        cases hq
        exact h⟩
    · obtain ⟨cC, iS, h⟩ := u_known (C := RX1) (T := TX1) (N := 3) hG inG1 (hG _ w_242)
      exact ⟨(cC, iS), fun q hq => by
        have hq : some ((RX1, TX1, 3) : vw_C) = some q := hq
        cases hq
        exact h⟩
    · obtain ⟨cC, iS, h⟩ := u_known (C := RX2) (T := TX2) (N := 4) hG inG2 (hG _ w_108)
      exact ⟨(cC, iS), fun q hq => by
        have hq : some ((RX2, TX2, 4) : vw_C) = some q := hq
        cases hq
        exact h⟩
    · obtain ⟨cC, iS, h⟩ := u_known (C := RX3) (T := TX3) (N := 16) hG inG3 (hG _ w_23)
      exact ⟨(cC, iS), fun q hq => by
        have hq : some ((RX3, TX3, 16) : vw_C) = some q := hq
        cases hq
        exact h⟩
    · obtain ⟨cC, iS, h⟩ := u_known (C := RX4) (T := TX4) (N := 3) hG inG4 (hG _ w_36)
      exact ⟨(cC, iS), fun q hq => by
        have hq : some ((RX4, TX4, 3) : vw_C) = some q := hq
        cases hq
        exact h⟩
    · obtain ⟨cC, iS, h⟩ := u_known (C := RX5) (T := TX5) (N := 5) hG inG5 (hG _ w_262)
      exact ⟨(cC, iS), fun q hq => by
        have hq : some ((RX5, TX5, 5) : vw_C) = some q := hq
        cases hq
        exact h⟩
    · obtain ⟨cC, iS, h⟩ := u_known (C := RX6) (T := TX6) (N := 4) hG inG6 (hG _ w_43)
      exact ⟨(cC, iS), fun q hq => by
        have hq : some ((RX6, TX6, 4) : vw_C) = some q := hq
        cases hq
        exact h⟩
    · obtain ⟨cC, iS, h⟩ := u_known (C := RX7) (T := TX7) (N := 5) hG inG7 (hG _ w_82)
      exact ⟨(cC, iS), fun q hq => by
        have hq : some ((RX7, TX7, 5) : vw_C) = some q := hq
        cases hq
        exact h⟩
    · obtain ⟨cC, iS, h⟩ := u_known (C := RX8) (T := TX8) (N := 7) hG inG8 (hG _ w_15)
      exact ⟨(cC, iS), fun q hq => by
        have hq : some ((RX8, TX8, 7) : vw_C) = some q := hq
        cases hq
        exact h⟩
    · obtain ⟨cC, iS, h⟩ := u_known (C := RX9) (T := TX9) (N := 11) hG inG9 (hG _ w_725)
      exact ⟨(cC, iS), fun q hq => by
        have hq : some ((RX9, TX9, 11) : vw_C) = some q := hq
        cases hq
        exact h⟩
  · obtain ⟨cC, iS, h⟩ := u_known (C := RX0) (T := TX0) (N := 13) hG inG0 (hG _ w_130)
    refine ⟨(cC, iS), fun q hq => ?_⟩
    rw [List.getElem?_eq_none (by show 10 ≤ c; omega)] at hq
    cases hq
def ty8 : List FieldType := [.int, .char, .object RX3, .object RX4, .object RX6, .object RX7, .object RX2, .object RX0]
theorem st_ty {args : Array Value} {s : State} (hG : ∀ w ∈ lwG, w.before args s = true) (hT : ∀ w ∈ lw_tbl, w.before args s = true) (k : Nat) : ∃ cA : ClassId, ∀ ty, ty8[k]? = some ty → ArrOfT s cA ty ∧ va_RA s cA ty := by
  by_cases hc : k < 8
  · obtain rfl | rfl | rfl | rfl | rfl | rfl | rfl | rfl : k = 0 ∨ k = 1 ∨ k = 2 ∨ k = 3 ∨ k = 4 ∨ k = 5 ∨ k = 6 ∨ k = 7 := by omega
    · obtain ⟨cA, h⟩ := ar_P (hG _ w_68) (Or.inl rfl)
      exact ⟨cA, fun ty hq => by
        have hq : some (.int : FieldType) = some ty := hq
        cases hq
        exact h⟩
    · obtain ⟨cA, h⟩ := ar_P (hG _ w_287) (Or.inr rfl)
      exact ⟨cA, fun ty hq => by
        have hq : some (.char : FieldType) = some ty := hq
        cases hq
        exact h⟩
    · obtain ⟨cA, h⟩ := ar_O (hT _ ao_RX3)
      exact ⟨cA, fun ty hq => by
        have hq : some (.object RX3 : FieldType) = some ty := hq
        cases hq
        exact h⟩
    · obtain ⟨cA, h⟩ := ar_O (hT _ ao_RX4)
      exact ⟨cA, fun ty hq => by
        have hq : some (.object RX4 : FieldType) = some ty := hq
        cases hq
        exact h⟩
    · obtain ⟨cA, h⟩ := ar_O (hT _ ao_RX6)
      exact ⟨cA, fun ty hq => by
        have hq : some (.object RX6 : FieldType) = some ty := hq
        cases hq
        exact h⟩
    · obtain ⟨cA, h⟩ := ar_O (hT _ ao_RX7)
      exact ⟨cA, fun ty hq => by
        have hq : some (.object RX7 : FieldType) = some ty := hq
        cases hq
        exact h⟩
    · obtain ⟨cA, h⟩ := ar_O (hT _ ao_RX2)
      exact ⟨cA, fun ty hq => by
        have hq : some (.object RX2 : FieldType) = some ty := hq
        cases hq
        exact h⟩
    · obtain ⟨cA, h⟩ := ar_O (hT _ ao_RX0)
      exact ⟨cA, fun ty hq => by
        have hq : some (.object RX0 : FieldType) = some ty := hq
        cases hq
        exact h⟩
  · obtain ⟨cA, h⟩ := ar_P (hG _ w_68) (Or.inl rfl)
    refine ⟨cA, fun ty hq => ?_⟩
    rw [List.getElem?_eq_none (by show 8 ≤ k; omega)] at hq
    cases hq
theorem bc_ty_get (G : BcG) (k : Nat) : (bc_ty G)[k]? = (ty8[k]?).map (fun ty => (G.2.1 k, ty)) := by
  by_cases hk : k < 8
  · obtain rfl | rfl | rfl | rfl | rfl | rfl | rfl | rfl : k = 0 ∨ k = 1 ∨ k = 2 ∨ k = 3 ∨ k = 4 ∨ k = 5 ∨ k = 6 ∨ k = 7 := by omega
    all_goals rfl
  · rw [List.getElem?_eq_none (by show 8 ≤ k; omega), List.getElem?_eq_none (by show 8 ≤ k; omega)]
    rfl
/-- all that the tables say of the classes, of the arrays, of the nest's links -/
theorem st_K {b : Nat} {s : State} (hT : ∀ w ∈ lw_tbl, w.before #[Value.ref b] s = true) (g : Nat) : ∃ (dT : Nat → ClassId) (D : va_G), bc_K (g, dT, D) s := by
  have hG : ∀ w ∈ lwG, w.before #[Value.ref b] s = true := fun w hw => hT w (lwG_tbl hw)
  refine ⟨fun k => Classical.choose (st_ty hG hT k), (fun c => (Classical.choose (st_cl hG c)).1, fun c => (Classical.choose (st_cl hG c)).2), ⟨fun c q hq => Classical.choose_spec (st_cl hG c) q hq, fun k q hq => ?_⟩, fun q hq => va_Nw.of rfl (hT _ (nx_all q hq)), fun C hC => va_AO.of (hT _ (ao_all C hC))⟩
  rw [bc_ty_get] at hq
  obtain ⟨ty, h1, rfl⟩ := Option.map_eq_some_iff.mp hq
  exact Classical.choose_spec (st_ty hG hT k) ty h1
set_option maxHeartbeats 4000000 in
set_option maxRecDepth 100000 in
/-- from the entry: both are made, then the loop -/
theorem law_start (G : BcG) {nm : String} {b L : Nat} {xs : Nat → Int32} (hL : L ≤ 3072) : BGo G (mLaw nm) (KL G b L xs) (hq 0 (fun _ _ => none) (fun _ _ => 0)) 0 0 0 [some (.ref b), none, none, none] [] := by
  have b0 : Bl 0 (fun _ _ => none) (fun _ _ => 0) := fun k _ => ⟨rfl, rfl⟩
  refine go_new 3 dL_law_0 rfl okC8 w_14 w_15 w_1 (Nat.le_of_ble_eq_true rfl) (Nat.le_of_ble_eq_true rfl) ?_
  refine nw_eqv (m := 0) rfl b0 ?_
  refine go_dup 4 dL_law_3 rfl rfl ?_
  refine go_I (M' := mX8_init) 7 335 1986 dL_law_4 rfl w_16 okX8_init ⟨Nat.le_of_ble_eq_true rfl, Nat.le_of_ble_eq_true rfl⟩ rfl rfl (Nat.le_of_ble_eq_true rfl) (Nat.le_of_ble_eq_true rfl) (ct_newC G b0) rfl rfl (Nat.le_of_ble_eq_true rfl) (fun v h' hv => ?_)
  obtain ⟨rfl, gr1, gi1, rfl, b1, -, t1⟩ := hv
  refine go_astore_n 8 dL_law_7 rfl rfl (by show 1 < 4; decide) (st_s st_0) ?_
  refine go_new 11 dL_law_8 rfl okC9 w_724 w_725 w_10 (Nat.le_of_ble_eq_true rfl) (Nat.le_of_ble_eq_true rfl) ?_
  refine nw_eqv (m := 335) rfl b1 ?_
  refine go_dup 12 dL_law_11 rfl rfl ?_
  refine go_I (M' := mX9_init) 15 341 3274 dL_law_12 rfl w_726 okX9_init ⟨Nat.le_of_ble_eq_true rfl, Nat.le_of_ble_eq_true rfl⟩ rfl rfl (Nat.le_of_ble_eq_true rfl) (Nat.le_of_ble_eq_true rfl) (ct_newM G b1) rfl rfl (Nat.le_of_ble_eq_true rfl) (fun v h' hv => ?_)
  obtain ⟨rfl, gr2, gi2, rfl, b2, e2, t2⟩ := hv
  refine go_astore_n 16 dL_law_15 rfl rfl (by show 2 < 4; decide) (st_s (st_s st_0)) ?_
  refine go_iconst 17 (v := nI 0) dL_law_16 rfl (by decide) ?_
  refine go_istore_n 18 dL_law_17 rfl rfl (by show 3 < 4; decide) (st_s (st_s (st_s st_0))) ?_
  refine go_eqv (h2 := hp I0) rfl (fun a ha => ?_) ?_
  · have ha : a < 341 := ha
    have t : Bt gr2 gi2 a := by
      rcases Nat.lt_or_ge a 335 with q | q
      · obtain ⟨z1, z2⟩ := t1 a (Nat.zero_le _) q
        obtain ⟨y1, y2⟩ := e2 a q
        exact ⟨y1.trans z1, y2.trans z2⟩
      · exact t2 a q ha
    show bc_ce G (SH a) (GR a) (I0 a) = bc_ce G (SH a) (gr2 a) (gi2 a)
    rw [t.1, t.2]
  · exact law_loop G hL 512 0 0 S00 I0 (by omega) (by omega) (by omega) SOk_00 RelC_00 RelM_00
set_option maxHeartbeats 4000000 in
/-- THE LAW, from its entry -/
theorem whole_start {p : Program} {e : Env} {s : State} {m : MethodId} {below : List Frame} {meth : Method} {c : Code} (l : Launch) (hflags : l.flags = flags0) {b L : Nat} {xs : Nat → Int32} (hL : L ≤ 3072) (C0 : lw_At p s m meth c b L xs) : W p l e room_1 s m #[Value.ref b] below meth c s.heap [] 0 0 (lw_Z below #[Value.ref b] s) (entryFrame m ([Value.ref b] : List Value).toArray 4) := by
  obtain ⟨hx, hb, hr, hml, hown, hts, hX, hbl, hlocks, hgv⟩ := id C0
  obtain ⟨dT, D, hK⟩ := st_K hts s.heap.size
  have hl := lv_entry ([.ref b]) (n := 4) (Nat.le_of_ble_eq_true rfl)
  rw [lg_entry_eq]
  generalize (lg_sl ([.ref b]) ++ List.replicate (4 - (lg_sl ([.ref b])).length) Slot.unset).toArray = la at hl ⊢
  refine law_start (s.heap.size, dT, D) (nm := meth.name) (b := b) (xs := xs) hL p l e s m #[Value.ref b] below meth c _ ⟨rfl, rfl, hX, hbl, rfl⟩ ⟨hx, hb, hml, hown, fun w hw => hts w (lwG_tbl hw), hr, hlocks, rfl, Nat.le_refl _, hK⟩ s.heap [] la ⟨rfl, fun k q h => ?_, va_S.rf, ⟨hl.1, hl.2.1, fun i v hi => ?_⟩, rfl⟩
  · have h : ([] : va_W)[k]? = some q := h
    simp at h
  · match i, hi with
    | 0, hi =>
      have e : Value.ref b = v := by simpa using hi
      subst e
      exact ⟨hl.2.2 (0, .ref b) List.mem_cons_self, rfl⟩
    | 1, hi => simp at hi
    | 2, hi => simp at hi
    | 3, hi => simp at hi
    | i + 4, hi => simp at hi
