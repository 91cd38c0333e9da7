/-! THE SYSTEM's HEAP AS NUMBERS: cells at base + k; of each cell its shape, its references and its ints -/
/-- base; the arrays' types' numbers; the kit's D -/
abbrev BcG : Type := Nat × (Nat → ClassId) × va_G
/-- how many cells; each cell's shape (kind, length); references (cell, slot ↦ cell); ints -/
abbrev BcH : Type := (Nat × (Nat → Nat × Nat)) × (Nat → Nat → Option Nat) × (Nat → Nat → Int32)
/-- a method: name, bytes, locals, what it returns, frames, words, cells, slots -/
abbrev BcM : Type := MethodName × ByteArray × Nat × Option FieldType × Nat × Nat × Nat × Nat
def bc_rm (M : BcM) : Room := { frames := M.2.2.2.2.1, cells := M.2.2.2.2.2.2.1, slots := M.2.2.2.2.2.2.2, locals := M.2.2.2.2.2.1 }
def bc_cl : List vw_C := [(RX0, TX0, 13), (RX1, TX1, 3), (RX2, TX2, 4), (RX3, TX3, 16), (RX4, TX4, 3), (RX5, TX5, 5), (RX6, TX6, 4), (RX7, TX7, 5), (RX8, TX8, 7), (RX9, TX9, 11)]
/-- number of fields -/
def bc_nF (c : Nat) : Nat := match c with
  | 0 => 13 | 1 => 3 | 2 => 4 | 3 => 16 | 4 => 3 | 5 => 5 | 6 => 4 | 7 => 5 | 8 => 7 | _ => 11
/-- is the field a reference -/
def bc_iR (c j : Nat) : Bool := match c with
  | 1 => j == 0
  | 3 => j == 0 || j == 2 || j == 4 || j == 6 || j == 7 || j == 8 || j == 9
  | 4 => j == 2
  | 5 => j == 0 || j == 3
  | 8 => Nat.blt j 4
  | 9 => j == 0 || j == 1 || j == 2 || j == 5 || j == 10
  | _ => false
def bc_fv (G : BcG) (c : Nat) (r : Nat → Option Nat) (f : Nat → Int32) (j : Nat) : Value := if bc_iR c j = true then va_rf ((r j).map (G.1 + ·)) else .int (f j)
def bc_fs (G : BcG) (c : Nat) (r : Nat → Option Nat) (f : Nat → Int32) : List Value := (List.range (bc_nF c)).map (bc_fv G c r f)
def bc_ce (G : BcG) (sh : Nat × Nat) (r : Nat → Option Nat) (f : Nat → Int32) : va_E :=
  if sh.1 < 20 then .inr (sh.1, bc_fs G sh.1 r f)
  else if sh.1 < 22 then .inl (G.2.1 (sh.1 - 20), sh.2, .inl f)
  else .inl (G.2.1 (sh.1 - 20), sh.2, .inr (.inr (.inr (.inr (fun j => (r j).map (G.1 + ·))))))
def bc_wl (G : BcG) (h : BcH) : va_W := (List.range h.1.1).map fun k => (G.1 + k, bc_ce G (h.1.2 k) (h.2.1 k) (h.2.2 k))
def bc_ty (G : BcG) : List (ClassId × FieldType) := [(G.2.1 0, .int), (G.2.1 1, .char), (G.2.1 2, .object RX3), (G.2.1 3, .object RX4), (G.2.1 4, .object RX6), (G.2.1 5, .object RX7), (G.2.1 6, .object RX2), (G.2.1 7, .object RX0)]
def bc_A (G : BcG) : Nat → Prop := fun q => G.1 ≤ q
theorem bc_wl_get {G : BcG} {h : BcH} {k : Nat} (hk : k < h.1.1) : (bc_wl G h)[k]? = some (G.1 + k, bc_ce G (h.1.2 k) (h.2.1 k) (h.2.2 k)) := by
  simp [bc_wl, hk]
theorem bc_wl_inv {G : BcG} {h : BcH} {k : Nat} {q : Nat × va_E} (hq : (bc_wl G h)[k]? = some q) : k < h.1.1 ∧ q = (G.1 + k, bc_ce G (h.1.2 k) (h.2.1 k) (h.2.2 k)) := by
  have hl : k < h.1.1 := by
    have h1 := (List.getElem?_eq_some_iff.mp hq).1
    simpa [bc_wl] using h1
  rw [bc_wl_get hl] at hq
  exact ⟨hl, (Option.some.inj hq).symm⟩
theorem bc_wl_len (G : BcG) (h : BcH) : (bc_wl G h).length = h.1.1 := by simp [bc_wl]
theorem bc_wl_D (G : BcG) (h : BcH) : va_D (bc_A G) (bc_wl G h) := by
  refine ⟨fun i j p q hi hj e => ?_, fun k q hq => ?_⟩
  · obtain ⟨-, rfl⟩ := bc_wl_inv hi
    obtain ⟨-, rfl⟩ := bc_wl_inv hj
    have e' : G.1 + i = G.1 + j := e
    omega
  · obtain ⟨-, rfl⟩ := bc_wl_inv hq
    exact Nat.le_add_right _ _
/-- an int is written -/
def bc_si (h : BcH) (k j : Nat) (v : Int32) : BcH := (h.1, h.2.1, va_up h.2.2 k (upd (h.2.2 k) j v))
/-- a whole row of ints is written -/
def bc_sa (h : BcH) (k : Nat) (f : Nat → Int32) : BcH := (h.1, h.2.1, va_up h.2.2 k f)
/-- a reference is written -/
def bc_sr (h : BcH) (k j : Nat) (v : Option Nat) : BcH := (h.1, va_up h.2.1 k (va_up (h.2.1 k) j v), h.2.2)
/-- a cell is made -/
def bc_nw (h : BcH) (sh : Nat × Nat) : BcH := ((h.1.1 + 1, va_up h.1.2 h.1.1 sh), va_up h.2.1 h.1.1 (fun _ => none), va_up h.2.2 h.1.1 (fun _ => 0))
theorem bc_wl_put {G : BcG} {h : BcH} {k : Nat} (hk : k < h.1.1) (r : Nat → Option Nat) (f : Nat → Int32) : (bc_wl G h).set k (G.1 + k, bc_ce G (h.1.2 k) r f) = bc_wl G (h.1, va_up h.2.1 k r, va_up h.2.2 k f) := by
  apply List.ext_getElem?
  intro i
  by_cases hi : i < h.1.1
  · by_cases e : i = k
    · subst e
      rw [List.getElem?_set_self (by rw [bc_wl_len]; exact hi), bc_wl_get (h := (h.1, va_up h.2.1 i r, va_up h.2.2 i f)) hi]
      simp [va_up]
    · rw [List.getElem?_set_ne (Ne.symm e), bc_wl_get hi, bc_wl_get (h := (h.1, va_up h.2.1 k r, va_up h.2.2 k f)) hi]
      simp [va_up, e]
  · rw [List.getElem?_eq_none (by rw [List.length_set, bc_wl_len]; omega), List.getElem?_eq_none (by rw [bc_wl_len]; exact Nat.le_of_not_lt hi)]
theorem bc_up_self {α : Type} (f : Nat → α) (k : Nat) : va_up f k (f k) = f := by
  funext j
  unfold va_up
  by_cases e : j = k
  · rw [if_pos e, e]
  · rw [if_neg e]
theorem bc_wl_sa {G : BcG} {h : BcH} {k : Nat} (hk : k < h.1.1) (f : Nat → Int32) : (bc_wl G h).set k (G.1 + k, bc_ce G (h.1.2 k) (h.2.1 k) f) = bc_wl G (bc_sa h k f) := by
  rw [bc_wl_put hk, bc_up_self]; rfl
theorem bc_wl_sr {G : BcG} {h : BcH} {k : Nat} (hk : k < h.1.1) (j : Nat) (v : Option Nat) : (bc_wl G h).set k (G.1 + k, bc_ce G (h.1.2 k) (va_up (h.2.1 k) j v) (h.2.2 k)) = bc_wl G (bc_sr h k j v) := by
  rw [bc_wl_put hk, bc_up_self]; rfl
theorem bc_wl_nw (G : BcG) (h : BcH) (sh : Nat × Nat) : bc_wl G h ++ [(G.1 + h.1.1, bc_ce G sh (fun _ => none) (fun _ => 0))] = bc_wl G (bc_nw h sh) := by
  apply List.ext_getElem?
  intro i
  rcases Nat.lt_trichotomy i h.1.1 with hi | hi | hi
  · rw [List.getElem?_append_left (by rw [bc_wl_len]; exact hi), bc_wl_get hi, bc_wl_get (h := bc_nw h sh) (Nat.lt_succ_of_lt hi)]
    simp [bc_nw, va_up, Nat.ne_of_lt hi]
  · subst hi
    rw [List.getElem?_append_right (by rw [bc_wl_len]; exact Nat.le_refl _), bc_wl_len, Nat.sub_self, bc_wl_get (h := bc_nw h sh) (Nat.lt_succ_self _)]
    simp [bc_nw, va_up]
  · rw [List.getElem?_eq_none (by rw [List.length_append, bc_wl_len]; simp; omega), List.getElem?_eq_none (by rw [bc_wl_len]; exact hi)]
/-! THE WORDS: all of the tables' words that every method may hand on -/
def lwG : List Cond := lw_tbl.filter goodWord
theorem lwG_of {w : Cond} (h : w ∈ lw_tbl) (g : goodWord w = true) : w ∈ lwG := List.mem_filter.mpr ⟨h, g⟩
theorem lwG_tbl {w : Cond} (h : w ∈ lwG) : w ∈ lw_tbl := (List.mem_filter.mp h).1
theorem lwG_good {ws : List Cond} (h : ∀ w ∈ ws, w ∈ lwG) : GoodIn lwG ws := fun w hw => ⟨h w hw, good_of_word (List.mem_filter.mp (h w hw)).2⟩
theorem lwT_1 {w : Cond} (h : w ∈ tables_1_1) : w ∈ lw_tbl := List.mem_append_right _ (List.mem_append_left _ h)
theorem lwT_2 {w : Cond} (h : w ∈ tables_1_2) : w ∈ lw_tbl := List.mem_append_right _ (List.mem_append_right _ (List.mem_append_left _ h))
theorem lwT_3 {w : Cond} (h : w ∈ tables_1_3) : w ∈ lw_tbl := List.mem_append_right _ (List.mem_append_right _ (List.mem_append_right _ (List.mem_append_left _ h)))
theorem lwT_4 {w : Cond} (h : w ∈ tables_1_4) : w ∈ lw_tbl := List.mem_append_right _ (List.mem_append_right _ (List.mem_append_right _ (List.mem_append_right _ (List.mem_append_left _ h))))
theorem lwT_5 {w : Cond} (h : w ∈ tables_1_5) : w ∈ lw_tbl := List.mem_append_right _ (List.mem_append_right _ (List.mem_append_right _ (List.mem_append_right _ (List.mem_append_right _ h))))
/-- the calls of nest mates' private members: caller, entry, callee -/
def bc_nx : List (String × Nat × MethodName) := [(RX4, 17, yX6_init), (RX3, 46, yX7_init), (RX3, 47, yX2_init), (RX3, 48, yX0_init), (RX3, 49, yX8_putEntry), (RX8, 28, yX5_init), (RX3, 57, yX8_copyEntries), (RX3, 106, yX8_isWithin), (RX3, 168, yX8_entryAt), (RX5, 19, yX8_isWithin), (RX5, 46, yX8_putEntry)]
def bc_ao : List String := [RX3, RX4, RX6, RX7, RX2, RX0]
def bc_K (G : BcG) (U : State) : Prop := va_K G.2.2 bc_cl (bc_ty G) U ∧ (∀ q ∈ bc_nx, va_Nw (.methodLinkNest q.1 q.2.1 q.2.2 RX8) U) ∧ (∀ C ∈ bc_ao, va_AO C U)
theorem bc_K.warm {G : BcG} {s U : State} (hW : s.WarmedH U.vm) (h : bc_K G s) : bc_K G U := ⟨va_K.moved hW.alike h.1, fun q hq => va_Nw.warmM hW (h.2.1 q hq), fun C hC => va_AO.moved hW.alike (h.2.2 C hC)⟩
theorem bc_K.calling {G : BcG} {U : State} {g : JFrame} {mk : MethodId} {a : Array Value} (h : bc_K G U) : bc_K G (U.calling g mk a) := ⟨va_K.moved (u := U) (U := U.calling g mk a) (Vm.Alike.refl U.vm) h.1, fun q hq => va_Nw.same rfl (u := U) rfl (h.2.1 q hq), fun C hC => va_AO.moved (u := U) (U := U.calling g mk a) (Vm.Alike.refl U.vm) (h.2.2 C hC)⟩
/-! THE LOCALS: a list, none where nothing is known -/
def bc_lv (la : Array Slot) (ls : List (Option Value)) : Prop := la.size = ls.length ∧ lv_wf la ∧ ∀ (i : Nat) (v : Value), ls[i]? = some (some v) → la[i]? = some (.val v) ∧ v.category = 1
def bc_pr (ls : List (Option Value)) : List (Nat × Value) := (List.range ls.length).filterMap fun i => (ls[i]?.join).map fun v => (i, v)
theorem bc_pr_mem {ls : List (Option Value)} {i : Nat} {v : Value} (h : ls[i]? = some (some v)) : (i, v) ∈ bc_pr ls := by
  refine List.mem_filterMap.mpr ⟨i, List.mem_range.mpr (List.getElem?_eq_some_iff.mp h).1, ?_⟩
  rw [h]; rfl
theorem bc_pr_inv {ls : List (Option Value)} {q : Nat × Value} (h : q ∈ bc_pr ls) : ls[q.1]? = some (some q.2) := by
  obtain ⟨i, hi, e⟩ := List.mem_filterMap.mp h
  have hl : i < ls.length := List.mem_range.mp hi
  rw [List.getElem?_eq_getElem hl] at e
  cases hx : ls[i] with
  | none => rw [hx] at e; simp at e
  | some v =>
    rw [hx] at e
    have e2 : (i, v) = q := by simpa using e
    subst e2
    rw [List.getElem?_eq_getElem hl, hx]
theorem bc_lv.has {la : Array Slot} {ls : List (Option Value)} (h : bc_lv la ls) : lv_has la ls.length (bc_pr ls) := ⟨h.1, h.2.1, fun q hq => (h.2.2 q.1 q.2 (bc_pr_inv hq)).1⟩
theorem bc_lv.get {la : Array Slot} {ls : List (Option Value)} (h : bc_lv la ls) {i : Nat} {v : Value} (hi : ls[i]? = some (some v)) : la[i]? = some (.val v) := (h.2.2 i v hi).1
/-- what the kit's stores hand on is the list with the new value -/
theorem bc_lv.put {la lb : Array Slot} {ls ls' : List (Option Value)} {i : Nat} {v : Value} (h : bc_lv la ls) (hv : v.category = 1) (e : ls.set i (some v) = ls') (hb : lv_has lb ls.length ((i, v) :: (bc_pr ls).filter (fun q => !(q.1 == i) && !(q.1 + 1 == i && q.2.category == 2)))) : bc_lv lb ls' := by
  subst e
  refine ⟨by rw [hb.1, List.length_set], hb.2.1, fun j w hj => ?_⟩
  by_cases hij : j = i
  · subst hij
    have hl : j < ls.length := by
      have := (List.getElem?_eq_some_iff.mp hj).1
      simpa using this
    rw [List.getElem?_set_self hl] at hj
    have e2 : v = w := Option.some.inj (Option.some.inj hj)
    subst e2
    exact ⟨hb.2.2 (j, v) List.mem_cons_self, hv⟩
  · rw [List.getElem?_set_ne (Ne.symm hij)] at hj
    have hc := (h.2.2 j w hj).2
    refine ⟨hb.2.2 (j, w) (List.mem_cons_of_mem _ (List.mem_filter.mpr ⟨bc_pr_mem hj, ?_⟩)), hc⟩
    simp [hij, hc]
theorem ls_0 {v : Value} {l : List (Option Value)} : (some v :: l)[0]? = some (some v) := rfl
theorem ls_s {i : Nat} {a : Option Value} {v : Value} {l : List (Option Value)} (h : l[i]? = some (some v)) : (a :: l)[i + 1]? = some (some v) := by rw [List.getElem?_cons_succ]; exact h
theorem st_0 {a : Option Value} {v : Value} {l : List (Option Value)} : (a :: l).set 0 (some v) = some v :: l := rfl
theorem st_s {i : Nat} {a : Option Value} {v : Value} {l l' : List (Option Value)} (h : l.set i (some v) = l') : (a :: l).set (i + 1) (some v) = a :: l' := by rw [List.set_cons_succ, h]
/-- less is known of the locals -/
def bc_le (ls ls' : List (Option Value)) : Prop := ls'.length = ls.length ∧ ∀ (i : Nat) (v : Value), ls'[i]? = some (some v) → ls[i]? = some (some v)
theorem bc_lv.less {la : Array Slot} {ls ls' : List (Option Value)} (h : bc_lv la ls) (hl : bc_le ls ls') : bc_lv la ls' := ⟨by rw [h.1, hl.1], h.2.1, fun i v hi => h.2.2 i v (hl.2 i v hi)⟩
theorem le_0 : bc_le [] [] := ⟨rfl, fun _ _ h => by simp at h⟩
theorem le_k {a : Option Value} {l l' : List (Option Value)} (h : bc_le l l') : bc_le (a :: l) (a :: l') := ⟨by simp [h.1], fun i v hi => by
  cases i with
  | zero => exact hi
  | succ i => rw [List.getElem?_cons_succ] at hi ⊢; exact h.2 i v hi⟩
theorem le_n {a : Option Value} {l l' : List (Option Value)} (h : bc_le l l') : bc_le (a :: l) (none :: l') := ⟨by simp [h.1], fun i v hi => by
  cases i with
  | zero => simp at hi
  | succ i => rw [List.getElem?_cons_succ] at hi ⊢; exact h.2 i v hi⟩
/-! WHERE THE WALK STANDS -/
def bc_Cx (G : BcG) (M : BcM) (p : Program) (s : State) (m : MethodId) (args : Array Value) (meth : Method) (c : Code) : Prop :=
  p.tables.exec = Jvm.exec ∧ c.code = M.2.1 ∧ c.maxLocals = M.2.2.1 ∧ s.vm.findClass M.1.cls = some m.cls ∧ (∀ w ∈ lwG, w.before args s = true) ∧ meth.sig.returnType = M.2.2.2.1 ∧ meth.locks = false ∧ meth.name = M.1.name ∧ G.1 ≤ s.heap.size ∧ bc_K G s
def bc_St (G : BcG) (M : BcM) (h : BcH) (k : Nat) (ls : List (Option Value)) (s : State) (H : Heap) (locs : List Loc) (la : Array Slot) : Prop :=
  s.heap.size + k = G.1 + h.1.1 ∧ va_P G.2.2 bc_cl (bc_wl G h) H ∧ va_S (bc_A G) s.heap H locs ∧ bc_lv la ls ∧ ls.length = M.2.2.1
abbrev BcK : Type := Program → Launch → Env → State → MethodId → Array Value → List Frame → Method → Code → (State → Prop) → Prop
/-- from here, with this heap, these locals and this stack, the method comes to its end as KQ wants it -/
def BGo (G : BcG) (M : BcM) (KQ : BcK) (h : BcH) (k n : Nat) (pc : Nat) (ls : List (Option Value)) (st : List Value) : Prop :=
  ∀ (p : Program) (l : Launch) (e : Env) (s : State) (m : MethodId) (args : Array Value) (below : List Frame) (meth : Method) (c : Code) (Q : State → Prop), KQ p l e s m args below meth c Q → bc_Cx G M p s m args meth c →
    ∀ (H : Heap) (locs : List Loc) (la : Array Slot), bc_St G M h k ls s H locs la → W p l e (bc_rm M) s m args below meth c H locs k n Q (F0 m pc la st)
/-- what a method leaves: its answer and the heap as post says -/
def bc_Q (G : BcG) (N : Nat) (post : Option Value → BcH → Prop) : Array Value → State → Outcome → State → Prop := fun _ st o t =>
  (∃ (v : Option Value) (h' : BcH), o = .returned v ∧ post v h' ∧ h'.1.1 = N ∧ va_P G.2.2 bc_cl (bc_wl G h') t.heap) ∧ va_F (bc_A G) st t
def bc_P (G : BcG) (h : BcH) (vs : List Value) : Array Value → State → Prop := va_Pc vs (fun U => U.heap.size = G.1 + h.1.1 ∧ va_P G.2.2 bc_cl (bc_wl G h) U.heap ∧ bc_K G U)
abbrev bc_ws (M : BcM) : List Cond := Cond.code M.1 M.2.1 M.2.2.1 M.2.2.2.1 :: lwG
/-- A METHOD's CONTRACT: called with vs over the heap h, it returns as post says -/
def Ct (G : BcG) (M : BcM) (vs : List Value) (h : BcH) (post : Option Value → BcH → Prop) : Prop :=
  ∀ l : Launch, Met l M.1 (bc_ws M) (bc_rm M) (bc_P G h vs) (bc_Q G (h.1.1 + M.2.2.2.2.2.2.1) post) M.2.2.2.2.2.2.1 M.2.2.2.2.2.2.2 (bc_A G)
def KM (G : BcG) (M : BcM) (N : Nat) (post : Option Value → BcH → Prop) : BcK := fun _ _ _ s _ args below _ _ Q =>
  s.heap.size = G.1 + N ∧ Q = MQ below (bc_Q G (N + M.2.2.2.2.2.2.1) post) args s M.2.2.2.2.2.2.1 M.2.2.2.2.2.2.2 (bc_A G)
theorem bc_sl (vs : List Value) (hc : ∀ v ∈ vs, v.category = 1) : lg_sl vs = vs.map Slot.val := by
  induction vs with
  | nil => rfl
  | cons v t ih =>
    have h1 : ¬ v.category = 2 := by rw [hc v List.mem_cons_self]; decide
    have h2 := ih (fun w hw => hc w (List.mem_cons_of_mem _ hw))
    simp only [lg_sl, List.flatMap_cons, h1, if_false, List.map_cons] at h2 ⊢
    rw [h2]; rfl
theorem bc_ar (vs : List Value) (hc : ∀ v ∈ vs, v.category = 1) : ∀ (a i : Nat) (v : Value), vs[i]? = some v → (a + i, v) ∈ lv_args a vs := by
  induction vs with
  | nil => intro a i v h; simp at h
  | cons w t ih =>
    intro a i v h
    have h1 : ¬ w.category = 2 := by rw [hc w List.mem_cons_self]; decide
    cases i with
    | zero =>
      have e : w = v := by simpa using h
      subst e
      unfold lv_args
      exact List.mem_cons_self
    | succ i =>
      rw [List.getElem?_cons_succ] at h
      have h2 := ih (fun u hu => hc u (List.mem_cons_of_mem _ hu)) (a + 1) i v h
      unfold lv_args
      rw [if_neg h1]
      rw [show a + (i + 1) = a + 1 + i by omega]
      exact List.mem_cons_of_mem _ h2
theorem Ct.of {G : BcG} {M : BcM} {vs : List Value} {h : BcH} {post : Option Value → BcH → Prop} (hp : plainName M.1.cls = true) (hc : ∀ v ∈ vs, v.category = 1) (hn : vs.length ≤ M.2.2.1) (hb : Cond.initialized M.1.cls ∈ lwG)
    (go : BGo G M (KM G M h.1.1 post) h 0 0 0 (vs.map some ++ List.replicate (M.2.2.1 - vs.length) none) []) : Ct G M vs h post := by
  intro l
  refine Met.ofW (cc := M.2.1) (maxL := M.2.2.1) (ret := M.2.2.2.1) hp rfl ?_
  intro p e s m args below meth c s₁ B hml hv
  obtain ⟨rfl, hsz, hP, hK⟩ := hv
  have hts := atoms_spec (ws := bc_ws M) B.pre
  have hown : s.vm.findClass M.1.cls = some m.cls := findClass_of_methodNamed B.named
  have hnm := (name_of_methodNamed B.named B.method).1
  have hl := lv_entry vs (n := M.2.2.1) (by rw [bc_sl vs hc, List.length_map]; exact hn)
  rw [lg_entry_eq]
  generalize (lg_sl vs ++ List.replicate (M.2.2.1 - (lg_sl vs).length) Slot.unset).toArray = la at hl ⊢
  refine go p l e s m vs.toArray below meth c _ ⟨hsz, rfl⟩ ⟨B.exec, B.bytes, hml, hown, fun w hw => hts w (List.mem_cons_of_mem _ hw), B.returns, B.notSynchronized, hnm, by omega, hK⟩ s.heap [] la ⟨by omega, hP, va_S.rf, ⟨?_, hl.2.1, ?_⟩, ?_⟩
  · rw [hl.1]; simp; try omega
  · intro i v hi
    by_cases h1 : i < vs.length
    · have h2 : (vs.map some ++ List.replicate (M.2.2.1 - vs.length) none)[i]? = some (vs[i]?) := by
        rw [List.getElem?_append_left (by rw [List.length_map]; exact h1), List.getElem?_map, List.getElem?_eq_getElem h1]; rfl
      rw [h2] at hi
      have h3 : vs[i]? = some v := Option.some.inj hi
      have h4 := bc_ar vs hc 0 i v h3
      rw [Nat.zero_add] at h4
      exact ⟨hl.2.2 (i, v) h4, hc v (List.mem_of_getElem? h3)⟩
    · rw [List.getElem?_append_right (by rw [List.length_map]; omega)] at hi
      have := List.eq_of_mem_replicate (List.mem_of_getElem? hi)
      cases this
  · simp; try omega
theorem bc_blind {G : BcG} {h : BcH} {vs : List Value} : FrameBlind (bc_P G h vs) := fun _ _ _ _ hp => ⟨hp.1, hp.2.1, hp.2.2.1, bc_K.calling hp.2.2.2⟩
/-- how large the heap is, by what the walk carries -/
theorem bc_size {G : BcG} {M : BcM} {h : BcH} {k : Nat} {ls : List (Option Value)} {p : Program} {l : Launch} {e : Env} {R : Room} {s : State} {m : MethodId} {args : Array Value} {below : List Frame} {meth : Method} {c : Code} {T : State} {locs locs' : List Loc} {n : Nat} {la : Array Slot}
    (hg : G.1 ≤ s.heap.size) (S : bc_St G M h k ls s T.heap locs' la) (X : Stand p l e R s m args below meth c T locs k n) : T.heap.size = G.1 + h.1.1 := by
  have h1 := X.heapSize
  have h2 := S.2.2.1.1
  have h3 := S.1
  rcases Nat.eq_zero_or_pos h.1.1 with h0 | h0
  · omega
  · have h4 := (S.2.1 (h.1.1 - 1) _ (bc_wl_get (by omega))).lt
    have h5 : G.1 + (h.1.1 - 1) < T.heap.size := h4
    omega
section BCROWS
variable {G : BcG} {M : BcM} {KQ : BcK} {h : BcH} {k n pc : Nat} {ls ls' : List (Option Value)} {st : List Value} {x y : Int32}
theorem go_less (hl : bc_le ls ls') (kk : BGo G M KQ h k n pc ls' st) : BGo G M KQ h k n pc ls st := fun p l e s m args below meth c Q q C H locs la S => kk p l e s m args below meth c Q q C H locs la ⟨S.1, S.2.1, S.2.2.1, S.2.2.2.1.less hl, hl.1.trans S.2.2.2.2⟩
/-- the heap may be told otherwise, where nobody can see it -/
theorem go_eqv {h2 : BcH} (hn : h2.1.1 = h.1.1) (he : ∀ a, a < h.1.1 → bc_ce G (h2.1.2 a) (h2.2.1 a) (h2.2.2 a) = bc_ce G (h.1.2 a) (h.2.1 a) (h.2.2 a)) (kk : BGo G M KQ h2 k n pc ls st) : BGo G M KQ h k n pc ls st := by
  have e : bc_wl G h2 = bc_wl G h := by
    apply List.ext_getElem?
    intro i
    by_cases hi : i < h.1.1
    · rw [bc_wl_get hi, bc_wl_get (by rw [hn]; exact hi), he i hi]
    · rw [List.getElem?_eq_none (by rw [bc_wl_len, hn]; omega), List.getElem?_eq_none (by rw [bc_wl_len]; omega)]
  exact fun p l e' s m args below meth c Q q C H locs la S => kk p l e' s m args below meth c Q q C H locs la ⟨by rw [hn]; exact S.1, by rw [e]; exact S.2.1, S.2.2⟩
theorem go_iconst (q : Nat) {z : Int} {v : Int32} (hd : decode M.2.1 pc = .ok (.iconst z, 1)) (e : pc + 1 = q) (hv : Int32.ofInt z = v) (kk : BGo G M KQ h k n q ls (.int v :: st)) : BGo G M KQ h k n pc ls st := by
  subst e
  exact fun p l e s m args below meth c Q q C H locs la S => lv_iconst C.1 C.2.1 hd hv (kk p l e s m args below meth c Q q C H locs la S)
theorem go_bipush (q : Nat) {z : Int} {v : Int32} (hd : decode M.2.1 pc = .ok (.bipush z, 2)) (e : pc + 2 = q) (hv : (Int8.ofInt z).toInt32 = v) (kk : BGo G M KQ h k n q ls (.int v :: st)) : BGo G M KQ h k n pc ls st := by
  subst e
  exact fun p l e s m args below meth c Q q C H locs la S => lv_bipush C.1 C.2.1 hd hv (kk p l e s m args below meth c Q q C H locs la S)
theorem go_sipush (q : Nat) {z : Int} {v : Int32} (hd : decode M.2.1 pc = .ok (.sipush z, 3)) (e : pc + 3 = q) (hv : (Int16.ofInt z).toInt32 = v) (kk : BGo G M KQ h k n q ls (.int v :: st)) : BGo G M KQ h k n pc ls st := by
  subst e
  exact fun p l e s m args below meth c Q q C H locs la S => lv_sipush C.1 C.2.1 hd hv (kk p l e s m args below meth c Q q C H locs la S)
theorem go_iload_n (q : Nat) {f : Fin 4} {i : Nat} (hd : decode M.2.1 pc = .ok (.iload_n f, 1)) (e : pc + 1 = q) (hi : (f : Nat) = i) (hl : ls[i]? = some (some (.int x))) (kk : BGo G M KQ h k n q ls (.int x :: st)) : BGo G M KQ h k n pc ls st := by
  subst e
  exact fun p l e s m args below meth c Q q C H locs la S => lv_iload_n C.1 C.2.1 hd hi (S.2.2.2.1.get hl) (kk p l e s m args below meth c Q q C H locs la S)
theorem go_iload (q : Nat) {i : Nat} (hd : decode M.2.1 pc = .ok (.iload i, 2)) (e : pc + 2 = q) (hl : ls[i]? = some (some (.int x))) (kk : BGo G M KQ h k n q ls (.int x :: st)) : BGo G M KQ h k n pc ls st := by
  subst e
  exact fun p l e s m args below meth c Q q C H locs la S => lv_iload C.1 C.2.1 hd (S.2.2.2.1.get hl) (kk p l e s m args below meth c Q q C H locs la S)
theorem go_aload_n (q : Nat) {f : Fin 4} {i a : Nat} (hd : decode M.2.1 pc = .ok (.aload_n f, 1)) (e : pc + 1 = q) (hi : (f : Nat) = i) (hl : ls[i]? = some (some (.ref a))) (kk : BGo G M KQ h k n q ls (.ref a :: st)) : BGo G M KQ h k n pc ls st := by
  subst e
  exact fun p l e s m args below meth c Q q C H locs la S => lv_aload_n C.1 C.2.1 hd hi (S.2.2.2.1.get hl) (kk p l e s m args below meth c Q q C H locs la S)
theorem go_aload (q : Nat) {i a : Nat} (hd : decode M.2.1 pc = .ok (.aload i, 2)) (e : pc + 2 = q) (hl : ls[i]? = some (some (.ref a))) (kk : BGo G M KQ h k n q ls (.ref a :: st)) : BGo G M KQ h k n pc ls st := by
  subst e
  exact fun p l e s m args below meth c Q q C H locs la S => lv_aload C.1 C.2.1 hd (S.2.2.2.1.get hl) (kk p l e s m args below meth c Q q C H locs la S)
theorem go_aload_nN (q : Nat) {f : Fin 4} {i : Nat} (hd : decode M.2.1 pc = .ok (.aload_n f, 1)) (e : pc + 1 = q) (hi : (f : Nat) = i) (hl : ls[i]? = some (some .null)) (kk : BGo G M KQ h k n q ls (.null :: st)) : BGo G M KQ h k n pc ls st := by
  subst e
  exact fun p l e s m args below meth c Q q C H locs la S => lv_aload_nN C.1 C.2.1 hd hi (S.2.2.2.1.get hl) (kk p l e s m args below meth c Q q C H locs la S)
theorem go_aloadN (q : Nat) {i : Nat} (hd : decode M.2.1 pc = .ok (.aload i, 2)) (e : pc + 2 = q) (hl : ls[i]? = some (some .null)) (kk : BGo G M KQ h k n q ls (.null :: st)) : BGo G M KQ h k n pc ls st := by
  subst e
  exact fun p l e s m args below meth c Q q C H locs la S => lv_aloadN C.1 C.2.1 hd (S.2.2.2.1.get hl) (kk p l e s m args below meth c Q q C H locs la S)
theorem go_istore_n (q : Nat) {f : Fin 4} {i : Nat} (hd : decode M.2.1 pc = .ok (.istore_n f, 1)) (e : pc + 1 = q) (hi : (f : Nat) = i) (hb : i < M.2.2.1) (hl : ls.set i (some (.int x)) = ls') (kk : BGo G M KQ h k n q ls' st) : BGo G M KQ h k n pc ls (.int x :: st) := by
  subst e
  exact fun p l e s m args below meth c Q q C H locs la S => lv_istore_n C.1 C.2.1 hd hi S.2.2.2.1.has (by rw [S.2.2.2.2]; exact hb) rfl (fun lb hlb => kk p l e s m args below meth c Q q C H locs lb ⟨S.1, S.2.1, S.2.2.1, S.2.2.2.1.put rfl hl hlb, by rw [← hl, List.length_set]; exact S.2.2.2.2⟩)
theorem go_istore (q : Nat) {i : Nat} (hd : decode M.2.1 pc = .ok (.istore i, 2)) (e : pc + 2 = q) (hb : i < M.2.2.1) (hl : ls.set i (some (.int x)) = ls') (kk : BGo G M KQ h k n q ls' st) : BGo G M KQ h k n pc ls (.int x :: st) := by
  subst e
  exact fun p l e s m args below meth c Q q C H locs la S => lv_istore C.1 C.2.1 hd S.2.2.2.1.has (by rw [S.2.2.2.2]; exact hb) rfl (fun lb hlb => kk p l e s m args below meth c Q q C H locs lb ⟨S.1, S.2.1, S.2.2.1, S.2.2.2.1.put rfl hl hlb, by rw [← hl, List.length_set]; exact S.2.2.2.2⟩)
theorem go_astore_n (q : Nat) {f : Fin 4} {i a : Nat} (hd : decode M.2.1 pc = .ok (.astore_n f, 1)) (e : pc + 1 = q) (hi : (f : Nat) = i) (hb : i < M.2.2.1) (hl : ls.set i (some (.ref a)) = ls') (kk : BGo G M KQ h k n q ls' st) : BGo G M KQ h k n pc ls (.ref a :: st) := by
  subst e
  exact fun p l e s m args below meth c Q q C H locs la S => lv_astore_n C.1 C.2.1 hd hi S.2.2.2.1.has (by rw [S.2.2.2.2]; exact hb) rfl (fun lb hlb => kk p l e s m args below meth c Q q C H locs lb ⟨S.1, S.2.1, S.2.2.1, S.2.2.2.1.put rfl hl hlb, by rw [← hl, List.length_set]; exact S.2.2.2.2⟩)
theorem go_astore (q : Nat) {i a : Nat} (hd : decode M.2.1 pc = .ok (.astore i, 2)) (e : pc + 2 = q) (hb : i < M.2.2.1) (hl : ls.set i (some (.ref a)) = ls') (kk : BGo G M KQ h k n q ls' st) : BGo G M KQ h k n pc ls (.ref a :: st) := by
  subst e
  exact fun p l e s m args below meth c Q q C H locs la S => lv_astore C.1 C.2.1 hd S.2.2.2.1.has (by rw [S.2.2.2.2]; exact hb) rfl (fun lb hlb => kk p l e s m args below meth c Q q C H locs lb ⟨S.1, S.2.1, S.2.2.1, S.2.2.2.1.put rfl hl hlb, by rw [← hl, List.length_set]; exact S.2.2.2.2⟩)
theorem go_astore_nN (q : Nat) {f : Fin 4} {i : Nat} (hd : decode M.2.1 pc = .ok (.astore_n f, 1)) (e : pc + 1 = q) (hi : (f : Nat) = i) (hb : i < M.2.2.1) (hl : ls.set i (some .null) = ls') (kk : BGo G M KQ h k n q ls' st) : BGo G M KQ h k n pc ls (.null :: st) := by
  subst e
  exact fun p l e s m args below meth c Q q C H locs la S => lv_astore_nN C.1 C.2.1 hd hi S.2.2.2.1.has (by rw [S.2.2.2.2]; exact hb) rfl (fun lb hlb => kk p l e s m args below meth c Q q C H locs lb ⟨S.1, S.2.1, S.2.2.1, S.2.2.2.1.put rfl hl hlb, by rw [← hl, List.length_set]; exact S.2.2.2.2⟩)
theorem go_astoreN (q : Nat) {i : Nat} (hd : decode M.2.1 pc = .ok (.astore i, 2)) (e : pc + 2 = q) (hb : i < M.2.2.1) (hl : ls.set i (some .null) = ls') (kk : BGo G M KQ h k n q ls' st) : BGo G M KQ h k n pc ls (.null :: st) := by
  subst e
  exact fun p l e s m args below meth c Q q C H locs la S => lv_astoreN C.1 C.2.1 hd S.2.2.2.1.has (by rw [S.2.2.2.2]; exact hb) rfl (fun lb hlb => kk p l e s m args below meth c Q q C H locs lb ⟨S.1, S.2.1, S.2.2.1, S.2.2.2.1.put rfl hl hlb, by rw [← hl, List.length_set]; exact S.2.2.2.2⟩)
theorem go_iinc (q : Nat) {i : Nat} {z : Int} {v : Int32} (hd : decode M.2.1 pc = .ok (.iinc i z, 3)) (e : pc + 3 = q) (hx : ls[i]? = some (some (.int x))) (hv : x + Int32.ofInt z = v) (hb : i < M.2.2.1) (hl : ls.set i (some (.int v)) = ls') (kk : BGo G M KQ h k n q ls' st) : BGo G M KQ h k n pc ls st := by
  subst e
  intro p l e s m args below meth c Q q C H locs la S
  obtain ⟨j, hj⟩ := List.getElem?_of_mem (bc_pr_mem hx)
  exact lv_iinc C.1 C.2.1 hd S.2.2.2.1.has hj hv (by rw [S.2.2.2.2]; exact hb) rfl (fun lb hlb => kk p l e s m args below meth c Q q C H locs lb ⟨S.1, S.2.1, S.2.2.1, S.2.2.2.1.put rfl hl hlb, by rw [← hl, List.length_set]; exact S.2.2.2.2⟩)
theorem go_iadd (q : Nat) (hd : decode M.2.1 pc = .ok (.iadd, 1)) (e : pc + 1 = q) (kk : BGo G M KQ h k n q ls (.int (x + y) :: st)) : BGo G M KQ h k n pc ls (.int y :: .int x :: st) := by
  subst e
  exact fun p l e s m args below meth c Q q C H locs la S => lv_iadd C.1 C.2.1 hd (kk p l e s m args below meth c Q q C H locs la S)
theorem go_isub (q : Nat) (hd : decode M.2.1 pc = .ok (.isub, 1)) (e : pc + 1 = q) (kk : BGo G M KQ h k n q ls (.int (x - y) :: st)) : BGo G M KQ h k n pc ls (.int y :: .int x :: st) := by
  subst e
  exact fun p l e s m args below meth c Q q C H locs la S => lv_isub C.1 C.2.1 hd (kk p l e s m args below meth c Q q C H locs la S)
theorem go_imul (q : Nat) (hd : decode M.2.1 pc = .ok (.imul, 1)) (e : pc + 1 = q) (kk : BGo G M KQ h k n q ls (.int (x * y) :: st)) : BGo G M KQ h k n pc ls (.int y :: .int x :: st) := by
  subst e
  exact fun p l e s m args below meth c Q q C H locs la S => lv_imul C.1 C.2.1 hd (kk p l e s m args below meth c Q q C H locs la S)
theorem go_iand (q : Nat) (hd : decode M.2.1 pc = .ok (.iand, 1)) (e : pc + 1 = q) (kk : BGo G M KQ h k n q ls (.int (x &&& y) :: st)) : BGo G M KQ h k n pc ls (.int y :: .int x :: st) := by
  subst e
  exact fun p l e s m args below meth c Q q C H locs la S => lv_iand C.1 C.2.1 hd (kk p l e s m args below meth c Q q C H locs la S)
theorem go_ior (q : Nat) (hd : decode M.2.1 pc = .ok (.ior, 1)) (e : pc + 1 = q) (kk : BGo G M KQ h k n q ls (.int (x ||| y) :: st)) : BGo G M KQ h k n pc ls (.int y :: .int x :: st) := by
  subst e
  exact fun p l e s m args below meth c Q q C H locs la S => lv_ior C.1 C.2.1 hd (kk p l e s m args below meth c Q q C H locs la S)
theorem go_ixor (q : Nat) (hd : decode M.2.1 pc = .ok (.ixor, 1)) (e : pc + 1 = q) (kk : BGo G M KQ h k n q ls (.int (x ^^^ y) :: st)) : BGo G M KQ h k n pc ls (.int y :: .int x :: st) := by
  subst e
  exact fun p l e s m args below meth c Q q C H locs la S => lv_ixor C.1 C.2.1 hd (kk p l e s m args below meth c Q q C H locs la S)
theorem go_ishl (q : Nat) (hd : decode M.2.1 pc = .ok (.ishl, 1)) (e : pc + 1 = q) (kk : BGo G M KQ h k n q ls (.int (x <<< (y &&& 31)) :: st)) : BGo G M KQ h k n pc ls (.int y :: .int x :: st) := by
  subst e
  exact fun p l e s m args below meth c Q q C H locs la S => lv_ishl C.1 C.2.1 hd (kk p l e s m args below meth c Q q C H locs la S)
theorem go_ishr (q : Nat) (hd : decode M.2.1 pc = .ok (.ishr, 1)) (e : pc + 1 = q) (kk : BGo G M KQ h k n q ls (.int (x >>> (y &&& 31)) :: st)) : BGo G M KQ h k n pc ls (.int y :: .int x :: st) := by
  subst e
  exact fun p l e s m args below meth c Q q C H locs la S => lv_ishr C.1 C.2.1 hd (kk p l e s m args below meth c Q q C H locs la S)
theorem go_idiv (q : Nat) (hd : decode M.2.1 pc = .ok (.idiv, 1)) (e : pc + 1 = q) (hy : ¬ y = 0) (kk : BGo G M KQ h k n q ls (.int (x / y) :: st)) : BGo G M KQ h k n pc ls (.int y :: .int x :: st) := by
  subst e
  exact fun p l e s m args below meth c Q q C H locs la S => lv_idiv C.1 C.2.1 hd hy (kk p l e s m args below meth c Q q C H locs la S)
theorem go_irem (q : Nat) (hd : decode M.2.1 pc = .ok (.irem, 1)) (e : pc + 1 = q) (hy : ¬ y = 0) (kk : BGo G M KQ h k n q ls (.int (x - x / y * y) :: st)) : BGo G M KQ h k n pc ls (.int y :: .int x :: st) := by
  subst e
  exact fun p l e s m args below meth c Q q C H locs la S => lv_irem C.1 C.2.1 hd hy (kk p l e s m args below meth c Q q C H locs la S)
theorem go_iushr (q : Nat) {v : Int32} (hd : decode M.2.1 pc = .ok (.iushr, 1)) (e : pc + 1 = q) (hv : (x.toUInt32 >>> (y.toUInt32 &&& Int32.toUInt32 31)).toInt32 = v) (kk : BGo G M KQ h k n q ls (.int v :: st)) : BGo G M KQ h k n pc ls (.int y :: .int x :: st) := by
  subst e
  exact fun p l e s m args below meth c Q q C H locs la S => lv_iushr C.1 C.2.1 hd hv (kk p l e s m args below meth c Q q C H locs la S)
theorem go_ineg (q : Nat) (hd : decode M.2.1 pc = .ok (.ineg, 1)) (e : pc + 1 = q) (kk : BGo G M KQ h k n q ls (.int (-x) :: st)) : BGo G M KQ h k n pc ls (.int x :: st) := by
  subst e
  exact fun p l e s m args below meth c Q q C H locs la S => lv_ineg C.1 C.2.1 hd (kk p l e s m args below meth c Q q C H locs la S)
theorem go_i2c (q : Nat) {v : Int32} (hd : decode M.2.1 pc = .ok (.i2c, 1)) (e : pc + 1 = q) (hv : (x.toUInt32 % 65536).toInt32 = v) (kk : BGo G M KQ h k n q ls (.int v :: st)) : BGo G M KQ h k n pc ls (.int x :: st) := by
  subst e
  exact fun p l e s m args below meth c Q q C H locs la S => lv_i2c C.1 C.2.1 hd hv (kk p l e s m args below meth c Q q C H locs la S)
theorem go_dup (q : Nat) {v : Value} (hd : decode M.2.1 pc = .ok (.dup, 1)) (e : pc + 1 = q) (hv : v.category = 1) (kk : BGo G M KQ h k n q ls (v :: v :: st)) : BGo G M KQ h k n pc ls (v :: st) := by
  subst e
  exact fun p l e s m args below meth c Q q C H locs la S => lv_dup C.1 C.2.1 hd hv (kk p l e s m args below meth c Q q C H locs la S)
theorem go_dup2 (q : Nat) {v w : Value} (hd : decode M.2.1 pc = .ok (.dup2, 1)) (e : pc + 1 = q) (hv : v.category = 1) (hw : w.category = 1) (kk : BGo G M KQ h k n q ls (v :: w :: v :: w :: st)) : BGo G M KQ h k n pc ls (v :: w :: st) := by
  subst e
  exact fun p l e s m args below meth c Q q C H locs la S => lv_dup2_11 C.1 C.2.1 hd hv hw (kk p l e s m args below meth c Q q C H locs la S)
theorem go_pop (q : Nat) {v : Value} (hd : decode M.2.1 pc = .ok (.pop, 1)) (e : pc + 1 = q) (hv : v.category = 1) (kk : BGo G M KQ h k n q ls st) : BGo G M KQ h k n pc ls (v :: st) := by
  subst e
  exact fun p l e s m args below meth c Q q C H locs la S => lv_pop C.1 C.2.1 hd hv (kk p l e s m args below meth c Q q C H locs la S)
theorem go_null (q : Nat) (hd : decode M.2.1 pc = .ok (.aconst_null, 1)) (e : pc + 1 = q) (kk : BGo G M KQ h k n q ls (.null :: st)) : BGo G M KQ h k n pc ls st := by
  subst e
  exact fun p l e s m args below meth c Q q C H locs la S => lv_null C.1 C.2.1 hd (kk p l e s m args below meth c Q q C H locs la S)
theorem go_goto (tgt : Nat) {off : Int} (hd : decode M.2.1 pc = .ok (.goto off, 3)) (ht : (pc : Int) + off = (tgt : Int)) (kk : BGo G M KQ h k n tgt ls st) : BGo G M KQ h k n pc ls st :=
  fun p l e s m args below meth c Q q C H locs la S => lv_goto C.1 C.2.1 hd ht (kk p l e s m args below meth c Q q C H locs la S)
theorem go_ldc_w (q : Nat) {idx : Nat} {v : Int32} (hd : decode M.2.1 pc = .ok (.ldc_w idx, 3)) (e : pc + 3 = q) (hw : Cond.constant M.1.cls idx v ∈ lwG) (kk : BGo G M KQ h k n q ls (.int v :: st)) : BGo G M KQ h k n pc ls st := by
  subst e
  exact fun p l e s m args below meth c Q q C H locs la S => lv_ldcw C.1 C.2.1 C.2.2.2.1 (C.2.2.2.2.1 _ hw) hd (kk p l e s m args below meth c Q q C H locs la S)
theorem go_ifnull (q : Nat) {a : Nat} {off : Int} (hd : decode M.2.1 pc = .ok (.ifnull off, 3)) (e : pc + 3 = q) (kk : BGo G M KQ h k n q ls st) : BGo G M KQ h k n pc ls (.ref a :: st) := by
  subst e
  exact fun p l e s m args below meth c Q q C H locs la S => lv_ifnull C.1 C.2.1 hd (kk p l e s m args below meth c Q q C H locs la S)
theorem go_ifnullN (tgt : Nat) {off : Int} (hd : decode M.2.1 pc = .ok (.ifnull off, 3)) (ht : (pc : Int) + off = (tgt : Int)) (kk : BGo G M KQ h k n tgt ls st) : BGo G M KQ h k n pc ls (.null :: st) :=
  fun p l e s m args below meth c Q q C H locs la S => lv_ifnullN C.1 C.2.1 hd ht (kk p l e s m args below meth c Q q C H locs la S)
theorem go_ifnonnull (tgt : Nat) {a : Nat} {off : Int} (hd : decode M.2.1 pc = .ok (.ifnonnull off, 3)) (ht : (pc : Int) + off = (tgt : Int)) (kk : BGo G M KQ h k n tgt ls st) : BGo G M KQ h k n pc ls (.ref a :: st) :=
  fun p l e s m args below meth c Q q C H locs la S => lv_ifnonnull C.1 C.2.1 hd ht (kk p l e s m args below meth c Q q C H locs la S)
theorem go_ifnonnullN (q : Nat) {off : Int} (hd : decode M.2.1 pc = .ok (.ifnonnull off, 3)) (e : pc + 3 = q) (kk : BGo G M KQ h k n q ls st) : BGo G M KQ h k n pc ls (.null :: st) := by
  subst e
  exact fun p l e s m args below meth c Q q C H locs la S => lv_ifnonnullN C.1 C.2.1 hd (kk p l e s m args below meth c Q q C H locs la S)
theorem go_if_eq (tgt q : Nat) {off : Int} (hd : decode M.2.1 pc = .ok (.ifCond .eq off, 3)) (ht : (pc : Int) + off = (tgt : Int)) (e : pc + 3 = q) (kt : x = 0 → BGo G M KQ h k n tgt ls st) (kf : ¬ x = 0 → BGo G M KQ h k n q ls st) : BGo G M KQ h k n pc ls (.int x :: st) := by
  subst e
  exact fun p l e s m args below meth c Q q C H locs la S => lv_if_eq C.1 C.2.1 hd ht (fun z => kt z p l e s m args below meth c Q q C H locs la S) (fun z => kf z p l e s m args below meth c Q q C H locs la S)
theorem go_icmp_eq (tgt q : Nat) {off : Int} (hd : decode M.2.1 pc = .ok (.if_icmp .eq off, 3)) (ht : (pc : Int) + off = (tgt : Int)) (e : pc + 3 = q) (kt : x = y → BGo G M KQ h k n tgt ls st) (kf : ¬ x = y → BGo G M KQ h k n q ls st) : BGo G M KQ h k n pc ls (.int y :: .int x :: st) := by
  subst e
  exact fun p l e s m args below meth c Q q C H locs la S => lv_icmp_eq C.1 C.2.1 hd ht (fun z => kt z p l e s m args below meth c Q q C H locs la S) (fun z => kf z p l e s m args below meth c Q q C H locs la S)
theorem go_if_ne (tgt q : Nat) {off : Int} (hd : decode M.2.1 pc = .ok (.ifCond .ne off, 3)) (ht : (pc : Int) + off = (tgt : Int)) (e : pc + 3 = q) (kt : ¬ x = 0 → BGo G M KQ h k n tgt ls st) (kf : x = 0 → BGo G M KQ h k n q ls st) : BGo G M KQ h k n pc ls (.int x :: st) := by
  subst e
  exact fun p l e s m args below meth c Q q C H locs la S => lv_if_ne C.1 C.2.1 hd ht (fun z => kt z p l e s m args below meth c Q q C H locs la S) (fun z => kf z p l e s m args below meth c Q q C H locs la S)
theorem go_icmp_ne (tgt q : Nat) {off : Int} (hd : decode M.2.1 pc = .ok (.if_icmp .ne off, 3)) (ht : (pc : Int) + off = (tgt : Int)) (e : pc + 3 = q) (kt : ¬ x = y → BGo G M KQ h k n tgt ls st) (kf : x = y → BGo G M KQ h k n q ls st) : BGo G M KQ h k n pc ls (.int y :: .int x :: st) := by
  subst e
  exact fun p l e s m args below meth c Q q C H locs la S => lv_icmp_ne C.1 C.2.1 hd ht (fun z => kt z p l e s m args below meth c Q q C H locs la S) (fun z => kf z p l e s m args below meth c Q q C H locs la S)
theorem go_if_lt (tgt q : Nat) {off : Int} (hd : decode M.2.1 pc = .ok (.ifCond .lt off, 3)) (ht : (pc : Int) + off = (tgt : Int)) (e : pc + 3 = q) (kt : x < 0 → BGo G M KQ h k n tgt ls st) (kf : ¬ x < 0 → BGo G M KQ h k n q ls st) : BGo G M KQ h k n pc ls (.int x :: st) := by
  subst e
  exact fun p l e s m args below meth c Q q C H locs la S => lv_if_lt C.1 C.2.1 hd ht (fun z => kt z p l e s m args below meth c Q q C H locs la S) (fun z => kf z p l e s m args below meth c Q q C H locs la S)
theorem go_icmp_lt (tgt q : Nat) {off : Int} (hd : decode M.2.1 pc = .ok (.if_icmp .lt off, 3)) (ht : (pc : Int) + off = (tgt : Int)) (e : pc + 3 = q) (kt : x < y → BGo G M KQ h k n tgt ls st) (kf : ¬ x < y → BGo G M KQ h k n q ls st) : BGo G M KQ h k n pc ls (.int y :: .int x :: st) := by
  subst e
  exact fun p l e s m args below meth c Q q C H locs la S => lv_icmp_lt C.1 C.2.1 hd ht (fun z => kt z p l e s m args below meth c Q q C H locs la S) (fun z => kf z p l e s m args below meth c Q q C H locs la S)
theorem go_if_ge (tgt q : Nat) {off : Int} (hd : decode M.2.1 pc = .ok (.ifCond .ge off, 3)) (ht : (pc : Int) + off = (tgt : Int)) (e : pc + 3 = q) (kt : 0 ≤ x → BGo G M KQ h k n tgt ls st) (kf : ¬ 0 ≤ x → BGo G M KQ h k n q ls st) : BGo G M KQ h k n pc ls (.int x :: st) := by
  subst e
  exact fun p l e s m args below meth c Q q C H locs la S => lv_if_ge C.1 C.2.1 hd ht (fun z => kt z p l e s m args below meth c Q q C H locs la S) (fun z => kf z p l e s m args below meth c Q q C H locs la S)
theorem go_icmp_ge (tgt q : Nat) {off : Int} (hd : decode M.2.1 pc = .ok (.if_icmp .ge off, 3)) (ht : (pc : Int) + off = (tgt : Int)) (e : pc + 3 = q) (kt : y ≤ x → BGo G M KQ h k n tgt ls st) (kf : ¬ y ≤ x → BGo G M KQ h k n q ls st) : BGo G M KQ h k n pc ls (.int y :: .int x :: st) := by
  subst e
  exact fun p l e s m args below meth c Q q C H locs la S => lv_icmp_ge C.1 C.2.1 hd ht (fun z => kt z p l e s m args below meth c Q q C H locs la S) (fun z => kf z p l e s m args below meth c Q q C H locs la S)
theorem go_if_gt (tgt q : Nat) {off : Int} (hd : decode M.2.1 pc = .ok (.ifCond .gt off, 3)) (ht : (pc : Int) + off = (tgt : Int)) (e : pc + 3 = q) (kt : 0 < x → BGo G M KQ h k n tgt ls st) (kf : ¬ 0 < x → BGo G M KQ h k n q ls st) : BGo G M KQ h k n pc ls (.int x :: st) := by
  subst e
  exact fun p l e s m args below meth c Q q C H locs la S => lv_if_gt C.1 C.2.1 hd ht (fun z => kt z p l e s m args below meth c Q q C H locs la S) (fun z => kf z p l e s m args below meth c Q q C H locs la S)
theorem go_icmp_gt (tgt q : Nat) {off : Int} (hd : decode M.2.1 pc = .ok (.if_icmp .gt off, 3)) (ht : (pc : Int) + off = (tgt : Int)) (e : pc + 3 = q) (kt : y < x → BGo G M KQ h k n tgt ls st) (kf : ¬ y < x → BGo G M KQ h k n q ls st) : BGo G M KQ h k n pc ls (.int y :: .int x :: st) := by
  subst e
  exact fun p l e s m args below meth c Q q C H locs la S => lv_icmp_gt C.1 C.2.1 hd ht (fun z => kt z p l e s m args below meth c Q q C H locs la S) (fun z => kf z p l e s m args below meth c Q q C H locs la S)
theorem go_if_le (tgt q : Nat) {off : Int} (hd : decode M.2.1 pc = .ok (.ifCond .le off, 3)) (ht : (pc : Int) + off = (tgt : Int)) (e : pc + 3 = q) (kt : x ≤ 0 → BGo G M KQ h k n tgt ls st) (kf : ¬ x ≤ 0 → BGo G M KQ h k n q ls st) : BGo G M KQ h k n pc ls (.int x :: st) := by
  subst e
  exact fun p l e s m args below meth c Q q C H locs la S => lv_if_le C.1 C.2.1 hd ht (fun z => kt z p l e s m args below meth c Q q C H locs la S) (fun z => kf z p l e s m args below meth c Q q C H locs la S)
theorem go_icmp_le (tgt q : Nat) {off : Int} (hd : decode M.2.1 pc = .ok (.if_icmp .le off, 3)) (ht : (pc : Int) + off = (tgt : Int)) (e : pc + 3 = q) (kt : x ≤ y → BGo G M KQ h k n tgt ls st) (kf : ¬ x ≤ y → BGo G M KQ h k n q ls st) : BGo G M KQ h k n pc ls (.int y :: .int x :: st) := by
  subst e
  exact fun p l e s m args below meth c Q q C H locs la S => lv_icmp_le C.1 C.2.1 hd ht (fun z => kt z p l e s m args below meth c Q q C H locs la S) (fun z => kf z p l e s m args below meth c Q q C H locs la S)
theorem go_tabIn (tgt : Nat) {dflt lo hi : Int} {offs : Array Int} {len : Nat} {off : Int} (hd : decode M.2.1 pc = .ok (.tableswitch dflt lo hi offs, len)) (h1 : ¬ x.toInt < lo) (h2 : ¬ hi < x.toInt) (ho : offs[(x.toInt - lo).toNat]? = some off) (ht : (pc : Int) + off = (tgt : Int)) (kk : BGo G M KQ h k n tgt ls st) : BGo G M KQ h k n pc ls (.int x :: st) :=
  fun p l e s m args below meth c Q q C H locs la S => lv_tableIn C.1 C.2.1 hd h1 h2 ho ht (kk p l e s m args below meth c Q q C H locs la S)
theorem go_tabOut (tgt : Nat) {dflt lo hi : Int} {offs : Array Int} {len : Nat} (hd : decode M.2.1 pc = .ok (.tableswitch dflt lo hi offs, len)) (h1 : x.toInt < lo ∨ hi < x.toInt) (ht : (pc : Int) + dflt = (tgt : Int)) (kk : BGo G M KQ h k n tgt ls st) : BGo G M KQ h k n pc ls (.int x :: st) :=
  fun p l e s m args below meth c Q q C H locs la S => lv_tableOut C.1 C.2.1 hd h1 ht (kk p l e s m args below meth c Q q C H locs la S)
theorem go_lookup (tgt : Nat) {dflt : Int} {ps : Array (Int × Int)} {len : Nat} {off : Int} (hd : decode M.2.1 pc = .ok (.lookupswitch dflt ps, len)) (hp : (ps.toList.zip (ps.toList.drop 1)).all (fun (a, next) => a.1 < next.1) = true) (ho : Op.lookupswitch.offset ps.toList dflt x.toInt = off) (ht : (pc : Int) + off = (tgt : Int)) (kk : BGo G M KQ h k n tgt ls st) : BGo G M KQ h k n pc ls (.int x :: st) :=
  fun p l e s m args below meth c Q q C H locs la S => lv_lookup C.1 C.2.1 hd hp ho ht (kk p l e s m args below meth c Q q C H locs la S)
end BCROWS
