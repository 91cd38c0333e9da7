/-! THE CLAIM OUT OF ONE WALK OF THE LAW'S BODY. Your part is whole_start (and what it stands on); all else here is the same for every law, but numbers. -/
def R_law : String := "BatchCellarsLaw"
def lw_P (b : Addr) (xs : List Int32) (args : Array Value) (s : State) : Prop := args = #[.ref b] ∧ s.IntsAt b xs ∧ xs.length ≤ 3072 ∧ (Jvm.Cond.and given_1 narrow_1).before args s = true
def lw_Q (_ : Array Value) (s : State) (o : Outcome) (t : State) : Prop := o = .returned (some (.int 1)) ∧ Framed s o t [] 600000 7302250
def lw_Z (below : List Frame) (a : Array Value) (s : State) : State → Prop := fun t => ∃ o, t.status = .running ∧ Ended t below o ∧ lw_Q a s o t
/-- the law's own end, with 1 on the stack, nothing written that was there before, its room as the claim has it -/
theorem lw_ret {p : Program} {l : Launch} {e : Env} {s : State} {m : MethodId} {below : List Frame} {meth : Method} {c : Code} {b : Nat} (hx : p.tables.exec = Jvm.exec) (hb : c.code = code) (hr : meth.sig.returnType = ret) (hlocks : meth.locks = false) {pc : Nat} {H : Heap} {ls : Array Slot} (hdg : decode code pc = .ok (.ireturn, 1)) : W p l e room_1 s m #[Value.ref b] below meth c H [] 600000 7302250 (lw_Z below #[Value.ref b] s) (F0 m pc ls [.int 1]) := by
  intro T hT X
  obtain ⟨fs, hret, hrun, hended, hW, hframe⟩ := X.leave (v := some (.int 1)) (hlocks := hlocks) (fun h => by rw [hr] at h; cases h)
  have hmeth' : T.vm.method? m = some meth := X.method'
  refine ⟨T.setFrames fs, ?_, .returned (some (.int 1)), hrun, hended, rfl, ⟨_, rfl⟩, hW, hframe⟩
  jvm_step X.here [X.here.top, hx, hb, hdg, hmeth', hr, ret, narrow_b1]
  (try refine ⟨rfl, ?_⟩); (try refine ⟨rfl, ?_⟩)
  first | (intro acts; rw [hret _ acts rfl rfl rfl]) | rw [hret _ _ rfl rfl rfl]
  exact Steps.refl _
/-- what holds at the law's entry: the machine, the code, the tables' words (any of lw_tbl by 'hts w (by decide +kernel)'), the script of L ints xs at the cell b, what the Statement gives of the start (any of its parts by flat_of_before) -/
def lw_At (p : Program) (s : State) (m : MethodId) (meth : Method) (c : Code) (b L : Nat) (xs : Nat → Int32) : Prop :=
  p.tables.exec = Jvm.exec ∧ c.code = code ∧ meth.sig.returnType = ret ∧ c.maxLocals = 4 ∧ s.vm.findClass R_law = some m.cls ∧ (∀ w ∈ lw_tbl, w.before #[Value.ref b] s = true) ∧ va_X b L xs s s.heap ∧ b < s.heap.size ∧ meth.locks = false ∧ (Jvm.Cond.and given_1 narrow_1).before #[Value.ref b] s = true
/-! THE LAW: its method, its script, its end (the rows above are the skeleton's) -/
abbrev mLaw (nm : String) : BcM := (⟨RL, nm, "([I)Z"⟩, code, 4, ret, 11, 414, 600000, 7302250)
/-- the script lies outside the system's cells; the end is the claim's -/
def KL (G : BcG) (b L : Nat) (xs : Nat → Int32) : BcK := fun _ _ _ s _ args below _ _ Q =>
  args = #[Value.ref b] ∧ Q = lw_Z below #[Value.ref b] s ∧ va_X b L xs s s.heap ∧ b < s.heap.size ∧ G.1 = s.heap.size
section LAWROWS
variable {G : BcG} {nm : String} {b L : Nat} {xs : Nat → Int32} {h : BcH} {k n pc : Nat} {ls : List (Option Value)} {st : List Value}
theorem gl_sld (q j : Nat) {x : Int32} (hd : decode code pc = .ok (.iaload, 1)) (e : pc + 1 = q) (hx : x = nI j) (hj : j < L) (hL : L ≤ 3072) (kk : BGo G (mLaw nm) (KL G b L xs) h k n q ls (.int (xs j) :: st)) : BGo G (mLaw nm) (KL G b L xs) h k n pc ls (.int x :: .ref b :: st) := by
  subst e
  subst hx
  intro p l e s m args below meth c Q q C H locs la S
  refine va_sld C.1 C.2.1 q.2.2.1 q.2.2.2.1 (A := bc_A G) (by show ¬ G.1 ≤ b; have := q.2.2.2.2; have := q.2.2.2.1; omega) S.2.2.1 (vp_in_nI hj (by omega)) hd ?_
  rw [nI_clamp (by omega)]
  exact kk p l e s m args below meth c Q q C H locs la S
theorem gl_slen (q : Nat) (hd : decode code pc = .ok (.arraylength, 1)) (e : pc + 1 = q) (kk : BGo G (mLaw nm) (KL G b L xs) h k n q ls (.int (nI L) :: st)) : BGo G (mLaw nm) (KL G b L xs) h k n pc ls (.ref b :: st) := by
  subst e
  intro p l e s m args below meth c Q q C H locs la S
  exact va_slen C.1 C.2.1 q.2.2.1 q.2.2.2.1 (A := bc_A G) (by show ¬ G.1 ≤ b; have := q.2.2.2.2; have := q.2.2.2.1; omega) S.2.2.1 hd (kk p l e s m args below meth c Q q C H locs la S)
theorem gl_ret (hd : decode code pc = .ok (.ireturn, 1)) (hk : k ≤ 600000) (hn : n ≤ 7302250) : BGo G (mLaw nm) (KL G b L xs) h k n pc ls [.int 1] := by
  intro p l e s m args below meth c Q q C H locs la S
  obtain ⟨rfl, rfl, hX, hb, hG⟩ := q
  refine va_forget (fun z hz => ?_) ?_
  · have h1 : G.1 ≤ z.base := S.2.2.1.2.2 z hz
    omega
  · refine W.widen (k := 600000) (n := 7302250) hk hn ?_
    exact lw_ret C.1 C.2.1 C.2.2.2.2.2.1 C.2.2.2.2.2.2.1 hd
end LAWROWS
/-- L - 6 < i, as the machine has it -/
theorem law_gt {L i : Nat} (hL : L ≤ 3072) (hi : i ≤ 3072) : nI L - 6 < nI i ↔ L < i + 6 := by
  have h1 : (nI L - 6).toInt = (L : Int) - 6 := pk_sub_toInt (a := L) (b := 6) (by omega) (by omega)
  rw [Int32.lt_iff_toInt_lt, h1, nI_toInt (by omega)]
  omega
