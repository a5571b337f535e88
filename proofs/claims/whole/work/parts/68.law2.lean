/-! THE CLAIM OUT OF ONE WALK OF THE LAW'S BODY. Your part is whole_start (and what it stands on); all else here is the same for every law, but numbers. -/
def R_law : String := "BranchingKernelLaw"
def lw_P (b : Addr) (xs : List Int32) (args : Array Value) (s : State) : Prop := args = #[.ref b] ∧ s.IntsAt b xs ∧ xs.length ≤ 1538 ∧ (Jvm.Cond.and given_1 narrow_1).before args s = true
def lw_Q (_ : Array Value) (s : State) (o : Outcome) (t : State) : Prop := o = .returned (some (.int 1)) ∧ Framed s o t [] 600000 7302250
def lw_Z (below : List Frame) (a : Array Value) (s : State) : State → Prop := fun t => ∃ o, t.status = .running ∧ Ended t below o ∧ lw_Q a s o t
/-- the law's own end, with 1 on the stack, nothing written that was there before, its room as the claim has it -/
theorem lw_ret {p : Program} {l : Launch} {e : Env} {s : State} {m : MethodId} {below : List Frame} {meth : Method} {c : Code} {b : Nat} (hx : p.tables.exec = Jvm.exec) (hb : c.code = code) (hr : meth.sig.returnType = ret) (hlocks : meth.locks = false) {pc : Nat} {H : Heap} {ls : Array Slot} (hdg : decode code pc = .ok (.ireturn, 1)) : W p l e room_1 s m #[Value.ref b] below meth c H [] 600000 7302250 (lw_Z below #[Value.ref b] s) (F0 m pc ls [.int 1]) := by
  intro T hT X
  obtain ⟨fs, hret, hrun, hended, hW, hframe⟩ := X.leave (v := some (.int 1)) (hlocks := hlocks) (fun h => by rw [hr] at h; cases h)
  have hmeth' : T.vm.method? m = some meth := X.method'
  refine ⟨T.setFrames fs, ?_, .returned (some (.int 1)), hrun, hended, rfl, ⟨_, rfl⟩, hW, hframe⟩
  jvm_step X.here [X.here.top, hx, hb, hdg, hmeth', hr, ret, narrow_b1]
  (try refine ⟨rfl, ?_⟩); (try refine ⟨rfl, ?_⟩)
  first | (intro acts; rw [hret _ acts rfl rfl rfl]) | rw [hret _ _ rfl rfl rfl]
  exact Steps.refl _
/-- what holds at the law's entry: the machine, the code, the tables' words (any of lw_tbl by 'hts w (by decide +kernel)'), the script of L ints xs at the cell b, what the Statement gives of the start (any of its parts by flat_of_before) -/
def lw_At (p : Program) (s : State) (m : MethodId) (meth : Method) (c : Code) (b L : Nat) (xs : Nat → Int32) : Prop :=
  p.tables.exec = Jvm.exec ∧ c.code = code ∧ meth.sig.returnType = ret ∧ c.maxLocals = 4 ∧ s.vm.findClass R_law = some m.cls ∧ (∀ w ∈ lw_tbl, w.before #[Value.ref b] s = true) ∧ va_X b L xs s s.heap ∧ b < s.heap.size ∧ meth.locks = false ∧ (Jvm.Cond.and given_1 narrow_1).before #[Value.ref b] s = true

/-! what the tables say at the law's entry -/
def iL_law (nm : String) : q_in := (code, ⟨RL, nm, ""⟩, 4, ret, room_1)
theorem q_inst {own : String} {idx ci : Nat} {fl : List (Option (Option q_ix))} (L : q_ob own idx ci fl) {args : Array Value} {s : State} (hts : ∀ w ∈ q_ws, w.before args s = true) : ∃ (cC : ClassId) (iS : Nat → Nat), ∀ q : vw_C, vwCl[ci]? = some q → u_Kn s q.1 q.2.1 q.2.2 cC iS := by
  obtain ⟨C, T, ty, hC, hin, hty, h1, h2, h3, hdf⟩ := L
  obtain ⟨cC, iS, h⟩ := u_known (C := C) (T := T) (N := fl.length) (n := fl.length) hts hin (hts _ h2)
  refine ⟨cC, iS, fun q hq => ?_⟩
  rw [hC] at hq
  cases hq
  exact h
theorem q_knows {args : Array Value} {s : State} (hts : ∀ w ∈ q_ws, w.before args s = true) (hao : (Cond.arrayOver (.object "BranchingKernel$Proc")).before args s = true) : ∃ G : q_g, va_K G.1 vwCl (q_tys G) s := by
  obtain ⟨c0, i0, h0⟩ := q_inst wi_obX3_9 hts
  obtain ⟨c1, i1, h1⟩ := q_inst wi_obX3_25 hts
  obtain ⟨c2, i2, h2⟩ := q_inst wi_obX3_18 hts
  obtain ⟨c3, i3, h3⟩ := q_inst wi_obL_7 hts
  obtain ⟨c4, i4, h4⟩ := q_inst wi_obL_18 hts
  obtain ⟨cI, kI, compI, a1, a2, a3⟩ := Cond.arrayClass_spec (hts _ wi_arr)
  obtain ⟨comp, cP, kP, b1, -, b3, b4, b5⟩ := Cond.arrayOver_spec hao
  refine ⟨((fun c => match c with | 0 => c0 | 1 => c1 | 2 => c2 | 3 => c3 | _ => c4, fun c => match c with | 0 => i0 | 1 => i1 | 2 => i2 | 3 => i3 | _ => i4), cI, cP), ?_, ?_⟩
  · intro c q hq
    match c, hq with
    | 0, hq => exact h0 q hq
    | 1, hq => exact h1 q hq
    | 2, hq => exact h2 q hq
    | 3, hq => exact h3 q hq
    | 4, hq => exact h4 q hq
    | c + 5, hq => cases hq
  · intro k q hq
    match k, hq with
    | 0, hq =>
      cases hq
      exact ⟨fun n z => ⟨fun k h => (by cases h), kI, a2, compI, a3⟩, a1⟩
    | 1, hq =>
      cases hq
      exact ⟨fun n z => ⟨fun k h => (by cases h), kP, b3, comp, b4⟩, kP, comp, b3, b4, b1, b5⟩
    | k + 2, hq => cases hq
def q_enL (X : q_cx) (b : Nat) : Prop := match X with
  | (_, _, _, s, _, args, below, _, _, A, Qf) => args = #[Value.ref b] ∧ A = (fun q => s.heap.size ≤ q) ∧ Qf = lw_Z below #[Value.ref b] s
/-- the law's end -/
theorem q_lend {G : q_g} {X : q_cx} {nm : String} {w : q_wd} {cn : Nat × Nat} {ls : List (Option q_v)} {S : q_st} {b : Nat} (F : q_fx G X (iL_law nm)) (E : q_enL X b) (hc : cn.1 ≤ 600000 ∧ cn.2 ≤ 7302250) : q_W G X (iL_law nm) w cn 507 ls [.inl (nI 1)] S := by
  obtain ⟨p, l, e, s, m, args, below, meth, c, A, Qf⟩ := X
  obtain ⟨hx, hb, hml, hts, hown, hnm, hr, hlk, hK, hA⟩ := F
  obtain ⟨rfl, rfl, rfl⟩ := E
  intro H locs la hP hD hS hl
  exact va_forget (fun q hq => hS.2.2 q hq) (W.widen hc.1 hc.2 (lw_ret hx hb hr hlk dL_law_507))
/-- the law's entry -/
theorem q_start {p : Program} {e : Env} {s : State} {m : MethodId} {below : List Frame} {meth : Method} {c : Code} (l : Launch) {b L : Nat} {xs : Nat → Int32} (C0 : lw_At p s m meth c b L xs) (h : ∀ (G : q_g) (X : q_cx), q_fx G X (iL_law meth.name) → q_exX X → q_scX X b L xs → q_enL X b → q_W G X (iL_law meth.name) ([], fun _ => b, fun _ => .inr (.inl (G.2.1, 0))) (0, 0) 0 [some (.inr (some (99, 0))), none, none, none] [] (fun _ _ => 0)) : W p l e room_1 s m #[Value.ref b] below meth c s.heap [] 0 0 (lw_Z below #[Value.ref b] s) (entryFrame m ([Value.ref b] : List Value).toArray 4) := by
  obtain ⟨hx, hb, hr, hml, hown, hts0, hX, hbl, hlk, hgv⟩ := C0
  have hts : ∀ w ∈ q_ws, w.before #[Value.ref b] s = true := fun w hw => hts0 w (List.mem_filter.mp hw).1
  have hao : (Cond.arrayOver (.object "BranchingKernel$Proc")).before #[Value.ref b] s = true := hts0 _ (List.mem_append_right _ (List.mem_of_getElem? (i := 38) (by decide +kernel)))
  have hnl : (Cond.methodLinkNest RX3 27 yX1_init "BranchingKernel").before #[Value.ref b] s = true := hts0 _ (List.mem_append_right _ (List.mem_of_getElem? (i := 75) (by decide +kernel)))
  obtain ⟨G, hK⟩ := q_knows hts hao
  have hl := lv_entry ([Value.ref b]) (n := 4) (by show 1 ≤ 4; decide)
  rw [lg_entry_eq]
  generalize (lg_sl ([Value.ref b]) ++ List.replicate (4 - (lg_sl ([Value.ref b])).length) Slot.unset).toArray = la at hl ⊢
  refine h G (p, l, e, s, m, #[Value.ref b], below, meth, c, fun q => s.heap.size ≤ q, lw_Z below #[Value.ref b] s) ⟨hx, hb, hml, hts, hown, rfl, hr, hlk, hK, fun q hq => hq⟩ ⟨va_AO.of hao, va_Nw.of rfl hnl⟩ ⟨hX, hbl, Nat.not_le.mpr hbl⟩ ⟨rfl, rfl, rfl⟩ s.heap [] la (fun k q hq => (by cases hq)) ⟨fun i j p q hi => (by cases hi), fun k q hq => (by cases hq)⟩ va_S.rf ⟨hl.1, hl.2.1, fun q hq => ?_⟩
  obtain ⟨i, v, h1, rfl⟩ := (q_ll_mem _ 0).mp hq
  refine hl.2.2 _ ?_
  match i, h1 with
  | 0, h1 =>
    cases h1
    exact List.mem_cons_self
  | 1, h1 => cases h1
  | 2, h1 => cases h1
  | 3, h1 => cases h1
  | i + 4, h1 => cases h1
