/-! my own machine over whole worlds: cells by index (kind, number), their ints in one store, their shape (references, lengths) fixed -/
def q_ws : List Cond := lw_tbl.filter goodWord
theorem q_ws_good {w : Cond} (h : w ∈ q_ws) : (w.onTables && w.keeps) = true ∨ ∃ ty, w = .arrayClass ty := good_of_word (List.mem_filter.mp h).2
theorem q_ws_in {w : Cond} (h : w ∈ lw_tbl) (hg : goodWord w = true) : w ∈ q_ws := List.mem_filter.mpr ⟨h, hg⟩
abbrev q_ix : Type := Nat × Nat
abbrev q_v : Type := Int32 ⊕ Option q_ix
abbrev q_sh : Type := (Nat × List (Option (Option q_ix))) ⊕ ((ClassId × Nat) ⊕ (ClassId × Nat × (Nat → Option q_ix)))
abbrev q_st : Type := q_ix → Nat → Int32
abbrev q_wd : Type := List q_ix × (q_ix → Nat) × (q_ix → q_sh)
abbrev q_g : Type := va_G × ClassId × ClassId
abbrev q_cx : Type := Program × Launch × Env × State × MethodId × Array Value × List Frame × Method × Code × (Nat → Prop) × (State → Prop)
abbrev q_in : Type := ByteArray × MethodName × Nat × Option FieldType × Room
abbrev q_post : Type := Option q_v → q_wd → q_st → Prop
def q_ref (ad : q_ix → Nat) (r : Option q_ix) : Value := match r with
  | none => .null
  | some i => .ref (ad i)
def q_val (ad : q_ix → Nat) (v : q_v) : Value := match v with
  | .inl x => .int x
  | .inr r => q_ref ad r
def q_fld (ad : q_ix → Nat) (s : Nat → Int32) (k : Nat) (t : Option (Option q_ix)) : Value := match t with
  | none => .int (s k)
  | some r => q_ref ad r
def q_cell (ad : q_ix → Nat) (s : Nat → Int32) (h : q_sh) : va_E := match h with
  | .inl (c, fl) => .inr (c, fl.mapIdx (q_fld ad s))
  | .inr (.inl (cA, n)) => .inl (cA, n, .inl s)
  | .inr (.inr (cA, n, f)) => .inl (cA, n, .inr (.inr (.inr (.inr (fun j => (f j).map ad)))))
def q_wl (w : q_wd) (S : q_st) : va_W := w.1.map (fun i => (w.2.1 i, q_cell w.2.1 (S i) (w.2.2 i)))
def q_up (S : q_st) (i : q_ix) (k : Nat) (v : Int32) : q_st := fun j n => if j = i ∧ n = k then v else S j n
def q_tys (G : q_g) : List (ClassId × FieldType) := [(G.2.1, .int), (G.2.2, .object "BranchingKernel$Proc")]
theorem q_val_cat (ad : q_ix → Nat) (v : q_v) : (q_val ad v).category = 1 := by
  rcases v with x | (_ | i) <;> rfl
theorem q_wl_at {w : q_wd} {S : q_st} {i : q_ix} {k : Nat} (h : w.1[k]? = some i) : (q_wl w S)[k]? = some (w.2.1 i, q_cell w.2.1 (S i) (w.2.2 i)) := by
  unfold q_wl
  rw [List.getElem?_map, h]
  rfl
theorem q_set {w : q_wd} {S S' : q_st} {A : Nat → Prop} {i : q_ix} {k : Nat} {e : va_E} (hD : va_D A (q_wl w S)) (hk : w.1[k]? = some i) (he : q_cell w.2.1 (S' i) (w.2.2 i) = e) (ho : ∀ j, j ≠ i → S' j = S j) : (q_wl w S).set k (w.2.1 i, e) = q_wl w S' := by
  subst he
  apply List.ext_getElem?
  intro n
  have hlen : k < (q_wl w S).length := (List.getElem?_eq_some_iff.mp (q_wl_at (S := S) hk)).1
  by_cases hn : n = k
  · subst hn
    rw [List.getElem?_set_self hlen, q_wl_at hk]
  · rw [List.getElem?_set_ne (Ne.symm hn)]
    cases hj : w.1[n]? with
    | none =>
      unfold q_wl
      rw [List.getElem?_map, List.getElem?_map, hj]
      rfl
    | some j =>
      have hji : j ≠ i := by
        intro h
        subst h
        exact hn (hD.1 n k _ _ (q_wl_at hj) (q_wl_at hk) rfl)
      rw [q_wl_at hj, q_wl_at hj, ho j hji]
theorem q_up_self (S : q_st) (i : q_ix) (k : Nat) (v : Int32) : q_up S i k v i = upd (S i) k v := by
  funext n
  simp [q_up, upd]
theorem q_up_other (S : q_st) (i : q_ix) (k : Nat) (v : Int32) (j : q_ix) (h : j ≠ i) : q_up S i k v j = S j := by
  funext n
  simp [q_up, h]
theorem q_fld_set {ad : q_ix → Nat} {s : Nat → Int32} {fl : List (Option (Option q_ix))} {k : Nat} {v : Int32} (hk : fl[k]? = some none) : fl.mapIdx (q_fld ad (upd s k v)) = (fl.mapIdx (q_fld ad s)).set k (.int v) := by
  apply List.ext_getElem?
  intro n
  by_cases hn : n = k
  · subst hn
    have hl : n < (fl.mapIdx (q_fld ad s)).length := by
      rw [List.length_mapIdx]
      exact (List.getElem?_eq_some_iff.mp hk).1
    rw [List.getElem?_set_self hl, List.getElem?_mapIdx, hk]
    simp [q_fld, upd]
  · rw [List.getElem?_set_ne (Ne.symm hn), List.getElem?_mapIdx, List.getElem?_mapIdx]
    cases fl[n]? with
    | none => rfl
    | some t =>
      rcases t with _ | r
      · simp [q_fld, upd, hn]
      · rfl
/-- the locals: what the list says of them -/
def q_ll (ad : q_ix → Nat) : Nat → List (Option q_v) → List (Nat × Value)
  | _, [] => []
  | k, none :: r => q_ll ad (k + 1) r
  | k, some v :: r => (k, q_val ad v) :: q_ll ad (k + 1) r
theorem q_ll_mem {ad : q_ix → Nat} {q : Nat × Value} : ∀ (ls : List (Option q_v)) (k : Nat), q ∈ q_ll ad k ls ↔ ∃ i v, ls[i]? = some (some v) ∧ q = (k + i, q_val ad v)
  | [], k => by simp [q_ll]
  | none :: r, k => by
    show q ∈ q_ll ad (k + 1) r ↔ _
    rw [q_ll_mem r (k + 1)]
    constructor
    · rintro ⟨i, v, h1, h2⟩
      exact ⟨i + 1, v, by simpa using h1, by rw [h2]; congr 1; omega⟩
    · rintro ⟨i, v, h1, h2⟩
      cases i with
      | zero => simp at h1
      | succ i => exact ⟨i, v, by simpa using h1, by rw [h2]; congr 1; omega⟩
  | some u :: r, k => by
    show q ∈ (k, q_val ad u) :: q_ll ad (k + 1) r ↔ _
    rw [List.mem_cons, q_ll_mem r (k + 1)]
    constructor
    · rintro (h | ⟨i, v, h1, h2⟩)
      · exact ⟨0, u, rfl, h⟩
      · exact ⟨i + 1, v, by simpa using h1, by rw [h2]; congr 1; omega⟩
    · rintro ⟨i, v, h1, h2⟩
      cases i with
      | zero =>
        left
        simp at h1
        rw [h2, h1]
        rfl
      | succ i => exact Or.inr ⟨i, v, by simpa using h1, by rw [h2]; congr 1; omega⟩
def q_lo (la : Array Slot) (nL : Nat) (ad : q_ix → Nat) (ls : List (Option q_v)) : Prop := lv_has la nL (q_ll ad 0 ls)
theorem q_lo_at {la : Array Slot} {nL : Nat} {ad : q_ix → Nat} {ls : List (Option q_v)} (h : q_lo la nL ad ls) {i : Nat} {v : q_v} (hi : ls[i]? = some (some v)) : la[i]? = some (.val (q_val ad v)) :=
  h.2.2 (i, q_val ad v) ((q_ll_mem ls 0).mpr ⟨i, v, hi, by rw [Nat.zero_add]⟩)
theorem q_lo_of {la : Array Slot} {nL : Nat} {ad ad' : q_ix → Nat} {ls ls' : List (Option q_v)} (h : q_lo la nL ad ls) (hh : ∀ (i : Nat) (v : q_v), ls'[i]? = some (some v) → ∃ u : q_v, ls[i]? = some (some u) ∧ q_val ad u = q_val ad' v) : q_lo la nL ad' ls' := by
  refine ⟨h.1, h.2.1, fun q hq => ?_⟩
  obtain ⟨i, v, h1, rfl⟩ := (q_ll_mem ls' 0).mp hq
  obtain ⟨u, h2, h3⟩ := hh i v h1
  show la[0 + i]? = _
  rw [Nat.zero_add]
  rw [← h3]
  exact q_lo_at h h2
theorem q_lo_st {la : Array Slot} {nL : Nat} {ad : q_ix → Nat} {ls : List (Option q_v)} {i : Nat} {v : q_v} (h : lv_has la nL ((i, q_val ad v) :: (q_ll ad 0 ls).filter (fun q => !(q.1 == i) && !(q.1 + 1 == i && q.2.category == 2)))) : q_lo la nL ad (ls.set i (some v)) := by
  refine ⟨h.1, h.2.1, fun q hq => h.2.2 q ?_⟩
  obtain ⟨j, u, h1, rfl⟩ := (q_ll_mem _ 0).mp hq
  by_cases hj : j = i
  · subst hj
    have hl : j < ls.length := by
      have := (List.getElem?_eq_some_iff.mp h1).1
      simpa using this
    rw [List.getElem?_set_self hl] at h1
    cases h1
    rw [Nat.zero_add]
    exact List.mem_cons_self
  · rw [List.getElem?_set_ne (Ne.symm hj)] at h1
    refine List.mem_cons_of_mem _ (List.mem_filter.mpr ⟨(q_ll_mem _ 0).mpr ⟨j, u, h1, rfl⟩, ?_⟩)
    have hc := q_val_cat ad u
    simp [hj, hc]
/-- what a method's walk knows -/
def q_fx (G : q_g) (X : q_cx) (I : q_in) : Prop := match X with
  | (p, _, _, s, m, args, _, meth, c, A, _) => p.tables.exec = Jvm.exec ∧ c.code = I.1 ∧ c.maxLocals = I.2.2.1 ∧ (∀ w ∈ q_ws, w.before args s = true) ∧ s.vm.findClass I.2.1.cls = some m.cls ∧ meth.name = I.2.1.name ∧ meth.sig.returnType = I.2.2.2.1 ∧ meth.locks = false ∧ va_K G.1 vwCl (q_tys G) s ∧ (∀ q : Nat, s.heap.size ≤ q → A q)
def q_Q (G : q_g) (A : Nat → Prop) (post : q_post) : Array Value → State → Outcome → State → Prop := fun _ st oc t => (∃ (r : Option q_v) (w : q_wd) (S : q_st), oc = .returned (r.map (q_val w.2.1)) ∧ post r w S ∧ va_P G.1 vwCl (q_wl w S) t.heap ∧ va_K G.1 vwCl (q_tys G) t ∧ va_D A (q_wl w S)) ∧ va_F A st t
def q_W (G : q_g) (X : q_cx) (I : q_in) (w : q_wd) (cn : Nat × Nat) (pc : Nat) (ls : List (Option q_v)) (st : List q_v) (S : q_st) : Prop := match X with
  | (p, l, e, s, m, args, below, meth, c, A, Qf) => ∀ (H : Heap) (locs : List Loc) (la : Array Slot), va_P G.1 vwCl (q_wl w S) H → va_D A (q_wl w S) → va_S A s.heap H locs → q_lo la I.2.2.1 w.2.1 ls → W p l e I.2.2.2.2 s m args below meth c H locs cn.1 cn.2 Qf (F0 m pc la (st.map (q_val w.2.1)))
/-- what the walk of a method is to end in -/
def q_en (G : q_g) (X : q_cx) (I : q_in) (post : q_post) : Prop := match X with
  | (_, _, _, s, _, args, below, _, _, A, Qf) => Qf = MQ below (q_Q G A post) args s I.2.2.2.2.cells I.2.2.2.2.slots A
/-- a method's contract at these arguments, in this world -/
def q_Ct (l : Launch) (G : q_g) (I : q_in) (av : List q_v) (w : q_wd) (S : q_st) (post : q_post) : Prop := ∀ sz : Nat, Met l I.2.1 (.code I.2.1 I.1 I.2.2.1 I.2.2.2.1 :: q_ws) I.2.2.2.2 (va_Pc (av.map (q_val w.2.1)) (fun U => U.heap.size = sz ∧ va_P G.1 vwCl (q_wl w S) U.heap ∧ va_K G.1 vwCl (q_tys G) U ∧ va_D (fun _ => True) (q_wl w S))) (q_Q G (va_A (q_wl w S) sz) post) I.2.2.2.2.cells I.2.2.2.2.slots (va_A (q_wl w S) sz)
theorem q_enter {l : Launch} {G : q_g} {I : q_in} {av : List q_v} {w : q_wd} {S : q_st} {post : q_post} (hy : plainName I.2.1.cls = true) (ha : av.length ≤ I.2.2.1) (h : ∀ X : q_cx, q_fx G X I → q_en G X I post → q_W G X I w (0, 0) 0 (av.map some ++ List.replicate (I.2.2.1 - av.length) none) [] S) : q_Ct l G I av w S post := by
  intro sz
  refine Met.ofW (cc := I.1) (maxL := I.2.2.1) (ret := I.2.2.2.1) hy rfl ?_
  intro p e s m args below meth c s₁ B hml hv
  obtain ⟨rfl, hsz, hP, hK, hD0⟩ := hv
  have hts := atoms_spec (ws := .code I.2.1 I.1 I.2.2.1 I.2.2.2.1 :: q_ws) B.pre
  have hown : s.vm.findClass I.2.1.cls = some m.cls := findClass_of_methodNamed B.named
  have hnm : meth.name = I.2.1.name := (name_of_methodNamed B.named B.method).1
  subst hsz
  have hD := hD0.self (sz := s.heap.size)
  have hcat : ∀ (vs : List q_v), (lg_sl (vs.map (q_val w.2.1))) = vs.map (fun v => Slot.val (q_val w.2.1 v)) := by
    intro vs
    induction vs with
    | nil => rfl
    | cons v t ih =>
      have hc := q_val_cat w.2.1 v
      simp only [lg_sl, List.map_cons, List.flatMap_cons] at ih ⊢
      rw [ih, hc]
      rfl
  have hl := lv_entry (av.map (q_val w.2.1)) (n := I.2.2.1) (by rw [hcat]; simpa using ha)
  rw [lg_entry_eq]
  generalize (lg_sl (av.map (q_val w.2.1)) ++ List.replicate (I.2.2.1 - (lg_sl (av.map (q_val w.2.1))).length) Slot.unset).toArray = la at hl ⊢
  have hargs : ∀ (vs : List q_v) (k i : Nat) (v : q_v), vs[i]? = some v → (k + i, q_val w.2.1 v) ∈ lv_args k (vs.map (q_val w.2.1)) := by
    intro vs
    induction vs with
    | nil => intro k i v hv; simp at hv
    | cons u t ih =>
      intro k i v hv
      have hc : ¬ (q_val w.2.1 u).category = 2 := by rw [q_val_cat]; decide
      show _ ∈ (k, q_val w.2.1 u) :: lv_args (if (q_val w.2.1 u).category = 2 then k + 2 else k + 1) (t.map (q_val w.2.1))
      rw [if_neg hc]
      cases i with
      | zero =>
        simp at hv
        subst hv
        exact List.mem_cons_self
      | succ i =>
        refine List.mem_cons_of_mem _ ?_
        have := ih (k + 1) i v (by simpa using hv)
        rw [show k + (i + 1) = k + 1 + i by omega]
        exact this
  refine h (p, l, e, s, m, _, below, meth, c, va_A (q_wl w S) s.heap.size, _) ⟨B.exec, B.bytes, hml, fun w hw => hts w (List.mem_cons_of_mem _ hw), hown, hnm, B.returns, B.notSynchronized, hK, fun q hq => Or.inr hq⟩ rfl s.heap [] la hP hD va_S.rf ⟨hl.1, hl.2.1, fun q hq => ?_⟩
  obtain ⟨i, v, h1, rfl⟩ := (q_ll_mem _ 0).mp hq
  refine hl.2.2 _ ?_
  by_cases hi : i < av.length
  · rw [List.getElem?_append_left (by simpa using hi), List.getElem?_map] at h1
    cases hv : av[i]? with
    | none => rw [hv] at h1; cases h1
    | some u =>
      rw [hv] at h1
      cases h1
      exact hargs av 0 i _ hv
  · rw [List.getElem?_append_right (by simpa using hi)] at h1
    rw [List.getElem?_replicate] at h1
    split at h1 <;> cases h1
