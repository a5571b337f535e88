/-! rows of my machine that make cells: constructors -/
def q_us {β : Type} (f : q_ix → β) (i : q_ix) (v : β) : q_ix → β := fun j => if j = i then v else f j
theorem q_us_s {β : Type} (f : q_ix → β) (i : q_ix) (v : β) : q_us f i v i = v := if_pos rfl
theorem q_us_n {β : Type} (f : q_ix → β) (i : q_ix) (v : β) {j : q_ix} (h : j ≠ i) : q_us f i v j = f j := if_neg h
def q_nm (h : q_sh) (i : q_ix) : Prop := match h with
  | .inl (_, fl) => ∀ t ∈ fl, t ≠ some (some i)
  | .inr (.inl _) => True
  | .inr (.inr (_, _, f)) => ∀ k, f k ≠ some i
/-- no cell names a cell that isn't there -/
def q_clo (w : q_wd) : Prop := ∀ j ∈ w.1, ∀ i, i ∉ w.1 → q_nm (w.2.2 j) i
theorem q_cell_us {ad : q_ix → Nat} {i : q_ix} {q : Nat} {s : Nat → Int32} {h : q_sh} (hn : q_nm h i) : q_cell (q_us ad i q) s h = q_cell ad s h := by
  rcases h with ⟨c, fl⟩ | (⟨cA, n⟩ | ⟨cA, n, f⟩)
  · have e : fl.mapIdx (q_fld (q_us ad i q) s) = fl.mapIdx (q_fld ad s) := by
      apply List.ext_getElem?
      intro k
      rw [List.getElem?_mapIdx, List.getElem?_mapIdx]
      cases ht : fl[k]? with
      | none => rfl
      | some t =>
        rcases t with _ | (_ | j)
        · rfl
        · rfl
        · have hji : j ≠ i := fun e => hn _ (List.mem_of_getElem? ht) (by rw [e])
          show some (Value.ref _) = some (Value.ref _)
          rw [q_us_n _ _ _ hji]
    show Sum.inr (c, fl.mapIdx (q_fld (q_us ad i q) s)) = Sum.inr (c, fl.mapIdx (q_fld ad s))
    rw [e]
  · rfl
  · have e : (fun j => (f j).map (q_us ad i q)) = fun j => (f j).map ad := by
      funext j
      cases hj : f j with
      | none => rfl
      | some m =>
        have hmi : m ≠ i := fun e => hn j (by rw [hj, e])
        show some _ = some _
        rw [q_us_n _ _ _ hmi]
    show Sum.inl (cA, n, Sum.inr (Sum.inr (Sum.inr (Sum.inr (fun j => (f j).map (q_us ad i q)))))) = _
    rw [e]
    rfl
theorem q_wl_new {w : q_wd} {S : q_st} {i : q_ix} {q : Nat} {h : q_sh} (hi : i ∉ w.1) (hcl : q_clo w) : q_wl (w.1 ++ [i], q_us w.2.1 i q, q_us w.2.2 i h) S = q_wl w S ++ [(q, q_cell (q_us w.2.1 i q) (S i) h)] := by
  show (w.1 ++ [i]).map (fun j => (q_us w.2.1 i q j, q_cell (q_us w.2.1 i q) (S j) (q_us w.2.2 i h j))) = _
  rw [List.map_append]
  congr 1
  · refine List.map_congr_left (fun j hj => ?_)
    have hji : j ≠ i := fun e => hi (e ▸ hj)
    show (q_us w.2.1 i q j, q_cell (q_us w.2.1 i q) (S j) (q_us w.2.2 i h j)) = _
    rw [q_us_n _ _ _ hji, q_us_n _ _ _ hji, q_cell_us (hcl j hj i hi)]
  · show [(q_us w.2.1 i q i, q_cell (q_us w.2.1 i q) (S i) (q_us w.2.2 i h i))] = _
    rw [q_us_s, q_us_s]
theorem q_val_us {ad : q_ix → Nat} {i : q_ix} {q : Nat} {u : q_v} (h : u ≠ .inr (some i)) : q_val (q_us ad i q) u = q_val ad u := by
  rcases u with x | (_ | j)
  · rfl
  · rfl
  · have hji : j ≠ i := fun e => h (by rw [e])
    show Value.ref _ = Value.ref _
    rw [q_us_n _ _ _ hji]
theorem q_clo_new {w : q_wd} {i : q_ix} {ad : q_ix → Nat} {h : q_sh} (hcl : q_clo w) (hi : i ∉ w.1) (hh : ∀ j, j ∉ w.1 → q_nm h j) : q_clo (w.1 ++ [i], ad, q_us w.2.2 i h) := by
  intro j hj m hm
  show q_nm (q_us w.2.2 i h j) m
  have hm1 : m ∉ w.1 := fun q => hm (List.mem_append_left _ q)
  by_cases hji : j = i
  · rw [hji, q_us_s]
    exact hh m hm1
  · rw [q_us_n _ _ _ hji]
    rcases List.mem_append.mp hj with hj | hj
    · exact hcl j hj m hm1
    · exact absurd (List.mem_singleton.mp hj) hji
theorem q_clo_set {w : q_wd} {i : q_ix} {h : q_sh} (hcl : q_clo w) (hh : ∀ j, j ∉ w.1 → q_nm h j) : q_clo (w.1, w.2.1, q_us w.2.2 i h) := by
  intro j hj m hm
  show q_nm (q_us w.2.2 i h j) m
  by_cases hji : j = i
  · rw [hji, q_us_s]
    exact hh m hm
  · rw [q_us_n _ _ _ hji]
    exact hcl j hj m hm
/-- a cell's shape changes -/
theorem q_setw {w : q_wd} {S : q_st} {A : Nat → Prop} {i : q_ix} {k : Nat} {e : va_E} {h : q_sh} (hD : va_D A (q_wl w S)) (hk : w.1[k]? = some i) (he : q_cell w.2.1 (S i) h = e) : (q_wl w S).set k (w.2.1 i, e) = q_wl (w.1, w.2.1, q_us w.2.2 i h) S := by
  subst he
  apply List.ext_getElem?
  intro n
  have hlen : k < (q_wl w S).length := (List.getElem?_eq_some_iff.mp (q_wl_at (S := S) hk)).1
  by_cases hn : n = k
  · subst hn
    rw [List.getElem?_set_self hlen, q_wl_at (w := (w.1, w.2.1, q_us w.2.2 i h)) hk]
    show some (w.2.1 i, _) = some (w.2.1 i, q_cell w.2.1 (S i) (q_us w.2.2 i h i))
    rw [q_us_s]
  · rw [List.getElem?_set_ne (Ne.symm hn)]
    cases hj : w.1[n]? with
    | none =>
      unfold q_wl
      rw [List.getElem?_map, List.getElem?_map, hj]
      rfl
    | some j =>
      have hji : j ≠ i := by
        intro h
        subst h
        exact hn (hD.1 n k _ _ (q_wl_at hj) (q_wl_at hk) rfl)
      rw [q_wl_at hj, q_wl_at (w := (w.1, w.2.1, q_us w.2.2 i h)) hj]
      show _ = some (w.2.1 j, q_cell w.2.1 (S j) (q_us w.2.2 i h j))
      rw [q_us_n _ _ _ hji]
theorem q_fld_setr {ad : q_ix → Nat} {s : Nat → Int32} {fl : List (Option (Option q_ix))} {k : Nat} {j : q_ix} (hk : k < fl.length) : (fl.set k (some (some j))).mapIdx (q_fld ad s) = (fl.mapIdx (q_fld ad s)).set k (.ref (ad j)) := by
  apply List.ext_getElem?
  intro n
  by_cases hn : n = k
  · subst hn
    rw [List.getElem?_set_self (by rw [List.length_mapIdx]; exact hk), List.getElem?_mapIdx, List.getElem?_set_self hk]
    rfl
  · rw [List.getElem?_set_ne (Ne.symm hn), List.getElem?_mapIdx, List.getElem?_mapIdx, List.getElem?_set_ne (Ne.symm hn)]
section QA
variable {G : q_g} {X : q_cx} {I : q_in} {w : q_wd} {cn : Nat × Nat} {pc : Nat} {ls : List (Option q_v)} {st : List q_v} {S : q_st}
theorem q_newa (F : q_fx G X I) (hw : Cond.arrayClass .int ∈ q_ws) {x : Int32} {N : Nat} (i : q_ix) (hi : i ∉ w.1) (hcl : q_clo w) (hz : ∀ k, S i k = 0) (hls : ∀ k : Nat, ls[k]? ≠ some (some (Sum.inr (some i)))) (hst : (Sum.inr (some i) : q_v) ∉ st) (hx0 : x = nI N) (hN : N < 2 ^ 20) (hc : cn.1 + 1 ≤ I.2.2.2.2.cells ∧ cn.2 + N ≤ I.2.2.2.2.slots) (hd : decode I.1 pc = .ok (.newarray .int, 2))
    (kk : ∀ q : Nat, q_W G X I (w.1 ++ [i], q_us w.2.1 i q, q_us w.2.2 i (.inr (.inl (G.2.1, N)))) (cn.1 + 1, cn.2 + N) (pc + 2) ls (.inr (some i) :: st) S) : q_W G X I w cn pc ls (.inl x :: st) S := by
  obtain ⟨p, l, e, s, m, args, below, meth, c, A, Qf⟩ := X
  obtain ⟨hx, hb, hml, hts, hown, hnm, hr, hlk, hK, hA⟩ := F
  subst hx0
  intro H locs la hP hD hS hl
  refine va_newa (atype := .int) (a0 := (N, .inl (fun _ => 0))) (ty := .int) (N' := N) hx hb (hts _ hw) rfl hK hP hD hS hA (fun _ => rfl) (nI_pos (by omega)) (nI_clamp (by omega)) (by show N * 4 ≤ _; omega) hc.1 hc.2 hd (fun q cA H1 hK1 hP1 hD1 hS1 => ?_)
  have e1 : s.vm.findClass ("[" ++ FieldType.int.toString) = some cA := (hK1.2 2 _ rfl).2
  have e2 : s.vm.findClass ("[" ++ FieldType.int.toString) = some G.2.1 := (hK.2 0 _ rfl).2
  have hcA : cA = G.2.1 := Option.some.inj (e1.symm.trans e2)
  subst hcA
  have hSi : S i = fun _ => 0 := funext hz
  have ew := q_wl_new (S := S) (q := q) (h := .inr (.inl (G.2.1, N))) hi hcl
  rw [show q_cell (q_us w.2.1 i q) (S i) (.inr (.inl (G.2.1, N))) = .inl (G.2.1, N, .inl (fun _ => 0)) by rw [hSi]; rfl] at ew
  rw [← ew] at hP1 hD1
  have hl' : q_lo la I.2.2.1 (q_us w.2.1 i q) ls := q_lo_of hl (fun k u hu => ⟨u, hu, (q_val_us (fun e => hls k (by rw [hu, e]))).symm⟩)
  have hst' : st.map (q_val w.2.1) = st.map (q_val (q_us w.2.1 i q)) := List.map_congr_left (fun u hu => (q_val_us (fun e => hst (e ▸ hu))).symm)
  have hk := kk q H1 locs la hP1 hD1 hS1 hl'
  have e3 : List.map (q_val (q_us w.2.1 i q)) (.inr (some i) :: st) = .ref q :: st.map (q_val w.2.1) := by
    rw [hst']
    show Value.ref _ :: _ = _
    rw [q_us_s]
  have hk : W p l e I.2.2.2.2 s m args below meth c H1 locs (cn.1 + 1) (cn.2 + N) Qf (F0 m (pc + 2) la (List.map (q_val (q_us w.2.1 i q)) (.inr (some i) :: st))) := hk
  rw [e3] at hk
  exact hk
theorem q_newq (F : q_fx G X I) {idx : Nat} (hw : Cond.classLink I.2.1.cls idx "BranchingKernel$Proc" ∈ q_ws) (hao : match X with | (_, _, _, s, _) => va_AO "BranchingKernel$Proc" s) {x : Int32} {N : Nat} (i : q_ix) (hi : i ∉ w.1) (hcl : q_clo w) (hls : ∀ k : Nat, ls[k]? ≠ some (some (Sum.inr (some i)))) (hst : (Sum.inr (some i) : q_v) ∉ st) (hx0 : x = nI N) (hN : N < 2 ^ 20) (hc : cn.1 + 1 ≤ I.2.2.2.2.cells ∧ cn.2 + N ≤ I.2.2.2.2.slots) (hd : decode I.1 pc = .ok (.anewarray idx, 3))
    (kk : ∀ q : Nat, q_W G X I (w.1 ++ [i], q_us w.2.1 i q, q_us w.2.2 i (.inr (.inr (G.2.2, N, fun _ => none)))) (cn.1 + 1, cn.2 + N) (pc + 3) ls (.inr (some i) :: st) S) : q_W G X I w cn pc ls (.inl x :: st) S := by
  obtain ⟨p, l, e, s, m, args, below, meth, c, A, Qf⟩ := X
  obtain ⟨hx, hb, hml, hts, hown, hnm, hr, hlk, hK, hA⟩ := F
  subst hx0
  intro H locs la hP hD hS hl
  refine va_newq (C := "BranchingKernel$Proc") (N' := N) hx hb hown (hts _ hw) hao hK hP hD hS hA (nI_pos (by omega)) (nI_clamp (by omega)) (by omega) hc.1 hc.2 hd (fun q cA H1 hK1 hP1 hD1 hS1 => ?_)
  have hcA : cA = G.2.2 := by
    obtain ⟨kA, comp, -, -, -, e1⟩ := (hK1.2 2 _ rfl).2
    obtain ⟨kA', comp', -, -, -, e2⟩ := (hK.2 1 _ rfl).2
    exact Option.some.inj (e1.symm.trans e2)
  subst hcA
  have ew := q_wl_new (S := S) (q := q) (h := .inr (.inr (G.2.2, N, fun _ => none))) hi hcl
  rw [show q_cell (q_us w.2.1 i q) (S i) (.inr (.inr (G.2.2, N, fun _ => none))) = .inl (G.2.2, N, .inr (.inr (.inr (.inr (fun _ => none))))) from rfl] at ew
  rw [← ew] at hP1 hD1
  have hl' : q_lo la I.2.2.1 (q_us w.2.1 i q) ls := q_lo_of hl (fun k u hu => ⟨u, hu, (q_val_us (fun e => hls k (by rw [hu, e]))).symm⟩)
  have hst' : st.map (q_val w.2.1) = st.map (q_val (q_us w.2.1 i q)) := List.map_congr_left (fun u hu => (q_val_us (fun e => hst (e ▸ hu))).symm)
  have hk := kk q H1 locs la hP1 hD1 hS1 hl'
  have e3 : List.map (q_val (q_us w.2.1 i q)) (.inr (some i) :: st) = .ref q :: st.map (q_val w.2.1) := by
    rw [hst']
    show Value.ref _ :: _ = _
    rw [q_us_s]
  have hk : W p l e I.2.2.2.2 s m args below meth c H1 locs (cn.1 + 1) (cn.2 + N) Qf (F0 m (pc + 3) la (List.map (q_val (q_us w.2.1 i q)) (.inr (some i) :: st))) := hk
  rw [e3] at hk
  exact hk
/-- what a new object wants of the tables -/
def q_ob (own : String) (idx ci : Nat) (fl : List (Option (Option q_ix))) : Prop := ∃ (C : String) (T : u_T) (ty : Nat → FieldType), vwCl[ci]? = some (C, T, fl.length) ∧ (∀ w ∈ u_ws C T fl.length, w ∈ q_ws) ∧ (∀ k, k < fl.length → parseFieldDescriptor (T k).2.2.1 = some (ty k)) ∧ Cond.classLink own idx C ∈ q_ws ∧ Cond.instantiable C fl.length ∈ q_ws ∧ Cond.initialized C ∈ q_ws ∧ ∀ (ad : q_ix → Nat) (j : Nat), j < fl.length → defaultValue (ty j) = vp_V (fl.mapIdx (q_fld ad (fun _ => 0))) j
theorem q_newo (F : q_fx G X I) {idx ci : Nat} {fl : List (Option (Option q_ix))} (L : q_ob I.2.1.cls idx ci fl) (i : q_ix) (hi : i ∉ w.1) (hcl : q_clo w) (hz : ∀ k, S i k = 0) (hls : ∀ k : Nat, ls[k]? ≠ some (some (Sum.inr (some i)))) (hst : (Sum.inr (some i) : q_v) ∉ st) (hc : cn.1 + 1 ≤ I.2.2.2.2.cells ∧ cn.2 + fl.length ≤ I.2.2.2.2.slots) (hd : decode I.1 pc = .ok (.new idx, 3))
    (kk : ∀ q : Nat, q_W G X I (w.1 ++ [i], q_us w.2.1 i q, q_us w.2.2 i (.inl (ci, fl))) (cn.1 + 1, cn.2 + fl.length) (pc + 3) ls (.inr (some i) :: st) S) : q_W G X I w cn pc ls st S := by
  obtain ⟨p, l, e, s, m, args, below, meth, c, A, Qf⟩ := X
  obtain ⟨hx, hb, hml, hts, hown, hnm, hr, hlk, hK, hA⟩ := F
  obtain ⟨C, T, ty, hC, hin, hty, h1, h2, h3, hdf⟩ := L
  intro H locs la hP hD hS hl
  have hSi : S i = fun _ => 0 := funext hz
  refine va_new (fs := fl.mapIdx (q_fld w.2.1 (fun _ => 0))) hx hb hts hin ty hty hown (hts _ h1) (hts _ h2) (hts _ h3) hK hP hD hS hA hC (fun j hj => hdf w.2.1 j hj) hc.1 hc.2 hd (fun q H1 hP1 hD1 hS1 => ?_)
  have hfl : ∀ k : Nat, fl[k]? ≠ some (some (some i)) := by
    intro k hk
    have hkl := (List.getElem?_eq_some_iff.mp hk).1
    have hd1 := hdf (fun _ => 0) k hkl
    have hd2 := hdf (fun _ => 1) k hkl
    rw [hd1] at hd2
    simp [vp_V, List.getD, hk, q_fld, q_ref] at hd2
  have hnm2 : q_nm (.inl (ci, fl) : q_sh) i := by
    intro t ht e
    obtain ⟨k, hk⟩ := List.getElem?_of_mem ht
    exact hfl k (by rw [hk, e])
  have ew := q_wl_new (S := S) (q := q) (h := .inl (ci, fl)) hi hcl
  rw [q_cell_us hnm2, show q_cell w.2.1 (S i) (.inl (ci, fl)) = .inr (ci, fl.mapIdx (q_fld w.2.1 (fun _ => 0))) by rw [hSi]; rfl] at ew
  rw [← ew] at hP1 hD1
  have hl' : q_lo la I.2.2.1 (q_us w.2.1 i q) ls := q_lo_of hl (fun k u hu => ⟨u, hu, (q_val_us (fun e => hls k (by rw [hu, e]))).symm⟩)
  have hst' : st.map (q_val w.2.1) = st.map (q_val (q_us w.2.1 i q)) := List.map_congr_left (fun u hu => (q_val_us (fun e => hst (e ▸ hu))).symm)
  have hk := kk q H1 locs la hP1 hD1 hS1 hl'
  have e3 : List.map (q_val (q_us w.2.1 i q)) (.inr (some i) :: st) = .ref q :: st.map (q_val w.2.1) := by
    rw [hst']
    show Value.ref _ :: _ = _
    rw [q_us_s]
  have hk : W p l e I.2.2.2.2 s m args below meth c H1 locs (cn.1 + 1) (cn.2 + fl.length) Qf (F0 m (pc + 3) la (List.map (q_val (q_us w.2.1 i q)) (.inr (some i) :: st))) := hk
  rw [e3] at hk
  exact hk
/-- a final field that holds a reference -/
theorem q_putr (F : q_fx G X I) {i j : q_ix} {ci k idx : Nat} {ty : FieldType} {fl : List (Option (Option q_ix))} (L : q_fk I.2.1.cls idx ci k) (M : q_fp ci k ty true) (hty : (∃ C, ty = .object C) ∨ ∃ t, ty = .array t) (hinit : I.2.1.name = "<init>") (hcls : ∀ C T N, vwCl[ci]? = some (C, T, N) → (T k).1 = I.2.1.cls) (hi : i ∈ w.1) (hsh : w.2.2 i = .inl (ci, fl)) (hk : k < fl.length) (hd : decode I.1 pc = .ok (.putfield idx, 3)) (kk : q_W G X I (w.1, w.2.1, q_us w.2.2 i (.inl (ci, fl.set k (some (some j))))) cn (pc + 3) ls st S) : q_W G X I w cn pc ls (.inr (some j) :: .inr (some i) :: st) S := by
  obtain ⟨p, l, e, s, m, args, below, meth, c, A, Qf⟩ := X
  obtain ⟨hx, hb, hml, hts, hown, hnm, hr, hlk, hK, hA⟩ := F
  obtain ⟨C, T, N, hC, hN, hin, hlink⟩ := L
  obtain ⟨C', T', N', ty0, hC', hty0, hap, hfin, hd'⟩ := M
  cases (hC.symm.trans hC')
  intro H locs la hP hD hS hl
  obtain ⟨q0, hq⟩ := List.getElem?_of_mem hi
  have he := q_wl_at (S := S) hq
  rw [hsh] at he
  refine va_putF (fs := fl.mapIdx (q_fld w.2.1 (S i))) (v := .ref (w.2.1 j)) (ty := ty) hx hb hts hin ty0 hty0 hap hown hK hP hD hS q0 he hC k hN (hts _ hlink) (fun _ h => h) hfin (hnm.trans hinit) (hcls C T N hC) hd' (by rcases hty with ⟨C, rfl⟩ | ⟨t, rfl⟩ <;> rfl) (by rcases hty with ⟨C, rfl⟩ | ⟨t, rfl⟩ <;> rfl) (by rw [List.length_mapIdx]; exact hk) hd (fun H1 locs1 hP1 hD1 hS1 => ?_)
  rw [q_setw (h := .inl (ci, fl.set k (some (some j)))) hD hq (by show Sum.inr (ci, _) = _; rw [q_fld_setr hk])] at hP1 hD1
  exact kk H1 locs1 la hP1 hD1 hS1 hl
theorem q_putiF (F : q_fx G X I) {i : q_ix} {ci k idx : Nat} {v : Int32} {fl : List (Option (Option q_ix))} (L : q_fk I.2.1.cls idx ci k) (M : q_fp ci k .int true) (hinit : I.2.1.name = "<init>") (hcls : ∀ C T N, vwCl[ci]? = some (C, T, N) → (T k).1 = I.2.1.cls) (hi : i ∈ w.1) (hsh : w.2.2 i = .inl (ci, fl)) (hk : fl[k]? = some none) (hd : decode I.1 pc = .ok (.putfield idx, 3)) (kk : q_W G X I w cn (pc + 3) ls st (q_up S i k v)) : q_W G X I w cn pc ls (.inl v :: .inr (some i) :: st) S := by
  obtain ⟨p, l, e, s, m, args, below, meth, c, A, Qf⟩ := X
  obtain ⟨hx, hb, hml, hts, hown, hnm, hr, hlk, hK, hA⟩ := F
  obtain ⟨C, T, N, hC, hN, hin, hlink⟩ := L
  obtain ⟨C', T', N', ty0, hC', hty, hap, hfin, hd'⟩ := M
  cases (hC.symm.trans hC')
  intro H locs la hP hD hS hl
  obtain ⟨q0, hq⟩ := List.getElem?_of_mem hi
  have he := q_wl_at (S := S) hq
  rw [hsh] at he
  refine va_putF (fs := fl.mapIdx (q_fld w.2.1 (S i))) (v := .int v) (ty := .int) hx hb hts hin ty0 hty hap hown hK hP hD hS q0 he hC k hN (hts _ hlink) (fun _ h => h) hfin (hnm.trans hinit) (hcls C T N hC) hd' rfl rfl (by rw [List.length_mapIdx]; exact (List.getElem?_eq_some_iff.mp hk).1) hd (fun H1 locs1 hP1 hD1 hS1 => ?_)
  rw [q_set (S' := q_up S i k v) hD hq (by rw [hsh, q_up_self]; show Sum.inr (ci, _) = _; rw [q_fld_set hk]) (fun j hj => q_up_other S i k v j hj)] at hP1 hD1
  exact kk H1 locs1 la hP1 hD1 hS1 hl
theorem q_aast (F : q_fx G X I) {i j : q_ix} {n : Nat} {x : Int32} {f : Nat → Option q_ix} {fl : List (Option (Option q_ix))} (k : Nat) (hi : i ∈ w.1) (hsh : w.2.2 i = .inr (.inr (G.2.2, n, f))) (hj : j ∈ w.1) (hshj : w.2.2 j = .inl (2, fl)) (hx0 : x = nI k) (hk : k < n) (hn : n < 2 ^ 31) (hd : decode I.1 pc = .ok (.aastore, 1)) (kk : q_W G X I (w.1, w.2.1, q_us w.2.2 i (.inr (.inr (G.2.2, n, fun m => if m = k then some j else f m)))) cn (pc + 1) ls st S) : q_W G X I w cn pc ls (.inr (some j) :: .inl x :: .inr (some i) :: st) S := by
  obtain ⟨p, l, e, s, m, args, below, meth, c, A, Qf⟩ := X
  obtain ⟨hx, hb, hml, hts, hown, hnm, hr, hlk, hK, hA⟩ := F
  subst hx0
  intro H locs la hP hD hS hl
  obtain ⟨q0, hq⟩ := List.getElem?_of_mem hi
  have he := q_wl_at (S := S) hq
  rw [hsh] at he
  obtain ⟨qj, hqj⟩ := List.getElem?_of_mem hj
  have hej := q_wl_at (S := S) hqj
  rw [hshj] at hej
  refine va_astq (r := (RX2, TX2, 7)) (n := n) (f := fun j => (f j).map w.2.1) hx hb hK hP hD hS q0 1 qj 2 he rfl hej rfl (vp_in_nI hk hn) hd (fun H1 locs1 hP1 hD1 hS1 => ?_)
  rw [nI_clamp (by omega)] at hP1 hD1
  rw [q_setw (h := .inr (.inr (G.2.2, n, fun m => if m = k then some j else f m))) hD hq (by
    show Sum.inl (G.2.2, n, Sum.inr (Sum.inr (Sum.inr (Sum.inr (fun m => (if m = k then some j else f m).map w.2.1))))) = _
    have e5 : (fun m => (if m = k then some j else f m).map w.2.1) = va_up (fun j => (f j).map w.2.1) k (some (w.2.1 j)) := by
      funext m
      unfold va_up
      by_cases hm : m = k
      · simp [hm]
      · simp [hm]
    rw [e5])] at hP1 hD1
  exact kk H1 locs1 la hP1 hD1 hS1 hl
theorem q_obj (F : q_fx G X I) {idx : Nat} {i : q_ix} (h1 : Cond.methodLink I.2.1.cls idx objectInit ∈ q_ws) (h2 : Cond.instanceMethod objectInit ∈ q_ws) (h3 : Cond.code objectInit ⟨#[0xb1]⟩ 1 none ∈ q_ws) (hf : 1 ≤ I.2.2.2.2.frames ∧ st.length + 12 ≤ I.2.2.2.2.locals) (hd : decode I.1 pc = .ok (.invokespecial idx, 3)) (kk : q_W G X I w cn (pc + 3) ls st S) : q_W G X I w cn pc ls (.inr (some i) :: st) S := by
  obtain ⟨p, l, e, s, m, args, below, meth, c, A, Qf⟩ := X
  obtain ⟨hx, hb, hml, hts, hown, hnm, hr, hlk, hK, hA⟩ := F
  intro H locs la hP hD hS hl
  refine W.objInit (rest := st.map (q_val w.2.1)) hx hb hown (hts _ h1) (hts _ h2) (hts _ h3) rfl (by show la.size = _; rw [hl.1]; exact hml.symm) rfl hd hf.1 (by rw [q_catsum]; show 2 * 0 + _ + _ ≤ _; omega) (kk H locs la hP hD hS hl)
theorem q_callI (F : q_fx G X I) {J : q_in} {idx n : Nat} {b : q_ix} {av : List q_v} {st0 : List q_v} {post1 : q_post} (hM : ∀ l, q_Ct l G J (.inr (some b) :: av) w S post1) (L : q_cb I.2.1.cls idx n J) (hret : J.2.2.2.1 = none) (hin : J.2.1.name = "<init>") (him : Cond.instanceMethod J.2.1 ∈ q_ws) (hst : st0 = av.reverse ++ .inr (some b) :: st) (hn : av.length = n) (hR : q_rm I J) (hlen : st.length ≤ 8) (hf : cn.1 + J.2.2.2.2.cells ≤ I.2.2.2.2.cells ∧ cn.2 + J.2.2.2.2.slots ≤ I.2.2.2.2.slots) (hd : decode I.1 pc = .ok (.invokespecial idx, 3))
    (hkeep : ∀ r w' S', post1 r w' S' → (∀ i : q_ix, (∃ k : Nat, ls[k]? = some (some (Sum.inr (some i)))) ∨ (Sum.inr (some i) : q_v) ∈ st → w'.2.1 i = w.2.1 i))
    (kk : ∀ r w' S', post1 r w' S' → q_W G X I w' (cn.1 + J.2.2.2.2.cells, cn.2 + J.2.2.2.2.slots) (pc + 3) ls (r.toList ++ st) S') : q_W G X I w cn pc ls st0 S := by
  obtain ⟨p, l, e, s, m, args, below, meth, c, A, Qf⟩ := X
  obtain ⟨hx, hbb, hml, hts, hown, hnm, hr, hlk, hK, hA⟩ := F
  obtain ⟨c1, c2, c3, c4, c5, c6⟩ := L
  intro H locs la hP hD hS hl
  subst hst
  obtain ⟨jc, jy, jn, jr, jm⟩ := J
  obtain rfl : jr = none := hret
  have cw : CallB I.2.2.2.2 s args I.2.1.cls idx jy jc jn none (Cond.code jy jc jn none :: q_ws) jm jm.cells jm.slots n :=
    callB_of n hts (q_gin (J := (jc, jy, jn, none, jm)) c3) rfl rfl rfl (hts _ c2) (hts _ c1) ⟨c4, c5, c6⟩ hR
  refine q_back (va_runI (As := av.map (q_val w.2.1)) (b := w.2.1 b) ⟨hx, hbb, hml, hown, hts⟩ (hM l H.size) ⟨cw, hin, hts _ him⟩ ⟨fun a U g mk q => ?_, fun U hU hW => ⟨rfl, by rw [hU], by rw [hU]; exact hP, va_K.moved hW.alike hK, hD.weaken (fun _ _ _ _ => trivial)⟩⟩ rfl (by rw [List.length_map]; exact hn) hl.1 ?_ ?_ hd hf) hP hD hS hA hl hkeep kk
  · obtain ⟨q0, q1, qP, qK, qD⟩ := q
    exact ⟨q0, q1, qP, va_K.moved (u := U) (U := U.calling g mk a) (Vm.Alike.refl U.vm) qK, qD⟩
  · show List.map (q_val w.2.1) (av.reverse ++ .inr (some b) :: st) = _
    rw [List.map_append, List.map_reverse]
    rfl
  · exact lv_room (by rw [q_catsum]; exact hlen)
/-- fewer cells, in another order; shapes that are the same there -/
theorem q_reord {w' : q_wd} (hsub : ∀ i ∈ w'.1, i ∈ w.1) (hnd : w'.1.Nodup) (had : w'.2.1 = w.2.1) (hsh : ∀ i ∈ w'.1, w'.2.2 i = w.2.2 i) (kk : q_W G X I w' cn pc ls st S) : q_W G X I w cn pc ls st S := by
  obtain ⟨p, l, e, s, m, args, below, meth, c, A, Qf⟩ := X
  obtain ⟨d', a', s'⟩ := w'
  obtain rfl : a' = w.2.1 := had
  intro H locs la hP hD hS hl
  have at' : ∀ (k : Nat) (q : Nat × va_E), (q_wl (d', w.2.1, s') S)[k]? = some q → ∃ i, d'[k]? = some i ∧ ∃ k2 : Nat, w.1[k2]? = some i ∧ (q_wl w S)[k2]? = some q := by
    intro k q hk
    have hk' : (d'.map (fun i => (w.2.1 i, q_cell w.2.1 (S i) (s' i))))[k]? = some q := hk
    rw [List.getElem?_map] at hk'
    cases hi : d'[k]? with
    | none => rw [hi] at hk'; cases hk'
    | some i =>
      rw [hi] at hk'
      have hmem := List.mem_of_getElem? hi
      obtain ⟨k2, hk2⟩ := List.getElem?_of_mem (hsub i hmem)
      refine ⟨i, rfl, k2, hk2, ?_⟩
      rw [q_wl_at hk2, ← hsh i hmem]
      exact hk'
  refine kk H locs la (fun k q hk => ?_) ⟨fun a b x y ha hb hxy => ?_, fun k q hk => ?_⟩ hS hl
  · obtain ⟨i, -, k2, -, h2⟩ := at' k q hk
    exact hP k2 q h2
  · obtain ⟨i, hi, k1, hk1, h1⟩ := at' a x ha
    obtain ⟨j, hj, k2, hk2, h2⟩ := at' b y hb
    have e := hD.1 k1 k2 x y h1 h2 hxy
    subst e
    have hij : i = j := Option.some.inj (hk1.symm.trans hk2)
    subst hij
    exact (List.getElem?_inj (List.getElem?_eq_some_iff.mp hi).1 hnd).mp (hi.trans hj.symm)
  · obtain ⟨i, -, k2, -, h2⟩ := at' k q hk
    exact hD.2 k2 q h2
end QA
