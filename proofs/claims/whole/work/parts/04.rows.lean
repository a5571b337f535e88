/-! rows of my machine: one for each kind of instruction (written by wip/whole/mk_rows.py) -/
theorem q_ltI (x y : Int32) : x < y ↔ x.toInt < y.toInt := Int32.lt_iff_toInt_lt
theorem q_leI (x y : Int32) : x ≤ y ↔ x.toInt ≤ y.toInt := Int32.le_iff_toInt_le
theorem q_forget {G : q_g} {X : q_cx} {I : q_in} {w : q_wd} {cn : Nat × Nat} {pc : Nat} {ls : List (Option q_v)} {st : List q_v} {S : q_st} {ls' : List (Option q_v)} (h : ∀ (i : Nat) (v : q_v), ls'[i]? = some (some v) → ls[i]? = some (some v)) (kk : q_W G X I w cn (pc) ls' (st) S) : q_W G X I w cn (pc) ls (st) S := by
  obtain ⟨p, l, e, s, m, args, below, meth, c, A, Qf⟩ := X
  intro H locs la hP hD hS hl
  exact kk H locs la hP hD hS (q_lo_of hl (fun i v hi => ⟨v, h i v hi, rfl⟩))
theorem q_iconst {G : q_g} {X : q_cx} {I : q_in} {w : q_wd} {cn : Nat × Nat} {pc : Nat} {ls : List (Option q_v)} {st : List q_v} {S : q_st} (F : q_fx G X I) {n : Int} (v : Int32) (hd : decode I.1 pc = .ok (.iconst n, 1)) (hv : Int32.ofInt n = v) (kk : q_W G X I w cn (pc + 1) ls (.inl v :: st) S) : q_W G X I w cn (pc) ls (st) S := by
  obtain ⟨p, l, e, s, m, args, below, meth, c, A, Qf⟩ := X
  obtain ⟨hx, hb, hml, hts, hown, hnm, hr, hlk, hK, hA⟩ := F
  intro H locs la hP hD hS hl
  exact lv_iconst hx hb hd hv (kk H locs la hP hD hS hl)
theorem q_bipush {G : q_g} {X : q_cx} {I : q_in} {w : q_wd} {cn : Nat × Nat} {pc : Nat} {ls : List (Option q_v)} {st : List q_v} {S : q_st} (F : q_fx G X I) {n : Int} (v : Int32) (hd : decode I.1 pc = .ok (.bipush n, 2)) (hv : (Int8.ofInt n).toInt32 = v) (kk : q_W G X I w cn (pc + 2) ls (.inl v :: st) S) : q_W G X I w cn (pc) ls (st) S := by
  obtain ⟨p, l, e, s, m, args, below, meth, c, A, Qf⟩ := X
  obtain ⟨hx, hb, hml, hts, hown, hnm, hr, hlk, hK, hA⟩ := F
  intro H locs la hP hD hS hl
  exact lv_bipush hx hb hd hv (kk H locs la hP hD hS hl)
theorem q_sipush {G : q_g} {X : q_cx} {I : q_in} {w : q_wd} {cn : Nat × Nat} {pc : Nat} {ls : List (Option q_v)} {st : List q_v} {S : q_st} (F : q_fx G X I) {n : Int} (v : Int32) (hd : decode I.1 pc = .ok (.sipush n, 3)) (hv : (Int16.ofInt n).toInt32 = v) (kk : q_W G X I w cn (pc + 3) ls (.inl v :: st) S) : q_W G X I w cn (pc) ls (st) S := by
  obtain ⟨p, l, e, s, m, args, below, meth, c, A, Qf⟩ := X
  obtain ⟨hx, hb, hml, hts, hown, hnm, hr, hlk, hK, hA⟩ := F
  intro H locs la hP hD hS hl
  exact lv_sipush hx hb hd hv (kk H locs la hP hD hS hl)
theorem q_iload_n {G : q_g} {X : q_cx} {I : q_in} {w : q_wd} {cn : Nat × Nat} {pc : Nat} {ls : List (Option q_v)} {st : List q_v} {S : q_st} (F : q_fx G X I) {k : Fin 4} {x : Int32} (hd : decode I.1 pc = .ok (.iload_n k, 1)) (hl0 : ls[(k : Nat)]? = some (some (.inl x))) (kk : q_W G X I w cn (pc + 1) ls (.inl x :: st) S) : q_W G X I w cn (pc) ls (st) S := by
  obtain ⟨p, l, e, s, m, args, below, meth, c, A, Qf⟩ := X
  obtain ⟨hx, hb, hml, hts, hown, hnm, hr, hlk, hK, hA⟩ := F
  intro H locs la hP hD hS hl
  exact lv_iload_n hx hb hd rfl (q_lo_at hl hl0) (kk H locs la hP hD hS hl)
theorem q_iload {G : q_g} {X : q_cx} {I : q_in} {w : q_wd} {cn : Nat × Nat} {pc : Nat} {ls : List (Option q_v)} {st : List q_v} {S : q_st} (F : q_fx G X I) {i : Nat} {x : Int32} (hd : decode I.1 pc = .ok (.iload i, 2)) (hl0 : ls[i]? = some (some (.inl x))) (kk : q_W G X I w cn (pc + 2) ls (.inl x :: st) S) : q_W G X I w cn (pc) ls (st) S := by
  obtain ⟨p, l, e, s, m, args, below, meth, c, A, Qf⟩ := X
  obtain ⟨hx, hb, hml, hts, hown, hnm, hr, hlk, hK, hA⟩ := F
  intro H locs la hP hD hS hl
  exact lv_iload hx hb hd (q_lo_at hl hl0) (kk H locs la hP hD hS hl)
theorem q_aload_n {G : q_g} {X : q_cx} {I : q_in} {w : q_wd} {cn : Nat × Nat} {pc : Nat} {ls : List (Option q_v)} {st : List q_v} {S : q_st} (F : q_fx G X I) {k : Fin 4} {x : q_ix} (hd : decode I.1 pc = .ok (.aload_n k, 1)) (hl0 : ls[(k : Nat)]? = some (some (.inr (some x)))) (kk : q_W G X I w cn (pc + 1) ls (.inr (some x) :: st) S) : q_W G X I w cn (pc) ls (st) S := by
  obtain ⟨p, l, e, s, m, args, below, meth, c, A, Qf⟩ := X
  obtain ⟨hx, hb, hml, hts, hown, hnm, hr, hlk, hK, hA⟩ := F
  intro H locs la hP hD hS hl
  exact lv_aload_n hx hb hd rfl (q_lo_at hl hl0) (kk H locs la hP hD hS hl)
theorem q_aload {G : q_g} {X : q_cx} {I : q_in} {w : q_wd} {cn : Nat × Nat} {pc : Nat} {ls : List (Option q_v)} {st : List q_v} {S : q_st} (F : q_fx G X I) {i : Nat} {x : q_ix} (hd : decode I.1 pc = .ok (.aload i, 2)) (hl0 : ls[i]? = some (some (.inr (some x)))) (kk : q_W G X I w cn (pc + 2) ls (.inr (some x) :: st) S) : q_W G X I w cn (pc) ls (st) S := by
  obtain ⟨p, l, e, s, m, args, below, meth, c, A, Qf⟩ := X
  obtain ⟨hx, hb, hml, hts, hown, hnm, hr, hlk, hK, hA⟩ := F
  intro H locs la hP hD hS hl
  exact lv_aload hx hb hd (q_lo_at hl hl0) (kk H locs la hP hD hS hl)
theorem q_istore_n0 {G : q_g} {X : q_cx} {I : q_in} {w : q_wd} {cn : Nat × Nat} {pc : Nat} {ls : List (Option q_v)} {st : List q_v} {S : q_st} (F : q_fx G X I) {k : Fin 4} {x : Int32} (hd : decode I.1 pc = .ok (.istore_n k, 1)) (hn : (k : Nat) < I.2.2.1) (kk : q_W G X I w cn (pc + 1) (ls.set (k : Nat) (some (.inl x))) (st) S) : q_W G X I w cn (pc) ls (.inl x :: st) S := by
  obtain ⟨p, l, e, s, m, args, below, meth, c, A, Qf⟩ := X
  obtain ⟨hx, hb, hml, hts, hown, hnm, hr, hlk, hK, hA⟩ := F
  intro H locs la hP hD hS hl
  exact lv_istore_n hx hb hd rfl hl hn rfl (fun la' h' => kk H locs la' hP hD hS (q_lo_st (v := .inl x) h'))
theorem q_istore0 {G : q_g} {X : q_cx} {I : q_in} {w : q_wd} {cn : Nat × Nat} {pc : Nat} {ls : List (Option q_v)} {st : List q_v} {S : q_st} (F : q_fx G X I) {i : Nat} {x : Int32} (hd : decode I.1 pc = .ok (.istore i, 2)) (hn : i < I.2.2.1) (kk : q_W G X I w cn (pc + 2) (ls.set i (some (.inl x))) (st) S) : q_W G X I w cn (pc) ls (.inl x :: st) S := by
  obtain ⟨p, l, e, s, m, args, below, meth, c, A, Qf⟩ := X
  obtain ⟨hx, hb, hml, hts, hown, hnm, hr, hlk, hK, hA⟩ := F
  intro H locs la hP hD hS hl
  exact lv_istore hx hb hd hl hn rfl (fun la' h' => kk H locs la' hP hD hS (q_lo_st (v := .inl x) h'))
theorem q_astore_n0 {G : q_g} {X : q_cx} {I : q_in} {w : q_wd} {cn : Nat × Nat} {pc : Nat} {ls : List (Option q_v)} {st : List q_v} {S : q_st} (F : q_fx G X I) {k : Fin 4} {x : q_ix} (hd : decode I.1 pc = .ok (.astore_n k, 1)) (hn : (k : Nat) < I.2.2.1) (kk : q_W G X I w cn (pc + 1) (ls.set (k : Nat) (some (.inr (some x)))) (st) S) : q_W G X I w cn (pc) ls (.inr (some x) :: st) S := by
  obtain ⟨p, l, e, s, m, args, below, meth, c, A, Qf⟩ := X
  obtain ⟨hx, hb, hml, hts, hown, hnm, hr, hlk, hK, hA⟩ := F
  intro H locs la hP hD hS hl
  exact lv_astore_n hx hb hd rfl hl hn rfl (fun la' h' => kk H locs la' hP hD hS (q_lo_st (v := .inr (some x)) h'))
theorem q_astore0 {G : q_g} {X : q_cx} {I : q_in} {w : q_wd} {cn : Nat × Nat} {pc : Nat} {ls : List (Option q_v)} {st : List q_v} {S : q_st} (F : q_fx G X I) {i : Nat} {x : q_ix} (hd : decode I.1 pc = .ok (.astore i, 2)) (hn : i < I.2.2.1) (kk : q_W G X I w cn (pc + 2) (ls.set i (some (.inr (some x)))) (st) S) : q_W G X I w cn (pc) ls (.inr (some x) :: st) S := by
  obtain ⟨p, l, e, s, m, args, below, meth, c, A, Qf⟩ := X
  obtain ⟨hx, hb, hml, hts, hown, hnm, hr, hlk, hK, hA⟩ := F
  intro H locs la hP hD hS hl
  exact lv_astore hx hb hd hl hn rfl (fun la' h' => kk H locs la' hP hD hS (q_lo_st (v := .inr (some x)) h'))
theorem q_iinc0 {G : q_g} {X : q_cx} {I : q_in} {w : q_wd} {cn : Nat × Nat} {pc : Nat} {ls : List (Option q_v)} {st : List q_v} {S : q_st} (F : q_fx G X I) {i : Nat} {n : Int} {x : Int32} (hd : decode I.1 pc = .ok (.iinc i n, 3)) (hl0 : ls[i]? = some (some (.inl x))) (v : Int32) (hv : x + Int32.ofInt n = v) (hn : i < I.2.2.1) (kk : q_W G X I w cn (pc + 3) (ls.set i (some (.inl v))) (st) S) : q_W G X I w cn (pc) ls (st) S := by
  obtain ⟨p, l, e, s, m, args, below, meth, c, A, Qf⟩ := X
  obtain ⟨hx, hb, hml, hts, hown, hnm, hr, hlk, hK, hA⟩ := F
  intro H locs la hP hD hS hl
  obtain ⟨k, hk⟩ := List.getElem?_of_mem ((q_ll_mem (q := (i, .int x)) ls 0).mpr ⟨i, .inl x, hl0, by rw [Nat.zero_add]; rfl⟩)
  exact lv_iinc hx hb hd hl hk hv hn rfl (fun la' h' => kk H locs la' hP hD hS (q_lo_st (v := .inl v) h'))
theorem q_istore_n_0 {G : q_g} {X : q_cx} {I : q_in} {w : q_wd} {cn : Nat × Nat} {pc : Nat} {st : List q_v} {S : q_st} {a0 : Option q_v} {r : List (Option q_v)} (F : q_fx G X I) {x : Int32} (hd : decode I.1 pc = .ok (.istore_n 0, 1)) (hn : 0 < I.2.2.1) (kk : q_W G X I w cn (pc + 1) (some (.inl x) :: r) (st) S) : q_W G X I w cn (pc) (a0 :: r) (.inl x :: st) S := q_istore_n0 (k := 0) F hd hn kk
theorem q_astore_n_0 {G : q_g} {X : q_cx} {I : q_in} {w : q_wd} {cn : Nat × Nat} {pc : Nat} {st : List q_v} {S : q_st} {a0 : Option q_v} {r : List (Option q_v)} (F : q_fx G X I) {x : q_ix} (hd : decode I.1 pc = .ok (.astore_n 0, 1)) (hn : 0 < I.2.2.1) (kk : q_W G X I w cn (pc + 1) (some (.inr (some x)) :: r) (st) S) : q_W G X I w cn (pc) (a0 :: r) (.inr (some x) :: st) S := q_astore_n0 (k := 0) F hd hn kk
theorem q_iinc_0 {G : q_g} {X : q_cx} {I : q_in} {w : q_wd} {cn : Nat × Nat} {pc : Nat} {st : List q_v} {S : q_st} {r : List (Option q_v)} (F : q_fx G X I) {n : Int} {x : Int32} (v : Int32) (hd : decode I.1 pc = .ok (.iinc 0 n, 3)) (hv : x + Int32.ofInt n = v) (hn : 0 < I.2.2.1) (kk : q_W G X I w cn (pc + 3) (some (.inl v) :: r) (st) S) : q_W G X I w cn (pc) (some (.inl x) :: r) (st) S := q_iinc0 (i := 0) F hd rfl v hv hn kk
theorem q_drop_0 {G : q_g} {X : q_cx} {I : q_in} {w : q_wd} {cn : Nat × Nat} {pc : Nat} {st : List q_v} {S : q_st} {a0 : Option q_v} {r : List (Option q_v)} (kk : q_W G X I w cn (pc) (none :: r) (st) S) : q_W G X I w cn (pc) (a0 :: r) (st) S := q_forget (fun i v h => by
  by_cases hi : i = 0
  · subst hi; cases h
  · have h2 : ((a0 :: r).set 0 none)[i]? = some (some v) := h
    rw [List.getElem?_set_ne (Ne.symm hi)] at h2
    exact h2) kk
theorem q_istore_n_1 {G : q_g} {X : q_cx} {I : q_in} {w : q_wd} {cn : Nat × Nat} {pc : Nat} {st : List q_v} {S : q_st} {a0 a1 : Option q_v} {r : List (Option q_v)} (F : q_fx G X I) {x : Int32} (hd : decode I.1 pc = .ok (.istore_n 1, 1)) (hn : 1 < I.2.2.1) (kk : q_W G X I w cn (pc + 1) (a0 :: some (.inl x) :: r) (st) S) : q_W G X I w cn (pc) (a0 :: a1 :: r) (.inl x :: st) S := q_istore_n0 (k := 1) F hd hn kk
theorem q_astore_n_1 {G : q_g} {X : q_cx} {I : q_in} {w : q_wd} {cn : Nat × Nat} {pc : Nat} {st : List q_v} {S : q_st} {a0 a1 : Option q_v} {r : List (Option q_v)} (F : q_fx G X I) {x : q_ix} (hd : decode I.1 pc = .ok (.astore_n 1, 1)) (hn : 1 < I.2.2.1) (kk : q_W G X I w cn (pc + 1) (a0 :: some (.inr (some x)) :: r) (st) S) : q_W G X I w cn (pc) (a0 :: a1 :: r) (.inr (some x) :: st) S := q_astore_n0 (k := 1) F hd hn kk
theorem q_iinc_1 {G : q_g} {X : q_cx} {I : q_in} {w : q_wd} {cn : Nat × Nat} {pc : Nat} {st : List q_v} {S : q_st} {a0 : Option q_v} {r : List (Option q_v)} (F : q_fx G X I) {n : Int} {x : Int32} (v : Int32) (hd : decode I.1 pc = .ok (.iinc 1 n, 3)) (hv : x + Int32.ofInt n = v) (hn : 1 < I.2.2.1) (kk : q_W G X I w cn (pc + 3) (a0 :: some (.inl v) :: r) (st) S) : q_W G X I w cn (pc) (a0 :: some (.inl x) :: r) (st) S := q_iinc0 (i := 1) F hd rfl v hv hn kk
theorem q_drop_1 {G : q_g} {X : q_cx} {I : q_in} {w : q_wd} {cn : Nat × Nat} {pc : Nat} {st : List q_v} {S : q_st} {a0 a1 : Option q_v} {r : List (Option q_v)} (kk : q_W G X I w cn (pc) (a0 :: none :: r) (st) S) : q_W G X I w cn (pc) (a0 :: a1 :: r) (st) S := q_forget (fun i v h => by
  by_cases hi : i = 1
  · subst hi; cases h
  · have h2 : ((a0 :: a1 :: r).set 1 none)[i]? = some (some v) := h
    rw [List.getElem?_set_ne (Ne.symm hi)] at h2
    exact h2) kk
theorem q_istore_n_2 {G : q_g} {X : q_cx} {I : q_in} {w : q_wd} {cn : Nat × Nat} {pc : Nat} {st : List q_v} {S : q_st} {a0 a1 a2 : Option q_v} {r : List (Option q_v)} (F : q_fx G X I) {x : Int32} (hd : decode I.1 pc = .ok (.istore_n 2, 1)) (hn : 2 < I.2.2.1) (kk : q_W G X I w cn (pc + 1) (a0 :: a1 :: some (.inl x) :: r) (st) S) : q_W G X I w cn (pc) (a0 :: a1 :: a2 :: r) (.inl x :: st) S := q_istore_n0 (k := 2) F hd hn kk
theorem q_astore_n_2 {G : q_g} {X : q_cx} {I : q_in} {w : q_wd} {cn : Nat × Nat} {pc : Nat} {st : List q_v} {S : q_st} {a0 a1 a2 : Option q_v} {r : List (Option q_v)} (F : q_fx G X I) {x : q_ix} (hd : decode I.1 pc = .ok (.astore_n 2, 1)) (hn : 2 < I.2.2.1) (kk : q_W G X I w cn (pc + 1) (a0 :: a1 :: some (.inr (some x)) :: r) (st) S) : q_W G X I w cn (pc) (a0 :: a1 :: a2 :: r) (.inr (some x) :: st) S := q_astore_n0 (k := 2) F hd hn kk
theorem q_iinc_2 {G : q_g} {X : q_cx} {I : q_in} {w : q_wd} {cn : Nat × Nat} {pc : Nat} {st : List q_v} {S : q_st} {a0 a1 : Option q_v} {r : List (Option q_v)} (F : q_fx G X I) {n : Int} {x : Int32} (v : Int32) (hd : decode I.1 pc = .ok (.iinc 2 n, 3)) (hv : x + Int32.ofInt n = v) (hn : 2 < I.2.2.1) (kk : q_W G X I w cn (pc + 3) (a0 :: a1 :: some (.inl v) :: r) (st) S) : q_W G X I w cn (pc) (a0 :: a1 :: some (.inl x) :: r) (st) S := q_iinc0 (i := 2) F hd rfl v hv hn kk
theorem q_drop_2 {G : q_g} {X : q_cx} {I : q_in} {w : q_wd} {cn : Nat × Nat} {pc : Nat} {st : List q_v} {S : q_st} {a0 a1 a2 : Option q_v} {r : List (Option q_v)} (kk : q_W G X I w cn (pc) (a0 :: a1 :: none :: r) (st) S) : q_W G X I w cn (pc) (a0 :: a1 :: a2 :: r) (st) S := q_forget (fun i v h => by
  by_cases hi : i = 2
  · subst hi; cases h
  · have h2 : ((a0 :: a1 :: a2 :: r).set 2 none)[i]? = some (some v) := h
    rw [List.getElem?_set_ne (Ne.symm hi)] at h2
    exact h2) kk
theorem q_istore_n_3 {G : q_g} {X : q_cx} {I : q_in} {w : q_wd} {cn : Nat × Nat} {pc : Nat} {st : List q_v} {S : q_st} {a0 a1 a2 a3 : Option q_v} {r : List (Option q_v)} (F : q_fx G X I) {x : Int32} (hd : decode I.1 pc = .ok (.istore_n 3, 1)) (hn : 3 < I.2.2.1) (kk : q_W G X I w cn (pc + 1) (a0 :: a1 :: a2 :: some (.inl x) :: r) (st) S) : q_W G X I w cn (pc) (a0 :: a1 :: a2 :: a3 :: r) (.inl x :: st) S := q_istore_n0 (k := 3) F hd hn kk
theorem q_astore_n_3 {G : q_g} {X : q_cx} {I : q_in} {w : q_wd} {cn : Nat × Nat} {pc : Nat} {st : List q_v} {S : q_st} {a0 a1 a2 a3 : Option q_v} {r : List (Option q_v)} (F : q_fx G X I) {x : q_ix} (hd : decode I.1 pc = .ok (.astore_n 3, 1)) (hn : 3 < I.2.2.1) (kk : q_W G X I w cn (pc + 1) (a0 :: a1 :: a2 :: some (.inr (some x)) :: r) (st) S) : q_W G X I w cn (pc) (a0 :: a1 :: a2 :: a3 :: r) (.inr (some x) :: st) S := q_astore_n0 (k := 3) F hd hn kk
theorem q_iinc_3 {G : q_g} {X : q_cx} {I : q_in} {w : q_wd} {cn : Nat × Nat} {pc : Nat} {st : List q_v} {S : q_st} {a0 a1 a2 : Option q_v} {r : List (Option q_v)} (F : q_fx G X I) {n : Int} {x : Int32} (v : Int32) (hd : decode I.1 pc = .ok (.iinc 3 n, 3)) (hv : x + Int32.ofInt n = v) (hn : 3 < I.2.2.1) (kk : q_W G X I w cn (pc + 3) (a0 :: a1 :: a2 :: some (.inl v) :: r) (st) S) : q_W G X I w cn (pc) (a0 :: a1 :: a2 :: some (.inl x) :: r) (st) S := q_iinc0 (i := 3) F hd rfl v hv hn kk
theorem q_drop_3 {G : q_g} {X : q_cx} {I : q_in} {w : q_wd} {cn : Nat × Nat} {pc : Nat} {st : List q_v} {S : q_st} {a0 a1 a2 a3 : Option q_v} {r : List (Option q_v)} (kk : q_W G X I w cn (pc) (a0 :: a1 :: a2 :: none :: r) (st) S) : q_W G X I w cn (pc) (a0 :: a1 :: a2 :: a3 :: r) (st) S := q_forget (fun i v h => by
  by_cases hi : i = 3
  · subst hi; cases h
  · have h2 : ((a0 :: a1 :: a2 :: a3 :: r).set 3 none)[i]? = some (some v) := h
    rw [List.getElem?_set_ne (Ne.symm hi)] at h2
    exact h2) kk
theorem q_istore_4 {G : q_g} {X : q_cx} {I : q_in} {w : q_wd} {cn : Nat × Nat} {pc : Nat} {st : List q_v} {S : q_st} {a0 a1 a2 a3 a4 : Option q_v} {r : List (Option q_v)} (F : q_fx G X I) {x : Int32} (hd : decode I.1 pc = .ok (.istore 4, 2)) (hn : 4 < I.2.2.1) (kk : q_W G X I w cn (pc + 2) (a0 :: a1 :: a2 :: a3 :: some (.inl x) :: r) (st) S) : q_W G X I w cn (pc) (a0 :: a1 :: a2 :: a3 :: a4 :: r) (.inl x :: st) S := q_istore0 (i := 4) F hd hn kk
theorem q_astore_4 {G : q_g} {X : q_cx} {I : q_in} {w : q_wd} {cn : Nat × Nat} {pc : Nat} {st : List q_v} {S : q_st} {a0 a1 a2 a3 a4 : Option q_v} {r : List (Option q_v)} (F : q_fx G X I) {x : q_ix} (hd : decode I.1 pc = .ok (.astore 4, 2)) (hn : 4 < I.2.2.1) (kk : q_W G X I w cn (pc + 2) (a0 :: a1 :: a2 :: a3 :: some (.inr (some x)) :: r) (st) S) : q_W G X I w cn (pc) (a0 :: a1 :: a2 :: a3 :: a4 :: r) (.inr (some x) :: st) S := q_astore0 (i := 4) F hd hn kk
theorem q_iinc_4 {G : q_g} {X : q_cx} {I : q_in} {w : q_wd} {cn : Nat × Nat} {pc : Nat} {st : List q_v} {S : q_st} {a0 a1 a2 a3 : Option q_v} {r : List (Option q_v)} (F : q_fx G X I) {n : Int} {x : Int32} (v : Int32) (hd : decode I.1 pc = .ok (.iinc 4 n, 3)) (hv : x + Int32.ofInt n = v) (hn : 4 < I.2.2.1) (kk : q_W G X I w cn (pc + 3) (a0 :: a1 :: a2 :: a3 :: some (.inl v) :: r) (st) S) : q_W G X I w cn (pc) (a0 :: a1 :: a2 :: a3 :: some (.inl x) :: r) (st) S := q_iinc0 (i := 4) F hd rfl v hv hn kk
theorem q_drop_4 {G : q_g} {X : q_cx} {I : q_in} {w : q_wd} {cn : Nat × Nat} {pc : Nat} {st : List q_v} {S : q_st} {a0 a1 a2 a3 a4 : Option q_v} {r : List (Option q_v)} (kk : q_W G X I w cn (pc) (a0 :: a1 :: a2 :: a3 :: none :: r) (st) S) : q_W G X I w cn (pc) (a0 :: a1 :: a2 :: a3 :: a4 :: r) (st) S := q_forget (fun i v h => by
  by_cases hi : i = 4
  · subst hi; cases h
  · have h2 : ((a0 :: a1 :: a2 :: a3 :: a4 :: r).set 4 none)[i]? = some (some v) := h
    rw [List.getElem?_set_ne (Ne.symm hi)] at h2
    exact h2) kk
theorem q_istore_5 {G : q_g} {X : q_cx} {I : q_in} {w : q_wd} {cn : Nat × Nat} {pc : Nat} {st : List q_v} {S : q_st} {a0 a1 a2 a3 a4 a5 : Option q_v} {r : List (Option q_v)} (F : q_fx G X I) {x : Int32} (hd : decode I.1 pc = .ok (.istore 5, 2)) (hn : 5 < I.2.2.1) (kk : q_W G X I w cn (pc + 2) (a0 :: a1 :: a2 :: a3 :: a4 :: some (.inl x) :: r) (st) S) : q_W G X I w cn (pc) (a0 :: a1 :: a2 :: a3 :: a4 :: a5 :: r) (.inl x :: st) S := q_istore0 (i := 5) F hd hn kk
theorem q_astore_5 {G : q_g} {X : q_cx} {I : q_in} {w : q_wd} {cn : Nat × Nat} {pc : Nat} {st : List q_v} {S : q_st} {a0 a1 a2 a3 a4 a5 : Option q_v} {r : List (Option q_v)} (F : q_fx G X I) {x : q_ix} (hd : decode I.1 pc = .ok (.astore 5, 2)) (hn : 5 < I.2.2.1) (kk : q_W G X I w cn (pc + 2) (a0 :: a1 :: a2 :: a3 :: a4 :: some (.inr (some x)) :: r) (st) S) : q_W G X I w cn (pc) (a0 :: a1 :: a2 :: a3 :: a4 :: a5 :: r) (.inr (some x) :: st) S := q_astore0 (i := 5) F hd hn kk
theorem q_iinc_5 {G : q_g} {X : q_cx} {I : q_in} {w : q_wd} {cn : Nat × Nat} {pc : Nat} {st : List q_v} {S : q_st} {a0 a1 a2 a3 a4 : Option q_v} {r : List (Option q_v)} (F : q_fx G X I) {n : Int} {x : Int32} (v : Int32) (hd : decode I.1 pc = .ok (.iinc 5 n, 3)) (hv : x + Int32.ofInt n = v) (hn : 5 < I.2.2.1) (kk : q_W G X I w cn (pc + 3) (a0 :: a1 :: a2 :: a3 :: a4 :: some (.inl v) :: r) (st) S) : q_W G X I w cn (pc) (a0 :: a1 :: a2 :: a3 :: a4 :: some (.inl x) :: r) (st) S := q_iinc0 (i := 5) F hd rfl v hv hn kk
theorem q_drop_5 {G : q_g} {X : q_cx} {I : q_in} {w : q_wd} {cn : Nat × Nat} {pc : Nat} {st : List q_v} {S : q_st} {a0 a1 a2 a3 a4 a5 : Option q_v} {r : List (Option q_v)} (kk : q_W G X I w cn (pc) (a0 :: a1 :: a2 :: a3 :: a4 :: none :: r) (st) S) : q_W G X I w cn (pc) (a0 :: a1 :: a2 :: a3 :: a4 :: a5 :: r) (st) S := q_forget (fun i v h => by
  by_cases hi : i = 5
  · subst hi; cases h
  · have h2 : ((a0 :: a1 :: a2 :: a3 :: a4 :: a5 :: r).set 5 none)[i]? = some (some v) := h
    rw [List.getElem?_set_ne (Ne.symm hi)] at h2
    exact h2) kk
theorem q_istore_6 {G : q_g} {X : q_cx} {I : q_in} {w : q_wd} {cn : Nat × Nat} {pc : Nat} {st : List q_v} {S : q_st} {a0 a1 a2 a3 a4 a5 a6 : Option q_v} {r : List (Option q_v)} (F : q_fx G X I) {x : Int32} (hd : decode I.1 pc = .ok (.istore 6, 2)) (hn : 6 < I.2.2.1) (kk : q_W G X I w cn (pc + 2) (a0 :: a1 :: a2 :: a3 :: a4 :: a5 :: some (.inl x) :: r) (st) S) : q_W G X I w cn (pc) (a0 :: a1 :: a2 :: a3 :: a4 :: a5 :: a6 :: r) (.inl x :: st) S := q_istore0 (i := 6) F hd hn kk
theorem q_astore_6 {G : q_g} {X : q_cx} {I : q_in} {w : q_wd} {cn : Nat × Nat} {pc : Nat} {st : List q_v} {S : q_st} {a0 a1 a2 a3 a4 a5 a6 : Option q_v} {r : List (Option q_v)} (F : q_fx G X I) {x : q_ix} (hd : decode I.1 pc = .ok (.astore 6, 2)) (hn : 6 < I.2.2.1) (kk : q_W G X I w cn (pc + 2) (a0 :: a1 :: a2 :: a3 :: a4 :: a5 :: some (.inr (some x)) :: r) (st) S) : q_W G X I w cn (pc) (a0 :: a1 :: a2 :: a3 :: a4 :: a5 :: a6 :: r) (.inr (some x) :: st) S := q_astore0 (i := 6) F hd hn kk
theorem q_iinc_6 {G : q_g} {X : q_cx} {I : q_in} {w : q_wd} {cn : Nat × Nat} {pc : Nat} {st : List q_v} {S : q_st} {a0 a1 a2 a3 a4 a5 : Option q_v} {r : List (Option q_v)} (F : q_fx G X I) {n : Int} {x : Int32} (v : Int32) (hd : decode I.1 pc = .ok (.iinc 6 n, 3)) (hv : x + Int32.ofInt n = v) (hn : 6 < I.2.2.1) (kk : q_W G X I w cn (pc + 3) (a0 :: a1 :: a2 :: a3 :: a4 :: a5 :: some (.inl v) :: r) (st) S) : q_W G X I w cn (pc) (a0 :: a1 :: a2 :: a3 :: a4 :: a5 :: some (.inl x) :: r) (st) S := q_iinc0 (i := 6) F hd rfl v hv hn kk
theorem q_drop_6 {G : q_g} {X : q_cx} {I : q_in} {w : q_wd} {cn : Nat × Nat} {pc : Nat} {st : List q_v} {S : q_st} {a0 a1 a2 a3 a4 a5 a6 : Option q_v} {r : List (Option q_v)} (kk : q_W G X I w cn (pc) (a0 :: a1 :: a2 :: a3 :: a4 :: a5 :: none :: r) (st) S) : q_W G X I w cn (pc) (a0 :: a1 :: a2 :: a3 :: a4 :: a5 :: a6 :: r) (st) S := q_forget (fun i v h => by
  by_cases hi : i = 6
  · subst hi; cases h
  · have h2 : ((a0 :: a1 :: a2 :: a3 :: a4 :: a5 :: a6 :: r).set 6 none)[i]? = some (some v) := h
    rw [List.getElem?_set_ne (Ne.symm hi)] at h2
    exact h2) kk
theorem q_istore_7 {G : q_g} {X : q_cx} {I : q_in} {w : q_wd} {cn : Nat × Nat} {pc : Nat} {st : List q_v} {S : q_st} {a0 a1 a2 a3 a4 a5 a6 a7 : Option q_v} {r : List (Option q_v)} (F : q_fx G X I) {x : Int32} (hd : decode I.1 pc = .ok (.istore 7, 2)) (hn : 7 < I.2.2.1) (kk : q_W G X I w cn (pc + 2) (a0 :: a1 :: a2 :: a3 :: a4 :: a5 :: a6 :: some (.inl x) :: r) (st) S) : q_W G X I w cn (pc) (a0 :: a1 :: a2 :: a3 :: a4 :: a5 :: a6 :: a7 :: r) (.inl x :: st) S := q_istore0 (i := 7) F hd hn kk
theorem q_astore_7 {G : q_g} {X : q_cx} {I : q_in} {w : q_wd} {cn : Nat × Nat} {pc : Nat} {st : List q_v} {S : q_st} {a0 a1 a2 a3 a4 a5 a6 a7 : Option q_v} {r : List (Option q_v)} (F : q_fx G X I) {x : q_ix} (hd : decode I.1 pc = .ok (.astore 7, 2)) (hn : 7 < I.2.2.1) (kk : q_W G X I w cn (pc + 2) (a0 :: a1 :: a2 :: a3 :: a4 :: a5 :: a6 :: some (.inr (some x)) :: r) (st) S) : q_W G X I w cn (pc) (a0 :: a1 :: a2 :: a3 :: a4 :: a5 :: a6 :: a7 :: r) (.inr (some x) :: st) S := q_astore0 (i := 7) F hd hn kk
theorem q_iinc_7 {G : q_g} {X : q_cx} {I : q_in} {w : q_wd} {cn : Nat × Nat} {pc : Nat} {st : List q_v} {S : q_st} {a0 a1 a2 a3 a4 a5 a6 : Option q_v} {r : List (Option q_v)} (F : q_fx G X I) {n : Int} {x : Int32} (v : Int32) (hd : decode I.1 pc = .ok (.iinc 7 n, 3)) (hv : x + Int32.ofInt n = v) (hn : 7 < I.2.2.1) (kk : q_W G X I w cn (pc + 3) (a0 :: a1 :: a2 :: a3 :: a4 :: a5 :: a6 :: some (.inl v) :: r) (st) S) : q_W G X I w cn (pc) (a0 :: a1 :: a2 :: a3 :: a4 :: a5 :: a6 :: some (.inl x) :: r) (st) S := q_iinc0 (i := 7) F hd rfl v hv hn kk
theorem q_drop_7 {G : q_g} {X : q_cx} {I : q_in} {w : q_wd} {cn : Nat × Nat} {pc : Nat} {st : List q_v} {S : q_st} {a0 a1 a2 a3 a4 a5 a6 a7 : Option q_v} {r : List (Option q_v)} (kk : q_W G X I w cn (pc) (a0 :: a1 :: a2 :: a3 :: a4 :: a5 :: a6 :: none :: r) (st) S) : q_W G X I w cn (pc) (a0 :: a1 :: a2 :: a3 :: a4 :: a5 :: a6 :: a7 :: r) (st) S := q_forget (fun i v h => by
  by_cases hi : i = 7
  · subst hi; cases h
  · have h2 : ((a0 :: a1 :: a2 :: a3 :: a4 :: a5 :: a6 :: a7 :: r).set 7 none)[i]? = some (some v) := h
    rw [List.getElem?_set_ne (Ne.symm hi)] at h2
    exact h2) kk
theorem q_istore_8 {G : q_g} {X : q_cx} {I : q_in} {w : q_wd} {cn : Nat × Nat} {pc : Nat} {st : List q_v} {S : q_st} {a0 a1 a2 a3 a4 a5 a6 a7 a8 : Option q_v} {r : List (Option q_v)} (F : q_fx G X I) {x : Int32} (hd : decode I.1 pc = .ok (.istore 8, 2)) (hn : 8 < I.2.2.1) (kk : q_W G X I w cn (pc + 2) (a0 :: a1 :: a2 :: a3 :: a4 :: a5 :: a6 :: a7 :: some (.inl x) :: r) (st) S) : q_W G X I w cn (pc) (a0 :: a1 :: a2 :: a3 :: a4 :: a5 :: a6 :: a7 :: a8 :: r) (.inl x :: st) S := q_istore0 (i := 8) F hd hn kk
theorem q_astore_8 {G : q_g} {X : q_cx} {I : q_in} {w : q_wd} {cn : Nat × Nat} {pc : Nat} {st : List q_v} {S : q_st} {a0 a1 a2 a3 a4 a5 a6 a7 a8 : Option q_v} {r : List (Option q_v)} (F : q_fx G X I) {x : q_ix} (hd : decode I.1 pc = .ok (.astore 8, 2)) (hn : 8 < I.2.2.1) (kk : q_W G X I w cn (pc + 2) (a0 :: a1 :: a2 :: a3 :: a4 :: a5 :: a6 :: a7 :: some (.inr (some x)) :: r) (st) S) : q_W G X I w cn (pc) (a0 :: a1 :: a2 :: a3 :: a4 :: a5 :: a6 :: a7 :: a8 :: r) (.inr (some x) :: st) S := q_astore0 (i := 8) F hd hn kk
theorem q_iinc_8 {G : q_g} {X : q_cx} {I : q_in} {w : q_wd} {cn : Nat × Nat} {pc : Nat} {st : List q_v} {S : q_st} {a0 a1 a2 a3 a4 a5 a6 a7 : Option q_v} {r : List (Option q_v)} (F : q_fx G X I) {n : Int} {x : Int32} (v : Int32) (hd : decode I.1 pc = .ok (.iinc 8 n, 3)) (hv : x + Int32.ofInt n = v) (hn : 8 < I.2.2.1) (kk : q_W G X I w cn (pc + 3) (a0 :: a1 :: a2 :: a3 :: a4 :: a5 :: a6 :: a7 :: some (.inl v) :: r) (st) S) : q_W G X I w cn (pc) (a0 :: a1 :: a2 :: a3 :: a4 :: a5 :: a6 :: a7 :: some (.inl x) :: r) (st) S := q_iinc0 (i := 8) F hd rfl v hv hn kk
theorem q_drop_8 {G : q_g} {X : q_cx} {I : q_in} {w : q_wd} {cn : Nat × Nat} {pc : Nat} {st : List q_v} {S : q_st} {a0 a1 a2 a3 a4 a5 a6 a7 a8 : Option q_v} {r : List (Option q_v)} (kk : q_W G X I w cn (pc) (a0 :: a1 :: a2 :: a3 :: a4 :: a5 :: a6 :: a7 :: none :: r) (st) S) : q_W G X I w cn (pc) (a0 :: a1 :: a2 :: a3 :: a4 :: a5 :: a6 :: a7 :: a8 :: r) (st) S := q_forget (fun i v h => by
  by_cases hi : i = 8
  · subst hi; cases h
  · have h2 : ((a0 :: a1 :: a2 :: a3 :: a4 :: a5 :: a6 :: a7 :: a8 :: r).set 8 none)[i]? = some (some v) := h
    rw [List.getElem?_set_ne (Ne.symm hi)] at h2
    exact h2) kk
theorem q_istore_9 {G : q_g} {X : q_cx} {I : q_in} {w : q_wd} {cn : Nat × Nat} {pc : Nat} {st : List q_v} {S : q_st} {a0 a1 a2 a3 a4 a5 a6 a7 a8 a9 : Option q_v} {r : List (Option q_v)} (F : q_fx G X I) {x : Int32} (hd : decode I.1 pc = .ok (.istore 9, 2)) (hn : 9 < I.2.2.1) (kk : q_W G X I w cn (pc + 2) (a0 :: a1 :: a2 :: a3 :: a4 :: a5 :: a6 :: a7 :: a8 :: some (.inl x) :: r) (st) S) : q_W G X I w cn (pc) (a0 :: a1 :: a2 :: a3 :: a4 :: a5 :: a6 :: a7 :: a8 :: a9 :: r) (.inl x :: st) S := q_istore0 (i := 9) F hd hn kk
theorem q_astore_9 {G : q_g} {X : q_cx} {I : q_in} {w : q_wd} {cn : Nat × Nat} {pc : Nat} {st : List q_v} {S : q_st} {a0 a1 a2 a3 a4 a5 a6 a7 a8 a9 : Option q_v} {r : List (Option q_v)} (F : q_fx G X I) {x : q_ix} (hd : decode I.1 pc = .ok (.astore 9, 2)) (hn : 9 < I.2.2.1) (kk : q_W G X I w cn (pc + 2) (a0 :: a1 :: a2 :: a3 :: a4 :: a5 :: a6 :: a7 :: a8 :: some (.inr (some x)) :: r) (st) S) : q_W G X I w cn (pc) (a0 :: a1 :: a2 :: a3 :: a4 :: a5 :: a6 :: a7 :: a8 :: a9 :: r) (.inr (some x) :: st) S := q_astore0 (i := 9) F hd hn kk
theorem q_iinc_9 {G : q_g} {X : q_cx} {I : q_in} {w : q_wd} {cn : Nat × Nat} {pc : Nat} {st : List q_v} {S : q_st} {a0 a1 a2 a3 a4 a5 a6 a7 a8 : Option q_v} {r : List (Option q_v)} (F : q_fx G X I) {n : Int} {x : Int32} (v : Int32) (hd : decode I.1 pc = .ok (.iinc 9 n, 3)) (hv : x + Int32.ofInt n = v) (hn : 9 < I.2.2.1) (kk : q_W G X I w cn (pc + 3) (a0 :: a1 :: a2 :: a3 :: a4 :: a5 :: a6 :: a7 :: a8 :: some (.inl v) :: r) (st) S) : q_W G X I w cn (pc) (a0 :: a1 :: a2 :: a3 :: a4 :: a5 :: a6 :: a7 :: a8 :: some (.inl x) :: r) (st) S := q_iinc0 (i := 9) F hd rfl v hv hn kk
theorem q_drop_9 {G : q_g} {X : q_cx} {I : q_in} {w : q_wd} {cn : Nat × Nat} {pc : Nat} {st : List q_v} {S : q_st} {a0 a1 a2 a3 a4 a5 a6 a7 a8 a9 : Option q_v} {r : List (Option q_v)} (kk : q_W G X I w cn (pc) (a0 :: a1 :: a2 :: a3 :: a4 :: a5 :: a6 :: a7 :: a8 :: none :: r) (st) S) : q_W G X I w cn (pc) (a0 :: a1 :: a2 :: a3 :: a4 :: a5 :: a6 :: a7 :: a8 :: a9 :: r) (st) S := q_forget (fun i v h => by
  by_cases hi : i = 9
  · subst hi; cases h
  · have h2 : ((a0 :: a1 :: a2 :: a3 :: a4 :: a5 :: a6 :: a7 :: a8 :: a9 :: r).set 9 none)[i]? = some (some v) := h
    rw [List.getElem?_set_ne (Ne.symm hi)] at h2
    exact h2) kk
theorem q_istore_10 {G : q_g} {X : q_cx} {I : q_in} {w : q_wd} {cn : Nat × Nat} {pc : Nat} {st : List q_v} {S : q_st} {a0 a1 a2 a3 a4 a5 a6 a7 a8 a9 a10 : Option q_v} {r : List (Option q_v)} (F : q_fx G X I) {x : Int32} (hd : decode I.1 pc = .ok (.istore 10, 2)) (hn : 10 < I.2.2.1) (kk : q_W G X I w cn (pc + 2) (a0 :: a1 :: a2 :: a3 :: a4 :: a5 :: a6 :: a7 :: a8 :: a9 :: some (.inl x) :: r) (st) S) : q_W G X I w cn (pc) (a0 :: a1 :: a2 :: a3 :: a4 :: a5 :: a6 :: a7 :: a8 :: a9 :: a10 :: r) (.inl x :: st) S := q_istore0 (i := 10) F hd hn kk
theorem q_astore_10 {G : q_g} {X : q_cx} {I : q_in} {w : q_wd} {cn : Nat × Nat} {pc : Nat} {st : List q_v} {S : q_st} {a0 a1 a2 a3 a4 a5 a6 a7 a8 a9 a10 : Option q_v} {r : List (Option q_v)} (F : q_fx G X I) {x : q_ix} (hd : decode I.1 pc = .ok (.astore 10, 2)) (hn : 10 < I.2.2.1) (kk : q_W G X I w cn (pc + 2) (a0 :: a1 :: a2 :: a3 :: a4 :: a5 :: a6 :: a7 :: a8 :: a9 :: some (.inr (some x)) :: r) (st) S) : q_W G X I w cn (pc) (a0 :: a1 :: a2 :: a3 :: a4 :: a5 :: a6 :: a7 :: a8 :: a9 :: a10 :: r) (.inr (some x) :: st) S := q_astore0 (i := 10) F hd hn kk
theorem q_iinc_10 {G : q_g} {X : q_cx} {I : q_in} {w : q_wd} {cn : Nat × Nat} {pc : Nat} {st : List q_v} {S : q_st} {a0 a1 a2 a3 a4 a5 a6 a7 a8 a9 : Option q_v} {r : List (Option q_v)} (F : q_fx G X I) {n : Int} {x : Int32} (v : Int32) (hd : decode I.1 pc = .ok (.iinc 10 n, 3)) (hv : x + Int32.ofInt n = v) (hn : 10 < I.2.2.1) (kk : q_W G X I w cn (pc + 3) (a0 :: a1 :: a2 :: a3 :: a4 :: a5 :: a6 :: a7 :: a8 :: a9 :: some (.inl v) :: r) (st) S) : q_W G X I w cn (pc) (a0 :: a1 :: a2 :: a3 :: a4 :: a5 :: a6 :: a7 :: a8 :: a9 :: some (.inl x) :: r) (st) S := q_iinc0 (i := 10) F hd rfl v hv hn kk
theorem q_drop_10 {G : q_g} {X : q_cx} {I : q_in} {w : q_wd} {cn : Nat × Nat} {pc : Nat} {st : List q_v} {S : q_st} {a0 a1 a2 a3 a4 a5 a6 a7 a8 a9 a10 : Option q_v} {r : List (Option q_v)} (kk : q_W G X I w cn (pc) (a0 :: a1 :: a2 :: a3 :: a4 :: a5 :: a6 :: a7 :: a8 :: a9 :: none :: r) (st) S) : q_W G X I w cn (pc) (a0 :: a1 :: a2 :: a3 :: a4 :: a5 :: a6 :: a7 :: a8 :: a9 :: a10 :: r) (st) S := q_forget (fun i v h => by
  by_cases hi : i = 10
  · subst hi; cases h
  · have h2 : ((a0 :: a1 :: a2 :: a3 :: a4 :: a5 :: a6 :: a7 :: a8 :: a9 :: a10 :: r).set 10 none)[i]? = some (some v) := h
    rw [List.getElem?_set_ne (Ne.symm hi)] at h2
    exact h2) kk
theorem q_istore_11 {G : q_g} {X : q_cx} {I : q_in} {w : q_wd} {cn : Nat × Nat} {pc : Nat} {st : List q_v} {S : q_st} {a0 a1 a2 a3 a4 a5 a6 a7 a8 a9 a10 a11 : Option q_v} {r : List (Option q_v)} (F : q_fx G X I) {x : Int32} (hd : decode I.1 pc = .ok (.istore 11, 2)) (hn : 11 < I.2.2.1) (kk : q_W G X I w cn (pc + 2) (a0 :: a1 :: a2 :: a3 :: a4 :: a5 :: a6 :: a7 :: a8 :: a9 :: a10 :: some (.inl x) :: r) (st) S) : q_W G X I w cn (pc) (a0 :: a1 :: a2 :: a3 :: a4 :: a5 :: a6 :: a7 :: a8 :: a9 :: a10 :: a11 :: r) (.inl x :: st) S := q_istore0 (i := 11) F hd hn kk
theorem q_astore_11 {G : q_g} {X : q_cx} {I : q_in} {w : q_wd} {cn : Nat × Nat} {pc : Nat} {st : List q_v} {S : q_st} {a0 a1 a2 a3 a4 a5 a6 a7 a8 a9 a10 a11 : Option q_v} {r : List (Option q_v)} (F : q_fx G X I) {x : q_ix} (hd : decode I.1 pc = .ok (.astore 11, 2)) (hn : 11 < I.2.2.1) (kk : q_W G X I w cn (pc + 2) (a0 :: a1 :: a2 :: a3 :: a4 :: a5 :: a6 :: a7 :: a8 :: a9 :: a10 :: some (.inr (some x)) :: r) (st) S) : q_W G X I w cn (pc) (a0 :: a1 :: a2 :: a3 :: a4 :: a5 :: a6 :: a7 :: a8 :: a9 :: a10 :: a11 :: r) (.inr (some x) :: st) S := q_astore0 (i := 11) F hd hn kk
theorem q_iinc_11 {G : q_g} {X : q_cx} {I : q_in} {w : q_wd} {cn : Nat × Nat} {pc : Nat} {st : List q_v} {S : q_st} {a0 a1 a2 a3 a4 a5 a6 a7 a8 a9 a10 : Option q_v} {r : List (Option q_v)} (F : q_fx G X I) {n : Int} {x : Int32} (v : Int32) (hd : decode I.1 pc = .ok (.iinc 11 n, 3)) (hv : x + Int32.ofInt n = v) (hn : 11 < I.2.2.1) (kk : q_W G X I w cn (pc + 3) (a0 :: a1 :: a2 :: a3 :: a4 :: a5 :: a6 :: a7 :: a8 :: a9 :: a10 :: some (.inl v) :: r) (st) S) : q_W G X I w cn (pc) (a0 :: a1 :: a2 :: a3 :: a4 :: a5 :: a6 :: a7 :: a8 :: a9 :: a10 :: some (.inl x) :: r) (st) S := q_iinc0 (i := 11) F hd rfl v hv hn kk
theorem q_drop_11 {G : q_g} {X : q_cx} {I : q_in} {w : q_wd} {cn : Nat × Nat} {pc : Nat} {st : List q_v} {S : q_st} {a0 a1 a2 a3 a4 a5 a6 a7 a8 a9 a10 a11 : Option q_v} {r : List (Option q_v)} (kk : q_W G X I w cn (pc) (a0 :: a1 :: a2 :: a3 :: a4 :: a5 :: a6 :: a7 :: a8 :: a9 :: a10 :: none :: r) (st) S) : q_W G X I w cn (pc) (a0 :: a1 :: a2 :: a3 :: a4 :: a5 :: a6 :: a7 :: a8 :: a9 :: a10 :: a11 :: r) (st) S := q_forget (fun i v h => by
  by_cases hi : i = 11
  · subst hi; cases h
  · have h2 : ((a0 :: a1 :: a2 :: a3 :: a4 :: a5 :: a6 :: a7 :: a8 :: a9 :: a10 :: a11 :: r).set 11 none)[i]? = some (some v) := h
    rw [List.getElem?_set_ne (Ne.symm hi)] at h2
    exact h2) kk
theorem q_iadd {G : q_g} {X : q_cx} {I : q_in} {w : q_wd} {cn : Nat × Nat} {pc : Nat} {ls : List (Option q_v)} {st : List q_v} {S : q_st} (F : q_fx G X I) {x y : Int32} (hd : decode I.1 pc = .ok (.iadd, 1)) (kk : q_W G X I w cn (pc + 1) ls (.inl (x + y) :: st) S) : q_W G X I w cn (pc) ls (.inl y :: .inl x :: st) S := by
  obtain ⟨p, l, e, s, m, args, below, meth, c, A, Qf⟩ := X
  obtain ⟨hx, hb, hml, hts, hown, hnm, hr, hlk, hK, hA⟩ := F
  intro H locs la hP hD hS hl
  exact lv_iadd hx hb hd (kk H locs la hP hD hS hl)
theorem q_isub {G : q_g} {X : q_cx} {I : q_in} {w : q_wd} {cn : Nat × Nat} {pc : Nat} {ls : List (Option q_v)} {st : List q_v} {S : q_st} (F : q_fx G X I) {x y : Int32} (hd : decode I.1 pc = .ok (.isub, 1)) (kk : q_W G X I w cn (pc + 1) ls (.inl (x - y) :: st) S) : q_W G X I w cn (pc) ls (.inl y :: .inl x :: st) S := by
  obtain ⟨p, l, e, s, m, args, below, meth, c, A, Qf⟩ := X
  obtain ⟨hx, hb, hml, hts, hown, hnm, hr, hlk, hK, hA⟩ := F
  intro H locs la hP hD hS hl
  exact lv_isub hx hb hd (kk H locs la hP hD hS hl)
theorem q_imul {G : q_g} {X : q_cx} {I : q_in} {w : q_wd} {cn : Nat × Nat} {pc : Nat} {ls : List (Option q_v)} {st : List q_v} {S : q_st} (F : q_fx G X I) {x y : Int32} (hd : decode I.1 pc = .ok (.imul, 1)) (kk : q_W G X I w cn (pc + 1) ls (.inl (x * y) :: st) S) : q_W G X I w cn (pc) ls (.inl y :: .inl x :: st) S := by
  obtain ⟨p, l, e, s, m, args, below, meth, c, A, Qf⟩ := X
  obtain ⟨hx, hb, hml, hts, hown, hnm, hr, hlk, hK, hA⟩ := F
  intro H locs la hP hD hS hl
  exact lv_imul hx hb hd (kk H locs la hP hD hS hl)
theorem q_iand {G : q_g} {X : q_cx} {I : q_in} {w : q_wd} {cn : Nat × Nat} {pc : Nat} {ls : List (Option q_v)} {st : List q_v} {S : q_st} (F : q_fx G X I) {x y : Int32} (hd : decode I.1 pc = .ok (.iand, 1)) (kk : q_W G X I w cn (pc + 1) ls (.inl (x &&& y) :: st) S) : q_W G X I w cn (pc) ls (.inl y :: .inl x :: st) S := by
  obtain ⟨p, l, e, s, m, args, below, meth, c, A, Qf⟩ := X
  obtain ⟨hx, hb, hml, hts, hown, hnm, hr, hlk, hK, hA⟩ := F
  intro H locs la hP hD hS hl
  exact lv_iand hx hb hd (kk H locs la hP hD hS hl)
theorem q_ishr {G : q_g} {X : q_cx} {I : q_in} {w : q_wd} {cn : Nat × Nat} {pc : Nat} {ls : List (Option q_v)} {st : List q_v} {S : q_st} (F : q_fx G X I) {x y : Int32} (hd : decode I.1 pc = .ok (.ishr, 1)) (kk : q_W G X I w cn (pc + 1) ls (.inl (x >>> (y &&& 31)) :: st) S) : q_W G X I w cn (pc) ls (.inl y :: .inl x :: st) S := by
  obtain ⟨p, l, e, s, m, args, below, meth, c, A, Qf⟩ := X
  obtain ⟨hx, hb, hml, hts, hown, hnm, hr, hlk, hK, hA⟩ := F
  intro H locs la hP hD hS hl
  exact lv_ishr hx hb hd (kk H locs la hP hD hS hl)
theorem q_ior {G : q_g} {X : q_cx} {I : q_in} {w : q_wd} {cn : Nat × Nat} {pc : Nat} {ls : List (Option q_v)} {st : List q_v} {S : q_st} (F : q_fx G X I) {x y : Int32} (hd : decode I.1 pc = .ok (.ior, 1)) (kk : q_W G X I w cn (pc + 1) ls (.inl (x ||| y) :: st) S) : q_W G X I w cn (pc) ls (.inl y :: .inl x :: st) S := by
  obtain ⟨p, l, e, s, m, args, below, meth, c, A, Qf⟩ := X
  obtain ⟨hx, hb, hml, hts, hown, hnm, hr, hlk, hK, hA⟩ := F
  intro H locs la hP hD hS hl
  exact lv_ior hx hb hd (kk H locs la hP hD hS hl)
theorem q_ixor {G : q_g} {X : q_cx} {I : q_in} {w : q_wd} {cn : Nat × Nat} {pc : Nat} {ls : List (Option q_v)} {st : List q_v} {S : q_st} (F : q_fx G X I) {x y : Int32} (hd : decode I.1 pc = .ok (.ixor, 1)) (kk : q_W G X I w cn (pc + 1) ls (.inl (x ^^^ y) :: st) S) : q_W G X I w cn (pc) ls (.inl y :: .inl x :: st) S := by
  obtain ⟨p, l, e, s, m, args, below, meth, c, A, Qf⟩ := X
  obtain ⟨hx, hb, hml, hts, hown, hnm, hr, hlk, hK, hA⟩ := F
  intro H locs la hP hD hS hl
  exact lv_ixor hx hb hd (kk H locs la hP hD hS hl)
theorem q_idiv {G : q_g} {X : q_cx} {I : q_in} {w : q_wd} {cn : Nat × Nat} {pc : Nat} {ls : List (Option q_v)} {st : List q_v} {S : q_st} (F : q_fx G X I) {x y : Int32} (hd : decode I.1 pc = .ok (.idiv, 1)) (hne : ¬ y = 0) (kk : q_W G X I w cn (pc + 1) ls (.inl (x / y) :: st) S) : q_W G X I w cn (pc) ls (.inl y :: .inl x :: st) S := by
  obtain ⟨p, l, e, s, m, args, below, meth, c, A, Qf⟩ := X
  obtain ⟨hx, hb, hml, hts, hown, hnm, hr, hlk, hK, hA⟩ := F
  intro H locs la hP hD hS hl
  exact lv_idiv hx hb hd hne (kk H locs la hP hD hS hl)
theorem q_irem {G : q_g} {X : q_cx} {I : q_in} {w : q_wd} {cn : Nat × Nat} {pc : Nat} {ls : List (Option q_v)} {st : List q_v} {S : q_st} (F : q_fx G X I) {x y : Int32} (hd : decode I.1 pc = .ok (.irem, 1)) (hne : ¬ y = 0) (kk : q_W G X I w cn (pc + 1) ls (.inl (x - x / y * y) :: st) S) : q_W G X I w cn (pc) ls (.inl y :: .inl x :: st) S := by
  obtain ⟨p, l, e, s, m, args, below, meth, c, A, Qf⟩ := X
  obtain ⟨hx, hb, hml, hts, hown, hnm, hr, hlk, hK, hA⟩ := F
  intro H locs la hP hD hS hl
  exact lv_irem hx hb hd hne (kk H locs la hP hD hS hl)
theorem q_dup {G : q_g} {X : q_cx} {I : q_in} {w : q_wd} {cn : Nat × Nat} {pc : Nat} {ls : List (Option q_v)} {st : List q_v} {S : q_st} (F : q_fx G X I) {x : q_v} (hd : decode I.1 pc = .ok (.dup, 1)) (kk : q_W G X I w cn (pc + 1) ls (x :: x :: st) S) : q_W G X I w cn (pc) ls (x :: st) S := by
  obtain ⟨p, l, e, s, m, args, below, meth, c, A, Qf⟩ := X
  obtain ⟨hx, hb, hml, hts, hown, hnm, hr, hlk, hK, hA⟩ := F
  intro H locs la hP hD hS hl
  exact lv_dup hx hb hd (q_val_cat _ _) (kk H locs la hP hD hS hl)
theorem q_pop {G : q_g} {X : q_cx} {I : q_in} {w : q_wd} {cn : Nat × Nat} {pc : Nat} {ls : List (Option q_v)} {st : List q_v} {S : q_st} (F : q_fx G X I) {x : q_v} (hd : decode I.1 pc = .ok (.pop, 1)) (kk : q_W G X I w cn (pc + 1) ls (st) S) : q_W G X I w cn (pc) ls (x :: st) S := by
  obtain ⟨p, l, e, s, m, args, below, meth, c, A, Qf⟩ := X
  obtain ⟨hx, hb, hml, hts, hown, hnm, hr, hlk, hK, hA⟩ := F
  intro H locs la hP hD hS hl
  exact lv_pop hx hb hd (q_val_cat _ _) (kk H locs la hP hD hS hl)
theorem q_dup_x1 {G : q_g} {X : q_cx} {I : q_in} {w : q_wd} {cn : Nat × Nat} {pc : Nat} {ls : List (Option q_v)} {st : List q_v} {S : q_st} (F : q_fx G X I) {x y : q_v} (hd : decode I.1 pc = .ok (.dup_x1, 1)) (kk : q_W G X I w cn (pc + 1) ls (x :: y :: x :: st) S) : q_W G X I w cn (pc) ls (x :: y :: st) S := by
  obtain ⟨p, l, e, s, m, args, below, meth, c, A, Qf⟩ := X
  obtain ⟨hx, hb, hml, hts, hown, hnm, hr, hlk, hK, hA⟩ := F
  intro H locs la hP hD hS hl
  exact lv_dup_x1 hx hb hd (q_val_cat _ _) (q_val_cat _ _) (kk H locs la hP hD hS hl)
theorem q_dup2 {G : q_g} {X : q_cx} {I : q_in} {w : q_wd} {cn : Nat × Nat} {pc : Nat} {ls : List (Option q_v)} {st : List q_v} {S : q_st} (F : q_fx G X I) {x y : q_v} (hd : decode I.1 pc = .ok (.dup2, 1)) (kk : q_W G X I w cn (pc + 1) ls (x :: y :: x :: y :: st) S) : q_W G X I w cn (pc) ls (x :: y :: st) S := by
  obtain ⟨p, l, e, s, m, args, below, meth, c, A, Qf⟩ := X
  obtain ⟨hx, hb, hml, hts, hown, hnm, hr, hlk, hK, hA⟩ := F
  intro H locs la hP hD hS hl
  exact lv_dup2_11 hx hb hd (q_val_cat _ _) (q_val_cat _ _) (kk H locs la hP hD hS hl)
theorem q_if_eq {G : q_g} {X : q_cx} {I : q_in} {w : q_wd} {cn : Nat × Nat} {pc : Nat} {ls : List (Option q_v)} {st : List q_v} {S : q_st} (F : q_fx G X I) {x : Int32} {off : Int} (tgt : Nat) (hd : decode I.1 pc = .ok (.ifCond .eq off, 3)) (ht : (pc : Int) + off = (tgt : Int)) (kt : x = 0 → q_W G X I w cn (tgt) ls (st) S) (kf : ¬ x = 0 → q_W G X I w cn (pc + 3) ls (st) S) : q_W G X I w cn (pc) ls (.inl x :: st) S := by
  obtain ⟨p, l, e, s, m, args, below, meth, c, A, Qf⟩ := X
  obtain ⟨hx, hb, hml, hts, hown, hnm, hr, hlk, hK, hA⟩ := F
  intro H locs la hP hD hS hl
  exact lv_if_eq hx hb hd ht (fun h => kt h H locs la hP hD hS hl) (fun h => kf h H locs la hP hD hS hl)
theorem q_icmp_eq {G : q_g} {X : q_cx} {I : q_in} {w : q_wd} {cn : Nat × Nat} {pc : Nat} {ls : List (Option q_v)} {st : List q_v} {S : q_st} (F : q_fx G X I) {x y : Int32} {off : Int} (tgt : Nat) (hd : decode I.1 pc = .ok (.if_icmp .eq off, 3)) (ht : (pc : Int) + off = (tgt : Int)) (kt : x = y → q_W G X I w cn (tgt) ls (st) S) (kf : ¬ x = y → q_W G X I w cn (pc + 3) ls (st) S) : q_W G X I w cn (pc) ls (.inl y :: .inl x :: st) S := by
  obtain ⟨p, l, e, s, m, args, below, meth, c, A, Qf⟩ := X
  obtain ⟨hx, hb, hml, hts, hown, hnm, hr, hlk, hK, hA⟩ := F
  intro H locs la hP hD hS hl
  exact lv_icmp_eq hx hb hd ht (fun h => kt h H locs la hP hD hS hl) (fun h => kf h H locs la hP hD hS hl)
theorem q_if_ne {G : q_g} {X : q_cx} {I : q_in} {w : q_wd} {cn : Nat × Nat} {pc : Nat} {ls : List (Option q_v)} {st : List q_v} {S : q_st} (F : q_fx G X I) {x : Int32} {off : Int} (tgt : Nat) (hd : decode I.1 pc = .ok (.ifCond .ne off, 3)) (ht : (pc : Int) + off = (tgt : Int)) (kt : ¬ x = 0 → q_W G X I w cn (tgt) ls (st) S) (kf : x = 0 → q_W G X I w cn (pc + 3) ls (st) S) : q_W G X I w cn (pc) ls (.inl x :: st) S := by
  obtain ⟨p, l, e, s, m, args, below, meth, c, A, Qf⟩ := X
  obtain ⟨hx, hb, hml, hts, hown, hnm, hr, hlk, hK, hA⟩ := F
  intro H locs la hP hD hS hl
  exact lv_if_ne hx hb hd ht (fun h => kt h H locs la hP hD hS hl) (fun h => kf h H locs la hP hD hS hl)
theorem q_icmp_ne {G : q_g} {X : q_cx} {I : q_in} {w : q_wd} {cn : Nat × Nat} {pc : Nat} {ls : List (Option q_v)} {st : List q_v} {S : q_st} (F : q_fx G X I) {x y : Int32} {off : Int} (tgt : Nat) (hd : decode I.1 pc = .ok (.if_icmp .ne off, 3)) (ht : (pc : Int) + off = (tgt : Int)) (kt : ¬ x = y → q_W G X I w cn (tgt) ls (st) S) (kf : x = y → q_W G X I w cn (pc + 3) ls (st) S) : q_W G X I w cn (pc) ls (.inl y :: .inl x :: st) S := by
  obtain ⟨p, l, e, s, m, args, below, meth, c, A, Qf⟩ := X
  obtain ⟨hx, hb, hml, hts, hown, hnm, hr, hlk, hK, hA⟩ := F
  intro H locs la hP hD hS hl
  exact lv_icmp_ne hx hb hd ht (fun h => kt h H locs la hP hD hS hl) (fun h => kf h H locs la hP hD hS hl)
theorem q_if_lt {G : q_g} {X : q_cx} {I : q_in} {w : q_wd} {cn : Nat × Nat} {pc : Nat} {ls : List (Option q_v)} {st : List q_v} {S : q_st} (F : q_fx G X I) {x : Int32} {off : Int} (tgt : Nat) (hd : decode I.1 pc = .ok (.ifCond .lt off, 3)) (ht : (pc : Int) + off = (tgt : Int)) (kt : x.toInt < 0 → q_W G X I w cn (tgt) ls (st) S) (kf : 0 ≤ x.toInt → q_W G X I w cn (pc + 3) ls (st) S) : q_W G X I w cn (pc) ls (.inl x :: st) S := by
  obtain ⟨p, l, e, s, m, args, below, meth, c, A, Qf⟩ := X
  obtain ⟨hx, hb, hml, hts, hown, hnm, hr, hlk, hK, hA⟩ := F
  intro H locs la hP hD hS hl
  exact lv_if_lt hx hb hd ht (fun h => kt ((q_ltI x 0).mp h) H locs la hP hD hS hl) (fun h => kf (by have h2 := mt (q_ltI x 0).mpr h; have h0 : (0 : Int32).toInt = 0 := rfl; omega) H locs la hP hD hS hl)
theorem q_icmp_lt {G : q_g} {X : q_cx} {I : q_in} {w : q_wd} {cn : Nat × Nat} {pc : Nat} {ls : List (Option q_v)} {st : List q_v} {S : q_st} (F : q_fx G X I) {x y : Int32} {off : Int} (tgt : Nat) (hd : decode I.1 pc = .ok (.if_icmp .lt off, 3)) (ht : (pc : Int) + off = (tgt : Int)) (kt : x.toInt < y.toInt → q_W G X I w cn (tgt) ls (st) S) (kf : y.toInt ≤ x.toInt → q_W G X I w cn (pc + 3) ls (st) S) : q_W G X I w cn (pc) ls (.inl y :: .inl x :: st) S := by
  obtain ⟨p, l, e, s, m, args, below, meth, c, A, Qf⟩ := X
  obtain ⟨hx, hb, hml, hts, hown, hnm, hr, hlk, hK, hA⟩ := F
  intro H locs la hP hD hS hl
  exact lv_icmp_lt hx hb hd ht (fun h => kt ((q_ltI x y).mp h) H locs la hP hD hS hl) (fun h => kf (by have h2 := mt (q_ltI x y).mpr h; have h0 : (0 : Int32).toInt = 0 := rfl; omega) H locs la hP hD hS hl)
theorem q_if_ge {G : q_g} {X : q_cx} {I : q_in} {w : q_wd} {cn : Nat × Nat} {pc : Nat} {ls : List (Option q_v)} {st : List q_v} {S : q_st} (F : q_fx G X I) {x : Int32} {off : Int} (tgt : Nat) (hd : decode I.1 pc = .ok (.ifCond .ge off, 3)) (ht : (pc : Int) + off = (tgt : Int)) (kt : 0 ≤ x.toInt → q_W G X I w cn (tgt) ls (st) S) (kf : x.toInt < 0 → q_W G X I w cn (pc + 3) ls (st) S) : q_W G X I w cn (pc) ls (.inl x :: st) S := by
  obtain ⟨p, l, e, s, m, args, below, meth, c, A, Qf⟩ := X
  obtain ⟨hx, hb, hml, hts, hown, hnm, hr, hlk, hK, hA⟩ := F
  intro H locs la hP hD hS hl
  exact lv_if_ge hx hb hd ht (fun h => kt ((q_leI 0 x).mp h) H locs la hP hD hS hl) (fun h => kf (by have h2 := mt (q_leI 0 x).mpr h; have h0 : (0 : Int32).toInt = 0 := rfl; omega) H locs la hP hD hS hl)
theorem q_icmp_ge {G : q_g} {X : q_cx} {I : q_in} {w : q_wd} {cn : Nat × Nat} {pc : Nat} {ls : List (Option q_v)} {st : List q_v} {S : q_st} (F : q_fx G X I) {x y : Int32} {off : Int} (tgt : Nat) (hd : decode I.1 pc = .ok (.if_icmp .ge off, 3)) (ht : (pc : Int) + off = (tgt : Int)) (kt : y.toInt ≤ x.toInt → q_W G X I w cn (tgt) ls (st) S) (kf : x.toInt < y.toInt → q_W G X I w cn (pc + 3) ls (st) S) : q_W G X I w cn (pc) ls (.inl y :: .inl x :: st) S := by
  obtain ⟨p, l, e, s, m, args, below, meth, c, A, Qf⟩ := X
  obtain ⟨hx, hb, hml, hts, hown, hnm, hr, hlk, hK, hA⟩ := F
  intro H locs la hP hD hS hl
  exact lv_icmp_ge hx hb hd ht (fun h => kt ((q_leI y x).mp h) H locs la hP hD hS hl) (fun h => kf (by have h2 := mt (q_leI y x).mpr h; have h0 : (0 : Int32).toInt = 0 := rfl; omega) H locs la hP hD hS hl)
theorem q_if_gt {G : q_g} {X : q_cx} {I : q_in} {w : q_wd} {cn : Nat × Nat} {pc : Nat} {ls : List (Option q_v)} {st : List q_v} {S : q_st} (F : q_fx G X I) {x : Int32} {off : Int} (tgt : Nat) (hd : decode I.1 pc = .ok (.ifCond .gt off, 3)) (ht : (pc : Int) + off = (tgt : Int)) (kt : 0 < x.toInt → q_W G X I w cn (tgt) ls (st) S) (kf : x.toInt ≤ 0 → q_W G X I w cn (pc + 3) ls (st) S) : q_W G X I w cn (pc) ls (.inl x :: st) S := by
  obtain ⟨p, l, e, s, m, args, below, meth, c, A, Qf⟩ := X
  obtain ⟨hx, hb, hml, hts, hown, hnm, hr, hlk, hK, hA⟩ := F
  intro H locs la hP hD hS hl
  exact lv_if_gt hx hb hd ht (fun h => kt ((q_ltI 0 x).mp h) H locs la hP hD hS hl) (fun h => kf (by have h2 := mt (q_ltI 0 x).mpr h; have h0 : (0 : Int32).toInt = 0 := rfl; omega) H locs la hP hD hS hl)
theorem q_icmp_gt {G : q_g} {X : q_cx} {I : q_in} {w : q_wd} {cn : Nat × Nat} {pc : Nat} {ls : List (Option q_v)} {st : List q_v} {S : q_st} (F : q_fx G X I) {x y : Int32} {off : Int} (tgt : Nat) (hd : decode I.1 pc = .ok (.if_icmp .gt off, 3)) (ht : (pc : Int) + off = (tgt : Int)) (kt : y.toInt < x.toInt → q_W G X I w cn (tgt) ls (st) S) (kf : x.toInt ≤ y.toInt → q_W G X I w cn (pc + 3) ls (st) S) : q_W G X I w cn (pc) ls (.inl y :: .inl x :: st) S := by
  obtain ⟨p, l, e, s, m, args, below, meth, c, A, Qf⟩ := X
  obtain ⟨hx, hb, hml, hts, hown, hnm, hr, hlk, hK, hA⟩ := F
  intro H locs la hP hD hS hl
  exact lv_icmp_gt hx hb hd ht (fun h => kt ((q_ltI y x).mp h) H locs la hP hD hS hl) (fun h => kf (by have h2 := mt (q_ltI y x).mpr h; have h0 : (0 : Int32).toInt = 0 := rfl; omega) H locs la hP hD hS hl)
theorem q_if_le {G : q_g} {X : q_cx} {I : q_in} {w : q_wd} {cn : Nat × Nat} {pc : Nat} {ls : List (Option q_v)} {st : List q_v} {S : q_st} (F : q_fx G X I) {x : Int32} {off : Int} (tgt : Nat) (hd : decode I.1 pc = .ok (.ifCond .le off, 3)) (ht : (pc : Int) + off = (tgt : Int)) (kt : x.toInt ≤ 0 → q_W G X I w cn (tgt) ls (st) S) (kf : 0 < x.toInt → q_W G X I w cn (pc + 3) ls (st) S) : q_W G X I w cn (pc) ls (.inl x :: st) S := by
  obtain ⟨p, l, e, s, m, args, below, meth, c, A, Qf⟩ := X
  obtain ⟨hx, hb, hml, hts, hown, hnm, hr, hlk, hK, hA⟩ := F
  intro H locs la hP hD hS hl
  exact lv_if_le hx hb hd ht (fun h => kt ((q_leI x 0).mp h) H locs la hP hD hS hl) (fun h => kf (by have h2 := mt (q_leI x 0).mpr h; have h0 : (0 : Int32).toInt = 0 := rfl; omega) H locs la hP hD hS hl)
theorem q_icmp_le {G : q_g} {X : q_cx} {I : q_in} {w : q_wd} {cn : Nat × Nat} {pc : Nat} {ls : List (Option q_v)} {st : List q_v} {S : q_st} (F : q_fx G X I) {x y : Int32} {off : Int} (tgt : Nat) (hd : decode I.1 pc = .ok (.if_icmp .le off, 3)) (ht : (pc : Int) + off = (tgt : Int)) (kt : x.toInt ≤ y.toInt → q_W G X I w cn (tgt) ls (st) S) (kf : y.toInt < x.toInt → q_W G X I w cn (pc + 3) ls (st) S) : q_W G X I w cn (pc) ls (.inl y :: .inl x :: st) S := by
  obtain ⟨p, l, e, s, m, args, below, meth, c, A, Qf⟩ := X
  obtain ⟨hx, hb, hml, hts, hown, hnm, hr, hlk, hK, hA⟩ := F
  intro H locs la hP hD hS hl
  exact lv_icmp_le hx hb hd ht (fun h => kt ((q_leI x y).mp h) H locs la hP hD hS hl) (fun h => kf (by have h2 := mt (q_leI x y).mpr h; have h0 : (0 : Int32).toInt = 0 := rfl; omega) H locs la hP hD hS hl)
theorem q_goto {G : q_g} {X : q_cx} {I : q_in} {w : q_wd} {cn : Nat × Nat} {pc : Nat} {ls : List (Option q_v)} {st : List q_v} {S : q_st} (F : q_fx G X I) {off : Int} (tgt : Nat) (hd : decode I.1 pc = .ok (.goto off, 3)) (ht : (pc : Int) + off = (tgt : Int)) (kk : q_W G X I w cn (tgt) ls (st) S) : q_W G X I w cn (pc) ls (st) S := by
  obtain ⟨p, l, e, s, m, args, below, meth, c, A, Qf⟩ := X
  obtain ⟨hx, hb, hml, hts, hown, hnm, hr, hlk, hK, hA⟩ := F
  intro H locs la hP hD hS hl
  exact lv_goto hx hb hd ht (kk H locs la hP hD hS hl)
theorem q_tsw_in {G : q_g} {X : q_cx} {I : q_in} {w : q_wd} {cn : Nat × Nat} {pc : Nat} {ls : List (Option q_v)} {st : List q_v} {S : q_st} (F : q_fx G X I) {dflt lo hi : Int} {offs : Array Int} {len : Nat} {x : Int32} {off : Int} (tgt : Nat) (hd : decode I.1 pc = .ok (.tableswitch dflt lo hi offs, len)) (h1 : ¬ x.toInt < lo) (h2 : ¬ hi < x.toInt) (ho : offs[(x.toInt - lo).toNat]? = some off) (ht : (pc : Int) + off = (tgt : Int)) (kk : q_W G X I w cn (tgt) ls (st) S) : q_W G X I w cn (pc) ls (.inl x :: st) S := by
  obtain ⟨p, l, e, s, m, args, below, meth, c, A, Qf⟩ := X
  obtain ⟨hx, hb, hml, hts, hown, hnm, hr, hlk, hK, hA⟩ := F
  intro H locs la hP hD hS hl
  exact lv_tableIn hx hb hd h1 h2 ho ht (kk H locs la hP hD hS hl)
theorem q_tsw_out {G : q_g} {X : q_cx} {I : q_in} {w : q_wd} {cn : Nat × Nat} {pc : Nat} {ls : List (Option q_v)} {st : List q_v} {S : q_st} (F : q_fx G X I) {dflt lo hi : Int} {offs : Array Int} {len : Nat} {x : Int32} (tgt : Nat) (hd : decode I.1 pc = .ok (.tableswitch dflt lo hi offs, len)) (h : x.toInt < lo ∨ hi < x.toInt) (ht : (pc : Int) + dflt = (tgt : Int)) (kk : q_W G X I w cn (tgt) ls (st) S) : q_W G X I w cn (pc) ls (.inl x :: st) S := by
  obtain ⟨p, l, e, s, m, args, below, meth, c, A, Qf⟩ := X
  obtain ⟨hx, hb, hml, hts, hown, hnm, hr, hlk, hK, hA⟩ := F
  intro H locs la hP hD hS hl
  exact lv_tableOut hx hb hd h ht (kk H locs la hP hD hS hl)
theorem q_iaddN {G : q_g} {X : q_cx} {I : q_in} {w : q_wd} {cn : Nat × Nat} {pc : Nat} {ls : List (Option q_v)} {st : List q_v} {S : q_st} (F : q_fx G X I) {a b : Nat} (hd : decode I.1 pc = .ok (.iadd, 1)) (kk : q_W G X I w cn (pc + 1) ls (.inl (nI (a + b)) :: st) S) : q_W G X I w cn (pc) ls (.inl (nI b) :: .inl (nI a) :: st) S := q_iadd F hd (by rw [nI_add a b]; exact kk)
theorem q_imulN {G : q_g} {X : q_cx} {I : q_in} {w : q_wd} {cn : Nat × Nat} {pc : Nat} {ls : List (Option q_v)} {st : List q_v} {S : q_st} (F : q_fx G X I) {a b : Nat} (hd : decode I.1 pc = .ok (.imul, 1)) (kk : q_W G X I w cn (pc + 1) ls (.inl (nI (a * b)) :: st) S) : q_W G X I w cn (pc) ls (.inl (nI b) :: .inl (nI a) :: st) S := q_imul F hd (by rw [pk_mul a b]; exact kk)
theorem q_isubN {G : q_g} {X : q_cx} {I : q_in} {w : q_wd} {cn : Nat × Nat} {pc : Nat} {ls : List (Option q_v)} {st : List q_v} {S : q_st} (F : q_fx G X I) {a b : Nat} (hd : decode I.1 pc = .ok (.isub, 1)) (h : b ≤ a) (kk : q_W G X I w cn (pc + 1) ls (.inl (nI (a - b)) :: st) S) : q_W G X I w cn (pc) ls (.inl (nI b) :: .inl (nI a) :: st) S := q_isub F hd (by rw [pk_sub h]; exact kk)
theorem q_idivN {G : q_g} {X : q_cx} {I : q_in} {w : q_wd} {cn : Nat × Nat} {pc : Nat} {ls : List (Option q_v)} {st : List q_v} {S : q_st} (F : q_fx G X I) {a b : Nat} (hd : decode I.1 pc = .ok (.idiv, 1)) (ha : a < 2 ^ 31) (h0 : 0 < b) (hb : b < 2 ^ 31) (kk : q_W G X I w cn (pc + 1) ls (.inl (nI (a / b)) :: st) S) : q_W G X I w cn (pc) ls (.inl (nI b) :: .inl (nI a) :: st) S := q_idiv F hd (nI_ne0 h0 hb) (by rw [pk_div ha h0 hb]; exact kk)
theorem q_iremN {G : q_g} {X : q_cx} {I : q_in} {w : q_wd} {cn : Nat × Nat} {pc : Nat} {ls : List (Option q_v)} {st : List q_v} {S : q_st} (F : q_fx G X I) {a b : Nat} (hd : decode I.1 pc = .ok (.irem, 1)) (ha : a < 2 ^ 31) (h0 : 0 < b) (hb : b < 2 ^ 31) (kk : q_W G X I w cn (pc + 1) ls (.inl (nI (a % b)) :: st) S) : q_W G X I w cn (pc) ls (.inl (nI b) :: .inl (nI a) :: st) S := q_irem F hd (nI_ne0 h0 hb) (by rw [pk_rem ha h0 hb]; exact kk)
theorem q_icmpN_eq {G : q_g} {X : q_cx} {I : q_in} {w : q_wd} {cn : Nat × Nat} {pc : Nat} {ls : List (Option q_v)} {st : List q_v} {S : q_st} (F : q_fx G X I) {a b : Nat} {off : Int} (tgt : Nat) (hd : decode I.1 pc = .ok (.if_icmp .eq off, 3)) (ht : (pc : Int) + off = (tgt : Int)) (ha : a < 2 ^ 31) (hb : b < 2 ^ 31) (kt : a = b → q_W G X I w cn (tgt) ls (st) S) (kf : ¬ a = b → q_W G X I w cn (pc + 3) ls (st) S) : q_W G X I w cn (pc) ls (.inl (nI b) :: .inl (nI a) :: st) S := q_icmp_eq F tgt hd ht (fun h => kt (by simpa only [nI_eq ha hb] using h)) (fun h => kf (by simpa only [nI_eq ha hb] using h))
theorem q_ifN_eq {G : q_g} {X : q_cx} {I : q_in} {w : q_wd} {cn : Nat × Nat} {pc : Nat} {ls : List (Option q_v)} {st : List q_v} {S : q_st} (F : q_fx G X I) {a : Nat} {off : Int} (tgt : Nat) (hd : decode I.1 pc = .ok (.ifCond .eq off, 3)) (ht : (pc : Int) + off = (tgt : Int)) (ha : a < 2 ^ 31) (kt : a = 0 → q_W G X I w cn (tgt) ls (st) S) (kf : ¬ a = 0 → q_W G X I w cn (pc + 3) ls (st) S) : q_W G X I w cn (pc) ls (.inl (nI a) :: st) S := q_if_eq F tgt hd ht (fun h => kt (by rw [← nI_0, nI_eq ha (by decide)] at h; exact h)) (fun h => kf (by rw [← nI_0, nI_eq ha (by decide)] at h; exact h))
theorem q_icmpN_ne {G : q_g} {X : q_cx} {I : q_in} {w : q_wd} {cn : Nat × Nat} {pc : Nat} {ls : List (Option q_v)} {st : List q_v} {S : q_st} (F : q_fx G X I) {a b : Nat} {off : Int} (tgt : Nat) (hd : decode I.1 pc = .ok (.if_icmp .ne off, 3)) (ht : (pc : Int) + off = (tgt : Int)) (ha : a < 2 ^ 31) (hb : b < 2 ^ 31) (kt : ¬ a = b → q_W G X I w cn (tgt) ls (st) S) (kf : a = b → q_W G X I w cn (pc + 3) ls (st) S) : q_W G X I w cn (pc) ls (.inl (nI b) :: .inl (nI a) :: st) S := q_icmp_ne F tgt hd ht (fun h => kt (by simpa only [nI_eq ha hb] using h)) (fun h => kf (by simpa only [nI_eq ha hb] using h))
theorem q_ifN_ne {G : q_g} {X : q_cx} {I : q_in} {w : q_wd} {cn : Nat × Nat} {pc : Nat} {ls : List (Option q_v)} {st : List q_v} {S : q_st} (F : q_fx G X I) {a : Nat} {off : Int} (tgt : Nat) (hd : decode I.1 pc = .ok (.ifCond .ne off, 3)) (ht : (pc : Int) + off = (tgt : Int)) (ha : a < 2 ^ 31) (kt : ¬ a = 0 → q_W G X I w cn (tgt) ls (st) S) (kf : a = 0 → q_W G X I w cn (pc + 3) ls (st) S) : q_W G X I w cn (pc) ls (.inl (nI a) :: st) S := q_if_ne F tgt hd ht (fun h => kt (by rw [← nI_0, nI_eq ha (by decide)] at h; exact h)) (fun h => kf (by rw [← nI_0, nI_eq ha (by decide)] at h; exact h))
theorem q_icmpN_lt {G : q_g} {X : q_cx} {I : q_in} {w : q_wd} {cn : Nat × Nat} {pc : Nat} {ls : List (Option q_v)} {st : List q_v} {S : q_st} (F : q_fx G X I) {a b : Nat} {off : Int} (tgt : Nat) (hd : decode I.1 pc = .ok (.if_icmp .lt off, 3)) (ht : (pc : Int) + off = (tgt : Int)) (ha : a < 2 ^ 31) (hb : b < 2 ^ 31) (kt : a < b → q_W G X I w cn (tgt) ls (st) S) (kf : b ≤ a → q_W G X I w cn (pc + 3) ls (st) S) : q_W G X I w cn (pc) ls (.inl (nI b) :: .inl (nI a) :: st) S := q_icmp_lt F tgt hd ht (fun h => kt (by rw [nI_toInt ha, nI_toInt hb] at h; omega)) (fun h => kf (by rw [nI_toInt ha, nI_toInt hb] at h; omega))
theorem q_ifN_lt {G : q_g} {X : q_cx} {I : q_in} {w : q_wd} {cn : Nat × Nat} {pc : Nat} {ls : List (Option q_v)} {st : List q_v} {S : q_st} (F : q_fx G X I) {a : Nat} {off : Int} (tgt : Nat) (hd : decode I.1 pc = .ok (.ifCond .lt off, 3)) (ht : (pc : Int) + off = (tgt : Int)) (ha : a < 2 ^ 31) (kt : a < 0 → q_W G X I w cn (tgt) ls (st) S) (kf : 0 ≤ a → q_W G X I w cn (pc + 3) ls (st) S) : q_W G X I w cn (pc) ls (.inl (nI a) :: st) S := q_if_lt F tgt hd ht (fun h => kt (by rw [nI_toInt ha] at h; omega)) (fun h => kf (by rw [nI_toInt ha] at h; omega))
theorem q_icmpN_ge {G : q_g} {X : q_cx} {I : q_in} {w : q_wd} {cn : Nat × Nat} {pc : Nat} {ls : List (Option q_v)} {st : List q_v} {S : q_st} (F : q_fx G X I) {a b : Nat} {off : Int} (tgt : Nat) (hd : decode I.1 pc = .ok (.if_icmp .ge off, 3)) (ht : (pc : Int) + off = (tgt : Int)) (ha : a < 2 ^ 31) (hb : b < 2 ^ 31) (kt : b ≤ a → q_W G X I w cn (tgt) ls (st) S) (kf : a < b → q_W G X I w cn (pc + 3) ls (st) S) : q_W G X I w cn (pc) ls (.inl (nI b) :: .inl (nI a) :: st) S := q_icmp_ge F tgt hd ht (fun h => kt (by rw [nI_toInt ha, nI_toInt hb] at h; omega)) (fun h => kf (by rw [nI_toInt ha, nI_toInt hb] at h; omega))
theorem q_ifN_ge {G : q_g} {X : q_cx} {I : q_in} {w : q_wd} {cn : Nat × Nat} {pc : Nat} {ls : List (Option q_v)} {st : List q_v} {S : q_st} (F : q_fx G X I) {a : Nat} {off : Int} (tgt : Nat) (hd : decode I.1 pc = .ok (.ifCond .ge off, 3)) (ht : (pc : Int) + off = (tgt : Int)) (ha : a < 2 ^ 31) (kt : 0 ≤ a → q_W G X I w cn (tgt) ls (st) S) (kf : a < 0 → q_W G X I w cn (pc + 3) ls (st) S) : q_W G X I w cn (pc) ls (.inl (nI a) :: st) S := q_if_ge F tgt hd ht (fun h => kt (by rw [nI_toInt ha] at h; omega)) (fun h => kf (by rw [nI_toInt ha] at h; omega))
theorem q_icmpN_gt {G : q_g} {X : q_cx} {I : q_in} {w : q_wd} {cn : Nat × Nat} {pc : Nat} {ls : List (Option q_v)} {st : List q_v} {S : q_st} (F : q_fx G X I) {a b : Nat} {off : Int} (tgt : Nat) (hd : decode I.1 pc = .ok (.if_icmp .gt off, 3)) (ht : (pc : Int) + off = (tgt : Int)) (ha : a < 2 ^ 31) (hb : b < 2 ^ 31) (kt : b < a → q_W G X I w cn (tgt) ls (st) S) (kf : a ≤ b → q_W G X I w cn (pc + 3) ls (st) S) : q_W G X I w cn (pc) ls (.inl (nI b) :: .inl (nI a) :: st) S := q_icmp_gt F tgt hd ht (fun h => kt (by rw [nI_toInt ha, nI_toInt hb] at h; omega)) (fun h => kf (by rw [nI_toInt ha, nI_toInt hb] at h; omega))
theorem q_ifN_gt {G : q_g} {X : q_cx} {I : q_in} {w : q_wd} {cn : Nat × Nat} {pc : Nat} {ls : List (Option q_v)} {st : List q_v} {S : q_st} (F : q_fx G X I) {a : Nat} {off : Int} (tgt : Nat) (hd : decode I.1 pc = .ok (.ifCond .gt off, 3)) (ht : (pc : Int) + off = (tgt : Int)) (ha : a < 2 ^ 31) (kt : 0 < a → q_W G X I w cn (tgt) ls (st) S) (kf : a ≤ 0 → q_W G X I w cn (pc + 3) ls (st) S) : q_W G X I w cn (pc) ls (.inl (nI a) :: st) S := q_if_gt F tgt hd ht (fun h => kt (by rw [nI_toInt ha] at h; omega)) (fun h => kf (by rw [nI_toInt ha] at h; omega))
theorem q_icmpN_le {G : q_g} {X : q_cx} {I : q_in} {w : q_wd} {cn : Nat × Nat} {pc : Nat} {ls : List (Option q_v)} {st : List q_v} {S : q_st} (F : q_fx G X I) {a b : Nat} {off : Int} (tgt : Nat) (hd : decode I.1 pc = .ok (.if_icmp .le off, 3)) (ht : (pc : Int) + off = (tgt : Int)) (ha : a < 2 ^ 31) (hb : b < 2 ^ 31) (kt : a ≤ b → q_W G X I w cn (tgt) ls (st) S) (kf : b < a → q_W G X I w cn (pc + 3) ls (st) S) : q_W G X I w cn (pc) ls (.inl (nI b) :: .inl (nI a) :: st) S := q_icmp_le F tgt hd ht (fun h => kt (by rw [nI_toInt ha, nI_toInt hb] at h; omega)) (fun h => kf (by rw [nI_toInt ha, nI_toInt hb] at h; omega))
theorem q_ifN_le {G : q_g} {X : q_cx} {I : q_in} {w : q_wd} {cn : Nat × Nat} {pc : Nat} {ls : List (Option q_v)} {st : List q_v} {S : q_st} (F : q_fx G X I) {a : Nat} {off : Int} (tgt : Nat) (hd : decode I.1 pc = .ok (.ifCond .le off, 3)) (ht : (pc : Int) + off = (tgt : Int)) (ha : a < 2 ^ 31) (kt : a ≤ 0 → q_W G X I w cn (tgt) ls (st) S) (kf : 0 < a → q_W G X I w cn (pc + 3) ls (st) S) : q_W G X I w cn (pc) ls (.inl (nI a) :: st) S := q_if_le F tgt hd ht (fun h => kt (by rw [nI_toInt ha] at h; omega)) (fun h => kf (by rw [nI_toInt ha] at h; omega))
theorem q_top {G : q_g} {X : q_cx} {I : q_in} {w : q_wd} {cn : Nat × Nat} {pc : Nat} {ls : List (Option q_v)} {st : List q_v} {S : q_st} {x : Int32} (y : Int32) (h : x = y) (kk : q_W G X I w cn (pc) ls (.inl y :: st) S) : q_W G X I w cn (pc) ls (.inl x :: st) S := h ▸ kk
theorem q_pc {G : q_g} {X : q_cx} {I : q_in} {w : q_wd} {cn : Nat × Nat} {pc : Nat} {ls : List (Option q_v)} {st : List q_v} {S : q_st} (pc' : Nat) (h : pc = pc') (kk : q_W G X I w cn (pc') ls (st) S) : q_W G X I w cn (pc) ls (st) S := h ▸ kk
