/-! rows of my machine: fields, arrays, calls, answers -/
/-- a field's link: owner, place in its pool; the class's number in vwCl, the field's slot -/
def q_fk (own : String) (idx ci k : Nat) : Prop := ∃ (C : String) (T : u_T) (N : Nat), vwCl[ci]? = some (C, T, N) ∧ k < N ∧ (∀ w ∈ u_ws C T N, w ∈ q_ws) ∧ Cond.fieldLink own idx (T k).1 (T k).2.1 (T k).2.2.1 ∈ q_ws
/-- what a store into a field wants of its class -/
def q_fp (ci k : Nat) (ty : FieldType) (fin : Bool) : Prop := ∃ (C : String) (T : u_T) (N : Nat) (ty0 : Nat → FieldType), vwCl[ci]? = some (C, T, N) ∧ (∀ k, k < N → parseFieldDescriptor (T k).2.2.1 = some (ty0 k)) ∧ (∀ a, a < N → ∀ b, b < N → a ≠ b → (T a).2.1 ≠ (T b).2.1) ∧ (T k).2.2.2 = fin ∧ parseFieldDescriptor (T k).2.2.1 = some ty
section QH
variable {G : q_g} {X : q_cx} {I : q_in} {w : q_wd} {cn : Nat × Nat} {pc : Nat} {ls : List (Option q_v)} {st : List q_v} {S : q_st}
theorem q_get0 (F : q_fx G X I) {i : q_ix} {ci k idx : Nat} {fl : List (Option (Option q_ix))} {t : Option (Option q_ix)} {v : q_v} (L : q_fk I.2.1.cls idx ci k) (hi : i ∈ w.1) (hsh : w.2.2 i = .inl (ci, fl)) (hk : fl[k]? = some t) (hv : q_fld w.2.1 (S i) k t = q_val w.2.1 v) (hd : decode I.1 pc = .ok (.getfield idx, 3)) (kk : q_W G X I w cn (pc + 3) ls (v :: st) S) : q_W G X I w cn pc ls (.inr (some i) :: st) S := by
  obtain ⟨p, l, e, s, m, args, below, meth, c, A, Qf⟩ := X
  obtain ⟨hx, hb, hml, hts, hown, hnm, hr, hlk, hK, hA⟩ := F
  obtain ⟨C, T, N, hC, hN, hin, hlink⟩ := L
  intro H locs la hP hD hS hl
  obtain ⟨q0, hq⟩ := List.getElem?_of_mem hi
  have he := q_wl_at (S := S) hq
  rw [hsh] at he
  exact va_get (fs := fl.mapIdx (q_fld w.2.1 (S i))) (v := q_val w.2.1 v) hx hb hts hin hown hK hP q0 he hC k hN (hts _ hlink) (fun _ h => h) (by rw [List.getElem?_mapIdx, hk, ← hv]; rfl) hd (kk H locs la hP hD hS hl)
theorem q_geti (F : q_fx G X I) {i : q_ix} {ci k idx : Nat} {fl : List (Option (Option q_ix))} (L : q_fk I.2.1.cls idx ci k) (hi : i ∈ w.1) (hsh : w.2.2 i = .inl (ci, fl)) (hk : fl[k]? = some none) (hd : decode I.1 pc = .ok (.getfield idx, 3)) (kk : q_W G X I w cn (pc + 3) ls (.inl (S i k) :: st) S) : q_W G X I w cn pc ls (.inr (some i) :: st) S :=
  q_get0 F L hi hsh hk rfl hd kk
theorem q_getr (F : q_fx G X I) {i j : q_ix} {ci k idx : Nat} {fl : List (Option (Option q_ix))} (L : q_fk I.2.1.cls idx ci k) (hi : i ∈ w.1) (hsh : w.2.2 i = .inl (ci, fl)) (hk : fl[k]? = some (some (some j))) (hd : decode I.1 pc = .ok (.getfield idx, 3)) (kk : q_W G X I w cn (pc + 3) ls (.inr (some j) :: st) S) : q_W G X I w cn pc ls (.inr (some i) :: st) S :=
  q_get0 F L hi hsh hk rfl hd kk
theorem q_puti (F : q_fx G X I) {i : q_ix} {ci k idx : Nat} {v : Int32} {fl : List (Option (Option q_ix))} (L : q_fk I.2.1.cls idx ci k) (M : q_fp ci k .int false) (hi : i ∈ w.1) (hsh : w.2.2 i = .inl (ci, fl)) (hk : fl[k]? = some none) (hd : decode I.1 pc = .ok (.putfield idx, 3)) (kk : q_W G X I w cn (pc + 3) ls st (q_up S i k v)) : q_W G X I w cn pc ls (.inl v :: .inr (some i) :: st) S := by
  obtain ⟨p, l, e, s, m, args, below, meth, c, A, Qf⟩ := X
  obtain ⟨hx, hb, hml, hts, hown, hnm, hr, hlk, hK, hA⟩ := F
  obtain ⟨C, T, N, hC, hN, hin, hlink⟩ := L
  obtain ⟨C', T', N', ty0, hC', hty, hap, hfin, hd'⟩ := M
  cases (hC.symm.trans hC')
  intro H locs la hP hD hS hl
  obtain ⟨q0, hq⟩ := List.getElem?_of_mem hi
  have he := q_wl_at (S := S) hq
  rw [hsh] at he
  refine va_put (fs := fl.mapIdx (q_fld w.2.1 (S i))) (v := .int v) (ty := .int) hx hb hts hin ty0 hty hap hown hK hP hD hS q0 he hC k hN (hts _ hlink) (fun _ h => h) hfin hd' rfl rfl (by rw [List.length_mapIdx]; exact (List.getElem?_eq_some_iff.mp hk).1) hd (fun H1 locs1 hP1 hD1 hS1 => ?_)
  rw [q_set (S' := q_up S i k v) hD hq (by rw [hsh, q_up_self]; show Sum.inr (ci, _) = _; rw [q_fld_set hk]) (fun j hj => q_up_other S i k v j hj)] at hP1 hD1
  exact kk H1 locs1 la hP1 hD1 hS1 hl
theorem q_iald (F : q_fx G X I) {i : q_ix} {n : Nat} {x : Int32} (k : Nat) (hi : i ∈ w.1) (hsh : w.2.2 i = .inr (.inl (G.2.1, n))) (hx0 : x = nI k) (hk : k < n) (hn : n < 2 ^ 31) (hd : decode I.1 pc = .ok (.iaload, 1)) (kk : q_W G X I w cn (pc + 1) ls (.inl (S i k) :: st) S) : q_W G X I w cn pc ls (.inl x :: .inr (some i) :: st) S := by
  obtain ⟨p, l, e, s, m, args, below, meth, c, A, Qf⟩ := X
  obtain ⟨hx, hb, hml, hts, hown, hnm, hr, hlk, hK, hA⟩ := F
  subst hx0
  intro H locs la hP hD hS hl
  obtain ⟨q0, hq⟩ := List.getElem?_of_mem hi
  have he := q_wl_at (S := S) hq
  rw [hsh] at he
  have hk' := kk H locs la hP hD hS hl
  refine va_iald (n := n) (f := S i) hx hb hK hP q0 0 he rfl (vp_in_nI hk hn) hd ?_
  rw [nI_clamp (by omega)]
  exact hk'
theorem q_iast (F : q_fx G X I) {i : q_ix} {n : Nat} {x v : Int32} (k : Nat) (hi : i ∈ w.1) (hsh : w.2.2 i = .inr (.inl (G.2.1, n))) (hx0 : x = nI k) (hk : k < n) (hn : n < 2 ^ 31) (hd : decode I.1 pc = .ok (.iastore, 1)) (kk : q_W G X I w cn (pc + 1) ls st (q_up S i k v)) : q_W G X I w cn pc ls (.inl v :: .inl x :: .inr (some i) :: st) S := by
  obtain ⟨p, l, e, s, m, args, below, meth, c, A, Qf⟩ := X
  obtain ⟨hx, hb, hml, hts, hown, hnm, hr, hlk, hK, hA⟩ := F
  subst hx0
  intro H locs la hP hD hS hl
  obtain ⟨q0, hq⟩ := List.getElem?_of_mem hi
  have he := q_wl_at (S := S) hq
  rw [hsh] at he
  refine va_iast (n := n) (f := S i) hx hb hK hP hD hS q0 0 he rfl (vp_in_nI hk hn) hd (fun H1 locs1 hP1 hD1 hS1 => ?_)
  rw [nI_clamp (by omega)] at hP1 hD1
  rw [q_set (S' := q_up S i k v) hD hq (by rw [hsh, q_up_self]; rfl) (fun j hj => q_up_other S i k v j hj)] at hP1 hD1
  exact kk H1 locs1 la hP1 hD1 hS1 hl
theorem q_aald (F : q_fx G X I) {i j : q_ix} {n : Nat} {x : Int32} {f : Nat → Option q_ix} (k : Nat) (hi : i ∈ w.1) (hsh : w.2.2 i = .inr (.inr (G.2.2, n, f))) (hx0 : x = nI k) (hk : k < n) (hn : n < 2 ^ 31) (hf : f k = some j) (hd : decode I.1 pc = .ok (.aaload, 1)) (kk : q_W G X I w cn (pc + 1) ls (.inr (some j) :: st) S) : q_W G X I w cn pc ls (.inl x :: .inr (some i) :: st) S := by
  obtain ⟨p, l, e, s, m, args, below, meth, c, A, Qf⟩ := X
  obtain ⟨hx, hb, hml, hts, hown, hnm, hr, hlk, hK, hA⟩ := F
  subst hx0
  intro H locs la hP hD hS hl
  obtain ⟨q0, hq⟩ := List.getElem?_of_mem hi
  have he := q_wl_at (S := S) hq
  rw [hsh] at he
  have hk' := kk H locs la hP hD hS hl
  refine va_aldq (C := "BranchingKernel$Proc") (n := n) (f := fun j => (f j).map w.2.1) hx hb hK hP q0 1 he rfl (vp_in_nI hk hn) hd ?_
  rw [nI_clamp (by omega)]
  show W _ _ _ _ _ _ _ _ _ _ _ _ _ _ _ (F0 m (pc + 1) la (va_rf ((f k).map w.2.1) :: st.map (q_val w.2.1)))
  rw [hf]
  exact hk'
/-- the ends of methods that make no cell -/
def q_pi (w : q_wd) (P : Int32 → q_st → Prop) : q_post := fun r w' S' => w' = w ∧ ∃ v, r = some (.inl v) ∧ P v S'
def q_pv (w : q_wd) (P : q_st → Prop) : q_post := fun r w' S' => w' = w ∧ r = none ∧ P S'
theorem q_iret0 (F : q_fx G X I) {post : q_post} (E : q_en G X I post) {v : Int32} {ty : FieldType} (hret : I.2.2.2.1 = some ty) (hn : narrow ty (.int v) = .int v) (hc : cn.1 ≤ I.2.2.2.2.cells ∧ cn.2 ≤ I.2.2.2.2.slots) (hp : post (some (.inl v)) w S) (hd : decode I.1 pc = .ok (.ireturn, 1)) : q_W G X I w cn pc ls [.inl v] S := by
  obtain ⟨p, l, e, s, m, args, below, meth, c, A, Qf⟩ := X
  obtain ⟨hx, hb, hml, hts, hown, hnm, hr, hlk, hK, hA⟩ := F
  change Qf = _ at E
  subst E
  intro H locs la hP hD hS hl
  refine W.widen hc.1 hc.2 ?_
  exact W.zret (v := v) hx hb (hr.trans hret) hn (fun t ht hW => ⟨⟨some (.inl v), w, S, rfl, hp, by rw [ht]; exact hP, va_K.moved hW.alike hK, hD⟩, hS.F ht⟩) hS.2.2 hd hlk
theorem q_vret0 (F : q_fx G X I) {post : q_post} (E : q_en G X I post) (hret : I.2.2.2.1 = none) (hc : cn.1 ≤ I.2.2.2.2.cells ∧ cn.2 ≤ I.2.2.2.2.slots) (hp : post none w S) (hd : decode I.1 pc = .ok (.return_, 1)) : q_W G X I w cn pc ls [] S := by
  obtain ⟨p, l, e, s, m, args, below, meth, c, A, Qf⟩ := X
  obtain ⟨hx, hb, hml, hts, hown, hnm, hr, hlk, hK, hA⟩ := F
  change Qf = _ at E
  subst E
  intro H locs la hP hD hS hl
  refine W.widen hc.1 hc.2 ?_
  exact W.vret hx hb (hr.trans hret) (fun t ht hW => ⟨⟨none, w, S, rfl, hp, by rw [ht]; exact hP, va_K.moved hW.alike hK, hD⟩, hS.F ht⟩) hS.2.2 hd hlk
theorem q_iret (F : q_fx G X I) {v : Int32} {P : Int32 → q_st → Prop} (E : q_en G X I (q_pi w P)) (hret : I.2.2.2.1 = some .int) (hp : P v S) (hd : decode I.1 pc = .ok (.ireturn, 1)) : q_W G X I w (0, 0) pc ls [.inl v] S :=
  q_iret0 F E hret rfl ⟨Nat.zero_le _, Nat.zero_le _⟩ ⟨rfl, v, rfl, hp⟩ hd
theorem q_zret (F : q_fx G X I) {v : Int32} {P : Int32 → q_st → Prop} (E : q_en G X I (q_pi w P)) (hret : I.2.2.2.1 = some .boolean) (hn : narrow .boolean (.int v) = .int v) (hp : P v S) (hd : decode I.1 pc = .ok (.ireturn, 1)) : q_W G X I w (0, 0) pc ls [.inl v] S :=
  q_iret0 F E hret hn ⟨Nat.zero_le _, Nat.zero_le _⟩ ⟨rfl, v, rfl, hp⟩ hd
theorem q_vret (F : q_fx G X I) {P : q_st → Prop} (E : q_en G X I (q_pv w P)) (hret : I.2.2.2.1 = none) (hp : P S) (hd : decode I.1 pc = .ok (.return_, 1)) : q_W G X I w (0, 0) pc ls [] S :=
  q_vret0 F E hret ⟨Nat.zero_le _, Nat.zero_le _⟩ ⟨rfl, rfl, hp⟩ hd
/-- a call's words: the caller's owner, the place in its pool, the callee -/
def q_cb (own : String) (idx n : Nat) (J : q_in) : Prop := Cond.methodLink own idx J.2.1 ∈ q_ws ∧ Cond.initialized J.2.1.cls ∈ q_ws ∧ Cond.code J.2.1 J.1 J.2.2.1 J.2.2.2.1 ∈ q_ws ∧ J.2.1.cls ≠ "java/lang/invoke/MethodHandle" ∧ J.2.1.cls ≠ "java/lang/invoke/VarHandle" ∧ (parseMethodDescriptor J.2.1.desc).map (fun d => d.parameters.length) = some n
def q_cv (own : String) (idx n : Nat) (J : q_in) : Prop := q_cb own idx n J ∧ Cond.instanceMethod J.2.1 ∈ q_ws ∧ Cond.selects J.2.1.cls J.2.1 J.2.1 ∈ q_ws
def q_cs (own : String) (idx n : Nat) (J : q_in) : Prop := q_cb own idx n J ∧ Cond.static J.2.1 ∈ q_ws
/-- the callee's room in the caller's -/
def q_rm (I J : q_in) : Prop := J.2.2.2.2.frames + 1 ≤ I.2.2.2.2.frames ∧ 8 + (J.2.2.1 + 11) + J.2.2.2.2.locals ≤ I.2.2.2.2.locals
theorem q_gin {J : q_in} (h : Cond.code J.2.1 J.1 J.2.2.1 J.2.2.2.1 ∈ q_ws) : GoodIn q_ws (Cond.code J.2.1 J.1 J.2.2.1 J.2.2.2.1 :: q_ws) := by
  intro w hw
  rcases List.mem_cons.mp hw with rfl | hw
  · exact ⟨h, q_ws_good h⟩
  · exact ⟨hw, q_ws_good hw⟩
theorem q_catsum (ad : q_ix → Nat) (l : List q_v) : ((l.map (q_val ad)).map fun v => v.category).sum = l.length := by
  induction l with
  | nil => rfl
  | cons a t ih => simp only [List.map_cons, List.sum_cons, ih, q_val_cat, List.length_cons]; omega
/-- behind a call: from the machine's run to mine -/
theorem q_back {p : Program} {l : Launch} {e : Env} {s : State} {m : MethodId} {args : Array Value} {below : List Frame} {meth : Method} {c : Code} {A : Nat → Prop} {Qf : State → Prop} {H : Heap} {locs : List Loc} {la : Array Slot} {mc ms : Nat} {st0 : List Value} {a : Array Value} {post1 : q_post}
    (hr : va_Run p l e I.2.2.2.2 s m args below meth c H locs cn.1 cn.2 mc ms (F0 m pc la st0) (st.map (q_val w.2.1)) (q_Q G (va_A (q_wl w S) H.size) post1 a) (va_A (q_wl w S) H.size)) (hP : va_P G.1 vwCl (q_wl w S) H) (hD : va_D A (q_wl w S)) (hS : va_S A s.heap H locs) (hA : ∀ q : Nat, s.heap.size ≤ q → A q) (hl : q_lo la I.2.2.1 w.2.1 ls)
    (hkeep : ∀ r w' S', post1 r w' S' → (∀ i : q_ix, (∃ k : Nat, ls[k]? = some (some (Sum.inr (some i)))) ∨ (Sum.inr (some i) : q_v) ∈ st → w'.2.1 i = w.2.1 i))
    (kk : ∀ r w' S', post1 r w' S' → q_W G (p, l, e, s, m, args, below, meth, c, A, Qf) I w' (cn.1 + mc, cn.2 + ms) (pc + 3) ls (r.toList ++ st) S') : W p l e I.2.2.2.2 s m args below meth c H locs cn.1 cn.2 Qf (F0 m pc la st0) := by
  intro T hT XX
  obtain ⟨v, st₀, t, T', L, h0, X', hL, e1, e2, ⟨⟨r, w', S', hv, hp, hP1, hK1, hD1⟩, hz, hkp⟩, sts⟩ := hr T hT XX
  cases hv
  rw [h0] at hz hkp
  have hF : ∀ q, va_A (q_wl w S) H.size q → A q := by
    intro q h
    rcases h with ⟨k, e, h⟩ | h
    · exact hD.2 k (q, e) h
    · exact hA q (Nat.le_trans hS.1 h)
  have had := hkeep r w' S' hp
  have hval : ∀ u : q_v, (∃ k : Nat, ls[k]? = some (some u)) ∨ u ∈ st → q_val w.2.1 u = q_val w'.2.1 u := by
    intro u hu
    rcases u with x | (_ | i)
    · rfl
    · rfl
    · show Value.ref _ = Value.ref _
      rw [had i hu]
  have hl' : q_lo la I.2.2.1 w'.2.1 ls := q_lo_of hl (fun i u hi => ⟨u, hi, hval u (Or.inl ⟨i, hi⟩)⟩)
  have hst : st.map (q_val w.2.1) = st.map (q_val w'.2.1) := List.map_congr_left (fun u hu => hval u (Or.inr hu))
  have hS' : va_S A s.heap T'.heap (locs ++ L) := ⟨Nat.le_trans hS.1 (by rw [e1]; exact hz), fun q h1 h2 => by rw [e1, hkp q (Nat.lt_of_lt_of_le h1 hS.1) (fun z => h2 (hF q z))]; exact hS.2.1 q h1 h2, fun q hq => by
      rcases List.mem_append.mp hq with h | h
      · exact hS.2.2 q h
      · exact hF _ (hL q h)⟩
  obtain ⟨t2, a1, b1⟩ := kk r w' S' hp T'.heap (locs ++ L) la (by rw [e1]; exact hP1) (hD1.weaken (fun _ q _ h => hF q.1 h)) hS' hl' T' rfl X'
  refine ⟨t2, sts t2 ?_, b1⟩
  have e3 : (r.toList ++ st).map (q_val w'.2.1) = (Option.map (q_val w'.2.1) r).toList ++ st.map (q_val w.2.1) := by
    rw [List.map_append, hst]
    cases r <;> rfl
  rw [e3] at a1
  exact a1
theorem q_callV (F : q_fx G X I) {J : q_in} {idx n ci : Nat} {b : q_ix} {av : List q_v} {st0 : List q_v} {fl : List (Option (Option q_ix))} {T : u_T} {N : Nat} {post1 : q_post} (hM : ∀ l, q_Ct l G J (.inr (some b) :: av) w S post1) (L : q_cv I.2.1.cls idx n J) (hst : st0 = av.reverse ++ .inr (some b) :: st) (hb : b ∈ w.1) (hsh : w.2.2 b = .inl (ci, fl)) (hC : vwCl[ci]? = some (J.2.1.cls, T, N)) (hn : av.length = n) (hR : q_rm I J) (hlen : st.length ≤ 8) (hf : cn.1 + J.2.2.2.2.cells ≤ I.2.2.2.2.cells ∧ cn.2 + J.2.2.2.2.slots ≤ I.2.2.2.2.slots) (hd : decode I.1 pc = .ok (.invokevirtual idx, 3))
    (hkeep : ∀ r w' S', post1 r w' S' → (∀ i : q_ix, (∃ k : Nat, ls[k]? = some (some (Sum.inr (some i)))) ∨ (Sum.inr (some i) : q_v) ∈ st → w'.2.1 i = w.2.1 i))
    (kk : ∀ r w' S', post1 r w' S' → q_W G X I w' (cn.1 + J.2.2.2.2.cells, cn.2 + J.2.2.2.2.slots) (pc + 3) ls (r.toList ++ st) S') : q_W G X I w cn pc ls st0 S := by
  obtain ⟨p, l, e, s, m, args, below, meth, c, A, Qf⟩ := X
  obtain ⟨hx, hbb, hml, hts, hown, hnm, hr, hlk, hK, hA⟩ := F
  obtain ⟨⟨c1, c2, c3, c4, c5, c6⟩, c7, c8⟩ := L
  intro H locs la hP hD hS hl
  obtain ⟨q0, hq⟩ := List.getElem?_of_mem hb
  have he := q_wl_at (S := S) hq
  rw [hsh] at he
  subst hst
  have cw : CallW I.2.2.2.2 s args I.2.1.cls J.2.1.cls idx J.2.1 J.1 J.2.2.1 J.2.2.2.1 (Cond.code J.2.1 J.1 J.2.2.1 J.2.2.2.1 :: q_ws) J.2.2.2.2 J.2.2.2.2.cells J.2.2.2.2.slots n :=
    ⟨callB_of n hts (q_gin c3) rfl rfl rfl (hts _ c2) (hts _ c1) ⟨c4, c5, c6⟩ hR, hts _ c7, hts _ c8⟩
  refine q_back (va_runV (As := av.map (q_val w.2.1)) (b := w.2.1 b) ⟨hx, hbb, hml, hown, hts⟩ (hM l H.size) cw ⟨fun a U g mk q => ?_, va_recv hK hP hC he, fun U hU hW => ⟨rfl, by rw [hU], by rw [hU]; exact hP, va_K.moved hW.alike hK, hD.weaken (fun _ _ _ _ => trivial)⟩⟩ rfl (by rw [List.length_map]; exact hn) hl.1 ?_ ?_ hd hf) hP hD hS hA hl hkeep kk
  · obtain ⟨q0, q1, qP, qK, qD⟩ := q
    exact ⟨q0, q1, qP, va_K.moved (u := U) (U := U.calling g mk a) (Vm.Alike.refl U.vm) qK, qD⟩
  · show List.map (q_val w.2.1) (av.reverse ++ .inr (some b) :: st) = _
    rw [List.map_append, List.map_reverse]
    rfl
  · exact lv_room (by rw [q_catsum]; exact hlen)
theorem q_callS (F : q_fx G X I) {J : q_in} {idx n : Nat} {av : List q_v} {st0 : List q_v} {post1 : q_post} (hM : ∀ l, q_Ct l G J av w S post1) (L : q_cs I.2.1.cls idx n J) (hst : st0 = av.reverse ++ st) (hn : av.length = n) (hR : q_rm I J) (hlen : st.length ≤ 8) (hf : cn.1 + J.2.2.2.2.cells ≤ I.2.2.2.2.cells ∧ cn.2 + J.2.2.2.2.slots ≤ I.2.2.2.2.slots) (hd : decode I.1 pc = .ok (.invokestatic idx, 3))
    (hkeep : ∀ r w' S', post1 r w' S' → (∀ i : q_ix, (∃ k : Nat, ls[k]? = some (some (Sum.inr (some i)))) ∨ (Sum.inr (some i) : q_v) ∈ st → w'.2.1 i = w.2.1 i))
    (kk : ∀ r w' S', post1 r w' S' → q_W G X I w' (cn.1 + J.2.2.2.2.cells, cn.2 + J.2.2.2.2.slots) (pc + 3) ls (r.toList ++ st) S') : q_W G X I w cn pc ls st0 S := by
  obtain ⟨p, l, e, s, m, args, below, meth, c, A, Qf⟩ := X
  obtain ⟨hx, hbb, hml, hts, hown, hnm, hr, hlk, hK, hA⟩ := F
  obtain ⟨⟨c1, c2, c3, c4, c5, c6⟩, c7⟩ := L
  intro H locs la hP hD hS hl
  subst hst
  have cw : CallB I.2.2.2.2 s args I.2.1.cls idx J.2.1 J.1 J.2.2.1 J.2.2.2.1 (Cond.code J.2.1 J.1 J.2.2.1 J.2.2.2.1 :: q_ws) J.2.2.2.2 J.2.2.2.2.cells J.2.2.2.2.slots n :=
    callB_of n hts (q_gin c3) rfl rfl rfl (hts _ c2) (hts _ c1) ⟨c4, c5, c6⟩ hR
  refine q_back (va_runS (As := av.map (q_val w.2.1)) ⟨hx, hbb, hml, hown, hts⟩ (hM l H.size) ⟨cw, hts _ c7⟩ ⟨fun a U g mk q => ?_, fun U hU hW => ⟨rfl, by rw [hU], by rw [hU]; exact hP, va_K.moved hW.alike hK, hD.weaken (fun _ _ _ _ => trivial)⟩⟩ rfl (by rw [List.length_map]; exact hn) hl.1 ?_ ?_ hd hf) hP hD hS hA hl hkeep kk
  · obtain ⟨q0, q1, qP, qK, qD⟩ := q
    exact ⟨q0, q1, qP, va_K.moved (u := U) (U := U.calling g mk a) (Vm.Alike.refl U.vm) qK, qD⟩
  · show List.map (q_val w.2.1) (av.reverse ++ st) = _
    rw [List.map_append, List.map_reverse]
  · exact lv_room (by rw [q_catsum]; exact hlen)
/-- calls of methods that make no cell -/
theorem q_callVi (F : q_fx G X I) {J : q_in} {idx n ci : Nat} {b : q_ix} {fl : List (Option (Option q_ix))} {T : u_T} {N : Nat} {P : Int32 → q_st → Prop} (av : List q_v) {st0 : List q_v} (hM : ∀ l, q_Ct l G J (.inr (some b) :: av) w S (q_pi w P)) (L : q_cv I.2.1.cls idx n J) (hst : st0 = av.reverse ++ .inr (some b) :: st) (hb : b ∈ w.1) (hsh : w.2.2 b = .inl (ci, fl)) (hC : vwCl[ci]? = some (J.2.1.cls, T, N)) (hn : av.length = n) (hR : q_rm I J) (hlen : st.length ≤ 8) (hf : J.2.2.2.2.cells = 0 ∧ J.2.2.2.2.slots = 0) (hc : cn.1 ≤ I.2.2.2.2.cells ∧ cn.2 ≤ I.2.2.2.2.slots) (hd : decode I.1 pc = .ok (.invokevirtual idx, 3))
    (kk : ∀ v S', P v S' → q_W G X I w cn (pc + 3) ls (.inl v :: st) S') : q_W G X I w cn pc ls st0 S := by
  refine q_callV F hM L hst hb hsh hC hn hR hlen (by rw [hf.1, hf.2]; exact hc) hd (fun r w' S' h i _ => by rw [h.1]) (fun r w' S' h => ?_)
  obtain ⟨rfl, v, rfl, h⟩ := h
  rw [hf.1, hf.2]
  exact kk v S' h
theorem q_callVv (F : q_fx G X I) {J : q_in} {idx n ci : Nat} {b : q_ix} {fl : List (Option (Option q_ix))} {T : u_T} {N : Nat} {P : q_st → Prop} (av : List q_v) {st0 : List q_v} (hM : ∀ l, q_Ct l G J (.inr (some b) :: av) w S (q_pv w P)) (L : q_cv I.2.1.cls idx n J) (hst : st0 = av.reverse ++ .inr (some b) :: st) (hb : b ∈ w.1) (hsh : w.2.2 b = .inl (ci, fl)) (hC : vwCl[ci]? = some (J.2.1.cls, T, N)) (hn : av.length = n) (hR : q_rm I J) (hlen : st.length ≤ 8) (hf : J.2.2.2.2.cells = 0 ∧ J.2.2.2.2.slots = 0) (hc : cn.1 ≤ I.2.2.2.2.cells ∧ cn.2 ≤ I.2.2.2.2.slots) (hd : decode I.1 pc = .ok (.invokevirtual idx, 3))
    (kk : ∀ S', P S' → q_W G X I w cn (pc + 3) ls st S') : q_W G X I w cn pc ls st0 S := by
  refine q_callV F hM L hst hb hsh hC hn hR hlen (by rw [hf.1, hf.2]; exact hc) hd (fun r w' S' h i _ => by rw [h.1]) (fun r w' S' h => ?_)
  obtain ⟨rfl, rfl, h⟩ := h
  rw [hf.1, hf.2]
  exact kk S' h
theorem q_callSi (F : q_fx G X I) {J : q_in} {idx n : Nat} {P : Int32 → q_st → Prop} (av : List q_v) {st0 : List q_v} (hM : ∀ l, q_Ct l G J av w S (q_pi w P)) (L : q_cs I.2.1.cls idx n J) (hst : st0 = av.reverse ++ st) (hn : av.length = n) (hR : q_rm I J) (hlen : st.length ≤ 8) (hf : J.2.2.2.2.cells = 0 ∧ J.2.2.2.2.slots = 0) (hc : cn.1 ≤ I.2.2.2.2.cells ∧ cn.2 ≤ I.2.2.2.2.slots) (hd : decode I.1 pc = .ok (.invokestatic idx, 3))
    (kk : ∀ v S', P v S' → q_W G X I w cn (pc + 3) ls (.inl v :: st) S') : q_W G X I w cn pc ls st0 S := by
  refine q_callS F hM L hst hn hR hlen (by rw [hf.1, hf.2]; exact hc) hd (fun r w' S' h i _ => by rw [h.1]) (fun r w' S' h => ?_)
  obtain ⟨rfl, v, rfl, h⟩ := h
  rw [hf.1, hf.2]
  exact kk v S' h
end QH
