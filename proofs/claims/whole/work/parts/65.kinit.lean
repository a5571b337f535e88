/-! the kernel's constructor: two more words of the tables go with it -/
def q_ex (U : State) : Prop := va_AO "BranchingKernel$Proc" U ∧ va_Nw (.methodLinkNest RX3 27 yX1_init "BranchingKernel") U
def q_exX (X : q_cx) : Prop := match X with
  | (_, _, _, s, _) => q_ex s
theorem q_ex_warm {s U : State} (hW : s.WarmedH U.vm) (h : q_ex s) : q_ex U := ⟨va_AO.moved hW.alike h.1, va_Nw.warmM hW h.2⟩
def q_Cx (l : Launch) (G : q_g) (I : q_in) (av : List q_v) (w : q_wd) (S : q_st) (post : q_post) : Prop := ∀ sz : Nat, Met l I.2.1 (.code I.2.1 I.1 I.2.2.1 I.2.2.2.1 :: q_ws) I.2.2.2.2 (va_Pc (av.map (q_val w.2.1)) (fun U => (U.heap.size = sz ∧ va_P G.1 vwCl (q_wl w S) U.heap ∧ va_K G.1 vwCl (q_tys G) U ∧ va_D (fun _ => True) (q_wl w S)) ∧ q_ex U)) (q_Q G (va_A (q_wl w S) sz) post) I.2.2.2.2.cells I.2.2.2.2.slots (va_A (q_wl w S) sz)
theorem q_enterX {l : Launch} {G : q_g} {I : q_in} {av : List q_v} {w : q_wd} {S : q_st} {post : q_post} (hy : plainName I.2.1.cls = true) (ha : av.length ≤ I.2.2.1) (h : ∀ X : q_cx, q_fx G X I → q_en G X I post → q_exX X → q_W G X I w (0, 0) 0 (av.map some ++ List.replicate (I.2.2.1 - av.length) none) [] S) : q_Cx l G I av w S post := by
  intro sz
  refine Met.ofW (cc := I.1) (maxL := I.2.2.1) (ret := I.2.2.2.1) hy rfl ?_
  intro p e s m args below meth c s₁ B hml hv
  obtain ⟨rfl, ⟨hsz, hP, hK, hD0⟩, hex⟩ := hv
  have hts := atoms_spec (ws := .code I.2.1 I.1 I.2.2.1 I.2.2.2.1 :: q_ws) B.pre
  have hown : s.vm.findClass I.2.1.cls = some m.cls := findClass_of_methodNamed B.named
  have hnm : meth.name = I.2.1.name := (name_of_methodNamed B.named B.method).1
  subst hsz
  have hD := hD0.self (sz := s.heap.size)
  have hcat : ∀ (vs : List q_v), (lg_sl (vs.map (q_val w.2.1))) = vs.map (fun v => Slot.val (q_val w.2.1 v)) := by
    intro vs
    induction vs with
    | nil => rfl
    | cons v t ih =>
      have hc := q_val_cat w.2.1 v
      simp only [lg_sl, List.map_cons, List.flatMap_cons] at ih ⊢
      rw [ih, hc]
      rfl
  have hl := lv_entry (av.map (q_val w.2.1)) (n := I.2.2.1) (by rw [hcat]; simpa using ha)
  rw [lg_entry_eq]
  generalize (lg_sl (av.map (q_val w.2.1)) ++ List.replicate (I.2.2.1 - (lg_sl (av.map (q_val w.2.1))).length) Slot.unset).toArray = la at hl ⊢
  have hargs : ∀ (vs : List q_v) (k i : Nat) (v : q_v), vs[i]? = some v → (k + i, q_val w.2.1 v) ∈ lv_args k (vs.map (q_val w.2.1)) := by
    intro vs
    induction vs with
    | nil => intro k i v hv; simp at hv
    | cons u t ih =>
      intro k i v hv
      have hc : ¬ (q_val w.2.1 u).category = 2 := by rw [q_val_cat]; decide
      show _ ∈ (k, q_val w.2.1 u) :: lv_args (if (q_val w.2.1 u).category = 2 then k + 2 else k + 1) (t.map (q_val w.2.1))
      rw [if_neg hc]
      cases i with
      | zero =>
        simp at hv
        subst hv
        exact List.mem_cons_self
      | succ i =>
        refine List.mem_cons_of_mem _ ?_
        have := ih (k + 1) i v (by simpa using hv)
        rw [show k + (i + 1) = k + 1 + i by omega]
        exact this
  refine h (p, l, e, s, m, _, below, meth, c, va_A (q_wl w S) s.heap.size, _) ⟨B.exec, B.bytes, hml, fun w hw => hts w (List.mem_cons_of_mem _ hw), hown, hnm, B.returns, B.notSynchronized, hK, fun q hq => Or.inr hq⟩ rfl hex s.heap [] la hP hD va_S.rf ⟨hl.1, hl.2.1, fun q hq => ?_⟩
  obtain ⟨i, v, h1, rfl⟩ := (q_ll_mem _ 0).mp hq
  refine hl.2.2 _ ?_
  by_cases hi : i < av.length
  · rw [List.getElem?_append_left (by simpa using hi), List.getElem?_map] at h1
    cases hv : av[i]? with
    | none => rw [hv] at h1; cases h1
    | some u =>
      rw [hv] at h1
      cases h1
      exact hargs av 0 i _ hv
  · rw [List.getElem?_append_right (by simpa using hi)] at h1
    rw [List.getElem?_replicate] at h1
    split at h1 <;> cases h1

section QX
variable {G : q_g} {X : q_cx} {I : q_in} {w : q_wd} {cn : Nat × Nat} {pc : Nat} {ls : List (Option q_v)} {st : List q_v} {S : q_st}
theorem q_callX (F : q_fx G X I) {J : q_in} {idx n : Nat} {b : q_ix} {av : List q_v} {st0 : List q_v} {post1 : q_post} (hex : q_exX X) (hM : ∀ l, q_Cx l G J (.inr (some b) :: av) w S post1) (L : q_cb I.2.1.cls idx n J) (hret : J.2.2.2.1 = none) (hin : J.2.1.name = "<init>") (him : Cond.instanceMethod J.2.1 ∈ q_ws) (hst : st0 = av.reverse ++ .inr (some b) :: st) (hn : av.length = n) (hR : q_rm I J) (hlen : st.length ≤ 8) (hf : cn.1 + J.2.2.2.2.cells ≤ I.2.2.2.2.cells ∧ cn.2 + J.2.2.2.2.slots ≤ I.2.2.2.2.slots) (hd : decode I.1 pc = .ok (.invokespecial idx, 3))
    (hkeep : ∀ r w' S', post1 r w' S' → (∀ i : q_ix, (∃ k : Nat, ls[k]? = some (some (Sum.inr (some i)))) ∨ (Sum.inr (some i) : q_v) ∈ st → w'.2.1 i = w.2.1 i))
    (kk : ∀ r w' S', post1 r w' S' → q_W G X I w' (cn.1 + J.2.2.2.2.cells, cn.2 + J.2.2.2.2.slots) (pc + 3) ls (r.toList ++ st) S') : q_W G X I w cn pc ls st0 S := by
  obtain ⟨p, l, e, s, m, args, below, meth, c, A, Qf⟩ := X
  obtain ⟨hx, hbb, hml, hts, hown, hnm, hr, hlk, hK, hA⟩ := F
  obtain ⟨c1, c2, c3, c4, c5, c6⟩ := L
  intro H locs la hP hD hS hl
  subst hst
  obtain ⟨jc, jy, jn, jr, jm⟩ := J
  obtain rfl : jr = none := hret
  have cw : CallB I.2.2.2.2 s args I.2.1.cls idx jy jc jn none (Cond.code jy jc jn none :: q_ws) jm jm.cells jm.slots n :=
    callB_of n hts (q_gin (J := (jc, jy, jn, none, jm)) c3) rfl rfl rfl (hts _ c2) (hts _ c1) ⟨c4, c5, c6⟩ hR
  refine q_back (va_runI (As := av.map (q_val w.2.1)) (b := w.2.1 b) ⟨hx, hbb, hml, hown, hts⟩ (hM l H.size) ⟨cw, hin, hts _ him⟩ ⟨fun a U g mk q => ?_, fun U hU hW => ⟨rfl, ⟨by rw [hU], by rw [hU]; exact hP, va_K.moved hW.alike hK, hD.weaken (fun _ _ _ _ => trivial)⟩, q_ex_warm hW hex⟩⟩ rfl (by rw [List.length_map]; exact hn) hl.1 ?_ ?_ hd hf) hP hD hS hA hl hkeep kk
  · obtain ⟨q0, ⟨q1, qP, qK, qD⟩, qx⟩ := q
    exact ⟨q0, ⟨q1, qP, va_K.moved (u := U) (U := U.calling g mk a) (Vm.Alike.refl U.vm) qK, qD⟩, va_AO.moved (u := U) (U := U.calling g mk a) (Vm.Alike.refl U.vm) qx.1, va_Nw.same (u := U) (U := U.calling g mk a) rfl rfl qx.2⟩
  · show List.map (q_val w.2.1) (av.reverse ++ .inr (some b) :: st) = _
    rw [List.map_append, List.map_reverse]
    rfl
  · exact lv_room (by rw [q_catsum]; exact hlen)
theorem q_callN (F : q_fx G X I) {J : q_in} {idx n : Nat} {b : q_ix} {av : List q_v} {st0 : List q_v} {host : String} {post1 : q_post} (hnl : match X with | (_, _, _, s, _) => va_Nw (.methodLinkNest I.2.1.cls idx J.2.1 host) s) (hM : ∀ l, q_Ct l G J (.inr (some b) :: av) w S post1) (L : Cond.initialized J.2.1.cls ∈ q_ws ∧ Cond.code J.2.1 J.1 J.2.2.1 J.2.2.2.1 ∈ q_ws ∧ J.2.1.cls ≠ "java/lang/invoke/MethodHandle" ∧ J.2.1.cls ≠ "java/lang/invoke/VarHandle" ∧ (parseMethodDescriptor J.2.1.desc).map (fun d => d.parameters.length) = some n) (hret : J.2.2.2.1 = none) (hin : J.2.1.name = "<init>") (him : Cond.instanceMethod J.2.1 ∈ q_ws) (hst : st0 = av.reverse ++ .inr (some b) :: st) (hn : av.length = n) (hR : q_rm I J) (hlen : st.length ≤ 8) (hf : cn.1 + J.2.2.2.2.cells ≤ I.2.2.2.2.cells ∧ cn.2 + J.2.2.2.2.slots ≤ I.2.2.2.2.slots) (hd : decode I.1 pc = .ok (.invokespecial idx, 3))
    (hkeep : ∀ r w' S', post1 r w' S' → (∀ i : q_ix, (∃ k : Nat, ls[k]? = some (some (Sum.inr (some i)))) ∨ (Sum.inr (some i) : q_v) ∈ st → w'.2.1 i = w.2.1 i))
    (kk : ∀ r w' S', post1 r w' S' → q_W G X I w' (cn.1 + J.2.2.2.2.cells, cn.2 + J.2.2.2.2.slots) (pc + 3) ls (r.toList ++ st) S') : q_W G X I w cn pc ls st0 S := by
  obtain ⟨p, l, e, s, m, args, below, meth, c, A, Qf⟩ := X
  obtain ⟨hx, hbb, hml, hts, hown, hnm, hr, hlk, hK, hA⟩ := F
  obtain ⟨c2, c3, c4, c5, c6⟩ := L
  intro H locs la hP hD hS hl
  subst hst
  obtain ⟨jc, jy, jn, jr, jm⟩ := J
  obtain rfl : jr = none := hret
  have cw : va_CN I.2.2.2.2 s args I.2.1.cls idx jy host jc jn none (Cond.code jy jc jn none :: q_ws) jm jm.cells jm.slots n :=
    va_cnB n hts (q_gin (J := (jc, jy, jn, none, jm)) c3) rfl rfl rfl hnl (hts _ c2) ⟨c4, c5, c6⟩ hR
  refine q_back (va_runIN (As := av.map (q_val w.2.1)) (b := w.2.1 b) ⟨hx, hbb, hml, hown, hts⟩ (hM l H.size) ⟨cw, hin, hts _ him⟩ ⟨fun a U g mk q => ?_, fun U hU hW => ⟨rfl, by rw [hU], by rw [hU]; exact hP, va_K.moved hW.alike hK, hD.weaken (fun _ _ _ _ => trivial)⟩⟩ rfl (by rw [List.length_map]; exact hn) hl.1 ?_ ?_ hd hf) hP hD hS hA hl hkeep kk
  · obtain ⟨q0, q1, qP, qK, qD⟩ := q
    exact ⟨q0, q1, qP, va_K.moved (u := U) (U := U.calling g mk a) (Vm.Alike.refl U.vm) qK, qD⟩
  · show List.map (q_val w.2.1) (av.reverse ++ .inr (some b) :: st) = _
    rw [List.map_append, List.map_reverse]
    rfl
  · exact lv_room (by rw [q_catsum]; exact hlen)
end QX
/-- the ints of the kernel while its processes are made -/
def q_si (n p : Nat) : q_st := fun j k => if j = (1, 0) ∧ k = 0 then nI n else if j.1 = 5 ∧ j.2 < p ∧ k = 1 then -1 else if j.1 = 7 ∧ j.2 < p ∧ k < 8 then -1 else 0
theorem q_si_s (n p : Nat) : q_np (q_si n p) p = q_si n (p + 1) := by
  funext j k
  obtain ⟨j1, j2⟩ := j
  unfold q_np q_si
  simp only [Prod.mk.injEq]
  repeat' split
  all_goals first | rfl | (exfalso; omega)
/-- the kernel's world while its processes are made -/
def q_kw (G : q_g) (n p a0 a9 : Nat) (w : q_wd) : Prop := (∀ i : q_ix, i ∈ w.1 ↔ ((i.2 = 0 ∧ i.1 ≤ 4) ∨ (5 ≤ i.1 ∧ i.1 ≤ 7 ∧ i.2 < p))) ∧ q_clo w ∧ w.2.1 (0, 0) = a0 ∧ w.2.1 (99, 0) = a9 ∧ w.2.2 (0, 0) = .inl (3, [some (some (1, 0)), some (some (4, 0)), some none, some none, none, none, none]) ∧ (∀ k, 1 ≤ k → k ≤ 3 → w.2.2 (k, 0) = q_shp G n (k, 0)) ∧ w.2.2 (4, 0) = .inr (.inr (G.2.2, 8, fun k => if k < p then some (5, k) else none)) ∧ ∀ k q, 5 ≤ k → k ≤ 7 → q < p → w.2.2 (k, q) = q_shp G n (k, q)
theorem q_kw_s {G : q_g} {n p a0 a9 q : Nat} {w w2 : q_wd} (h : q_kw G n p a0 a9 w) (hx : q_ext (w.1 ++ [(5, p)], q_us w.2.1 (5, p) q, q_us w.2.2 (5, p) (.inl (2, [none, none, none, none, none, some none, some none]))) w2 [(6, p), (7, p)] (5, p)) (h5 : w2.2.2 (5, p) = .inl (2, [none, none, none, none, none, some (some (6, p)), some (some (7, p))])) (h6 : w2.2.2 (6, p) = .inr (.inl (G.2.1, 8))) (h7 : w2.2.2 (7, p) = .inr (.inl (G.2.1, 8))) : q_kw G n (p + 1) a0 a9 (w2.1, w2.2.1, q_us w2.2.2 (4, 0) (.inr (.inr (G.2.2, 8, fun m => if m = p then some (5, p) else (fun k => if k < p then some ((5, k) : q_ix) else none) m)))) := by
  obtain ⟨m1, m2, m3, m4, m5, m6, m7, m8⟩ := h
  obtain ⟨x1, x2, x3, x4⟩ := hx
  have hmem : ∀ i : q_ix, i ∈ w2.1 ↔ ((i.2 = 0 ∧ i.1 ≤ 4) ∨ (5 ≤ i.1 ∧ i.1 ≤ 7 ∧ i.2 < p + 1)) := by
    intro i
    obtain ⟨i1, i2⟩ := i
    rw [x1]
    simp only [List.mem_append, List.mem_cons, List.not_mem_nil, or_false, Prod.mk.injEq]
    rw [m1 (i1, i2)]
    simp only
    omega
  have ef : (fun m => if m = p then some (5, p) else (fun k => if k < p then some ((5, k) : q_ix) else none) m) = (fun k => if k < p + 1 then some ((5, k) : q_ix) else none) := by
    funext m
    by_cases hm : m = p
    · simp [hm]
    · by_cases hm2 : m < p
      · simp [hm, hm2, show m < p + 1 by omega]
      · simp [hm, hm2, show ¬ m < p + 1 by omega]
  rw [ef]
  have hcl : q_clo (w2.1, w2.2.1, q_us w2.2.2 (4, 0) (.inr (.inr (G.2.2, 8, fun k => if k < p + 1 then some ((5, k) : q_ix) else none)))) := by
    refine q_clo_set x3 (fun j hj k => ?_)
    intro e
    apply hj
    rw [hmem]
    simp only at e
    split at e
    · cases e; right; simp only; omega
    · cases e
  generalize hv : (Sum.inr (Sum.inr (G.2.2, 8, fun k => if k < p + 1 then some ((5, k) : q_ix) else none)) : q_sh) = v at hcl ⊢
  refine ⟨hmem, ?_, ?_, ?_, ?_, fun k h1 h3 => ?_, ?_, fun k r hk5 hk7 hr => ?_⟩
  · exact hcl
  · show w2.2.1 (0, 0) = a0
    rw [x2 _ (by simp)]
    show q_us w.2.1 (5, p) q (0, 0) = a0
    rw [q_us_n _ _ _ (by simp)]
    exact m3
  · show w2.2.1 (99, 0) = a9
    rw [x2 _ (by simp)]
    show q_us w.2.1 (5, p) q (99, 0) = a9
    rw [q_us_n _ _ _ (by simp)]
    exact m4
  · show q_us w2.2.2 (4, 0) v (0, 0) = _
    rw [q_us_n _ _ _ (by simp), x4 _ (by simp) (by simp)]
    show q_us w.2.2 (5, p) (.inl (2, [none, none, none, none, none, some none, some none])) (0, 0) = _
    rw [q_us_n _ _ _ (by simp)]
    exact m5
  · show q_us w2.2.2 (4, 0) v (k, 0) = _
    rw [q_us_n _ _ _ (by simp; omega), x4 _ (by simp; omega) (by simp; omega)]
    show q_us w.2.2 (5, p) (.inl (2, [none, none, none, none, none, some none, some none])) (k, 0) = _
    rw [q_us_n _ _ _ (by simp; omega)]
    exact m6 k h1 h3
  · show q_us w2.2.2 (4, 0) v (4, 0) = _
    rw [q_us_s]
    exact hv.symm
  · show q_us w2.2.2 (4, 0) v (k, r) = _
    rw [q_us_n _ _ _ (by simp; omega)]
    by_cases hrp : r = p
    · subst hrp
      rcases (show k = 5 ∨ k = 6 ∨ k = 7 by omega) with rfl | rfl | rfl
      · rw [h5]; rfl
      · rw [h6]; rfl
      · rw [h7]; rfl
    · rw [x4 _ (by simp; omega) (by simp; omega)]
      show q_us w.2.2 (5, p) (.inl (2, [none, none, none, none, none, some none, some none])) (k, r) = _
      rw [q_us_n _ _ _ (by simp; omega)]
      exact m8 k r hk5 hk7 (by omega)
