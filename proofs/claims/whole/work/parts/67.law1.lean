/-! the script: a cell outside the world -/
def q_scX (X : q_cx) (b L : Nat) (xs : Nat → Int32) : Prop := match X with
  | (_, _, _, s, _, _, _, _, _, A, _) => va_X b L xs s s.heap ∧ b < s.heap.size ∧ ¬ A b
/-- contract with a premise more -/
def q_Cp (Z : State → Prop) (l : Launch) (G : q_g) (I : q_in) (av : List q_v) (w : q_wd) (S : q_st) (post : q_post) : Prop := ∀ sz : Nat, Met l I.2.1 (.code I.2.1 I.1 I.2.2.1 I.2.2.2.1 :: q_ws) I.2.2.2.2 (va_Pc (av.map (q_val w.2.1)) (fun U => (U.heap.size = sz ∧ va_P G.1 vwCl (q_wl w S) U.heap ∧ va_K G.1 vwCl (q_tys G) U ∧ va_D (fun _ => True) (q_wl w S)) ∧ Z U)) (q_Q G (va_A (q_wl w S) sz) post) I.2.2.2.2.cells I.2.2.2.2.slots (va_A (q_wl w S) sz)
def q_ZX (Z : State → Prop) (w : q_wd) (S : q_st) (X : q_cx) : Prop := match X with
  | (_, _, _, s, _, _, _, _, _, A, _) => Z s ∧ A = va_A (q_wl w S) s.heap.size
theorem q_enterP {Z : State → Prop} {l : Launch} {G : q_g} {I : q_in} {av : List q_v} {w : q_wd} {S : q_st} {post : q_post} (hy : plainName I.2.1.cls = true) (ha : av.length ≤ I.2.2.1) (h : ∀ X : q_cx, q_fx G X I → q_en G X I post → q_ZX Z w S X → q_W G X I w (0, 0) 0 (av.map some ++ List.replicate (I.2.2.1 - av.length) none) [] S) : q_Cp Z l G I av w S post := by
  intro sz
  refine Met.ofW (cc := I.1) (maxL := I.2.2.1) (ret := I.2.2.2.1) hy rfl ?_
  intro p e s m args below meth c s₁ B hml hv
  obtain ⟨rfl, ⟨hsz, hP, hK, hD0⟩, hex⟩ := hv
  have hts := atoms_spec (ws := .code I.2.1 I.1 I.2.2.1 I.2.2.2.1 :: q_ws) B.pre
  have hown : s.vm.findClass I.2.1.cls = some m.cls := findClass_of_methodNamed B.named
  have hnm : meth.name = I.2.1.name := (name_of_methodNamed B.named B.method).1
  subst hsz
  have hD := hD0.self (sz := s.heap.size)
  have hcat : ∀ (vs : List q_v), (lg_sl (vs.map (q_val w.2.1))) = vs.map (fun v => Slot.val (q_val w.2.1 v)) := by
    intro vs
    induction vs with
    | nil => rfl
    | cons v t ih =>
      have hc := q_val_cat w.2.1 v
      simp only [lg_sl, List.map_cons, List.flatMap_cons] at ih ⊢
      rw [ih, hc]
      rfl
  have hl := lv_entry (av.map (q_val w.2.1)) (n := I.2.2.1) (by rw [hcat]; simpa using ha)
  rw [lg_entry_eq]
  generalize (lg_sl (av.map (q_val w.2.1)) ++ List.replicate (I.2.2.1 - (lg_sl (av.map (q_val w.2.1))).length) Slot.unset).toArray = la at hl ⊢
  have hargs : ∀ (vs : List q_v) (k i : Nat) (v : q_v), vs[i]? = some v → (k + i, q_val w.2.1 v) ∈ lv_args k (vs.map (q_val w.2.1)) := by
    intro vs
    induction vs with
    | nil => intro k i v hv; simp at hv
    | cons u t ih =>
      intro k i v hv
      have hc : ¬ (q_val w.2.1 u).category = 2 := by rw [q_val_cat]; decide
      show _ ∈ (k, q_val w.2.1 u) :: lv_args (if (q_val w.2.1 u).category = 2 then k + 2 else k + 1) (t.map (q_val w.2.1))
      rw [if_neg hc]
      cases i with
      | zero =>
        simp at hv
        subst hv
        exact List.mem_cons_self
      | succ i =>
        refine List.mem_cons_of_mem _ ?_
        have := ih (k + 1) i v (by simpa using hv)
        rw [show k + (i + 1) = k + 1 + i by omega]
        exact this
  refine h (p, l, e, s, m, _, below, meth, c, va_A (q_wl w S) s.heap.size, _) ⟨B.exec, B.bytes, hml, fun w hw => hts w (List.mem_cons_of_mem _ hw), hown, hnm, B.returns, B.notSynchronized, hK, fun q hq => Or.inr hq⟩ rfl ⟨hex, rfl⟩ s.heap [] la hP hD va_S.rf ⟨hl.1, hl.2.1, fun q hq => ?_⟩
  obtain ⟨i, v, h1, rfl⟩ := (q_ll_mem _ 0).mp hq
  refine hl.2.2 _ ?_
  by_cases hi : i < av.length
  · rw [List.getElem?_append_left (by simpa using hi), List.getElem?_map] at h1
    cases hv : av[i]? with
    | none => rw [hv] at h1; cases h1
    | some u =>
      rw [hv] at h1
      cases h1
      exact hargs av 0 i _ hv
  · rw [List.getElem?_append_right (by simpa using hi)] at h1
    rw [List.getElem?_replicate] at h1
    split at h1 <;> cases h1
/-- what cell(script, k) finds -/
def q_zs (b L : Nat) (xs : Nat → Int32) (w : q_wd) (S : q_st) (U : State) : Prop := va_X b L xs U U.heap ∧ b < U.heap.size ∧ ∀ (k : Nat) (e : va_E), (q_wl w S)[k]? ≠ some (b, e)
section QL
variable {G : q_g} {X : q_cx} {I : q_in} {w : q_wd} {cn : Nat × Nat} {pc : Nat} {ls : List (Option q_v)} {st : List q_v} {S : q_st}
theorem q_slen (F : q_fx G X I) {b L : Nat} {xs : Nat → Int32} {i : q_ix} (hsc : q_scX X b L xs) (hb0 : w.2.1 i = b) (hd : decode I.1 pc = .ok (.arraylength, 1)) (kk : q_W G X I w cn (pc + 1) ls (.inl (nI L) :: st) S) : q_W G X I w cn pc ls (.inr (some i) :: st) S := by
  obtain ⟨p, l, e, s, m, args, below, meth, c, A, Qf⟩ := X
  obtain ⟨hx, hb, hml, hts, hown, hnm, hr, hlk, hK, hA⟩ := F
  obtain ⟨h1, h2, h3⟩ := hsc
  intro H locs la hP hD hS hl
  subst hb0
  exact va_slen hx hb h1 h2 h3 hS hd (kk H locs la hP hD hS hl)
theorem q_sld (F : q_fx G X I) {b L : Nat} {xs : Nat → Int32} {i : q_ix} {x : Int32} (k : Nat) (hsc : q_scX X b L xs) (hb0 : w.2.1 i = b) (hx0 : x = nI k) (hk : k < L) (hL : L < 2 ^ 31) (hd : decode I.1 pc = .ok (.iaload, 1)) (kk : q_W G X I w cn (pc + 1) ls (.inl (xs k) :: st) S) : q_W G X I w cn pc ls (.inl x :: .inr (some i) :: st) S := by
  obtain ⟨p, l, e, s, m, args, below, meth, c, A, Qf⟩ := X
  obtain ⟨hx, hb, hml, hts, hown, hnm, hr, hlk, hK, hA⟩ := F
  obtain ⟨h1, h2, h3⟩ := hsc
  intro H locs la hP hD hS hl
  subst hb0
  subst hx0
  refine va_sld hx hb h1 h2 h3 hS (vp_in_nI hk hL) hd ?_
  rw [nI_clamp (by omega)]
  exact kk H locs la hP hD hS hl
theorem q_callC (F : q_fx G X I) {J : q_in} {idx n : Nat} {av : List q_v} {st0 : List q_v} {b Ln : Nat} {xs : Nat → Int32} {P : Int32 → q_st → Prop} (hsc : q_scX X b Ln xs) (hM : ∀ l, q_Cp (q_zs b Ln xs w S) l G J av w S (q_pi w P)) (L : q_cs I.2.1.cls idx n J) (hst : st0 = av.reverse ++ st) (hn : av.length = n) (hR : q_rm I J) (hlen : st.length ≤ 8) (hf : J.2.2.2.2.cells = 0 ∧ J.2.2.2.2.slots = 0) (hc : cn.1 ≤ I.2.2.2.2.cells ∧ cn.2 ≤ I.2.2.2.2.slots) (hd : decode I.1 pc = .ok (.invokestatic idx, 3))
    (kk : ∀ v S', P v S' → q_W G X I w cn (pc + 3) ls (.inl v :: st) S') : q_W G X I w cn pc ls st0 S := by
  have kk' : ∀ r w' S', q_pi w P r w' S' → q_W G X I w' (cn.1 + J.2.2.2.2.cells, cn.2 + J.2.2.2.2.slots) (pc + 3) ls (r.toList ++ st) S' := by
    intro r w' S' h
    obtain ⟨rfl, v, rfl, h⟩ := h
    rw [hf.1, hf.2]
    exact kk v S' h
  obtain ⟨p, l, e, s, m, args, below, meth, c, A, Qf⟩ := X
  obtain ⟨hx, hbb, hml, hts, hown, hnm, hr, hlk, hK, hA⟩ := F
  obtain ⟨⟨c1, c2, c3, c4, c5, c6⟩, c7⟩ := L
  obtain ⟨z1, z2, z3⟩ := hsc
  intro H locs la hP hD hS hl
  subst hst
  have cw : CallB I.2.2.2.2 s args I.2.1.cls idx J.2.1 J.1 J.2.2.1 J.2.2.2.1 (Cond.code J.2.1 J.1 J.2.2.1 J.2.2.2.1 :: q_ws) J.2.2.2.2 J.2.2.2.2.cells J.2.2.2.2.slots n :=
    callB_of n hts (q_gin c3) rfl rfl rfl (hts _ c2) (hts _ c1) ⟨c4, c5, c6⟩ hR
  have hz : ∀ U : State, U.heap = H → s.vm.Alike U.vm → q_zs b Ln xs w S U := by
    intro U hU hal
    refine ⟨va_X.moved hal (by rw [hU]; exact z1.kept (hS.2.1 b z2 z3)), by rw [hU]; exact Nat.lt_of_lt_of_le z2 hS.1, fun k e h => z3 (hD.2 k (b, e) h)⟩
  refine q_back (va_runS (As := av.map (q_val w.2.1)) ⟨hx, hbb, hml, hown, hts⟩ (hM l H.size) ⟨cw, hts _ c7⟩ ⟨fun a U g mk q => ?_, fun U hU hW => ⟨rfl, ⟨by rw [hU], by rw [hU]; exact hP, va_K.moved hW.alike hK, hD.weaken (fun _ _ _ _ => trivial)⟩, hz U hU hW.alike⟩⟩ rfl (by rw [List.length_map]; exact hn) hl.1 ?_ ?_ hd (by rw [hf.1, hf.2]; exact hc)) hP hD hS hA hl (fun r w' S' h i _ => by rw [h.1]) kk'
  · obtain ⟨q0, ⟨q1, qP, qK, qD⟩, qx⟩ := q
    exact ⟨q0, ⟨q1, qP, va_K.moved (u := U) (U := U.calling g mk a) (Vm.Alike.refl U.vm) qK, qD⟩, va_X.moved (u := U) (U := U.calling g mk a) (Vm.Alike.refl U.vm) qx.1, qx.2⟩
  · show List.map (q_val w.2.1) (av.reverse ++ st) = _
    rw [List.map_append, List.map_reverse]
  · exact lv_room (by rw [q_catsum]; exact hlen)
end QL
/-- cell(script, k) -/
theorem t_cell {G : q_g} {w : q_wd} {S : q_st} {b L k : Nat} {xs : Nat → Int32} (l : Launch) (hb : w.2.1 (99, 0) = b) (hL : L ≤ 1538) (hk : k < 2) : q_Cp (q_zs b L xs w S) l G iL_cell [.inr (some (99, 0)), .inl (nI k)] w S (q_pi w (fun r S' => r = (if k < L then xs k else 0) ∧ S' = S)) := by
  refine q_enterP (by decide) (Nat.le_of_ble_eq_true rfl) (fun X F E hz => ?_)
  have hsc : q_scX X b L xs := by
    obtain ⟨p, l, e, s, m, args, below, meth, c, A, Qf⟩ := X
    obtain ⟨⟨z1, z2, z3⟩, hA⟩ := hz
    refine ⟨z1, z2, ?_⟩
    rw [hA]
    rintro (⟨k, e, h⟩ | h)
    · exact z3 k e h
    · omega
  show q_W G X iL_cell w (0, 0) 0 [some (.inr (some (99, 0))), some (.inl (nI k))] [] S
  refine q_iload_n F dL_cell_0 rfl ?_
  refine q_aload_n F dL_cell_1 rfl ?_
  refine q_slen F hsc hb dL_cell_2 ?_
  refine q_icmpN_ge F 12 dL_cell_3 (by decide) (by omega) (by omega) (fun h => ?_) (fun h => ?_)
  · refine q_iconst F (nI 0) dL_cell_12 (by decide) ?_
    exact q_iret F E rfl ⟨by rw [if_neg (by omega)]; rfl, rfl⟩ dL_cell_13
  · refine q_aload_n F dL_cell_6 rfl ?_
    refine q_iload_n F dL_cell_7 rfl ?_
    refine q_sld F k hsc hb rfl (by omega) (by omega) dL_cell_8 ?_
    refine q_goto F 13 dL_cell_9 (by decide) ?_
    exact q_iret F E rfl ⟨by rw [if_pos (by omega)], rfl⟩ dL_cell_13
