/-! a new int array into a final field; constructors of the class's parts -/
theorem q_fresh {ls : List (Option q_v)} {i : q_ix} (h : some (Sum.inr (some i)) ∉ ls) : ∀ k : Nat, ls[k]? ≠ some (some (Sum.inr (some i))) := fun _ e => h (List.mem_of_getElem? e)
theorem q_nm_set {ci k : Nat} {fl : List (Option (Option q_ix))} {i j : q_ix} (h : q_nm (.inl (ci, fl) : q_sh) j) (hij : j ≠ i) : q_nm (.inl (ci, fl.set k (some (some i))) : q_sh) j := by
  intro t ht e
  rcases List.mem_or_eq_of_mem_set ht with h1 | h1
  · exact h t h1 e
  · rw [h1] at e
    exact hij (Option.some.inj (Option.some.inj e)).symm
theorem q_newf {G : q_g} {X : q_cx} {I : q_in} {w : q_wd} {cn : Nat × Nat} {pc : Nat} {ls : List (Option q_v)} {st : List q_v} {S : q_st} (F : q_fx G X I) {x : Int32} {N : Nat} (i : q_ix) {o : q_ix} {ci k idx : Nat} {ty : FieldType} {fl : List (Option (Option q_ix))} (L : q_fk I.2.1.cls idx ci k) (M : q_fp ci k ty true) (hty : (∃ C, ty = .object C) ∨ ∃ t, ty = .array t) (hinit : I.2.1.name = "<init>") (hcls : ∀ C T N, vwCl[ci]? = some (C, T, N) → (T k).1 = I.2.1.cls) (ho : o ∈ w.1) (hsh : w.2.2 o = .inl (ci, fl)) (hk : k < fl.length) (hi : i ∉ w.1) (hcl : q_clo w) (hz : ∀ k, S i k = 0) (hls : some (Sum.inr (some i)) ∉ ls) (hst : (Sum.inr (some i) : q_v) ∉ st) (hx0 : x = nI N) (hN : N < 2 ^ 20) (hc : cn.1 + 1 ≤ I.2.2.2.2.cells ∧ cn.2 + N ≤ I.2.2.2.2.slots) (hd : decode I.1 pc = .ok (.newarray .int, 2)) (hd2 : decode I.1 (pc + 2) = .ok (.putfield idx, 3))
    (kk : ∀ w1 : q_wd, w1.1 = w.1 ++ [i] → (∀ j, j ≠ i → w1.2.1 j = w.2.1 j) → q_clo w1 → w1.2.2 i = .inr (.inl (G.2.1, N)) → w1.2.2 o = .inl (ci, fl.set k (some (some i))) → (∀ j, j ≠ i → j ≠ o → w1.2.2 j = w.2.2 j) → q_W G X I w1 (cn.1 + 1, cn.2 + N) (pc + 2 + 3) ls st S) : q_W G X I w cn pc ls (.inl x :: .inr (some o) :: st) S := by
  have hoi : o ≠ i := fun e => hi (e ▸ ho)
  refine q_newa F wi_arr i hi hcl hz (q_fresh hls) (fun hm => ?_) hx0 hN hc hd (fun q => ?_)
  · rcases List.mem_cons.mp hm with h | h
    · exact hoi (Option.some.inj (Sum.inr.inj h)).symm
    · exact hst h
  · refine q_putr F L M hty hinit hcls (List.mem_append_left _ ho) (by show q_us w.2.2 i _ o = _; rw [q_us_n _ _ _ hoi]; exact hsh) hk hd2 ?_
    refine kk _ rfl (fun j hj => q_us_n _ _ _ hj) ?_ ?_ ?_ ?_
    · refine q_clo_set (w := (w.1 ++ [i], q_us w.2.1 i q, q_us w.2.2 i (.inr (.inl (G.2.1, N))))) (q_clo_new hcl hi (fun _ _ => trivial)) (fun j hj => ?_)
      have hj1 : j ∉ w.1 := fun q => hj (List.mem_append_left _ q)
      refine q_nm_set ?_ (fun e => hj (by rw [e]; exact List.mem_append_right _ (List.mem_singleton.mpr rfl)))
      have := hcl o ho j hj1
      rw [hsh] at this
      exact this
    · show q_us (q_us w.2.2 i _) o _ i = _
      rw [q_us_n _ _ _ (Ne.symm hoi), q_us_s]
    · show q_us (q_us w.2.2 i _) o _ o = _
      rw [q_us_s]
    · intro j hj hjo
      show q_us (q_us w.2.2 i _) o _ j = _
      rw [q_us_n _ _ _ hjo, q_us_n _ _ _ hj]
/-- what a constructor's world is behind it -/
def q_ext (w w' : q_wd) (ns : List q_ix) (o : q_ix) : Prop := w'.1 = w.1 ++ ns ∧ (∀ j, j ∉ ns → w'.2.1 j = w.2.1 j) ∧ q_clo w' ∧ ∀ j, j ∉ ns → j ≠ o → w'.2.2 j = w.2.2 j
set_option maxRecDepth 100000 in
set_option maxHeartbeats 4000000 in
/-- FramePool(n) -/
theorem t_pool {G : q_g} {w : q_wd} {S : q_st} {n : Nat} (l : Launch) (hn : n ≤ 32) (hm : (1, 0) ∈ w.1) (hs : w.2.2 (1, 0) = .inl (0, [none, some none, some none, none])) (h2 : (2, 0) ∉ w.1) (h3 : (3, 0) ∉ w.1) (hcl : q_clo w) (z2 : ∀ k, S (2, 0) k = 0) (z3 : ∀ k, S (3, 0) k = 0) : q_Ct l G iX0_init [.inr (some (1, 0)), .inl (nI n)] w S (fun r w' S' => r = none ∧ q_ext w w' [(2, 0), (3, 0)] (1, 0) ∧ w'.2.2 (1, 0) = .inl (0, [none, some (some (2, 0)), some (some (3, 0)), none]) ∧ w'.2.2 (2, 0) = .inr (.inl (G.2.1, 8 * n)) ∧ w'.2.2 (3, 0) = .inr (.inl (G.2.1, n)) ∧ S' = q_up (q_up S (1, 0) 3 (nI 0)) (1, 0) 0 (nI n)) := by
  refine q_enter (by decide) (Nat.le_of_ble_eq_true rfl) (fun X F E => ?_)
  show q_W G X iX0_init w (0, 0) 0 [some (.inr (some (1, 0))), some (.inl (nI n))] [] S
  refine q_aload_n F dX0_init_0 rfl ?_
  refine q_obj F wi_olX0 wi_oi wi_oc ⟨Nat.le_of_ble_eq_true rfl, Nat.le_of_ble_eq_true rfl⟩ dX0_init_1 ?_
  refine q_aload_n F dX0_init_4 rfl ?_
  refine q_iconst F (nI 0) dX0_init_5 (by decide) ?_
  refine q_puti F (k := 3) fkX0_9 fp0_3 hm hs rfl dX0_init_6 ?_
  refine q_aload_n F dX0_init_9 rfl ?_
  refine q_iload_n F dX0_init_10 rfl ?_
  refine q_putiF F (k := 0) fkX0_15 fp0_0 rfl fc0_0 hm hs rfl dX0_init_11 ?_
  refine q_aload_n F dX0_init_14 rfl ?_
  refine q_iload_n F dX0_init_15 rfl ?_
  refine q_bipush F (nI 8) dX0_init_16 (by decide) ?_
  refine q_imulN F dX0_init_18 ?_
  refine q_newf F (2, 0) (N := 8 * n) (k := 1) fkX0_18 fp0_1 (Or.inr ⟨_, rfl⟩) rfl fc0_1 hm hs (Nat.le_of_ble_eq_true rfl) h2 hcl (fun k => by simp [q_up]; exact z2 k) (by simp) (by simp) (by rw [Nat.mul_comm]) (by omega) ⟨Nat.le_of_ble_eq_true rfl, by show 0 + 8 * n ≤ 288; omega⟩ dX0_init_19 dX0_init_21 (fun w1 a1 b1 c1 d1 e1 f1 => ?_)
  refine q_aload_n F dX0_init_24 rfl ?_
  refine q_iload_n F dX0_init_25 rfl ?_
  refine q_newf F (3, 0) (N := n) (k := 2) fkX0_22 fp0_2 (Or.inr ⟨_, rfl⟩) rfl fc0_2 (by rw [a1]; exact List.mem_append_left _ hm) e1 (Nat.le_of_ble_eq_true rfl) (by rw [a1]; simp [h3]) c1 (fun k => by simp [q_up]; exact z3 k) (by simp) (by simp) rfl (by omega) ⟨Nat.le_of_ble_eq_true rfl, by show 0 + 8 * n + n ≤ 288; omega⟩ dX0_init_26 dX0_init_28 (fun w2 a2 b2 c2 d2 e2 f2 => ?_)
  refine q_vret0 F E rfl ⟨Nat.le_of_ble_eq_true rfl, by show 0 + 8 * n + n ≤ 288; omega⟩ ⟨rfl, ⟨by rw [a2, a1]; simp, fun j hj => ?_, c2, fun j hj hjo => ?_⟩, e2, ?_, d2, rfl⟩ dX0_init_31
  · simp at hj
    rw [b2 j hj.2, b1 j hj.1]
  · simp at hj
    rw [f2 j hj.2 hjo, f1 j hj.1 hjo]
  · rw [f2 _ (by simp) (by simp)]
    exact d1
set_option maxRecDepth 100000 in
set_option maxHeartbeats 4000000 in
/-- PrintLog() -/
theorem t_log {G : q_g} {w : q_wd} {S : q_st} (l : Launch) (hm : (8, 0) ∈ w.1) (hs : w.2.2 (8, 0) = .inl (1, [some none, none])) (h2 : (9, 0) ∉ w.1) (hcl : q_clo w) (z2 : ∀ k, S (9, 0) k = 0) : q_Ct l G iX1_init [.inr (some (8, 0))] w S (fun r w' S' => r = none ∧ q_ext w w' [(9, 0)] (8, 0) ∧ w'.2.2 (8, 0) = .inl (1, [some (some (9, 0)), none]) ∧ w'.2.2 (9, 0) = .inr (.inl (G.2.1, 32)) ∧ S' = q_up S (8, 0) 1 (nI 0)) := by
  refine q_enter (by decide) (Nat.le_of_ble_eq_true rfl) (fun X F E => ?_)
  show q_W G X iX1_init w (0, 0) 0 [some (.inr (some (8, 0)))] [] S
  refine q_aload_n F dX1_init_0 rfl ?_
  refine q_obj F wi_olX1 wi_oi wi_oc ⟨Nat.le_of_ble_eq_true rfl, Nat.le_of_ble_eq_true rfl⟩ dX1_init_1 ?_
  refine q_aload_n F dX1_init_4 rfl ?_
  refine q_bipush F (nI 32) dX1_init_5 (by decide) ?_
  refine q_newf F (9, 0) (N := 32) (k := 0) fkX1_9 fp1_0 (Or.inr ⟨_, rfl⟩) rfl fc1_0 hm hs (Nat.le_of_ble_eq_true rfl) h2 hcl z2 (by simp) (by simp) rfl (by decide) ⟨Nat.le_of_ble_eq_true rfl, Nat.le_of_ble_eq_true rfl⟩ dX1_init_7 dX1_init_9 (fun w1 a1 b1 c1 d1 e1 f1 => ?_)
  refine q_aload_n F dX1_init_12 rfl ?_
  refine q_iconst F (nI 0) dX1_init_13 (by decide) ?_
  refine q_puti F (k := 1) fkX1_15 fp1_1 (by rw [a1]; exact List.mem_append_left _ hm) e1 rfl dX1_init_14 ?_
  refine q_vret0 F E rfl ⟨Nat.le_of_ble_eq_true rfl, Nat.le_of_ble_eq_true rfl⟩ ⟨rfl, ⟨a1, fun j hj => b1 j (by simpa using hj), c1, fun j hj hjo => f1 j (by simpa using hj) hjo⟩, e1, d1, rfl⟩ dX1_init_17
/-- the ints of a new process -/
def q_np (S : q_st) (p : Nat) : q_st := fun j k => if j = (5, p) ∧ k = 1 then -1 else if j = (7, p) ∧ k < 8 then -1 else S j k
set_option maxRecDepth 100000 in
set_option maxHeartbeats 4000000 in
theorem lp_proc {G : q_g} {X : q_cx} {w : q_wd} {cn : Nat × Nat} {S : q_st} {p : Nat} (F : q_fx G X iX2_init) (hm : (5, p) ∈ w.1) (hs : w.2.2 (5, p) = .inl (2, [none, none, none, none, none, some (some (6, p)), some (some (7, p))])) (hm7 : (7, p) ∈ w.1) (hs7 : w.2.2 (7, p) = .inr (.inl (G.2.1, 8))) (kk : q_W G X iX2_init w cn 66 [some (.inr (some (5, p))), none] [] (q_fill S (7, p) 0 8 (fun _ => -1))) : ∀ k, k ≤ 8 → q_W G X iX2_init w cn 47 [some (.inr (some (5, p))), some (.inl (nI k))] [] (q_fill S (7, p) 0 k (fun _ => -1)) := by
  refine q_loop (fun k hk ih => ?_)
  refine q_iload_n F dX2_init_47 rfl ?_
  refine q_bipush F (nI 8) dX2_init_48 (by decide) ?_
  refine q_icmpN_ge F 66 dX2_init_50 (by decide) (by omega) (by omega) (fun h50 => ?_) (fun h50 => ?_)
  · obtain rfl : k = 8 := by omega
    exact q_drop_1 kk
  · refine q_aload_n F dX2_init_53 rfl ?_
    refine q_getr F (k := 6) fkX2_31 hm hs rfl dX2_init_54 ?_
    refine q_iload_n F dX2_init_57 rfl ?_
    refine q_iconst F (-1) dX2_init_58 (by decide) ?_
    refine q_iast F (0 + k) hm7 hs7 (by rw [Nat.zero_add]) (by omega) (by decide) dX2_init_59 ?_
    rw [q_fill_s _ _ _ _ (fun _ => -1) (-1) rfl]
    refine q_iinc_1 F _ dX2_init_60 (q_inc1 _) (by decide) ?_
    exact q_goto F 47 dX2_init_63 (by decide) (ih h50)
set_option maxRecDepth 100000 in
set_option maxHeartbeats 4000000 in
/-- Proc() -/
theorem t_proc {G : q_g} {w : q_wd} {S : q_st} {p : Nat} (l : Launch) (hm : (5, p) ∈ w.1) (hs : w.2.2 (5, p) = .inl (2, [none, none, none, none, none, some none, some none])) (h6 : (6, p) ∉ w.1) (h7 : (7, p) ∉ w.1) (hcl : q_clo w) (z5 : ∀ k, S (5, p) k = 0) (z6 : ∀ k, S (6, p) k = 0) (z7 : ∀ k, S (7, p) k = 0) : q_Ct l G iX2_init [.inr (some (5, p))] w S (fun r w' S' => r = none ∧ q_ext w w' [(6, p), (7, p)] (5, p) ∧ w'.2.2 (5, p) = .inl (2, [none, none, none, none, none, some (some (6, p)), some (some (7, p))]) ∧ w'.2.2 (6, p) = .inr (.inl (G.2.1, 8)) ∧ w'.2.2 (7, p) = .inr (.inl (G.2.1, 8)) ∧ S' = q_np S p) := by
  refine q_enter (by decide) (Nat.le_of_ble_eq_true rfl) (fun X F E => ?_)
  show q_W G X iX2_init w (0, 0) 0 [some (.inr (some (5, p))), none] [] S
  refine q_aload_n F dX2_init_0 rfl ?_
  refine q_obj F wi_olX2 wi_oi wi_oc ⟨Nat.le_of_ble_eq_true rfl, Nat.le_of_ble_eq_true rfl⟩ dX2_init_1 ?_
  refine q_aload_n F dX2_init_4 rfl ?_
  refine q_iconst F (nI 0) dX2_init_5 (by decide) ?_
  refine q_puti F (k := 0) fkX2_9 fp2_0 hm hs rfl dX2_init_6 ?_
  rw [q_up_id S _ _ _ (show S (5, p) 0 = nI 0 from z5 0)]
  refine q_aload_n F dX2_init_9 rfl ?_
  refine q_iconst F (-1) dX2_init_10 (by decide) ?_
  refine q_puti F (k := 1) fkX2_15 fp2_1 hm hs rfl dX2_init_11 ?_
  refine q_aload_n F dX2_init_14 rfl ?_
  refine q_iconst F (nI 0) dX2_init_15 (by decide) ?_
  refine q_puti F (k := 2) fkX2_18 fp2_2 hm hs rfl dX2_init_16 ?_
  rw [q_up_id _ _ _ _ (show q_up S (5, p) 1 (-1) (5, p) 2 = nI 0 by simp [q_up]; exact z5 2)]
  refine q_aload_n F dX2_init_19 rfl ?_
  refine q_iconst F (nI 0) dX2_init_20 (by decide) ?_
  refine q_puti F (k := 3) fkX2_21 fp2_3 hm hs rfl dX2_init_21 ?_
  rw [q_up_id _ _ _ _ (show q_up S (5, p) 1 (-1) (5, p) 3 = nI 0 by simp [q_up]; exact z5 3)]
  refine q_aload_n F dX2_init_24 rfl ?_
  refine q_iconst F (nI 0) dX2_init_25 (by decide) ?_
  refine q_puti F (k := 4) fkX2_24 fp2_4 hm hs rfl dX2_init_26 ?_
  rw [q_up_id _ _ _ _ (show q_up S (5, p) 1 (-1) (5, p) 4 = nI 0 by simp [q_up]; exact z5 4)]
  refine q_aload_n F dX2_init_29 rfl ?_
  refine q_bipush F (nI 8) dX2_init_30 (by decide) ?_
  refine q_newf F (6, p) (N := 8) (k := 5) fkX2_27 fp2_5 (Or.inr ⟨_, rfl⟩) rfl fc2_5 hm hs (Nat.le_of_ble_eq_true rfl) h6 hcl (fun k => by simp [q_up]; exact z6 k) (by simp) (by simp) rfl (by decide) ⟨Nat.le_of_ble_eq_true rfl, Nat.le_of_ble_eq_true rfl⟩ dX2_init_32 dX2_init_34 (fun w1 a1 b1 c1 d1 e1 f1 => ?_)
  refine q_aload_n F dX2_init_37 rfl ?_
  refine q_bipush F (nI 8) dX2_init_38 (by decide) ?_
  refine q_newf F (7, p) (N := 8) (k := 6) fkX2_31 fp2_6 (Or.inr ⟨_, rfl⟩) rfl fc2_6 (by rw [a1]; exact List.mem_append_left _ hm) e1 (Nat.le_of_ble_eq_true rfl) (by rw [a1]; simp [h7]) c1 (fun k => by simp [q_up]; exact z7 k) (by simp) (by simp) rfl (by decide) ⟨Nat.le_of_ble_eq_true rfl, Nat.le_of_ble_eq_true rfl⟩ dX2_init_40 dX2_init_42 (fun w2 a2 b2 c2 d2 e2 f2 => ?_)
  refine q_iconst F (nI 0) dX2_init_45 (by decide) ?_
  refine q_istore_n_1 F dX2_init_46 (by decide) ?_
  have hlp := lp_proc (cn := (0 + 1 + 1, 0 + 8 + 8)) (S := q_up S (5, p) 1 (-1)) F (show (5, p) ∈ w2.1 by rw [a2, a1]; exact List.mem_append_left _ (List.mem_append_left _ hm)) e2 (by rw [a2]; exact List.mem_append_right _ (List.mem_singleton.mpr rfl)) d2 (q_vret0 F E rfl ⟨Nat.le_of_ble_eq_true rfl, Nat.le_of_ble_eq_true rfl⟩ ⟨rfl, ⟨by rw [a2, a1]; simp, fun j hj => ?_, c2, fun j hj hjo => ?_⟩, e2, ?_, d2, ?_⟩ dX2_init_66) 0 (by decide)
  · rw [q_fill_0] at hlp
    exact hlp
  · simp at hj
    rw [b2 j hj.2, b1 j hj.1]
  · simp at hj
    rw [f2 j hj.2 hjo, f1 j hj.1 hjo]
  · rw [f2 _ (by simp) (by simp)]
    exact d1
  · funext j k
    unfold q_np q_fill q_up
    by_cases h7 : j = (7, p)
    · subst h7
      simp
    · simp [h7]
