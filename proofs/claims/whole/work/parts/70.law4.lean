/-! the law up to its loop -/
theorem q_arg {lo hi d : Nat} (hd : lo ≤ d ∧ d ≤ hi) (hh : hi + 1 < 2 ^ 31) (x : Int32) : ∃ n : Nat, lo ≤ n ∧ n ≤ hi ∧ nI n = if (lo : Int) ≤ x.toInt ∧ x.toInt ≤ (hi : Int) then x else nI d := by
  by_cases h : (lo : Int) ≤ x.toInt ∧ x.toInt ≤ (hi : Int)
  · obtain ⟨p, h1, h2⟩ := q_ofx (x := x) (m := hi + 1) (by omega) (by omega) (by have := h.2; omega)
    have h3 : x.toInt = (p : Int) := by rw [h2, nI_toInt (by omega)]
    exact ⟨p, by omega, by omega, by rw [if_pos h, h2]⟩
  · exact ⟨d, hd.1, hd.2, by rw [if_neg h]⟩
set_option maxRecDepth 100000 in
set_option maxHeartbeats 4000000 in
theorem q_head {G : q_g} {X : q_cx} {nm : String} {b L : Nat} {xs : Nat → Int32} (F : q_fx G X (iL_law nm)) (hex : q_exX X) (hsc : q_scX X b L xs) (hL : L ≤ 1538) (kk : ∀ (n : Nat) (ad : q_ix → Nat) (S : q_st), ad (99, 0) = b → q_inv n 0 S → q_W G X (iL_law nm) (q_w G n ad) (43, 1382) 38 [some (.inr (some (99, 0))), some (.inr (some (0, 0))), some (.inr (some (20, 0))), some (.inl (nI (2 + 3 * 0)))] [] S) : q_W G X (iL_law nm) ([], fun _ => b, fun _ => .inr (.inl (G.2.1, 0))) (0, 0) 0 [some (.inr (some (99, 0))), none, none, none] [] (fun _ _ => 0) := by
  have hcl0 : q_clo (([], fun _ => b, fun _ => .inr (.inl (G.2.1, 0))) : q_wd) := fun j hj => (by cases hj)
  refine q_newo F wi_obL_7 (0, 0) (fun h => (by cases h)) hcl0 (fun _ => rfl) (q_fresh (by simp)) (by simp) ⟨Nat.le_of_ble_eq_true rfl, Nat.le_of_ble_eq_true rfl⟩ dL_law_0 (fun q0 => ?_)
  refine q_dup F dL_law_3 ?_
  generalize hw0 : ((([] : List q_ix) ++ [(0, 0)], q_us (fun _ => b) (0, 0) q0, q_us (fun _ => .inr (.inl (G.2.1, 0))) (0, 0) (.inl (3, [some none, some none, some none, some none, none, none, none]))) : q_wd) = w0
  have w0d : w0.1 = [(0, 0)] := by rw [← hw0]; rfl
  have w0s : w0.2.2 (0, 0) = .inl (3, [some none, some none, some none, some none, none, none, none]) := by rw [← hw0]; dsimp only; rw [q_us_s]
  have w0b : w0.2.1 (99, 0) = b := by rw [← hw0]; dsimp only; rw [q_us_n _ _ _ (by simp)]
  have w0c : q_clo w0 := by
    rw [← hw0]
    exact q_clo_new hcl0 (fun h => (by cases h)) (q_nm_o (by intro t ht; simp at ht))
  refine q_aload_n F dL_law_4 rfl ?_
  refine q_iconst F (nI 0) dL_law_5 (by decide) ?_
  refine q_callC F (st := [.inr (some (0, 0)), .inr (some (0, 0))]) (av := [.inr (some (99, 0)), .inl (nI 0)]) hsc (fun l => t_cell (k := 0) l w0b hL (by decide)) clL_9 rfl rfl ⟨Nat.le_of_ble_eq_true rfl, Nat.le_of_ble_eq_true rfl⟩ (Nat.le_of_ble_eq_true rfl) ⟨rfl, rfl⟩ ⟨Nat.le_of_ble_eq_true rfl, Nat.le_of_ble_eq_true rfl⟩ dL_law_6 (fun v S' h => ?_)
  obtain ⟨rfl, hS'⟩ := h
  subst hS'
  refine q_aload_n F dL_law_9 rfl ?_
  refine q_iconst F (nI 1) dL_law_10 (by decide) ?_
  refine q_callC F (st := [.inl _, .inr (some (0, 0)), .inr (some (0, 0))]) (av := [.inr (some (99, 0)), .inl (nI 1)]) hsc (fun l => t_cell (k := 1) l w0b hL (by decide)) clL_9 rfl rfl ⟨Nat.le_of_ble_eq_true rfl, Nat.le_of_ble_eq_true rfl⟩ (Nat.le_of_ble_eq_true rfl) ⟨rfl, rfl⟩ ⟨Nat.le_of_ble_eq_true rfl, Nat.le_of_ble_eq_true rfl⟩ dL_law_11 (fun v S' h => ?_)
  obtain ⟨rfl, hS'⟩ := h
  subst hS'
  generalize hx : (if 0 < L then xs 0 else 0) = x
  generalize hy : (if 1 < L then xs 1 else 0) = y
  obtain ⟨n, hn1, hn2, hn⟩ := q_arg (lo := 2) (hi := 32) (d := 12) (by decide) (by decide) x
  obtain ⟨q, hq1, hq2, hq⟩ := q_arg (lo := 1) (hi := 20) (d := 3) (by decide) (by decide) y
  refine q_callX F (st := [.inr (some (0, 0))]) (av := [.inl x, .inl y]) (b := (0, 0)) hex (fun l => t_kinit (n := n) l w0d w0s w0c hn hn2) clL_15 rfl rfl wi_imX3 rfl rfl ⟨Nat.le_of_ble_eq_true rfl, Nat.le_of_ble_eq_true rfl⟩ (Nat.le_of_ble_eq_true rfl) ⟨Nat.le_of_ble_eq_true rfl, Nat.le_of_ble_eq_true rfl⟩ dL_law_14 ?_ (fun r w1 S1 hpost => ?_)
  · rintro r w1 S1 ⟨-, hz, -⟩ i hi
    rcases hi with ⟨k, hk⟩ | hi
    · have hk := List.mem_of_getElem? hk
      simp at hk
      rw [hk]
      exact hz.2.2.2.1
    · simp at hi
      rw [hi]
      exact hz.2.2.1
  obtain ⟨rfl, ⟨m1, m2, m3, m4, m5, m6⟩, rfl⟩ := hpost
  rw [w0b] at m4
  refine q_astore_n_1 F dL_law_17 (Nat.le_of_ble_eq_true rfl) ?_
  have hno : ∀ k, 20 ≤ k → (k, 0) ∉ w1.1 := by
    intro k hk hm
    rcases (m1 (k, 0)).mp hm with ⟨-, h⟩ | ⟨-, h, -⟩
    · simp only at h; omega
    · simp only at h; omega
  have hS0 : ∀ (j : q_ix) (k : Nat), 20 ≤ j.1 → q_s0 n (if 1 ≤ y.toInt ∧ y.toInt ≤ 20 then y else nI 3) j k = 0 := by
    intro j k hj
    unfold q_s0
    rw [if_neg (by rintro ⟨rfl, -⟩; exact absurd hj (by decide)), if_neg (by rintro ⟨rfl, -⟩; exact absurd hj (by decide))]
    exact q_si_z n 8 (by omega) (Or.inl (by omega)) (Or.inl (by omega)) k
  refine q_newo F wi_obL_18 (20, 0) (hno 20 (by omega)) m2 (fun k => hS0 (20, 0) k (by decide)) (q_fresh (by simp)) (by simp) ⟨Nat.le_of_ble_eq_true rfl, Nat.le_of_ble_eq_true rfl⟩ dL_law_18 (fun q20 => ?_)
  refine q_dup F dL_law_21 ?_
  generalize hw2 : ((w1.1 ++ [(20, 0)], q_us w1.2.1 (20, 0) q20, q_us w1.2.2 (20, 0) (.inl (4, wi_fl4))) : q_wd) = w2
  have w2d : w2.1 = w1.1 ++ [(20, 0)] := by rw [← hw2]
  have w2s : w2.2.2 (20, 0) = .inl (4, wi_fl4) := by rw [← hw2]; dsimp only; rw [q_us_s]
  have w2o : ∀ j, j ≠ (20, 0) → w2.2.2 j = w1.2.2 j := by intro j hj; rw [← hw2]; dsimp only; rw [q_us_n _ _ _ hj]
  have w2b : w2.2.1 (99, 0) = b := by rw [← hw2]; dsimp only; rw [q_us_n _ _ _ (by simp)]; exact m4
  have w2c : q_clo w2 := by
    rw [← hw2]
    exact q_clo_new m2 (hno 20 (by omega)) (q_nm_o (by intro t ht; simp [wi_fl4] at ht))
  refine q_aload_n F dL_law_22 rfl ?_
  refine q_iconst F (nI 0) dL_law_23 (by decide) ?_
  refine q_callC F (st := [.inr (some (20, 0)), .inr (some (20, 0))]) (av := [.inr (some (99, 0)), .inl (nI 0)]) hsc (fun l => t_cell (k := 0) l w2b hL (by decide)) clL_9 rfl rfl ⟨Nat.le_of_ble_eq_true rfl, Nat.le_of_ble_eq_true rfl⟩ (Nat.le_of_ble_eq_true rfl) ⟨rfl, rfl⟩ ⟨Nat.le_of_ble_eq_true rfl, Nat.le_of_ble_eq_true rfl⟩ dL_law_24 (fun v S' h => ?_)
  obtain ⟨rfl, hS'⟩ := h
  subst hS'
  refine q_aload_n F dL_law_27 rfl ?_
  refine q_iconst F (nI 1) dL_law_28 (by decide) ?_
  refine q_callC F (st := [.inl _, .inr (some (20, 0)), .inr (some (20, 0))]) (av := [.inr (some (99, 0)), .inl (nI 1)]) hsc (fun l => t_cell (k := 1) l w2b hL (by decide)) clL_9 rfl rfl ⟨Nat.le_of_ble_eq_true rfl, Nat.le_of_ble_eq_true rfl⟩ (Nat.le_of_ble_eq_true rfl) ⟨rfl, rfl⟩ ⟨Nat.le_of_ble_eq_true rfl, Nat.le_of_ble_eq_true rfl⟩ dL_law_29 (fun v S' h => ?_)
  obtain ⟨rfl, hS'⟩ := h
  subst hS'
  rw [hx, hy]
  refine q_callI F (st := [.inr (some (20, 0))]) (av := [.inl x, .inl y]) (b := (20, 0)) (fun l => t_minit l (by rw [w2d]; simp) w2s (by rw [w2d]; have := hno 21 (by omega); simp [this]) (by rw [w2d]; have := hno 22 (by omega); simp [this]) (by rw [w2d]; have := hno 23 (by omega); simp [this]) (by rw [w2d]; have := hno 24 (by omega); simp [this]) (by rw [w2d]; have := hno 25 (by omega); simp [this]) (by rw [w2d]; have := hno 26 (by omega); simp [this]) (by rw [w2d]; have := hno 27 (by omega); simp [this]) (by rw [w2d]; have := hno 28 (by omega); simp [this]) (by rw [w2d]; have := hno 29 (by omega); simp [this]) (by rw [w2d]; have := hno 30 (by omega); simp [this]) w2c hS0) clL_20 rfl rfl wi_imX4 rfl rfl ⟨Nat.le_of_ble_eq_true rfl, Nat.le_of_ble_eq_true rfl⟩ (Nat.le_of_ble_eq_true rfl) ⟨Nat.le_of_ble_eq_true rfl, Nat.le_of_ble_eq_true rfl⟩ dL_law_32 ?_ (fun r w3 S3 hpost => ?_)
  · rintro r w3 S3 ⟨-, hz, -⟩ i hi
    refine hz.2.1 i ?_
    rcases hi with ⟨k, hk⟩ | hi
    · have hk := List.mem_of_getElem? hk
      simp at hk
      rcases hk with rfl | rfl <;> simp
    · simp at hi
      rw [hi]
      simp
  obtain ⟨rfl, ⟨x1, x2, x3, x4⟩, e20, ⟨e21, e22, e23, e24, e25, e26, e27, e28, e29, e30⟩, rfl⟩ := hpost
  refine q_astore_n_2 F dL_law_35 (Nat.le_of_ble_eq_true rfl) ?_
  refine q_iconst F (nI 2) dL_law_36 (by decide) ?_
  refine q_istore_n_3 F dL_law_37 (Nat.le_of_ble_eq_true rfl) ?_
  have hb3 : w3.2.1 (99, 0) = b := by rw [x2 _ (by simp)]; exact w2b
  have hm4 : w3.2.2 (4, 0) = .inr (.inr (G.2.2, 8, fun k => if k < 8 then some (5, k) else none)) := by
    rw [x4 _ (by simp) (by simp), w2o _ (by simp)]
    exact m5
  refine q_rearr (i := (4, 0)) (f' := fun k => some (5, k)) hm4 (fun k hk => by simp [hk]) ?_
  refine q_reord (w' := q_w G n w3.2.1) ?_ (show q_dom.Nodup by decide) rfl ?_ ?_
  · have hall : ∀ i : q_ix, i ∈ q_dom → (i.2 = 0 ∧ (i.1 ≤ 4 ∨ (8 ≤ i.1 ∧ i.1 ≤ 10))) ∨ (5 ≤ i.1 ∧ i.1 ≤ 7 ∧ i.2 < 8) ∨ (i.2 = 0 ∧ 20 ≤ i.1 ∧ i.1 ≤ 30) := by decide
    intro i hi
    show i ∈ w3.1
    rw [x1, w2d]
    rcases hall i hi with h | h | ⟨h0, h1, h2⟩
    · exact List.mem_append_left _ (List.mem_append_left _ ((m1 i).mpr (Or.inl h)))
    · exact List.mem_append_left _ (List.mem_append_left _ ((m1 i).mpr (Or.inr h)))
    · obtain ⟨i1, i2⟩ := i
      simp only at h0 h1 h2
      subst h0
      rcases (show i1 = 20 ∨ i1 = 21 ∨ i1 = 22 ∨ i1 = 23 ∨ i1 = 24 ∨ i1 = 25 ∨ i1 = 26 ∨ i1 = 27 ∨ i1 = 28 ∨ i1 = 29 ∨ i1 = 30 by omega) with rfl | rfl | rfl | rfl | rfl | rfl | rfl | rfl | rfl | rfl | rfl <;> simp
  · have hall : ∀ i : q_ix, i ∈ q_dom → (i.2 = 0 ∧ (i.1 ≤ 4 ∨ (8 ≤ i.1 ∧ i.1 ≤ 10))) ∨ (5 ≤ i.1 ∧ i.1 ≤ 7 ∧ i.2 < 8) ∨ (i.2 = 0 ∧ 20 ≤ i.1 ∧ i.1 ≤ 30) := by decide
    intro i hi
    dsimp only
    by_cases h4 : i = (4, 0)
    · subst h4
      rw [q_us_s]
      rfl
    · rw [q_us_n _ _ _ h4]
      have hlo : ((i.2 = 0 ∧ (i.1 ≤ 4 ∨ (8 ≤ i.1 ∧ i.1 ≤ 10))) ∨ (5 ≤ i.1 ∧ i.1 ≤ 7 ∧ i.2 < 8)) → q_shp G n i = w3.2.2 i := by
        intro h
        have hlt : i.1 < 20 := by omega
        rw [x4 i (by intro hm; simp at hm; rcases hm with rfl | rfl | rfl | rfl | rfl | rfl | rfl | rfl | rfl | rfl <;> exact absurd hlt (by decide)) (by rintro rfl; exact absurd hlt (by decide)), w2o i (by rintro rfl; exact absurd hlt (by decide))]
        exact (m6 i ((m1 i).mpr h) h4).symm
      rcases hall i hi with h | h | ⟨h0, h1, h2⟩
      · exact hlo (Or.inl h)
      · exact hlo (Or.inr h)
      · obtain ⟨i1, i2⟩ := i
        simp only at h0 h1 h2
        subst h0
        rcases (show i1 = 20 ∨ i1 = 21 ∨ i1 = 22 ∨ i1 = 23 ∨ i1 = 24 ∨ i1 = 25 ∨ i1 = 26 ∨ i1 = 27 ∨ i1 = 28 ∨ i1 = 29 ∨ i1 = 30 by omega) with rfl | rfl | rfl | rfl | rfl | rfl | rfl | rfl | rfl | rfl | rfl
        · rw [e20]; rfl
        · rw [e21]; rfl
        · rw [e22]; rfl
        · rw [e23]; rfl
        · rw [e24]; rfl
        · rw [e25]; rfl
        · rw [e26]; rfl
        · rw [e27]; rfl
        · rw [e28]; rfl
        · rw [e29]; rfl
        · rw [e30]; rfl
  · refine kk n w3.2.1 _ hb3 ⟨k_i0 (nI n) (nI q), 0, 1, ?_, ?_, by omega, by omega⟩
    · rw [hn, hq]
      exact q_put_put _ _ _
    · have h := q_F0 (n := n) (q := q) ⟨hn1, hn2⟩ ⟨hq1, hq2⟩ (k_i0 (if 2 ≤ x.toInt ∧ x.toInt ≤ 32 then x else nI 12) (if 1 ≤ y.toInt ∧ y.toInt ≤ 20 then y else nI 3))
      have hq' : nI q = (if 1 ≤ y.toInt ∧ y.toInt ≤ 20 then y else nI 3) := hq
      rw [← hq'] at h ⊢
      exact h
