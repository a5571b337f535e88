/-! the law from its entry to its loop -/
theorem q_arrc {cA : ClassId} {n : Nat} {f g : Nat → Value} (h : ∀ k, k < n → f k = g k) : arrV cA n f = arrV cA n g := by
  unfold arrV
  congr 1
  congr 1
  funext j
  exact h j.val j.isLt
theorem q_rearr {G : q_g} {X : q_cx} {I : q_in} {w : q_wd} {cn : Nat × Nat} {pc : Nat} {ls : List (Option q_v)} {st : List q_v} {S : q_st} {i : q_ix} {cA : ClassId} {n : Nat} {f f' : Nat → Option q_ix} (hsh : w.2.2 i = .inr (.inr (cA, n, f))) (hf : ∀ k, k < n → f k = f' k) (kk : q_W G X I (w.1, w.2.1, q_us w.2.2 i (.inr (.inr (cA, n, f')))) cn pc ls st S) : q_W G X I w cn pc ls st S := by
  obtain ⟨p, l, e, s, m, args, below, meth, c, A, Qf⟩ := X
  intro H locs la hP hD hS hl
  have at' : ∀ (k : Nat) (q : Nat × va_E), (q_wl (w.1, w.2.1, q_us w.2.2 i (.inr (.inr (cA, n, f')))) S)[k]? = some q → ∃ q0 : Nat × va_E, (q_wl w S)[k]? = some q0 ∧ q0.1 = q.1 ∧ (va_at G.1 vwCl q0 H → va_at G.1 vwCl q H) := by
    intro k q hk
    have hk' : (w.1.map (fun j => (w.2.1 j, q_cell w.2.1 (S j) (q_us w.2.2 i (.inr (.inr (cA, n, f'))) j))))[k]? = some q := hk
    rw [List.getElem?_map] at hk'
    cases hj : w.1[k]? with
    | none => rw [hj] at hk'; cases hk'
    | some j =>
      rw [hj] at hk'
      cases hk'
      refine ⟨_, q_wl_at hj, rfl, ?_⟩
      by_cases hji : j = i
      · subst hji
        dsimp only
        rw [q_us_s, hsh]
        intro h
        show H[w.2.1 j]? = some (vp_cell cA (n, .inr (.inr (.inr (.inr (fun m => (f' m).map w.2.1))))))
        have h : H[w.2.1 j]? = some (vp_cell cA (n, .inr (.inr (.inr (.inr (fun m => (f m).map w.2.1)))))) := h
        rw [h, vp_cell_q, vp_cell_q, q_arrc (g := fun m => va_rf ((f' m).map w.2.1)) (fun k hk => by rw [hf k hk])]
      · dsimp only
        rw [q_us_n _ _ _ hji]
        exact fun h => h
  refine kk H locs la (fun k q hk => ?_) ⟨fun a b x y ha hb hxy => ?_, fun k q hk => ?_⟩ hS hl
  · obtain ⟨q0, h1, -, h3⟩ := at' k q hk
    exact h3 (hP k q0 h1)
  · obtain ⟨x0, a1, a2, -⟩ := at' a x ha
    obtain ⟨y0, b1, b2, -⟩ := at' b y hb
    exact hD.1 a b x0 y0 a1 b1 (by rw [a2, b2, hxy])
  · obtain ⟨q0, h1, h2, -⟩ := at' k q hk
    rw [← h2]
    exact hD.2 k q0 h1
/-- the relation speaks of the class's ints alone -/
theorem q_F_of {S S' : q_st} {K : k_t} {n L B : Nat} (h : ∀ j : q_ix, j.1 < 20 → S' j = S j) (hF : q_F S K n L B) : q_F S' K n L B := by
  obtain ⟨ok, ⟨t1, t2, t3, t4, t5, t6⟩, ⟨c1, c2⟩, pg, us, lab, ⟨r1, r2, r3, r4, r5, r6, r7⟩, z⟩ := hF
  refine ⟨ok, ⟨fun i hi => ?_, fun p hp => ?_, fun p r hp hr => ?_, ?_, fun i hi => ?_, ?_⟩, ⟨?_, fun h0 => ?_⟩, pg, us, lab, ⟨r1, ?_, fun p i hp hi => ?_, fun f hf => ?_, ?_, ?_, r7⟩, z⟩
  · rw [h (10, 0) (by decide)]; exact t1 i hi
  · rw [h (5, p) (by show 5 < 20; decide)]; exact t2 p hp
  · rw [h (6, p) (by show 6 < 20; decide)]; exact t3 p r hp hr
  · rw [h (8, 0) (by decide)]; exact t4
  · rw [h (9, 0) (by decide)]; exact t5 i hi
  · rw [h (0, 0) (by decide)]; exact t6
  · rw [h (0, 0) (by decide)]; exact c1
  · rw [h (0, 0) (by decide)]; exact c2 h0
  · rw [h (2, 0) (by decide)]; exact r2
  · rw [h (7, p) (by show 7 < 20; decide)]; exact r3 p i hp hi
  · rw [h (3, 0) (by decide)]; exact r4 f hf
  · rw [h (1, 0) (by decide)]; exact r5
  · rw [h (1, 0) (by decide)]; exact r6
theorem q_put_lo (S : q_st) (K : k_t) {j : q_ix} (h : j.1 < 20) : q_put S K j = S j := by
  funext k
  unfold q_put
  rw [if_neg (by omega)]
theorem q_F_put {S : q_st} {K K2 : k_t} {n L B : Nat} (hF : q_F S K n L B) : q_F (q_put S K2) K n L B := q_F_of (fun j hj => q_put_lo S K2 hj) hF
theorem q_put_put (S : q_st) (K K2 : k_t) : q_put (q_put S K) K2 = q_put S K2 := by
  funext i j
  unfold q_put
  split <;> rfl
theorem q_put_fr {S S' : q_st} {K : k_t} (h : q_put S K = S) (hf : q_fr S S') : q_put S' K = S' := by
  funext i j
  unfold q_put
  split
  · rename_i h2
    rw [hf i h2.1, ← h]
    unfold q_put
    rw [if_pos h2]
  · rfl
theorem c_n_no {P : Nat → Prop} : ∀ n, (∀ k, k < n → ¬ P k) → c_n P n = 0 := by
  intro n
  induction n with
  | zero => intro _; rfl
  | succ n ih =>
    intro h
    show c_n P n + @ite Nat (P n) (Classical.propDecidable _) 1 0 = 0
    rw [ih (fun k hk => h k (by omega)), if_neg (h n (by omega))]
/-- both sides when they are new -/
theorem q_F0 {n q : Nat} (hn : 2 ≤ n ∧ n ≤ 32) (hq : 1 ≤ q ∧ q ≤ 20) (K2 : k_t) : q_F (q_put (q_s0 n (nI q)) K2) (k_i0 (nI n) (nI q)) n 0 1 := by
  refine q_F_put ?_
  have z : ∀ {j : q_ix} (k : Nat), j.1 ≠ 0 → j.1 ≠ 1 → j.1 ≠ 5 → j.1 ≠ 7 → q_s0 n (nI q) j k = 0 := by
    intro j k h0 h1 h5 h7
    unfold q_s0
    rw [if_neg (by rintro ⟨rfl, -⟩; exact h0 rfl), if_neg (by rintro ⟨rfl, -⟩; exact h0 rfl)]
    exact q_si_z n 8 h1 (Or.inl h5) (Or.inl h7) k
  refine ⟨⟨fun p hp => ⟨⟨0, by decide, ?_⟩, Or.inl ?_, ⟨0, by decide, ?_⟩, fun _ => ?_⟩, Or.inl rfl, ⟨0, by decide, rfl⟩, ⟨q, hq.1, hq.2, rfl⟩, ⟨0, by decide, rfl⟩⟩, ⟨fun i hi => ?_, fun p hp => ?_, fun p r hp hr => ?_, ?_, fun i hi => ?_, ?_⟩, ⟨rfl, fun h => absurd rfl h⟩, fun _ => none, fun _ => 0, fun _ => 0, ⟨hn, ⟨fun g f h => (by cases h), fun g hg => Nat.le_refl _, fun g hg => ⟨fun _ => rfl, fun _ => rfl⟩, fun g g' _ _ h => absurd rfl h, fun f hf => ?_, fun g f k h => (by cases h), fun g k hg _ hk => ?_⟩, fun p i hp hi => ?_, fun f hf => ?_, ?_, ?_, rfl, fun g hg => ?_, rfl, by decide⟩, fun p hp h i hi => rfl⟩
  · simp [k_i0]; rfl
  · simp [k_i0, hp]
  · simp [k_i0]; rfl
  · simp [k_i0, hp]
  · rw [z i (by simp) (by simp) (by simp) (by simp)]
    simp [k_i0]
  · simp [q_s0, q_si, k_i0, hp]
  · rw [z r (by simp) (by simp) (by simp) (by simp)]
    simp [k_i0]
  · rw [z 1 (by simp) (by simp) (by simp) (by simp)]
    simp [k_i0]
  · rw [z i (by simp) (by simp) (by simp) (by simp)]
    simp [k_i0]
  · simp [q_s0, k_i0]
  · exact (c_n_no 64 (fun k _ h => by cases h)).symm
  · simp [k_i0]
  · simp [q_s0, q_si, hp, hi, q_fe]
  · rw [z f (by simp) (by simp) (by simp) (by simp)]
    rfl
  · rw [c_n_no n (fun k _ h => h rfl)]
    simp [q_s0, q_si]
    rfl
  · simp [q_s0, q_si]
  · simp [k_i0]
    rfl
/-- the law's loop's invariant: t calls have been compared -/
def q_inv (n t : Nat) (S : q_st) : Prop := ∃ (K : k_t) (L B : Nat), q_put S K = S ∧ q_F S K n L B ∧ L ≤ 110 * t ∧ B ≤ 60 * t + 1
