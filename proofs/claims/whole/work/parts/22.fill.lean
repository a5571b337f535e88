/-! loops that fill a stretch of an array -/
theorem q_loop {P : Nat → Prop} {m : Nat} (h : ∀ k, k ≤ m → (k < m → P (k + 1)) → P k) : ∀ k, k ≤ m → P k := by
  intro k hk
  obtain ⟨d, hd⟩ : ∃ d, d = m - k := ⟨_, rfl⟩
  induction d generalizing k with
  | zero => exact h k hk (fun hlt => absurd hlt (by omega))
  | succ d ih => exact h k hk (fun hlt => ih (k + 1) (by omega) (by omega))
def q_fill (S : q_st) (i : q_ix) (a m : Nat) (f : Nat → Int32) : q_st := fun j x => if j = i ∧ a ≤ x ∧ x < a + m then f x else S j x
theorem q_fill_0 (S : q_st) (i : q_ix) (a : Nat) (f : Nat → Int32) : q_fill S i a 0 f = S := by
  funext j x
  unfold q_fill
  rw [if_neg]
  rintro ⟨-, h1, h2⟩
  omega
theorem q_fill_s (S : q_st) (i : q_ix) (a m : Nat) (f : Nat → Int32) (v : Int32) (hv : v = f (a + m)) : q_up (q_fill S i a m f) i (a + m) v = q_fill S i a (m + 1) f := by
  funext j x
  unfold q_up q_fill
  by_cases hj : j = i
  · by_cases hx : x = a + m
    · subst hj hx hv
      simp
    · by_cases h1 : a ≤ x ∧ x < a + m
      · rw [if_neg (by rintro ⟨-, q⟩; exact hx q), if_pos ⟨hj, h1⟩, if_pos ⟨hj, h1.1, by omega⟩]
      · rw [if_neg (by rintro ⟨-, q⟩; exact hx q), if_neg (fun q => h1 q.2), if_neg (fun q => h1 ⟨q.2.1, by omega⟩)]
  · simp [hj]
theorem q_fill_ne (S : q_st) (i : q_ix) (a m : Nat) (f : Nat → Int32) (j : q_ix) (h : j ≠ i) : q_fill S i a m f j = S j := by
  funext x
  unfold q_fill
  rw [if_neg (fun q => h q.1)]
theorem q_fill_out (S : q_st) (i : q_ix) (a m : Nat) (f : Nat → Int32) (x : Nat) (h : x < a ∨ a + m ≤ x) : q_fill S i a m f i x = S i x := by
  unfold q_fill
  rw [if_neg]
  rintro ⟨-, h1, h2⟩
  omega
theorem q_fill_in (S : q_st) (i : q_ix) (a m : Nat) (f : Nat → Int32) (x : Nat) (h1 : a ≤ x) (h2 : x < a + m) : q_fill S i a m f i x = f x := by
  unfold q_fill
  rw [if_pos ⟨rfl, h1, h2⟩]
def k_fill (K : k_t) (c a m : Nat) (f : Nat → Int32) : k_t := fun b x => if b = c ∧ a ≤ x ∧ x < a + m then f x else K b x
theorem k_fill_0 (K : k_t) (c a : Nat) (f : Nat → Int32) : k_fill K c a 0 f = K := by
  funext j x
  unfold k_fill
  rw [if_neg]
  rintro ⟨-, h1, h2⟩
  omega
theorem k_fill_s (K : k_t) (c a m : Nat) (f : Nat → Int32) (v : Int32) (hv : v = f (a + m)) : k_u (k_fill K c a m f) c (a + m) v = k_fill K c a (m + 1) f := by
  funext j x
  unfold k_u k_fill
  by_cases hj : j = c
  · by_cases hx : x = a + m
    · subst hj hx hv
      simp
    · by_cases h1 : a ≤ x ∧ x < a + m
      · rw [if_neg (by rintro ⟨-, q⟩; exact hx q), if_pos ⟨hj, h1⟩, if_pos ⟨hj, h1.1, by omega⟩]
      · rw [if_neg (by rintro ⟨-, q⟩; exact hx q), if_neg (fun q => h1 q.2), if_neg (fun q => h1 ⟨q.2.1, by omega⟩)]
  · simp [hj]
