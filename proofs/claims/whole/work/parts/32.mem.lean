/-! a page reached: what the class does is what the reference does -/
def q_sm (S S' : q_st) : Prop := ∀ j : q_ix, j.1 ≠ 1 → j.1 ≠ 2 → j.1 ≠ 3 → j.1 ≠ 7 → S' j = S j
theorem q_sm_rf (S : q_st) : q_sm S S := fun _ _ _ _ _ => rfl
theorem q_sm_tr {S S1 S2 : q_st} (h1 : q_sm S S1) (h2 : q_sm S1 S2) : q_sm S S2 := fun j a b c d => (h2 j a b c d).trans (h1 j a b c d)
theorem q_R_full {S : q_st} {K : k_t} {n : Nat} {pg : Nat → Option Nat} {us lab : Nat → Nat} {L : Nat} (h : q_R S K n pg us lab L) (hall : ∀ f, f < n → ¬ S (3, 0) f = 0) : nI (k_fr K) = K 0 0 := by
  have hf := q_R_fr h
  obtain ⟨hn, hM, h7, h3, h1, h0, hK0, h9, hl, hL0⟩ := h
  rw [hf, hK0]
  congr 1
  refine c_n_full.mpr (fun f hfn q => hall f hfn ?_)
  rw [h3 f hfn, q]
  rfl
theorem q_R_free {S : q_st} {K : k_t} {n : Nat} {pg : Nat → Option Nat} {us lab : Nat → Nat} {L f : Nat} (h : q_R S K n pg us lab L) (hf : f < n) (h0 : S (3, 0) f = 0) : us f = 0 ∧ ¬ nI (k_fr K) = K 0 0 := by
  have hfr := q_R_fr h
  have hle := q_R_us h hf
  obtain ⟨hn, hM, h7, h3, h1, h00, hK0, h9, hl, hL0⟩ := h
  have hu : us f = 0 := by
    rw [h3 f hf] at h0
    exact (q_nI0 (by omega)).mp h0
  refine ⟨hu, ?_⟩
  rw [hfr, hK0]
  have hcl := c_n_le (fun f => us f ≠ 0) n
  rw [nI_eq (by omega) (by omega)]
  intro q
  exact c_n_full.mp q f hf hu
def q_pgo (wr : Bool) (S : q_st) (K : k_t) (n : Nat) (pg : Nat → Option Nat) (L g : Nat) (r : Int32) (S' : q_st) : Prop :=
  (r = nI 0 ∧ (k_pg K g wr).1 = true ∧ ∃ (pg' : Nat → Option Nat) (us' lab' : Nat → Nat) (L' : Nat), q_R S' (k_pg K g wr).2 n pg' us' lab' L' ∧ L ≤ L' ∧ L' ≤ L + 1 ∧ q_sm S S' ∧ (∀ x, x ≠ g → pg' x = pg x) ∧ ∃ f, pg' g = some f ∧ (wr = true → us' f = 1)) ∨ (r = -13 ∧ (k_pg K g wr).1 = false ∧ (k_pg K g wr).2 = k_u K 0 14 (-13) ∧ S' = S)
theorem q_pgo_old {wr : Bool} {S : q_st} {K : k_t} {n : Nat} {pg : Nat → Option Nat} {us lab : Nat → Nat} {L g f : Nat} (h : q_R S K n pg us lab L) (hp : pg g = some f) (hu : wr = true → us f = 1) : q_pgo wr S K n pg L g (nI 0) S := by
  have hg := (h.2.1.1 g f hp).2
  have hsh := q_R_sh h hg
  rw [hp] at hsh
  have h1 := q_R_us1 h hp
  have e : k_pg K g wr = (true, K) := by
    unfold k_pg
    rw [if_pos]
    refine ⟨by rw [hsh]; exact h1, ?_⟩
    cases wr with
    | false => exact Or.inl rfl
    | true => exact Or.inr (by rw [hsh]; exact hu rfl)
  refine Or.inl ⟨rfl, by rw [e], pg, us, lab, L, by rw [e]; exact h, Nat.le_refl _, Nat.le_succ _, q_sm_rf S, fun _ _ => rfl, f, hp, hu⟩
theorem q_pgo_fail {wr : Bool} {S : q_st} {K : k_t} {n : Nat} {pg : Nat → Option Nat} {us lab : Nat → Nat} {L g : Nat} (h : q_R S K n pg us lab L) (hc : ¬ (0 < k_sh K g ∧ (wr = false ∨ k_sh K g = 1))) (hall : ∀ f, f < n → ¬ S (3, 0) f = 0) : q_pgo wr S K n pg L g (-13) S := by
  have hf := q_R_full h hall
  have e : k_pg K g wr = (false, k_u K 0 14 (-13)) := by
    unfold k_pg
    rw [if_neg hc]
    unfold k_al
    rw [if_pos hf]
  exact Or.inr ⟨rfl, by rw [e], by rw [e], rfl⟩
theorem q_pgo_new {wr : Bool} {S S' : q_st} {K : k_t} {n : Nat} {pg : Nat → Option Nat} {us lab : Nat → Nat} {L p i f : Nat} (h : q_R S K n pg us lab L) (hp : p < 8) (hi : i < 8) (hL : L + 1 < 2 ^ 30) (hc : ¬ (0 < k_sh K (8 * p + i) ∧ (wr = false ∨ k_sh K (8 * p + i) = 1))) (hf : f < n) (h0 : S (3, 0) f = 0) (h2 : ∀ x, pg (8 * p + i) = some x → 2 ≤ us x)
    (e7 : ∀ p' i', p' < 8 → i' < 8 → S' (7, p') i' = if 8 * p' + i' = 8 * p + i then nI f else S (7, p') i')
    (e3 : ∀ x, x < n → S' (3, 0) x = if x = f then nI 1 else if pg (8 * p + i) = some x then nI (us x - 1) else S (3, 0) x)
    (e1 : S' (1, 0) 3 = S (1, 0) 3 + 1) (e0 : S' (1, 0) 0 = S (1, 0) 0) (ew : ∀ x, x / 8 ≠ f → S' (2, 0) x = S (2, 0) x) (ef : ∀ k, k < 8 → S' (2, 0) (8 * f + k) = K 8 (8 * (8 * p + i) + k)) (es : q_sm S S') : q_pgo wr S K n pg L (8 * p + i) (nI 0) S' := by
  obtain ⟨hu, hfr⟩ := q_R_free h hf h0
  have e : k_pg K (8 * p + i) wr = (true, k_u (k_u K 0 11 (K 0 11 + 1)) 9 (8 * p + i) (K 0 11 + 1)) := by
    unfold k_pg
    rw [if_neg hc]
    unfold k_al
    rw [if_neg hfr]
  refine Or.inl ⟨rfl, by rw [e], _, _, _, L + 1, by rw [e]; exact q_R_move h hp hi hf hu hL h2 e7 e3 e1 e0 ew ef, Nat.le_succ _, Nat.le_refl _, es, ?_, f, ?_, ?_⟩
  · intro x hx
    simp [hx]
  · simp
  · intro _
    simp
theorem c_tk_at (S : q_st) (f : Nat) (j : q_ix) (x : Nat) : c_tk S f j x = if j = (2, 0) ∧ x / 8 = f then 0 else if j = (1, 0) ∧ x = 3 then S (1, 0) 3 + 1 else if j = (3, 0) ∧ x = f then nI 1 else S j x := by
  unfold c_tk q_fill q_up
  by_cases hj : j = (2, 0)
  · subst hj
    by_cases hx : x / 8 = f
    · rw [if_pos ⟨rfl, by omega, by omega⟩, if_pos ⟨rfl, hx⟩]
    · rw [if_neg (by rintro ⟨-, a, b⟩; omega)]
      simp [hx]
  · simp only [hj, false_and, if_false]
    rfl
theorem c_lv_at (S : q_st) (f : Nat) (j : q_ix) (x : Nat) : c_lv S f j x = if j = (3, 0) ∧ x = f then S (3, 0) f - nI 1 else if j = (1, 0) ∧ x = 3 ∧ S (3, 0) f - nI 1 = 0 then S (1, 0) 3 - nI 1 else S j x := by
  unfold c_lv
  by_cases h : S (3, 0) f - nI 1 = 0
  · rw [if_pos h]
    unfold q_up
    by_cases hj : j = (1, 0)
    · subst hj
      by_cases hx : x = 3 <;> simp [hx, h]
    · simp [hj]
  · rw [if_neg h]
    unfold q_up
    by_cases hj : j = (1, 0)
    · subst hj
      simp [h]
    · simp [hj]
/-- an untouched page comes into a new frame -/
theorem q_fin0 {wr : Bool} {S : q_st} {K : k_t} {n : Nat} {pg : Nat → Option Nat} {us lab : Nat → Nat} {L p i f : Nat} (h : q_R S K n pg us lab L) (hp : p < 8) (hi : i < 8) (hL : L + 1 < 2 ^ 30) (h0 : pg (8 * p + i) = none) (hf : f < n) (hf0 : S (3, 0) f = 0) : q_pgo wr S K n pg L (8 * p + i) (nI 0) (q_up (c_tk S f) (7, p) i (nI f)) := by
  have hc : ¬ (0 < k_sh K (8 * p + i) ∧ (wr = false ∨ k_sh K (8 * p + i) = 1)) := by rw [q_R_sh h (by omega), h0]; simp
  refine q_pgo_new h hp hi hL hc hf hf0 (fun x hx => by rw [h0] at hx; cases hx) ?_ ?_ ?_ ?_ ?_ ?_ ?_
  · intro p' i' hp' hi'
    by_cases hx : 8 * p' + i' = 8 * p + i
    · obtain ⟨rfl, rfl⟩ : p' = p ∧ i' = i := by omega
      simp [q_up]
    · rw [if_neg hx, q_irr _ _ _ _ _ _ (by rintro ⟨q, rfl⟩; cases q; exact hx rfl)]
      simp [c_tk_at]
  · intro x hx
    rw [q_irr _ _ _ _ _ _ (by simp), h0]
    simp [c_tk_at]
  · rw [q_irr _ _ _ _ _ _ (by simp)]
    simp [c_tk_at]
  · rw [q_irr _ _ _ _ _ _ (by simp)]
    simp [c_tk_at]
  · intro x hx
    rw [q_irr _ _ _ _ _ _ (by simp)]
    simp [c_tk_at, hx]
  · intro k hk
    rw [q_irr _ _ _ _ _ _ (by simp), c_tk_at, if_pos ⟨rfl, by omega⟩]
    exact (h.2.1.2.2.2.2.2.2 (8 * p + i) k (by omega) h0 hk).symm
  · intro j a b c d
    funext x
    rw [q_irr _ _ _ _ _ _ (by rintro ⟨rfl, -⟩; exact d rfl), c_tk_at, if_neg (by rintro ⟨rfl, -⟩; exact b rfl), if_neg (by rintro ⟨rfl, -⟩; exact a rfl), if_neg (by rintro ⟨rfl, -⟩; exact c rfl)]
/-- a shared page leaves its class -/
theorem q_fin1 {S : q_st} {K : k_t} {n : Nat} {pg : Nat → Option Nat} {us lab : Nat → Nat} {L p i f f0 : Nat} (h : q_R S K n pg us lab L) (hp : p < 8) (hi : i < 8) (hL : L + 1 < 2 ^ 30) (h0 : pg (8 * p + i) = some f0) (h1 : ¬ us f0 = 1) (hf : f < n) (hf0 : S (3, 0) f = 0) : q_pgo true S K n pg L (8 * p + i) (nI 0) (q_up (c_lv (q_fill (c_tk S f) (2, 0) (8 * f) 8 (fun x => c_tk S f (2, 0) (8 * f0 + (x - 8 * f)))) f0) (7, p) i (nI f)) := by
  have hpos := q_R_us1 h h0
  have hff := (h.2.1.1 _ _ h0).1
  have hle := q_R_us h hff
  obtain ⟨hu, -⟩ := q_R_free h hf hf0
  have hne : f ≠ f0 := by rintro rfl; omega
  have h3 := h.2.2.2.1
  have hc : ¬ (0 < k_sh K (8 * p + i) ∧ (true = false ∨ k_sh K (8 * p + i) = 1)) := by
    rw [q_R_sh h (by omega), h0]
    simp
    intro _
    exact h1
  generalize hS2 : q_fill (c_tk S f) (2, 0) (8 * f) 8 (fun x => c_tk S f (2, 0) (8 * f0 + (x - 8 * f))) = S2
  have a3 : ∀ x, S2 (3, 0) x = if x = f then nI 1 else S (3, 0) x := by
    intro x
    rw [← hS2, q_fill_ne _ _ _ _ _ _ (by simp), c_tk_at]
    simp
  have a1 : ∀ x, S2 (1, 0) x = if x = 3 then S (1, 0) 3 + 1 else S (1, 0) x := by
    intro x
    rw [← hS2, q_fill_ne _ _ _ _ _ _ (by simp), c_tk_at]
    simp
  have hz : S2 (3, 0) f0 - nI 1 = nI (us f0 - 1) := by
    rw [a3, if_neg (Ne.symm hne), h3 f0 hff, pk_sub (by omega)]
  have hz0 : ¬ S2 (3, 0) f0 - nI 1 = 0 := by
    rw [hz, q_nI0 (by omega)]
    omega
  refine q_pgo_new h hp hi hL hc hf hf0 (fun x hx => by rw [h0] at hx; cases hx; omega) ?_ ?_ ?_ ?_ ?_ ?_ ?_
  · intro p' i' hp' hi'
    by_cases hx : 8 * p' + i' = 8 * p + i
    · obtain ⟨rfl, rfl⟩ : p' = p ∧ i' = i := by omega
      simp [q_up]
    · rw [if_neg hx, q_irr _ _ _ _ _ _ (by rintro ⟨q, rfl⟩; cases q; exact hx rfl), c_lv_at, ← hS2]
      simp [q_fill, c_tk_at]
  · intro x hx
    rw [q_irr _ _ _ _ _ _ (by simp), c_lv_at, h0]
    by_cases hx0 : x = f0
    · subst hx0
      rw [if_pos ⟨rfl, rfl⟩, hz, if_neg (Ne.symm hne), if_pos rfl]
    · rw [if_neg (fun q => hx0 q.2), if_neg (by simp), a3]
      by_cases hxf : x = f
      · simp [hxf]
      · rw [if_neg hxf, if_neg hxf, if_neg (by intro q; cases q; exact hx0 rfl)]
  · rw [q_irr _ _ _ _ _ _ (by simp), c_lv_at, if_neg (by simp), if_neg (fun q => hz0 q.2.2), a1]
    simp
  · rw [q_irr _ _ _ _ _ _ (by simp), c_lv_at, if_neg (by simp), if_neg (by simp), a1]
    simp
  · intro x hx
    rw [q_irr _ _ _ _ _ _ (by simp), c_lv_at, if_neg (by simp), if_neg (by simp), ← hS2, q_fill_out _ _ _ _ _ _ (by omega), c_tk_at]
    simp [hx]
  · intro k hk
    rw [q_irr _ _ _ _ _ _ (by simp), c_lv_at, if_neg (by simp), if_neg (by simp), ← hS2, q_fill_in _ _ _ _ _ _ (by omega) (by omega), show 8 * f + k - 8 * f = k by omega, c_tk_at, if_neg (by rintro ⟨-, q⟩; omega), if_neg (by simp), if_neg (by simp)]
    exact (h.2.1.2.2.2.2.2.1 (8 * p + i) f0 k h0 hk).symm
  · intro j a b c d
    funext x
    rw [q_irr _ _ _ _ _ _ (by rintro ⟨rfl, -⟩; exact d rfl), c_lv_at, if_neg (by rintro ⟨rfl, -⟩; exact c rfl), if_neg (by rintro ⟨rfl, -⟩; exact a rfl), ← hS2, q_fill_ne _ _ _ _ _ _ (by rintro rfl; exact b rfl), c_tk_at, if_neg (by rintro ⟨rfl, -⟩; exact b rfl), if_neg (by rintro ⟨rfl, -⟩; exact a rfl), if_neg (by rintro ⟨rfl, -⟩; exact c rfl)]
