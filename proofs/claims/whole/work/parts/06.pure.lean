/-! counting, and the relation of the two memories: frames on one side, labels on the other -/
noncomputable def c_n (P : Nat → Prop) : Nat → Nat
  | 0 => 0
  | n + 1 => c_n P n + @ite Nat (P n) (Classical.propDecidable _) 1 0
theorem c_n_pos {P : Nat → Prop} {n : Nat} (h : P n) : c_n P (n + 1) = c_n P n + 1 := by
  show c_n P n + @ite Nat (P n) (Classical.propDecidable _) 1 0 = _
  rw [if_pos h]
theorem c_n_neg {P : Nat → Prop} {n : Nat} (h : ¬ P n) : c_n P (n + 1) = c_n P n := by
  show c_n P n + @ite Nat (P n) (Classical.propDecidable _) 1 0 = _
  rw [if_neg h]
  rfl
theorem c_n_congr {P Q : Nat → Prop} : ∀ {n : Nat}, (∀ i, i < n → (P i ↔ Q i)) → c_n P n = c_n Q n
  | 0, _ => rfl
  | n + 1, h => by
    have ih : c_n P n = c_n Q n := c_n_congr (fun i hi => h i (Nat.lt_succ_of_lt hi))
    by_cases hp : P n
    · rw [c_n_pos hp, c_n_pos ((h n (Nat.lt_succ_self n)).mp hp), ih]
    · rw [c_n_neg hp, c_n_neg (fun q => hp ((h n (Nat.lt_succ_self n)).mpr q)), ih]
theorem c_n_le (P : Nat → Prop) : ∀ n, c_n P n ≤ n
  | 0 => Nat.le_refl 0
  | n + 1 => by
    have ih := c_n_le P n
    by_cases hp : P n
    · rw [c_n_pos hp]; omega
    · rw [c_n_neg hp]; omega
theorem c_n_zero {P : Nat → Prop} : ∀ {n : Nat}, c_n P n = 0 ↔ ∀ i, i < n → ¬ P i
  | 0 => ⟨fun _ i hi => absurd hi (Nat.not_lt_zero i), fun _ => rfl⟩
  | n + 1 => by
    have ih := @c_n_zero P n
    by_cases hp : P n
    · rw [c_n_pos hp]
      exact ⟨fun h => by omega, fun h => absurd hp (h n (Nat.lt_succ_self n))⟩
    · rw [c_n_neg hp, ih]
      refine ⟨fun h i hi => ?_, fun h i hi => h i (Nat.lt_succ_of_lt hi)⟩
      by_cases hin : i = n
      · subst hin; exact hp
      · exact h i (by omega)
theorem c_n_full {P : Nat → Prop} : ∀ {n : Nat}, c_n P n = n ↔ ∀ i, i < n → P i
  | 0 => ⟨fun _ i hi => absurd hi (Nat.not_lt_zero i), fun _ => rfl⟩
  | n + 1 => by
    have ih := @c_n_full P n
    have hle := c_n_le P n
    by_cases hp : P n
    · rw [c_n_pos hp]
      constructor
      · intro h i hi
        by_cases hin : i = n
        · subst hin; exact hp
        · exact ih.mp (by omega) i (by omega)
      · intro h
        rw [ih.mpr (fun i hi => h i (Nat.lt_succ_of_lt hi))]
    · rw [c_n_neg hp]
      exact ⟨fun h => by omega, fun h => absurd (h n (Nat.lt_succ_self n)) hp⟩
/-- one place comes -/
theorem c_n_add {P Q : Nat → Prop} {k : Nat} (hP : ¬ P k) (hQ : Q k) (ho : ∀ i, i ≠ k → (P i ↔ Q i)) : ∀ {n : Nat}, k < n → c_n Q n = c_n P n + 1
  | 0, h => absurd h (Nat.not_lt_zero k)
  | n + 1, h => by
    by_cases hk : k = n
    · subst hk
      rw [c_n_pos hQ, c_n_neg hP, c_n_congr (fun i hi => ho i (by omega))]
    · have ih := c_n_add hP hQ ho (n := n) (by omega)
      by_cases hp : P n
      · rw [c_n_pos hp, c_n_pos ((ho n (by omega)).mp hp), ih]
      · rw [c_n_neg hp, c_n_neg (fun q => hp ((ho n (by omega)).mpr q)), ih]
theorem c_n_ex {P : Nat → Prop} {n k : Nat} (hk : k < n) (h : P k) : 0 < c_n P n := by
  rcases Nat.eq_zero_or_pos (c_n P n) with h0 | h0
  · exact absurd h (c_n_zero.mp h0 k hk)
  · exact h0
theorem c_n_one {P : Nat → Prop} {n k : Nat} (hk : k < n) (h : P k) (h1 : c_n P n = 1) : ∀ j, j < n → P j → j = k := by
  intro j hj hPj
  by_cases hjk : j = k
  · exact hjk
  · exfalso
    have e := c_n_add (P := fun i => P i ∧ i ≠ k) (Q := P) (k := k) (fun h => h.2 rfl) h (fun i hi => ⟨fun q => q.1, fun q => ⟨q, hi⟩⟩) hk
    have : c_n (fun i => P i ∧ i ≠ k) n = 0 := by omega
    exact c_n_zero.mp this j hj ⟨hPj, hjk⟩
/-- places that hold a value for the first time are as many as the values held -/
theorem c_n_first {f : Nat → Option Nat} {n : Nat} (hf : ∀ g v, f g = some v → v < n) : ∀ m, c_n (fun g => f g ≠ none ∧ ∀ j, j < g → f j ≠ f g) m = c_n (fun v => ∃ g, g < m ∧ f g = some v) n
  | 0 => by
    show 0 = _
    symm
    exact c_n_zero.mpr (fun i _ h => by obtain ⟨g, hg, -⟩ := h; omega)
  | m + 1 => by
    have ih := c_n_first hf m
    by_cases hp : f m ≠ none ∧ ∀ j, j < m → f j ≠ f m
    · rw [c_n_pos hp, ih]
      obtain ⟨h1, h2⟩ := hp
      cases hv : f m with
      | none => exact absurd hv h1
      | some v =>
        symm
        refine c_n_add (k := v) ?_ ⟨m, by omega, hv⟩ (fun i hi => ?_) (hf m v hv)
        · rintro ⟨g, hg, hgv⟩
          exact h2 g hg (by rw [hgv, hv])
        · constructor
          · rintro ⟨g, hg, hgv⟩
            exact ⟨g, by omega, hgv⟩
          · rintro ⟨g, hg, hgv⟩
            refine ⟨g, ?_, hgv⟩
            by_cases hgm : g = m
            · subst hgm
              rw [hv] at hgv
              exact absurd (Option.some.inj hgv).symm hi
            · omega
    · rw [c_n_neg hp, ih]
      refine c_n_congr (fun i _ => ?_)
      constructor
      · rintro ⟨g, hg, hgv⟩
        exact ⟨g, by omega, hgv⟩
      · rintro ⟨g, hg, hgv⟩
        by_cases hgm : g = m
        · subst hgm
          have : ∃ j, j < g ∧ f j = f g := by
            refine Classical.byContradiction fun hn => hp ⟨(by rw [hgv]; simp), fun j hj hjg => hn ⟨j, hj, hjg⟩⟩
          obtain ⟨j, hj, hjg⟩ := this
          exact ⟨j, hj, hjg.trans hgv⟩
        · exact ⟨g, by omega, hgv⟩
/-- the two memories: page g is in frame pg g (none: untouched); us: pages of each frame; cw: words of frames; lab: labels; wd: words of pages; L: no label is above it -/
def q_M (n : Nat) (pg : Nat → Option Nat) (us : Nat → Nat) (cw : Nat → Int32) (lab : Nat → Nat) (wd : Nat → Int32) (L : Nat) : Prop :=
  (∀ g f, pg g = some f → f < n ∧ g < 64) ∧ (∀ g, g < 64 → lab g ≤ L) ∧ (∀ g, g < 64 → (pg g = none ↔ lab g = 0)) ∧ (∀ g g', g < 64 → g' < 64 → lab g ≠ 0 → (pg g = pg g' ↔ lab g = lab g')) ∧ (∀ f, f < n → us f = c_n (fun g => pg g = some f) 64) ∧ (∀ g f k, pg g = some f → k < 8 → wd (8 * g + k) = cw (8 * f + k)) ∧ (∀ g k, g < 64 → pg g = none → k < 8 → wd (8 * g + k) = 0)
/-- page g goes alone into the free frame f, under the new label y -/
theorem q_M_move {n : Nat} {pg : Nat → Option Nat} {us us' : Nat → Nat} {cw cw' : Nat → Int32} {lab : Nat → Nat} {wd : Nat → Int32} {L g f y : Nat} (h : q_M n pg us cw lab wd L) (hg : g < 64) (hf : f < n) (hu : us f = 0) (hy : L < y)
    (hus : ∀ x, x < n → us' x = if x = f then 1 else if pg g = some x then us x - 1 else us x) (hcw : ∀ x, x / 8 ≠ f → cw' x = cw x) (hcf : ∀ k, k < 8 → cw' (8 * f + k) = wd (8 * g + k)) : q_M n (fun x => if x = g then some f else pg x) us' cw' (fun x => if x = g then y else lab x) wd y := by
  obtain ⟨h1, h2, h3, h4, h5, h6, h7⟩ := h
  have hfree : ∀ x, pg x ≠ some f := by
    intro x hx
    have h0 : c_n (fun g => pg g = some f) 64 = 0 := by rw [← h5 f hf]; exact hu
    exact c_n_zero.mp h0 x (h1 x f hx).2 hx
  refine ⟨?_, ?_, ?_, ?_, ?_, ?_, ?_⟩
  · intro x v hv
    by_cases hx : x = g
    · subst hx
      simp at hv
      subst hv
      exact ⟨hf, hg⟩
    · simp [hx] at hv
      exact h1 x v hv
  · intro x hx
    by_cases hxg : x = g
    · simp [hxg]
    · simp [hxg]
      have := h2 x hx
      omega
  · intro x hx
    by_cases hxg : x = g
    · simp [hxg]
      omega
    · simp [hxg]
      exact h3 x hx
  · intro x x' hx hx' hl
    by_cases hxg : x = g
    · by_cases hxg' : x' = g
      · simp [hxg, hxg']
      · have e1 := hfree x'
        have e2 := h2 x' hx'
        simp [hxg, hxg']
        constructor
        · intro q; exact absurd q.symm e1
        · intro q; omega
    · by_cases hxg' : x' = g
      · have e1 := hfree x
        have e2 := h2 x hx
        simp [hxg, hxg']
        constructor
        · intro q; exact absurd q e1
        · intro q; omega
      · simp [hxg, hxg'] at hl ⊢
        exact h4 x x' hx hx' hl
  · intro x hx
    rw [hus x hx]
    by_cases hxf : x = f
    · subst hxf
      rw [if_pos rfl]
      have h0 : c_n (fun g => pg g = some x) 64 = 0 := by rw [← h5 x hx]; exact hu
      have := c_n_add (P := fun g => pg g = some x) (Q := fun z => (if z = g then some x else pg z) = some x) (k := g) (hfree g) (by simp) (fun i hi => by simp [hi]) (n := 64) hg
      dsimp only
      omega
    · rw [if_neg hxf]
      by_cases hp : pg g = some x
      · rw [if_pos hp, h5 x hx]
        have := c_n_add (P := fun z => (if z = g then some f else pg z) = some x) (Q := fun g => pg g = some x) (k := g) (by simp; exact fun q => hxf q.symm) hp (fun i hi => by simp [hi]) (n := 64) hg
        dsimp only
        omega
      · rw [if_neg hp, h5 x hx]
        refine c_n_congr (fun i _ => ?_)
        by_cases hi : i = g
        · subst hi
          simp
          exact ⟨fun q => absurd q hp, fun q => absurd q.symm hxf⟩
        · simp [hi]
  · intro x v k hv hk
    by_cases hx : x = g
    · subst hx
      simp at hv
      subst hv
      exact (hcf k hk).symm
    · simp [hx] at hv
      rw [h6 x v k hv hk, hcw]
      intro q
      apply hfree x
      rw [hv]
      congr 1
      omega
  · intro x k hx hv hk
    by_cases hxg : x = g
    · simp [hxg] at hv
    · simp [hxg] at hv
      exact h7 x k hx hv hk
/-- page g is given back -/
theorem q_M_rel {n : Nat} {pg : Nat → Option Nat} {us us' : Nat → Nat} {cw : Nat → Int32} {lab : Nat → Nat} {wd wd' : Nat → Int32} {L g : Nat} (h : q_M n pg us cw lab wd L) (hg : g < 64)
    (hus : ∀ x, x < n → us' x = if pg g = some x then us x - 1 else us x) (hwd : ∀ x, wd' x = if x / 8 = g then 0 else wd x) : q_M n (fun x => if x = g then none else pg x) us' cw (fun x => if x = g then 0 else lab x) wd' L := by
  obtain ⟨h1, h2, h3, h4, h5, h6, h7⟩ := h
  refine ⟨?_, ?_, ?_, ?_, ?_, ?_, ?_⟩
  · intro x v hv
    by_cases hx : x = g
    · simp [hx] at hv
    · simp [hx] at hv
      exact h1 x v hv
  · intro x hx
    by_cases hxg : x = g
    · simp [hxg]
    · simp [hxg]
      exact h2 x hx
  · intro x hx
    by_cases hxg : x = g
    · simp [hxg]
    · simp [hxg]
      exact h3 x hx
  · intro x x' hx hx' hl
    by_cases hxg : x = g
    · simp [hxg] at hl
    · simp [hxg] at hl
      by_cases hxg' : x' = g
      · simp [hxg, hxg']
        have := h3 x hx
        constructor
        · intro q; exact absurd (this.mp q) hl
        · intro q; exact absurd q hl
      · simp [hxg, hxg']
        exact h4 x x' hx hx' hl
  · intro x hx
    rw [hus x hx]
    by_cases hp : pg g = some x
    · rw [if_pos hp, h5 x hx]
      have := c_n_add (P := fun z => (if z = g then none else pg z) = some x) (Q := fun g => pg g = some x) (k := g) (by simp) hp (fun i hi => by simp [hi]) (n := 64) hg
      dsimp only
      omega
    · rw [if_neg hp, h5 x hx]
      refine c_n_congr (fun i _ => ?_)
      by_cases hi : i = g
      · subst hi
        simp [hp]
      · simp [hi]
  · intro x v k hv hk
    by_cases hx : x = g
    · simp [hx] at hv
    · simp [hx] at hv
      rw [hwd, if_neg (by omega)]
      exact h6 x v k hv hk
  · intro x k hx hv hk
    rw [hwd]
    by_cases hxg : x = g
    · rw [if_pos (by omega)]
    · simp [hxg] at hv
      rw [if_neg (by omega)]
      exact h7 x k hx hv hk
/-- a word is written into a page that is alone in its frame -/
theorem q_M_put {n : Nat} {pg : Nat → Option Nat} {us : Nat → Nat} {cw cw' : Nat → Int32} {lab : Nat → Nat} {wd wd' : Nat → Int32} {L g f k : Nat} {v : Int32} (h : q_M n pg us cw lab wd L) (hp : pg g = some f) (hu : us f = 1) (hk : k < 8)
    (hcw : ∀ x, cw' x = if x = 8 * f + k then v else cw x) (hwd : ∀ x, wd' x = if x = 8 * g + k then v else wd x) : q_M n pg us cw' lab wd' L := by
  obtain ⟨h1, h2, h3, h4, h5, h6, h7⟩ := h
  obtain ⟨hf, hg⟩ := h1 g f hp
  have hone : ∀ x, pg x = some f → x = g := fun x hx => c_n_one (P := fun g => pg g = some f) hg hp (by rw [← h5 f hf]; exact hu) x (h1 x f hx).2 hx
  refine ⟨h1, h2, h3, h4, h5, ?_, ?_⟩
  · intro x u j hx hj
    rw [hcw, hwd]
    by_cases hxg : x = g
    · subst hxg
      rw [hp] at hx
      cases hx
      by_cases hjk : j = k
      · subst hjk
        rw [if_pos rfl, if_pos rfl]
      · rw [if_neg (by omega), if_neg (by omega)]
        exact h6 x f j hp hj
    · rw [if_neg (by omega)]
      rw [if_neg]
      · exact h6 x u j hx hj
      · intro q
        apply hxg
        apply hone
        rw [hx]
        congr 1
        omega
  · intro x j hx hv hj
    rw [hwd, if_neg]
    · exact h7 x j hx hv hj
    · intro q
      have : x = g := by omega
      subst this
      rw [hp] at hv
      cases hv
/-- page g' comes into the class of page g -/
theorem q_M_share {n : Nat} {pg : Nat → Option Nat} {us us' : Nat → Nat} {cw : Nat → Int32} {lab : Nat → Nat} {wd wd' : Nat → Int32} {L g g' : Nat} (h : q_M n pg us cw lab wd L) (hg : g < 64) (hg' : g' < 64) (hne : g ≠ g') (hp : pg g' = none)
    (hus : ∀ x, x < n → us' x = if pg g = some x then us x + 1 else us x) (hwd : ∀ x, wd' x = if x / 8 = g' then wd (8 * g + x % 8) else wd x) : q_M n (fun x => if x = g' then pg g else pg x) us' cw (fun x => if x = g' then lab g else lab x) wd' L := by
  obtain ⟨h1, h2, h3, h4, h5, h6, h7⟩ := h
  refine ⟨?_, ?_, ?_, ?_, ?_, ?_, ?_⟩
  · intro x v hv
    by_cases hx : x = g'
    · simp [hx] at hv
      exact ⟨(h1 g v hv).1, by omega⟩
    · simp [hx] at hv
      exact h1 x v hv
  · intro x hx
    by_cases hxg : x = g'
    · simp [hxg]
      exact h2 g hg
    · simp [hxg]
      exact h2 x hx
  · intro x hx
    by_cases hxg : x = g'
    · simp [hxg]
      exact h3 g hg
    · simp [hxg]
      exact h3 x hx
  · intro x x' hx hx' hl
    by_cases hxg : x = g' <;> by_cases hxg' : x' = g'
    · simp [hxg, hxg']
    · simp [hxg] at hl
      simp [hxg, hxg']
      exact h4 g x' hg hx' hl
    · simp [hxg] at hl
      simp [hxg, hxg']
      exact h4 x g hx hg hl
    · simp [hxg] at hl
      simp [hxg, hxg']
      exact h4 x x' hx hx' hl
  · intro x hx
    rw [hus x hx]
    by_cases hpg : pg g = some x
    · rw [if_pos hpg, h5 x hx]
      exact (c_n_add (P := fun g => pg g = some x) (Q := fun z => (if z = g' then pg g else pg z) = some x) (k := g') (by rw [hp]; exact fun q => by cases q) (by simp [hpg]) (fun i hi => by simp [hi]) (n := 64) hg').symm
    · rw [if_neg hpg, h5 x hx]
      refine c_n_congr (fun i _ => ?_)
      by_cases hi : i = g'
      · subst hi
        simp [hp, hpg]
      · simp [hi]
  · intro x v k hv hk
    rw [hwd]
    by_cases hx : x = g'
    · simp [hx] at hv
      rw [if_pos (by omega), show (8 * x + k) % 8 = k by omega]
      exact h6 g v k hv hk
    · simp [hx] at hv
      rw [if_neg (by omega)]
      exact h6 x v k hv hk
  · intro x k hx hv hk
    rw [hwd]
    by_cases hxg : x = g'
    · simp [hxg] at hv
      rw [if_pos (by omega), show (8 * x + k) % 8 = k by omega]
      exact h7 g k hg hv hk
    · simp [hxg] at hv
      rw [if_neg (by omega)]
      exact h7 x k hx hv hk
/-- labels counted for the first time are the frames in use -/
theorem q_M_frames {n : Nat} {pg : Nat → Option Nat} {us : Nat → Nat} {cw : Nat → Int32} {lab : Nat → Nat} {wd : Nat → Int32} {L : Nat} (h : q_M n pg us cw lab wd L) : c_n (fun g => 0 < lab g ∧ ∀ j, j < g → lab j ≠ lab g) 64 = c_n (fun f => us f ≠ 0) n := by
  obtain ⟨h1, h2, h3, h4, h5, h6, h7⟩ := h
  have e := c_n_first (f := pg) (n := n) (fun g v hv => (h1 g v hv).1) 64
  have e1 : c_n (fun g => 0 < lab g ∧ ∀ j, j < g → lab j ≠ lab g) 64 = c_n (fun g => pg g ≠ none ∧ ∀ j, j < g → pg j ≠ pg g) 64 := by
    refine c_n_congr (fun g hg => ?_)
    have a := h3 g hg
    constructor
    · rintro ⟨b1, b2⟩
      refine ⟨fun q => ?_, fun j hj q => ?_⟩
      · have := a.mp q; omega
      · exact b2 j hj ((h4 g j hg (by omega) (by omega)).mp q.symm).symm
    · rintro ⟨b1, b2⟩
      have hl : lab g ≠ 0 := fun q => b1 (a.mpr q)
      refine ⟨by omega, fun j hj q => ?_⟩
      exact b2 j hj ((h4 g j hg (by omega) hl).mpr q.symm).symm
  rw [e1, e]
  refine c_n_congr (fun f hf => ?_)
  rw [h5 f hf]
  constructor
  · rintro ⟨g, hg, hgf⟩ h0
    exact c_n_zero.mp h0 g hg hgf
  · intro hne
    refine Classical.byContradiction fun hn => hne (c_n_zero.mpr (fun i hi hif => hn ⟨i, hi, hif⟩))
/-- the pages with page g's label are as many as its frame has users -/
theorem q_M_sharers {n : Nat} {pg : Nat → Option Nat} {us : Nat → Nat} {cw : Nat → Int32} {lab : Nat → Nat} {wd : Nat → Int32} {L g f : Nat} (h : q_M n pg us cw lab wd L) (hp : pg g = some f) : c_n (fun k => 0 < lab g ∧ lab k = lab g) 64 = us f := by
  obtain ⟨h1, h2, h3, h4, h5, h6, h7⟩ := h
  obtain ⟨hf, hg⟩ := h1 g f hp
  have hl : lab g ≠ 0 := fun q => by
    have := (h3 g hg).mpr q
    rw [hp] at this
    cases this
  rw [h5 f hf]
  refine c_n_congr (fun i hi => ?_)
  constructor
  · rintro ⟨-, b⟩
    rw [← hp]
    exact ((h4 g i hg hi hl).mpr b.symm).symm
  · intro b
    exact ⟨by omega, ((h4 g i hg hi hl).mp (by rw [hp, b])).symm⟩
