/-! the reference as functions over its own ints: K 0: its object's fields by slot; 1 image, 2 states, 3 parents, 4 codes, 5 registers, 6 counters, 7 breaks, 8 words, 9 labels, 10 shown -/
abbrev k_t : Type := Nat → Nat → Int32
def k_u (K : k_t) (a i : Nat) (v : Int32) : k_t := fun b j => if b = a ∧ j = i then v else K b j
/-- the store with the reference's part K -/
def q_put (S : q_st) (K : k_t) : q_st := fun i j => if 20 ≤ i.1 ∧ i.2 = 0 then K (i.1 - 20) j else S i j
theorem q_put_up (S : q_st) (K : k_t) (a k : Nat) (v : Int32) : q_up (q_put S K) (a + 20, 0) k v = q_put S (k_u K a k v) := by
  funext i j
  obtain ⟨i1, i2⟩ := i
  by_cases h : i1 = a + 20 ∧ i2 = 0
  · obtain ⟨rfl, rfl⟩ := h
    simp [q_up, q_put, k_u]
  · by_cases h2 : 20 ≤ i1 ∧ i2 = 0
    · have h3 : ¬ (i1 = a + 20) := fun q => h ⟨q, h2.2⟩
      have h4 : ¬ (i1 - 20 = a) := by omega
      simp [q_up, q_put, k_u, h2, h3, h4]
    · have h3 : ¬ ((i1, i2) = (a + 20, 0)) := fun q => h ⟨congrArg Prod.fst q, congrArg Prod.snd q⟩
      simp only [q_up, q_put, if_neg h2, h3, false_and, if_false]
theorem q_put_at (S : q_st) (K : k_t) (a k : Nat) : q_put S K (a + 20, 0) k = K a k := by
  simp [q_put]
/-- the first below n -/
noncomputable def f_st (P : Nat → Prop) : Nat → Option Nat
  | 0 => none
  | n + 1 => match f_st P n with
    | some p => some p
    | none => @ite _ (P n) (Classical.propDecidable _) (some n) none
theorem f_st_none {P : Nat → Prop} : ∀ {n : Nat}, (∀ i, i < n → ¬ P i) → f_st P n = none
  | 0, _ => rfl
  | n + 1, h => by
    have ih : f_st P n = none := f_st_none (fun i hi => h i (Nat.lt_succ_of_lt hi))
    simp only [f_st, ih]
    rw [if_neg (h n (Nat.lt_succ_self n))]
theorem f_st_some {P : Nat → Prop} {k : Nat} (hk : P k) (hl : ∀ i, i < k → ¬ P i) : ∀ {n : Nat}, k < n → f_st P n = some k
  | 0, h => absurd h (Nat.not_lt_zero k)
  | n + 1, h => by
    by_cases hkn : k = n
    · subst hkn
      simp only [f_st, f_st_none hl]
      rw [if_pos hk]
    · have ih : f_st P n = some k := f_st_some hk hl (n := n) (by omega)
      simp only [f_st, ih]
theorem f_st_spec {P : Nat → Prop} : ∀ (n : Nat), (f_st P n = none ∧ ∀ i, i < n → ¬ P i) ∨ ∃ k, f_st P n = some k ∧ k < n ∧ P k ∧ ∀ i, i < k → ¬ P i := by
  intro n
  by_cases h : ∃ k, k < n ∧ P k
  · obtain ⟨k, ⟨h1, h2⟩, h3⟩ := pk_least (fun k => k < n ∧ P k) h
    have h4 : ∀ i, i < k → ¬ P i := fun i hi hp => h3 i hi ⟨by omega, hp⟩
    exact Or.inr ⟨k, f_st_some h2 h4 h1, h1, h2, h4⟩
  · have h4 : ∀ i, i < n → ¬ P i := fun i hi hp => h ⟨i, hi, hp⟩
    exact Or.inl ⟨f_st_none h4, h4⟩
theorem f_st_congr {P Q : Nat → Prop} {n : Nat} (h : ∀ i, i < n → (P i ↔ Q i)) : f_st P n = f_st Q n := by
  rcases f_st_spec (P := P) n with ⟨h1, h2⟩ | ⟨k, h1, h2, h3, h4⟩
  · rw [h1, f_st_none (fun i hi hq => h2 i hi ((h i hi).mpr hq))]
  · rw [h1, f_st_some ((h k h2).mp h3) (fun i hi hq => h4 i hi ((h i (by omega)).mpr hq)) h2]
/-- a number or none, as the programs write it -/
def q_fe (o : Option Nat) : Int32 := match o with
  | none => -1
  | some f => nI f
noncomputable def k_fr (K : k_t) : Nat := c_n (fun g => 0 < (K 9 g).toInt ∧ ∀ j, j < g → ¬ K 9 j = K 9 g) 64
noncomputable def k_sh (K : k_t) (g : Nat) : Nat := c_n (fun k => 0 < (K 9 g).toInt ∧ K 9 k = K 9 g) 64
noncomputable def k_al (K : k_t) (g : Nat) : Bool × k_t := @ite _ (nI (k_fr K) = K 0 0) (Classical.propDecidable _) (false, k_u K 0 14 (-13)) (true, k_u (k_u K 0 11 (K 0 11 + 1)) 9 g (K 0 11 + 1))
/-- page g is reached: for a write it must be alone in its class -/
noncomputable def k_pg (K : k_t) (g : Nat) (wr : Bool) : Bool × k_t := @ite _ (0 < k_sh K g ∧ (wr = false ∨ k_sh K g = 1)) (Classical.propDecidable _) (true, K) (k_al K g)
noncomputable def k_re (K : k_t) (p : Nat) (a : Int32) (wr : Bool) : Bool × k_t := @ite _ (a.toInt < 0 ∨ (K 7 p).toInt ≤ a.toInt) (Classical.propDecidable _) (false, k_u K 0 14 (-11)) (k_pg K (8 * p + a.toInt.toNat / 8) wr)
def k_rl (K : k_t) (g : Nat) : k_t := fun a j => if a = 9 ∧ j = g then 0 else if a = 8 ∧ j / 8 = g then 0 else K a j
/-- the process's own part of end: zombie, its code, its pages given back, its children without a parent -/
def k_en0 (K : k_t) (p : Nat) (code : Int32) : k_t := fun a j => if a = 2 ∧ j = p then nI 3 else if a = 4 ∧ j = p then code else if a = 9 ∧ j / 8 = p then 0 else if a = 8 ∧ j / 64 = p then 0 else if a = 3 ∧ j < 8 ∧ K 3 j = nI p then -1 else K a j
def k_en (K : k_t) (p : Nat) (code : Int32) : k_t := if k_en0 K p code 3 p ≠ -1 ∧ k_en0 K p code 2 (k_en0 K p code 3 p).toInt.toNat = nI 2 then k_u (k_en0 K p code) 2 (k_en0 K p code 3 p).toInt.toNat (nI 1) else k_en0 K p code
def k_free (K : k_t) (p : Nat) : k_t := k_u (k_u K 2 p 0) 3 p (-1)
/-- where the search for the next ready process begins -/
def k_fm (K : k_t) : Nat := if K 0 12 = -1 then 0 else (K 0 12).toInt.toNat + 1
def k_on (K : k_t) : Prop := K 0 12 ≠ -1 ∧ K 2 (K 0 12).toInt.toNat = nI 1 ∧ (K 0 13).toInt < (K 0 1).toInt
noncomputable def k_ch (K : k_t) : Bool × k_t := @ite _ (k_on K) (Classical.propDecidable _) (true, K)
  (match f_st (fun k => K 2 ((k_fm K + k) % 8) = nI 1) 8 with
    | some k => (true, k_u (k_u K 0 12 (nI ((k_fm K + k) % 8))) 0 13 0)
    | none => (false, k_u K 0 12 (-1)))
noncomputable def k_ff (K : k_t) : Option Nat := f_st (fun p => K 2 p = 0) 8
def k_fk0 (K : k_t) (p a c : Nat) : k_t := fun b j => if b = 2 ∧ j = c then nI 1 else if b = 3 ∧ j = c then nI p else if b = 6 ∧ j = c then K 6 p else if b = 7 ∧ j = c then K 7 p else if b = 5 ∧ j / 8 = c then (if j % 8 = a then 0 else K 5 (8 * p + j % 8)) else if b = 9 ∧ j / 8 = c then K 9 (8 * p + j % 8) else if b = 8 ∧ j / 64 = c then K 8 (64 * p + j % 64) else K b j
noncomputable def k_fk (K : k_t) (p a : Nat) : Int32 × k_t := match k_ff K with
  | none => (nI 1, k_u K 5 (8 * p + a) (-1))
  | some c => (nI 3, k_u (k_fk0 K p a c) 5 (8 * p + a) (nI c))
/-- the words of process p from address b to the end of its page become 0 -/
def k_cl (K : k_t) (p b : Nat) : k_t := fun a j => if a = 8 ∧ 64 * p + b ≤ j ∧ j < 64 * p + 8 * (b / 8 + 1) then 0 else K a j
def k_gr0 (K : k_t) (p a b : Nat) : k_t := fun c j => if c = 9 ∧ j / 8 = p ∧ b ≤ 8 * (j % 8) then 0 else if c = 8 ∧ j / 64 = p ∧ b ≤ 8 * (j % 64 / 8) then 0 else k_u (k_u K 5 (8 * p + a) (K 7 p)) 7 p (nI b) c j
noncomputable def k_gr1 (K : k_t) (p b : Nat) : k_t := @ite _ (k_sh K (8 * p + b / 8) = 1) (Classical.propDecidable _) (k_cl K p b) (if (k_al K (8 * p + b / 8)).1 = true then k_cl (k_al K (8 * p + b / 8)).2 p b else (k_al K (8 * p + b / 8)).2)
noncomputable def k_gr (K : k_t) (p a : Nat) (c : Int32) : k_t :=
  @ite _ ((K 7 p + c).toInt < 0 ∨ 64 < (K 7 p + c).toInt) (Classical.propDecidable _) (k_u K 5 (8 * p + a) (-1))
    (@ite _ ((K 7 p + c).toInt < (K 7 p).toInt ∧ (K 7 p + c).toInt.toNat % 8 ≠ 0 ∧ 0 < (K 9 (8 * p + (K 7 p + c).toInt.toNat / 8)).toInt) (Classical.propDecidable _)
      (k_gr1 (k_gr0 K p a (K 7 p + c).toInt.toNat) p (K 7 p + c).toInt.toNat) (k_gr0 K p a (K 7 p + c).toInt.toNat))
def k_cd (K : k_t) (p k : Nat) : Prop := ¬ K 2 k = 0 ∧ K 3 k = nI p
noncomputable def k_aw (K : k_t) (p a : Nat) : Int32 × k_t := match f_st (fun k => k_cd K p k ∧ K 2 k = nI 3) 8 with
  | some z => (nI 1, k_free (k_u K 5 (8 * p + a) (K 4 z)) z)
  | none => @ite _ (∃ k, k < 8 ∧ k_cd K p k) (Classical.propDecidable _) (nI 4, k_u (k_u K 2 p (nI 2)) 6 p (K 6 p - 1)) (nI 1, k_u K 5 (8 * p + a) (-1))
/-- a load of a word, a store of a word -/
noncomputable def k_ld (K : k_t) (p a : Nat) (ad : Int32) : k_t := if (k_re K p ad false).1 = true then k_u (k_re K p ad false).2 5 (8 * p + a) ((k_re K p ad false).2 8 (64 * p + ad.toInt.toNat)) else (k_re K p ad false).2
noncomputable def k_so (K : k_t) (p a : Nat) (ad : Int32) : k_t := if (k_re K p ad true).1 = true then k_u (k_re K p ad true).2 8 (64 * p + ad.toInt.toNat) (K 5 (8 * p + a)) else (k_re K p ad true).2
def k_pr (K : k_t) (x : Int32) : k_t := k_u (k_u K 10 ((K 0 15).toInt.toNat % 32) x) 0 15 (K 0 15 + 1)
noncomputable def k_op (K : k_t) (p op a b : Nat) (c : Int32) : Int32 × k_t :=
  if op = 0 then (nI 1, k_u K 5 (8 * p + a) c)
  else if op = 1 then (nI 1, k_u K 5 (8 * p + a) (K 5 (8 * p + a) + K 5 (8 * p + b) + c))
  else if op = 2 then (nI 1, k_u K 5 (8 * p + a) (K 5 (8 * p + a) - K 5 (8 * p + b)))
  else if op = 3 then (nI 1, k_ld K p a (K 5 (8 * p + b) + c))
  else if op = 4 then (nI 1, k_so K p a (K 5 (8 * p + b) + c))
  else if op = 5 then (nI 1, if K 5 (8 * p + a) ≠ 0 then k_u K 6 p c else K)
  else if op = 6 then (nI 1, if (K 5 (8 * p + a)).toInt < (K 5 (8 * p + b)).toInt then k_u K 6 p c else K)
  else if op = 7 then (nI 2, k_pr K (K 5 (8 * p + a)))
  else if op = 8 then k_fk K p a
  else if op = 9 then (nI 1, k_gr K p a c)
  else if op = 10 then (nI 5, k_en K p (K 5 (8 * p + a)))
  else if op = 11 then k_aw K p a
  else if op = 12 then (nI 1, k_u K 0 13 (K 0 1))
  else if op = 13 then (nI 1, k_u K 5 (8 * p + a) (nI p))
  else (nI 1, k_u K 0 14 (-12))
/-- one step -/
noncomputable def k_dn (K : k_t) (p : Nat) (w : Int32) : Int32 × k_t := k_op K p (w &&& 15).toInt.toNat ((w >>> 4) &&& 7).toInt.toNat ((w >>> 7) &&& 7).toInt.toNat (w >>> 10)
noncomputable def k_s2 (K : k_t) (p : Nat) (r : Int32 × k_t) : Int32 × k_t := if r.2 0 14 = 0 then r else (nI 5, k_en r.2 p (r.2 0 14))
noncomputable def k_s1 (K : k_t) (p : Nat) : Int32 × k_t := if (k_re K p (K 6 p) false).1 = true then k_s2 K p (k_dn (k_u (k_re K p (K 6 p) false).2 6 p (K 6 p + 1)) p ((k_re K p (K 6 p) false).2 8 (64 * p + (K 6 p).toInt.toNat))) else (nI 5, k_en (k_re K p (K 6 p) false).2 p ((k_re K p (K 6 p) false).2 0 14))
noncomputable def k_s (K : k_t) : Int32 × k_t := if (k_ch K).1 = true then k_s1 (k_u (k_u (k_ch K).2 0 13 ((k_ch K).2 0 13 + 1)) 0 14 0) ((k_ch K).2 0 12).toInt.toNat else (0, (k_ch K).2)
/-- at most n steps, till one is idle -/
noncomputable def k_ss : Nat → k_t → Nat × k_t
  | 0, K => (0, K)
  | n + 1, K => if (k_ss n K).1 = n ∧ (k_s (k_ss n K).2).1 ≠ 0 then (n + 1, (k_s (k_ss n K).2).2) else if (k_ss n K).1 = n then (n, (k_s (k_ss n K).2).2) else k_ss n K
def k_ld0 (K : k_t) (p n : Nat) (L : Int32) : k_t := fun a j => if a = 2 ∧ j = p then nI 1 else if a = 3 ∧ j = p then -1 else if a = 6 ∧ j = p then 0 else if a = 7 ∧ j = p then nI n else if a = 5 ∧ j / 8 = p then 0 else if a = 8 ∧ j / 64 = p then (if j % 64 < n then K 1 (j % 64) else 0) else if a = 9 ∧ j / 8 = p then (if j % 8 < (n + 7) / 8 then L + nI (j % 8 + 1) else 0) else if a = 0 ∧ j = 11 then L + nI 8 else K a j
