/-! the whole relation between the class's cells and the reference's numbers -/
def q_T (S : q_st) (K : k_t) : Prop := (∀ i, i < 64 → S (10, 0) i = K 1 i) ∧ (∀ p, p < 8 → S (5, p) 0 = K 2 p ∧ S (5, p) 1 = K 3 p ∧ S (5, p) 2 = K 4 p ∧ S (5, p) 3 = K 6 p ∧ S (5, p) 4 = K 7 p) ∧ (∀ p r, p < 8 → r < 8 → S (6, p) r = K 5 (8 * p + r)) ∧ S (8, 0) 1 = K 0 15 ∧ (∀ i, i < 32 → S (9, 0) i = K 10 i) ∧ S (0, 0) 4 = K 0 1
def q_C (S : q_st) (K : k_t) : Prop := S (0, 0) 5 = K 0 12 ∧ (K 0 12 ≠ -1 → S (0, 0) 6 = K 0 13)
def q_Zn (K : k_t) (pg : Nat → Option Nat) : Prop := ∀ p, p < 8 → (K 2 p = 0 ∨ K 2 p = nI 3) → ∀ i, i < 8 → pg (8 * p + i) = none
def q_fr (S S' : q_st) : Prop := ∀ j : q_ix, 20 ≤ j.1 → S' j = S j
def q_F (S : q_st) (K : k_t) (n L B : Nat) : Prop := k_Ok K B ∧ q_T S K ∧ q_C S K ∧ ∃ (pg : Nat → Option Nat) (us lab : Nat → Nat), q_R S K n pg us lab L ∧ q_Zn K pg
/-- only tables change: processes, registers, log, image -/
def q_sn (S S' : q_st) : Prop := ∀ j : q_ix, (j.1 = 0 ∨ j.1 = 1 ∨ j.1 = 2 ∨ j.1 = 3 ∨ j.1 = 7 ∨ 20 ≤ j.1) → S' j = S j
theorem q_sn_rf (S : q_st) : q_sn S S := fun _ _ => rfl
theorem q_sn_tr {S S1 S2 : q_st} (h1 : q_sn S S1) (h2 : q_sn S1 S2) : q_sn S S2 := fun j a => (h2 j a).trans (h1 j a)
theorem q_sn_up {S : q_st} {i : q_ix} {k : Nat} {v : Int32} (h : i.1 = 5 ∨ i.1 = 6 ∨ i.1 = 8 ∨ i.1 = 9 ∨ i.1 = 10) : q_sn S (q_up S i k v) := fun j hj => q_up_other S i k v j (by rintro rfl; omega)
theorem q_fr_rf (S : q_st) : q_fr S S := fun _ _ => rfl
theorem q_fr_tr {S S1 S2 : q_st} (h1 : q_fr S S1) (h2 : q_fr S1 S2) : q_fr S S2 := fun j a => (h2 j a).trans (h1 j a)
theorem q_fr_sn {S S' : q_st} (h : q_sn S S') : q_fr S S' := fun j hj => h j (by omega)
theorem q_fr_sm {S S' : q_st} (h : q_sm S S') : q_fr S S' := fun j hj => h j (by omega) (by omega) (by omega) (by omega)
theorem q_fr_up {S : q_st} {i : q_ix} {k : Nat} {v : Int32} (h : i.1 < 20) : q_fr S (q_up S i k v) := fun j hj => q_up_other S i k v j (by rintro rfl; omega)
theorem q_T_sm {S S' : q_st} {K : k_t} (hs : q_sm S S') (h : q_T S K) : q_T S' K := by
  obtain ⟨h1, h2, h3, h4, h5, h6⟩ := h
  have e : ∀ j : q_ix, j.1 ≠ 1 → j.1 ≠ 2 → j.1 ≠ 3 → j.1 ≠ 7 → S' j = S j := hs
  refine ⟨fun i hi => ?_, fun p hp => ?_, fun p r hp hr => ?_, ?_, fun i hi => ?_, ?_⟩
  · rw [e (10, 0) (by simp) (by simp) (by simp) (by simp)]; exact h1 i hi
  · rw [e (5, p) (by simp) (by simp) (by simp) (by simp)]; exact h2 p hp
  · rw [e (6, p) (by simp) (by simp) (by simp) (by simp)]; exact h3 p r hp hr
  · rw [e (8, 0) (by simp) (by simp) (by simp) (by simp)]; exact h4
  · rw [e (9, 0) (by simp) (by simp) (by simp) (by simp)]; exact h5 i hi
  · rw [e (0, 0) (by simp) (by simp) (by simp) (by simp)]; exact h6
theorem q_C_sm {S S' : q_st} {K : k_t} (hs : q_sm S S') (h : q_C S K) : q_C S' K := by
  unfold q_C at *
  rw [hs (0, 0) (by simp) (by simp) (by simp) (by simp)]
  exact h
theorem q_C_sn {S S' : q_st} {K : k_t} (hs : q_sn S S') (h : q_C S K) : q_C S' K := by
  unfold q_C at *
  rw [hs (0, 0) (by simp)]
  exact h
theorem q_T_k {S : q_st} {K K' : k_t} (h : ∀ a, a ≠ 0 → a ≠ 8 → a ≠ 9 → K' a = K a) (h0 : ∀ j, j ≠ 11 → j ≠ 14 → K' 0 j = K 0 j) (hT : q_T S K) : q_T S K' := by
  unfold q_T at *
  rw [h 1 (by decide) (by decide) (by decide), h 2 (by decide) (by decide) (by decide), h 3 (by decide) (by decide) (by decide), h 4 (by decide) (by decide) (by decide), h 5 (by decide) (by decide) (by decide), h 6 (by decide) (by decide) (by decide), h 7 (by decide) (by decide) (by decide), h 10 (by decide) (by decide) (by decide), h0 15 (by decide) (by decide), h0 1 (by decide) (by decide)]
  exact hT
theorem q_C_k {S : q_st} {K K' : k_t} (h0 : ∀ j, j ≠ 11 → j ≠ 14 → K' 0 j = K 0 j) (hT : q_C S K) : q_C S K' := by
  unfold q_C at *
  rw [h0 12 (by decide) (by decide), h0 13 (by decide) (by decide)]
  exact hT
theorem q_Zn_k {K K' : k_t} {pg : Nat → Option Nat} (h : K' 2 = K 2) (hZ : q_Zn K pg) : q_Zn K' pg := by
  unfold q_Zn at *
  rw [h]
  exact hZ
/-- a table's word is written on both sides -/
def q_tc (i : q_ix) (s a j : Nat) : Prop := (i.1 = 5 ∧ i.2 < 8 ∧ j = i.2 ∧ ((s = 0 ∧ a = 2) ∨ (s = 1 ∧ a = 3) ∨ (s = 2 ∧ a = 4) ∨ (s = 3 ∧ a = 6) ∨ (s = 4 ∧ a = 7))) ∨ (i.1 = 6 ∧ i.2 < 8 ∧ s < 8 ∧ a = 5 ∧ j = 8 * i.2 + s) ∨ (i = (10, 0) ∧ a = 1 ∧ j = s) ∨ (i = (9, 0) ∧ a = 10 ∧ j = s) ∨ (i = (8, 0) ∧ s = 1 ∧ a = 0 ∧ j = 15)
theorem q_T_up {S : q_st} {K : k_t} {i : q_ix} {s a j : Nat} {v : Int32} (hc : q_tc i s a j) (h : q_T S K) : q_T (q_up S i s v) (k_u K a j v) := by
  obtain ⟨h1, h2, h3, h4, h5, h6⟩ := h
  obtain ⟨ic, iq⟩ := i
  have eq5 : ∀ (p q : Nat), ((5, p) : q_ix) = (5, q) ↔ p = q := fun p q => by simp
  rcases hc with ⟨hi, hp, hj, hs⟩ | ⟨hi, hp, hs, ha, hj⟩ | ⟨hi, ha, hj⟩ | ⟨hi, ha, hj⟩ | ⟨hi, hs, ha, hj⟩
  · obtain rfl : ic = 5 := hi
    obtain rfl : j = iq := hj
    refine ⟨fun x hx => ?_, fun q hq => ?_, fun q r hq hr => ?_, ?_, fun x hx => ?_, ?_⟩
    · rw [q_irr _ _ _ _ _ _ (by simp), k_u_ne _ _ _ _ (by omega)]; exact h1 x hx
    · obtain ⟨t0, t1, t2, t3, t4⟩ := h2 q hq
      by_cases hqj : q = j
      · subst hqj
        rcases hs with ⟨rfl, rfl⟩ | ⟨rfl, rfl⟩ | ⟨rfl, rfl⟩ | ⟨rfl, rfl⟩ | ⟨rfl, rfl⟩ <;> simp [q_up, k_u, t0, t1, t2, t3, t4]
      · simp [q_up, k_u, hqj, t0, t1, t2, t3, t4]
    · rw [q_irr _ _ _ _ _ _ (by simp), k_u_ne _ _ _ _ (by omega)]; exact h3 q r hq hr
    · rw [q_irr _ _ _ _ _ _ (by simp), k_u_ne _ _ _ _ (by omega)]; exact h4
    · rw [q_irr _ _ _ _ _ _ (by simp), k_u_ne _ _ _ _ (by omega)]; exact h5 x hx
    · rw [q_irr _ _ _ _ _ _ (by simp), k_u_ne _ _ _ _ (by omega)]; exact h6
  · obtain rfl : ic = 6 := hi
    subst ha hj
    refine ⟨fun x hx => ?_, fun q hq => ?_, fun q r hq hr => ?_, ?_, fun x hx => ?_, ?_⟩
    · rw [q_irr _ _ _ _ _ _ (by simp), k_u_ne _ _ _ _ (by omega)]; exact h1 x hx
    · simp [q_up, k_u]; exact h2 q hq
    · have hp' : iq < 8 := hp
      by_cases hqr : q = iq ∧ r = s
      · obtain ⟨rfl, rfl⟩ := hqr
        simp [q_up, k_u]
      · rw [q_irr _ _ _ _ _ _ (by rintro ⟨q1, q2⟩; cases q1; exact hqr ⟨rfl, q2⟩), k_u_ne _ _ _ _ (by rintro ⟨-, q2⟩; simp only at q2; exact hqr (by omega))]
        exact h3 q r hq hr
    · rw [q_irr _ _ _ _ _ _ (by simp), k_u_ne _ _ _ _ (by omega)]; exact h4
    · rw [q_irr _ _ _ _ _ _ (by simp), k_u_ne _ _ _ _ (by omega)]; exact h5 x hx
    · rw [q_irr _ _ _ _ _ _ (by simp), k_u_ne _ _ _ _ (by omega)]; exact h6
  · cases hi
    subst ha hj
    refine ⟨fun x hx => ?_, fun q hq => ?_, fun q r hq hr => ?_, ?_, fun x hx => ?_, ?_⟩
    · by_cases hxs : x = j
      · subst hxs; simp [q_up, k_u]
      · simp [q_up, k_u, hxs]; exact h1 x hx
    · simp [q_up, k_u]; exact h2 q hq
    · simp [q_up, k_u]; exact h3 q r hq hr
    · simp [q_up, k_u]; exact h4
    · simp [q_up, k_u]; exact h5 x hx
    · simp [q_up, k_u]; exact h6
  · cases hi
    subst ha hj
    refine ⟨fun x hx => ?_, fun q hq => ?_, fun q r hq hr => ?_, ?_, fun x hx => ?_, ?_⟩
    · simp [q_up, k_u]; exact h1 x hx
    · simp [q_up, k_u]; exact h2 q hq
    · simp [q_up, k_u]; exact h3 q r hq hr
    · simp [q_up, k_u]; exact h4
    · by_cases hxs : x = j
      · subst hxs; simp [q_up, k_u]
      · simp [q_up, k_u, hxs]; exact h5 x hx
    · simp [q_up, k_u]; exact h6
  · cases hi
    subst hs ha hj
    refine ⟨fun x hx => ?_, fun q hq => ?_, fun q r hq hr => ?_, ?_, fun x hx => ?_, ?_⟩
    · simp [q_up, k_u]; exact h1 x hx
    · simp [q_up, k_u]; exact h2 q hq
    · simp [q_up, k_u]; exact h3 q r hq hr
    · simp [q_up, k_u]
    · simp [q_up, k_u]; exact h5 x hx
    · simp [q_up, k_u]; exact h6
theorem q_R_sn {S S' : q_st} {K K' : k_t} {n : Nat} {pg : Nat → Option Nat} {us lab : Nat → Nat} {L : Nat} (hs : q_sn S S') (k8 : K' 8 = K 8) (k9 : K' 9 = K 9) (k00 : K' 0 0 = K 0 0) (k11 : K' 0 11 = K 0 11) (h : q_R S K n pg us lab L) : q_R S' K' n pg us lab L := by
  obtain ⟨hn, hM, h7, h3, h1, h0, hK0, h9, hl, hL0⟩ := h
  refine ⟨hn, ?_, fun p i hp hi => ?_, fun f hf => ?_, ?_, ?_, ?_, ?_, ?_, hL0⟩
  · rw [hs (2, 0) (by simp), k8]; exact hM
  · rw [hs (7, p) (by simp)]; exact h7 p i hp hi
  · rw [hs (3, 0) (by simp)]; exact h3 f hf
  · rw [hs (1, 0) (by simp)]; exact h1
  · rw [hs (1, 0) (by simp)]; exact h0
  · rw [k00]; exact hK0
  · rw [k9]; exact h9
  · rw [k11]; exact hl
/-- the same class cells, other numbers of the reference: only its fault, its labels' latest -/
theorem q_R_k {S : q_st} {K K' : k_t} {n : Nat} {pg : Nat → Option Nat} {us lab : Nat → Nat} {L : Nat} (k8 : K' 8 = K 8) (k9 : K' 9 = K 9) (k00 : K' 0 0 = K 0 0) (k11 : K' 0 11 = K 0 11) (h : q_R S K n pg us lab L) : q_R S K' n pg us lab L := q_R_sn (q_sn_rf S) k8 k9 k00 k11 h
/-- the fault is nobody's -/
theorem q_F_14 {S : q_st} {K : k_t} {n L B : Nat} {v : Int32} (h : q_F S K n L B) : q_F S (k_u K 0 14 v) n L B := by
  obtain ⟨h1, h2, h3, pg, us, lab, h4, h5⟩ := h
  refine ⟨k_Ok_u0 (by decide) h1, q_T_k (fun a ha _ _ => k_u_k _ _ _ _ ha) (fun j _ hj => k_u_ne _ _ _ _ (by omega)) h2, q_C_k (fun j _ hj => k_u_ne _ _ _ _ (by omega)) h3, pg, us, lab, q_R_k (k_u_k _ _ _ _ (by decide)) (k_u_k _ _ _ _ (by decide)) (k_u_ne _ _ _ _ (by decide)) (k_u_ne _ _ _ _ (by decide)) h4, q_Zn_k (k_u_k _ _ _ _ (by decide)) h5⟩
/-- a table's word that no range and no page hangs on -/
theorem q_F_up {S : q_st} {K : k_t} {n L B : Nat} {i : q_ix} {s a j : Nat} {v : Int32} (hc : q_tc i s a j) (ha : a = 1 ∨ a = 4 ∨ a = 5 ∨ a = 6 ∨ a = 10) (h : q_F S K n L B) : q_F (q_up S i s v) (k_u K a j v) n L B := by
  obtain ⟨h1, h2, h3, pg, us, lab, h4, h5⟩ := h
  have hk : i.1 = 5 ∨ i.1 = 6 ∨ i.1 = 8 ∨ i.1 = 9 ∨ i.1 = 10 := by
    rcases hc with ⟨h, -⟩ | ⟨h, -⟩ | ⟨h, -⟩ | ⟨h, -⟩ | ⟨h, -⟩
    · exact Or.inl h
    · exact Or.inr (Or.inl h)
    · rw [h]; simp
    · rw [h]; simp
    · rw [h]; simp
  refine ⟨k_Ok_u (by omega) h1, q_T_up hc h2, ?_, pg, us, lab, ?_, q_Zn_k (k_u_k _ _ _ _ (by omega)) h5⟩
  · refine q_C_sn (q_sn_up hk) (q_C_k (fun j _ _ => k_u_ne _ _ _ _ (by omega)) h3)
  · exact q_R_sn (q_sn_up hk) (k_u_k _ _ _ _ (by omega)) (k_u_k _ _ _ _ (by omega)) (k_u_ne _ _ _ _ (by omega)) (k_u_ne _ _ _ _ (by omega)) h4
