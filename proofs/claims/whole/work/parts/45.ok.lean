/-! the reference's numbers stay in their ranges -/
def k_Pr (K : k_t) (p : Nat) : Prop := (∃ s, s < 4 ∧ K 2 p = nI s) ∧ (K 3 p = -1 ∨ ∃ r, r < 8 ∧ K 3 p = nI r) ∧ (∃ b, b ≤ 64 ∧ K 7 p = nI b) ∧ (K 2 p = 0 → K 3 p = -1)
def k_Gl (K : k_t) (B : Nat) : Prop := (K 0 12 = -1 ∨ ∃ c, c < 8 ∧ K 0 12 = nI c) ∧ (∃ m, m < B ∧ K 0 15 = nI m) ∧ (∃ q, 1 ≤ q ∧ q ≤ 20 ∧ K 0 1 = nI q) ∧ (∃ r, r ≤ 20 ∧ K 0 13 = nI r)
def k_Ok (K : k_t) (B : Nat) : Prop := (∀ p, p < 8 → k_Pr K p) ∧ k_Gl K B
theorem k_Pr_same {K K' : k_t} {p : Nat} (h2 : K' 2 p = K 2 p) (h3 : K' 3 p = K 3 p) (h7 : K' 7 p = K 7 p) (h : k_Pr K p) : k_Pr K' p := by
  unfold k_Pr at *
  rw [h2, h3, h7]
  exact h
theorem k_Gl_same {K K' : k_t} {B : Nat} (h : ∀ j, j ≠ 11 → j ≠ 14 → K' 0 j = K 0 j) (hg : k_Gl K B) : k_Gl K' B := by
  unfold k_Gl at *
  rw [h 12 (by decide) (by decide), h 15 (by decide) (by decide), h 1 (by decide) (by decide), h 13 (by decide) (by decide)]
  exact hg
theorem k_Gl_le {K : k_t} {B B' : Nat} (h : B ≤ B') (hg : k_Gl K B) : k_Gl K B' := by
  obtain ⟨h1, ⟨m, hm, h2⟩, h3⟩ := hg
  exact ⟨h1, ⟨m, by omega, h2⟩, h3⟩
theorem k_Ok_le {K : k_t} {B B' : Nat} (h : B ≤ B') (hg : k_Ok K B) : k_Ok K B' := ⟨hg.1, k_Gl_le h hg.2⟩
theorem k_Ok_par {K : k_t} {B : Nat} (h : k_Ok K B) : k_Par K := fun j hj => (h.1 j hj).2.1
/-- the kinds that the ranges speak of are the same -/
theorem k_Ok_same {K K' : k_t} {B : Nat} (h2 : K' 2 = K 2) (h3 : K' 3 = K 3) (h7 : K' 7 = K 7) (h0 : ∀ j, j ≠ 11 → j ≠ 14 → K' 0 j = K 0 j) (h : k_Ok K B) : k_Ok K' B :=
  ⟨fun p hp => k_Pr_same (by rw [h2]) (by rw [h3]) (by rw [h7]) (h.1 p hp), k_Gl_same h0 h.2⟩
theorem k_u_k (K : k_t) (a i : Nat) (v : Int32) {b : Nat} (h : b ≠ a) : k_u K a i v b = K b := by
  funext j
  simp [k_u, h]
theorem k_Ok_u {K : k_t} {B a i : Nat} {v : Int32} (ha : a ≠ 0 ∧ a ≠ 2 ∧ a ≠ 3 ∧ a ≠ 7) (h : k_Ok K B) : k_Ok (k_u K a i v) B :=
  k_Ok_same (k_u_k _ _ _ _ (Ne.symm ha.2.1)) (k_u_k _ _ _ _ (Ne.symm ha.2.2.1)) (k_u_k _ _ _ _ (Ne.symm ha.2.2.2)) (fun j _ _ => by rw [k_u_k _ _ _ _ (Ne.symm ha.1)]) h
theorem k_Ok_u0 {K : k_t} {B i : Nat} {v : Int32} (hi : i = 11 ∨ i = 14) (h : k_Ok K B) : k_Ok (k_u K 0 i v) B :=
  k_Ok_same (k_u_k _ _ _ _ (by decide)) (k_u_k _ _ _ _ (by decide)) (k_u_k _ _ _ _ (by decide)) (fun j h1 h2 => k_u_ne _ _ _ _ (by omega)) h
theorem k_Ok_al {K : k_t} {B g : Nat} (h : k_Ok K B) : k_Ok (k_al K g).2 B :=
  k_Ok_same (k_al_k (by decide) (by decide)) (k_al_k (by decide) (by decide)) (k_al_k (by decide) (by decide)) (fun j h1 h2 => k_al_0 h1 h2) h
theorem k_Ok_pg {K : k_t} {B g : Nat} {wr : Bool} (h : k_Ok K B) : k_Ok (k_pg K g wr).2 B :=
  k_Ok_same (k_pg_k (by decide) (by decide)) (k_pg_k (by decide) (by decide)) (k_pg_k (by decide) (by decide)) (fun j h1 h2 => k_pg_0 h1 h2) h
theorem k_Ok_re {K : k_t} {B p : Nat} {x : Int32} {wr : Bool} (h : k_Ok K B) : k_Ok (k_re K p x wr).2 B :=
  k_Ok_same (k_re_k (by decide) (by decide)) (k_re_k (by decide) (by decide)) (k_re_k (by decide) (by decide)) (fun j h1 h2 => k_re_0 h1 h2) h
theorem k_Ok_cl {K : k_t} {B p b : Nat} (h : k_Ok K B) : k_Ok (k_cl K p b) B :=
  k_Ok_same (by funext j; simp [k_cl]) (by funext j; simp [k_cl]) (by funext j; simp [k_cl]) (fun j _ _ => by simp [k_cl]) h
theorem k_Ok_fk {K : k_t} {B p a : Nat} (hp : p < 8) (h : k_Ok K B) : k_Ok (k_fk K p a).2 B := by
  unfold k_fk
  split
  · exact k_Ok_u (by decide) h
  next c hc =>
    refine k_Ok_u (by decide) ⟨fun j hj => ?_, k_Gl_same (fun j _ _ => by simp [k_fk0]) h.2⟩
    by_cases hjc : j = c
    · subst hjc
      refine ⟨⟨1, by decide, by simp [k_fk0]⟩, Or.inr ⟨p, hp, by simp [k_fk0]⟩, ?_, fun q => ?_⟩
      · obtain ⟨b, hb, hb2⟩ := (h.1 p hp).2.2.1
        exact ⟨b, hb, by simp [k_fk0, hb2]⟩
      · simp [k_fk0] at q
        exact absurd q (by decide)
    · exact k_Pr_same (by simp [k_fk0, hjc]) (by simp [k_fk0, hjc]) (by simp [k_fk0, hjc]) (h.1 j hj)
theorem k_Ok_gr0 {K : k_t} {B p a b : Nat} (hb : b ≤ 64) (h : k_Ok K B) : k_Ok (k_gr0 K p a b) B := by
  refine ⟨fun j hj => ?_, k_Gl_same (fun j _ _ => by simp [k_gr0, k_u]) h.2⟩
  by_cases hjp : j = p
  · subst hjp
    obtain ⟨h1, h2, -, h4⟩ := h.1 j hj
    refine ⟨by simpa [k_gr0, k_u] using h1, by simpa [k_gr0, k_u] using h2, ⟨b, hb, by simp [k_gr0, k_u]⟩, by simpa [k_gr0, k_u] using h4⟩
  · exact k_Pr_same (by simp [k_gr0, k_u]) (by simp [k_gr0, k_u]) (by simp [k_gr0, k_u, hjp]) (h.1 j hj)
theorem k_Ok_gr {K : k_t} {B p a : Nat} {c : Int32} (h : k_Ok K B) : k_Ok (k_gr K p a c) B := by
  unfold k_gr
  split
  · exact k_Ok_u (by decide) h
  next hc =>
    have h0 : k_Ok (k_gr0 K p a (K 7 p + c).toInt.toNat) B := k_Ok_gr0 (by omega) h
    split
    · unfold k_gr1
      split
      · exact k_Ok_cl h0
      · split
        · exact k_Ok_cl (k_Ok_al h0)
        · exact k_Ok_al h0
    · exact h0
theorem k_Ok_en {K : k_t} {B p : Nat} {code : Int32} (hp : p < 8) (h : k_Ok K B) : k_Ok (k_en K p code) B := by
  have h0 : k_Ok (k_en0 K p code) B := by
    refine ⟨fun j hj => ?_, k_Gl_same (fun j _ _ => by simp [k_en0]) h.2⟩
    obtain ⟨h1, h2, h3, h4⟩ := h.1 j hj
    by_cases hjp : j = p
    · subst hjp
      refine ⟨⟨3, by decide, by simp [k_en0]⟩, k_en0_3 hj (k_Ok_par h), by simpa [k_en0] using h3, fun q => ?_⟩
      simp [k_en0] at q
      exact absurd q (by decide)
    · refine ⟨by simpa [k_en0, hjp] using h1, ?_, by simpa [k_en0] using h3, fun q => ?_⟩
      · by_cases hq : K 3 j = nI p
        · left
          simp [k_en0, hj, hq]
        · simpa [k_en0, hq] using h2
      · have q' : K 2 j = 0 := by simpa [k_en0, hjp] using q
        by_cases hq : K 3 j = nI p
        · simp [k_en0, hj, hq]
        · simpa [k_en0, hq] using h4 q'
  unfold k_en
  split
  next hc =>
    generalize hu : (k_en0 K p code 3 p).toInt.toNat = u at *
    refine ⟨fun j hj => ?_, k_Gl_same (fun j _ _ => by simp [k_u]) h0.2⟩
    by_cases hju : j = u
    · subst hju
      obtain ⟨h1, h2, h3, h4⟩ := h0.1 j hj
      refine ⟨⟨1, by decide, by simp [k_u]⟩, by simpa [k_u] using h2, by simpa [k_u] using h3, fun q => ?_⟩
      simp [k_u] at q
      exact absurd q (by decide)
    · exact k_Pr_same (by simp [k_u, hju]) (by simp [k_u]) (by simp [k_u]) (h0.1 j hj)
  · exact h0
theorem k_Ok_free {K : k_t} {B z : Nat} (h : k_Ok K B) : k_Ok (k_free K z) B := by
  refine ⟨fun j hj => ?_, k_Gl_same (fun j _ _ => by simp [k_free, k_u]) h.2⟩
  by_cases hjz : j = z
  · subst hjz
    obtain ⟨h1, h2, h3, h4⟩ := h.1 j hj
    exact ⟨⟨0, by decide, by simp [k_free, k_u]; rfl⟩, Or.inl (by simp [k_free, k_u]), by simpa [k_free, k_u] using h3, fun _ => by simp [k_free, k_u]⟩
  · exact k_Pr_same (by simp [k_free, k_u, hjz]) (by simp [k_free, k_u, hjz]) (by simp [k_free, k_u]) (h.1 j hj)
theorem k_Ok_aw {K : k_t} {B p a : Nat} (h : k_Ok K B) : k_Ok (k_aw K p a).2 B := by
  unfold k_aw
  split
  · exact k_Ok_free (k_Ok_u (by decide) h)
  · split
    · refine k_Ok_u (by decide) ⟨fun j hj => ?_, k_Gl_same (fun j _ _ => by simp [k_u]) h.2⟩
      by_cases hjp : j = p
      · subst hjp
        obtain ⟨h1, h2, h3, h4⟩ := h.1 j hj
        refine ⟨⟨2, by decide, by simp [k_u]⟩, by simpa [k_u] using h2, by simpa [k_u] using h3, fun q => ?_⟩
        simp [k_u] at q
        exact absurd q (by decide)
      · exact k_Pr_same (by simp [k_u, hjp]) (by simp [k_u]) (by simp [k_u]) (h.1 j hj)
    · exact k_Ok_u (by decide) h
theorem k_Ok_pr {K : k_t} {B : Nat} {x : Int32} (h : k_Ok K B) : k_Ok (k_pr K x) (B + 1) := by
  obtain ⟨h1, g1, ⟨m, hm, g2⟩, g3, g4⟩ := h
  refine ⟨fun j hj => k_Pr_same (by simp [k_pr, k_u]) (by simp [k_pr, k_u]) (by simp [k_pr, k_u]) (h1 j hj), by simpa [k_pr, k_u] using g1, ⟨m + 1, by omega, by simp [k_pr, k_u, g2, nI_1]⟩, by simpa [k_pr, k_u] using g3, by simpa [k_pr, k_u] using g4⟩
theorem k_Ok_ld {K : k_t} {B p a : Nat} {x : Int32} (h : k_Ok K B) : k_Ok (k_ld K p a x) B := by
  unfold k_ld
  split
  · exact k_Ok_u (by decide) (k_Ok_re h)
  · exact k_Ok_re h
theorem k_Ok_so {K : k_t} {B p a : Nat} {x : Int32} (h : k_Ok K B) : k_Ok (k_so K p a x) B := by
  unfold k_so
  split
  · exact k_Ok_u (by decide) (k_Ok_re h)
  · exact k_Ok_re h
theorem k_Ok_if {K K' : k_t} {B : Nat} {c : Prop} {d : Decidable c} (h : k_Ok K B) (h' : k_Ok K' B) : k_Ok (@ite _ c d K K') B := by
  split
  · exact h
  · exact h'
theorem k_Ok_yield {K : k_t} {B : Nat} (h : k_Ok K B) : k_Ok (k_u K 0 13 (K 0 1)) B := by
  obtain ⟨h1, g1, g2, g3, g4⟩ := h
  obtain ⟨q, q1, q2, q3⟩ := g3
  exact ⟨fun j hj => k_Pr_same (by simp [k_u]) (by simp [k_u]) (by simp [k_u]) (h1 j hj), by simpa [k_u] using g1, by simpa [k_u] using g2, ⟨q, q1, q2, by simpa [k_u] using q3⟩, ⟨q, q2, by simpa [k_u] using q3⟩⟩
theorem k_Ok_op {K : k_t} {B p op a b : Nat} {c : Int32} (hp : p < 8) (h : k_Ok K B) : k_Ok (k_op K p op a b c).2 (B + 1) := by
  have h' := k_Ok_le (Nat.le_succ B) h
  by_cases e0 : op = 0
  · subst e0
    show k_Ok (k_u K 5 (8 * p + a) c) (B + 1)
    exact k_Ok_u (by decide) h'
  by_cases e1 : op = 1
  · subst e1
    show k_Ok (k_u K 5 (8 * p + a) (K 5 (8 * p + a) + K 5 (8 * p + b) + c)) (B + 1)
    exact k_Ok_u (by decide) h'
  by_cases e2 : op = 2
  · subst e2
    show k_Ok (k_u K 5 (8 * p + a) (K 5 (8 * p + a) - K 5 (8 * p + b))) (B + 1)
    exact k_Ok_u (by decide) h'
  by_cases e3 : op = 3
  · subst e3
    show k_Ok (k_ld K p a (K 5 (8 * p + b) + c)) (B + 1)
    exact k_Ok_ld h'
  by_cases e4 : op = 4
  · subst e4
    show k_Ok (k_so K p a (K 5 (8 * p + b) + c)) (B + 1)
    exact k_Ok_so h'
  by_cases e5 : op = 5
  · subst e5
    show k_Ok (if K 5 (8 * p + a) ≠ 0 then k_u K 6 p c else K) (B + 1)
    exact k_Ok_if (k_Ok_u (by decide) h') h'
  by_cases e6 : op = 6
  · subst e6
    show k_Ok (if (K 5 (8 * p + a)).toInt < (K 5 (8 * p + b)).toInt then k_u K 6 p c else K) (B + 1)
    exact k_Ok_if (k_Ok_u (by decide) h') h'
  by_cases e7 : op = 7
  · subst e7
    show k_Ok (k_pr K (K 5 (8 * p + a))) (B + 1)
    exact k_Ok_pr h
  by_cases e8 : op = 8
  · subst e8
    show k_Ok ((k_fk K p a).2) (B + 1)
    exact k_Ok_fk hp h'
  by_cases e9 : op = 9
  · subst e9
    show k_Ok (k_gr K p a c) (B + 1)
    exact k_Ok_gr h'
  by_cases e10 : op = 10
  · subst e10
    show k_Ok (k_en K p (K 5 (8 * p + a))) (B + 1)
    exact k_Ok_en hp h'
  by_cases e11 : op = 11
  · subst e11
    show k_Ok ((k_aw K p a).2) (B + 1)
    exact k_Ok_aw h'
  by_cases e12 : op = 12
  · subst e12
    show k_Ok (k_u K 0 13 (K 0 1)) (B + 1)
    exact k_Ok_yield h'
  by_cases e13 : op = 13
  · subst e13
    show k_Ok (k_u K 5 (8 * p + a) (nI p)) (B + 1)
    exact k_Ok_u (by decide) h'
  have e : k_op K p op a b c = (nI 1, k_u K 0 14 (-12)) := by
    unfold k_op
    simp only [e0, e1, e2, e3, e4, e5, e6, e7, e8, e9, e10, e11, e12, e13, if_false]
  rw [e]
  exact k_Ok_u0 (by decide) h'
/-- whom choose chooses -/
theorem k_ch_ok {K : k_t} {B : Nat} (h : k_Ok K B) (hc : (k_ch K).1 = true) : k_Ok (k_ch K).2 B ∧ (∀ a, a ≠ 0 → (k_ch K).2 a = K a) ∧ (∀ j, j ≠ 12 → j ≠ 13 → (k_ch K).2 0 j = K 0 j) ∧ ∃ p, p < 8 ∧ (k_ch K).2 0 12 = nI p ∧ K 2 p = nI 1 ∧ ((k_ch K).2 0 13).toInt < (K 0 1).toInt := by
  by_cases hon : k_on K
  · rw [k_ch_on hon]
    obtain ⟨c, hc8, hcc⟩ := h.2.1.resolve_left hon.1
    refine ⟨h, fun _ _ => rfl, fun _ _ _ => rfl, c, hc8, hcc, ?_, hon.2.2⟩
    have := hon.2.1
    rw [hcc, nI_toInt (by omega)] at this
    exact this
  · rcases f_st_spec (P := fun k => K 2 ((k_fm K + k) % 8) = nI 1) 8 with ⟨hn, -⟩ | ⟨k, hk, hk8, hkp, -⟩
    · rw [k_ch_none hon hn] at hc
      cases hc
    · rw [k_ch_some hon hk]
      obtain ⟨h1, g1, g2, g3, g4⟩ := h
      obtain ⟨q, q1, q2, q3⟩ := g3
      refine ⟨⟨fun j hj => k_Pr_same (by simp [k_u]) (by simp [k_u]) (by simp [k_u]) (h1 j hj), Or.inr ⟨(k_fm K + k) % 8, by omega, by simp [k_u]⟩, by simpa [k_u] using g2, ⟨q, q1, q2, by simpa [k_u] using q3⟩, ⟨0, by decide, by simp [k_u]; rfl⟩⟩, fun a ha => by funext j; simp [k_u, ha], fun j h12 h13 => by simp [k_u, h12, h13], (k_fm K + k) % 8, by omega, by simp [k_u], hkp, ?_⟩
      simp [k_u]
      rw [q3, nI_toInt (by omega)]
      omega
theorem k_ch_no {K : k_t} {B : Nat} (h : k_Ok K B) (hc : (k_ch K).1 = false) : (k_ch K).2 = k_u K 0 12 (-1) ∧ k_Ok (k_ch K).2 B ∧ ¬ k_on K ∧ ∀ p, p < 8 → ¬ K 2 p = nI 1 := by
  by_cases hon : k_on K
  · rw [k_ch_on hon] at hc
    cases hc
  · rcases f_st_spec (P := fun k => K 2 ((k_fm K + k) % 8) = nI 1) 8 with ⟨hn, hall⟩ | ⟨k, hk, hk8, hkp, -⟩
    · rw [k_ch_none hon hn]
      obtain ⟨h1, g1, g2, g3, g4⟩ := h
      refine ⟨rfl, ⟨fun j hj => k_Pr_same (by simp [k_u]) (by simp [k_u]) (by simp [k_u]) (h1 j hj), Or.inl (by simp [k_u]), by simpa [k_u] using g2, by simpa [k_u] using g3, by simpa [k_u] using g4⟩, hon, fun p hp hpp => ?_⟩
      refine hall ((p + 8 - k_fm K % 8) % 8) (by omega) ?_
      rw [show (k_fm K + (p + 8 - k_fm K % 8) % 8) % 8 = p by omega]
      exact hpp
    · rw [k_ch_some hon hk] at hc
      cases hc
theorem k_Ok_s1 {K : k_t} {B p : Nat} (hp : p < 8) (h : k_Ok K B) : k_Ok (k_s1 K p).2 (B + 1) := by
  unfold k_s1
  split
  · have h1 : k_Ok (k_dn (k_u (k_re K p (K 6 p) false).2 6 p (K 6 p + 1)) p ((k_re K p (K 6 p) false).2 8 (64 * p + (K 6 p).toInt.toNat))).2 (B + 1) := k_Ok_op hp (k_Ok_u (by decide) (k_Ok_re h))
    unfold k_s2
    split
    · exact h1
    · exact k_Ok_en hp h1
  · exact k_Ok_en hp (k_Ok_le (Nat.le_succ B) (k_Ok_re h))
/-- behind the choice: a row more, no fault -/
theorem k_Ok_row {K : k_t} {B : Nat} (h : k_Ok K B) (hc : (k_ch K).1 = true) : k_Ok (k_u (k_u (k_ch K).2 0 13 ((k_ch K).2 0 13 + 1)) 0 14 0) B := by
  obtain ⟨⟨h1, g1, g2, g3, g4⟩, ha, h0, p, hp, hp1, hp2, hlt⟩ := k_ch_ok h hc
  obtain ⟨q, q1, q2, q3⟩ := h.2.2.2.1
  obtain ⟨r, r1, r2⟩ := g4
  refine k_Ok_u0 (by decide) ⟨fun j hj => k_Pr_same (by simp [k_u]) (by simp [k_u]) (by simp [k_u]) (h1 j hj), by simpa [k_u] using g1, by simpa [k_u] using g2, by simpa [k_u] using g3, ⟨r + 1, ?_, by simp [k_u, r2, nI_1]⟩⟩
  rw [r2, q3, nI_toInt (by omega), nI_toInt (by omega)] at hlt
  omega
theorem k_Ok_s {K : k_t} {B : Nat} (h : k_Ok K B) : k_Ok (k_s K).2 (B + 1) := by
  unfold k_s
  split
  next hc =>
    obtain ⟨-, -, -, p, hp, hp1, -⟩ := k_ch_ok h hc
    rw [hp1, nI_toInt (by omega), Int.toNat_natCast]
    exact k_Ok_s1 hp (k_Ok_row h hc)
  next hc =>
    exact k_Ok_le (Nat.le_succ B) (k_ch_no h (by simpa using hc)).2.1
