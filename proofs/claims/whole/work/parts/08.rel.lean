/-! the two memories as they stand in the cells -/
def q_R (S : q_st) (K : k_t) (n : Nat) (pg : Nat → Option Nat) (us lab : Nat → Nat) (L : Nat) : Prop :=
  (2 ≤ n ∧ n ≤ 32) ∧ q_M n pg us (S (2, 0)) lab (K 8) L ∧ (∀ p i, p < 8 → i < 8 → S (7, p) i = q_fe (pg (8 * p + i))) ∧ (∀ f, f < n → S (3, 0) f = nI (us f)) ∧ S (1, 0) 3 = nI (c_n (fun f => us f ≠ 0) n) ∧ S (1, 0) 0 = nI n ∧ K 0 0 = nI n ∧ (∀ g, g < 64 → K 9 g = nI (lab g)) ∧ K 0 11 = nI L ∧ L < 2 ^ 30
theorem q_R_us {S : q_st} {K : k_t} {n : Nat} {pg : Nat → Option Nat} {us lab : Nat → Nat} {L : Nat} (h : q_R S K n pg us lab L) {f : Nat} (hf : f < n) : us f ≤ 64 := by
  rw [h.2.1.2.2.2.2.1 f hf]
  exact c_n_le _ _
theorem q_R_us1 {S : q_st} {K : k_t} {n : Nat} {pg : Nat → Option Nat} {us lab : Nat → Nat} {L : Nat} (h : q_R S K n pg us lab L) {g f : Nat} (hp : pg g = some f) : 0 < us f := by
  obtain ⟨hf, hg⟩ := h.2.1.1 g f hp
  rw [h.2.1.2.2.2.2.1 f hf]
  exact c_n_ex (P := fun g => pg g = some f) hg hp
theorem q_R_move {S S' : q_st} {K : k_t} {n : Nat} {pg : Nat → Option Nat} {us lab : Nat → Nat} {L p i f : Nat} (h : q_R S K n pg us lab L) (hp : p < 8) (hi : i < 8) (hf : f < n) (hu : us f = 0) (hL : L + 1 < 2 ^ 30) (h2 : ∀ x, pg (8 * p + i) = some x → 2 ≤ us x)
    (e7 : ∀ p' i', p' < 8 → i' < 8 → S' (7, p') i' = if 8 * p' + i' = 8 * p + i then nI f else S (7, p') i')
    (e3 : ∀ x, x < n → S' (3, 0) x = if x = f then nI 1 else if pg (8 * p + i) = some x then nI (us x - 1) else S (3, 0) x)
    (e1 : S' (1, 0) 3 = S (1, 0) 3 + 1) (e0 : S' (1, 0) 0 = S (1, 0) 0) (ew : ∀ x, x / 8 ≠ f → S' (2, 0) x = S (2, 0) x) (ef : ∀ k, k < 8 → S' (2, 0) (8 * f + k) = K 8 (8 * (8 * p + i) + k)) :
    q_R S' (k_u (k_u K 0 11 (K 0 11 + 1)) 9 (8 * p + i) (K 0 11 + 1)) n (fun x => if x = 8 * p + i then some f else pg x) (fun x => if x = f then 1 else if pg (8 * p + i) = some x then us x - 1 else us x) (fun x => if x = 8 * p + i then L + 1 else lab x) (L + 1) := by
  obtain ⟨hn, hM, h7, h3, h1, h0, hK0, h9, hl, hL0⟩ := h
  refine ⟨hn, ?_, ?_, ?_, ?_, ?_, ?_, ?_, ?_, hL⟩
  · exact q_M_move (cw := S (2, 0)) (wd := K 8) hM (by omega) hf hu (Nat.lt_succ_self L) (fun x hx => rfl) ew ef
  · intro p' i' hp' hi'
    rw [e7 p' i' hp' hi']
    by_cases hx : 8 * p' + i' = 8 * p + i
    · simp [hx, q_fe]
    · simp [hx]
      exact h7 p' i' hp' hi'
  · intro x hx
    rw [e3 x hx]
    by_cases hxf : x = f
    · simp [hxf]
    · by_cases hpx : pg (8 * p + i) = some x
      · simp [hxf, hpx]
      · simp [hxf, hpx]
        exact h3 x hx
  · rw [e1, h1, nI_1]
    congr 1
    symm
    refine c_n_add (k := f) (by simp [hu]) (by simp) (fun x hx => ?_) hf
    by_cases hpx : pg (8 * p + i) = some x
    · have := h2 x hpx
      simp [hx, hpx]
      omega
    · simp [hx, hpx]
  · rw [e0]; exact h0
  · simp [k_u, hK0]
  · intro g hg
    by_cases hx : g = 8 * p + i
    · simp [k_u, hx, hl, nI_1]
    · simp [k_u, hx]
      exact h9 g hg
  · simp [k_u, hl, nI_1]
theorem q_R_rel {S S' : q_st} {K K' : k_t} {n : Nat} {pg : Nat → Option Nat} {us lab : Nat → Nat} {L p i : Nat} (h : q_R S K n pg us lab L) (hp : p < 8) (hi : i < 8)
    (e7 : ∀ p' i', p' < 8 → i' < 8 → S' (7, p') i' = if 8 * p' + i' = 8 * p + i then -1 else S (7, p') i')
    (e3 : ∀ x, x < n → S' (3, 0) x = if pg (8 * p + i) = some x then nI (us x - 1) else S (3, 0) x)
    (e1 : S' (1, 0) 3 = if ∃ x, pg (8 * p + i) = some x ∧ us x = 1 then S (1, 0) 3 - 1 else S (1, 0) 3) (e0 : S' (1, 0) 0 = S (1, 0) 0) (ew : S' (2, 0) = S (2, 0))
    (k0 : K' 0 = K 0) (k9 : ∀ g, K' 9 g = if g = 8 * p + i then 0 else K 9 g) (k8 : ∀ x, K' 8 x = if x / 8 = 8 * p + i then 0 else K 8 x) :
    q_R S' K' n (fun x => if x = 8 * p + i then none else pg x) (fun x => if pg (8 * p + i) = some x then us x - 1 else us x) (fun x => if x = 8 * p + i then 0 else lab x) L := by
  have hall := h
  obtain ⟨hn, hM, h7, h3, h1, h0, hK0, h9, hl, hL0⟩ := h
  refine ⟨hn, ?_, ?_, ?_, ?_, ?_, ?_, ?_, ?_, hL0⟩
  · rw [ew]
    exact q_M_rel (cw := S (2, 0)) (wd := K 8) hM (by omega) (fun x hx => rfl) k8
  · intro p' i' hp' hi'
    rw [e7 p' i' hp' hi']
    by_cases hx : 8 * p' + i' = 8 * p + i
    · simp [hx, q_fe]
    · simp [hx]
      exact h7 p' i' hp' hi'
  · intro x hx
    rw [e3 x hx]
    by_cases hpx : pg (8 * p + i) = some x
    · simp [hpx]
    · simp [hpx]
      exact h3 x hx
  · rw [e1]
    cases hpg : pg (8 * p + i) with
    | none =>
      simp
      exact h1
    | some y =>
      have hy := (hM.1 _ _ hpg).1
      have hy1 := q_R_us1 hall hpg
      by_cases h1y : us y = 1
      · rw [if_pos ⟨y, rfl, h1y⟩, h1]
        have := c_n_add (P := fun x => (if some y = some x then us x - 1 else us x) ≠ 0) (Q := fun f => us f ≠ 0) (k := y) (by simp [h1y]) (by omega) (fun x hx => by simp [Ne.symm hx]) hy
        rw [this]
        exact nI_pred _
      · rw [if_neg (by rintro ⟨x, hx, hx1⟩; cases hx; exact h1y hx1), h1]
        congr 1
        refine c_n_congr (fun x _ => ?_)
        by_cases hxy : y = x
        · subst hxy
          simp
          omega
        · simp [hxy]
  · rw [e0]; exact h0
  · rw [k0]; exact hK0
  · intro g hg
    rw [k9]
    by_cases hx : g = 8 * p + i
    · simp [hx]
      rfl
    · simp [hx]
      exact h9 g hg
  · rw [k0]; exact hl
theorem q_R_put {S S' : q_st} {K K' : k_t} {n : Nat} {pg : Nat → Option Nat} {us lab : Nat → Nat} {L g f k : Nat} {v : Int32} (h : q_R S K n pg us lab L) (hp : pg g = some f) (hu : us f = 1) (hk : k < 8)
    (ew : ∀ x, S' (2, 0) x = if x = 8 * f + k then v else S (2, 0) x) (eo : ∀ i j, i ≠ (2, 0) → S' i j = S i j) (k8 : ∀ x, K' 8 x = if x = 8 * g + k then v else K 8 x) (ko : ∀ a, a ≠ 8 → K' a = K a) : q_R S' K' n pg us lab L := by
  obtain ⟨hn, hM, h7, h3, h1, h0, hK0, h9, hl, hL0⟩ := h
  refine ⟨hn, q_M_put hM hp hu hk ew k8, ?_, ?_, ?_, ?_, ?_, ?_, ?_, hL0⟩
  · intro p' i' hp' hi'
    rw [eo _ _ (by simp)]
    exact h7 p' i' hp' hi'
  · intro x hx
    rw [eo _ _ (by simp)]
    exact h3 x hx
  · rw [eo _ _ (by simp)]; exact h1
  · rw [eo _ _ (by simp)]; exact h0
  · rw [ko 0 (by decide)]; exact hK0
  · rw [ko 9 (by decide)]; exact h9
  · rw [ko 0 (by decide)]; exact hl
theorem q_R_share {S S' : q_st} {K K' : k_t} {n : Nat} {pg : Nat → Option Nat} {us lab : Nat → Nat} {L p p' i : Nat} (h : q_R S K n pg us lab L) (hp : p < 8) (hp' : p' < 8) (hi : i < 8) (hne : p ≠ p') (hpn : pg (8 * p' + i) = none)
    (e7 : ∀ a j, a < 8 → j < 8 → S' (7, a) j = if 8 * a + j = 8 * p' + i then S (7, p) i else S (7, a) j)
    (e3 : ∀ x, x < n → S' (3, 0) x = if pg (8 * p + i) = some x then nI (us x + 1) else S (3, 0) x)
    (e1 : S' (1, 0) = S (1, 0)) (ew : S' (2, 0) = S (2, 0))
    (k0 : K' 0 = K 0) (k9 : ∀ g, K' 9 g = if g = 8 * p' + i then K 9 (8 * p + i) else K 9 g) (k8 : ∀ x, K' 8 x = if x / 8 = 8 * p' + i then K 8 (8 * (8 * p + i) + x % 8) else K 8 x) :
    q_R S' K' n (fun x => if x = 8 * p' + i then pg (8 * p + i) else pg x) (fun x => if pg (8 * p + i) = some x then us x + 1 else us x) (fun x => if x = 8 * p' + i then lab (8 * p + i) else lab x) L := by
  have hall := h
  obtain ⟨hn, hM, h7, h3, h1, h0, hK0, h9, hl, hL0⟩ := h
  refine ⟨hn, ?_, ?_, ?_, ?_, ?_, ?_, ?_, ?_, hL0⟩
  · rw [ew]
    exact q_M_share (cw := S (2, 0)) (wd := K 8) hM (by omega) (by omega) (by omega) hpn (fun x hx => rfl) k8
  · intro a j ha hj
    rw [e7 a j ha hj]
    by_cases hx : 8 * a + j = 8 * p' + i
    · simp [hx]
      exact h7 p i hp hi
    · simp [hx]
      exact h7 a j ha hj
  · intro x hx
    rw [e3 x hx]
    by_cases hpx : pg (8 * p + i) = some x
    · simp [hpx]
    · simp [hpx]
      exact h3 x hx
  · rw [e1, h1]
    congr 1
    refine c_n_congr (fun x _ => ?_)
    by_cases hpx : pg (8 * p + i) = some x
    · have := q_R_us1 hall hpx
      simp [hpx]
      omega
    · simp [hpx]
  · rw [e1]; exact h0
  · rw [k0]; exact hK0
  · intro g hg
    rw [k9]
    by_cases hx : g = 8 * p' + i
    · simp [hx]
      exact h9 _ (by omega)
    · simp [hx]
      exact h9 g hg
  · rw [k0]; exact hl
theorem q_nI0 {a : Nat} (h : a < 2 ^ 31) : nI a = 0 ↔ a = 0 := by
  rw [← nI_0, nI_eq h (by decide)]
/-- the reference's count of frames is the class's -/
theorem q_R_fr {S : q_st} {K : k_t} {n : Nat} {pg : Nat → Option Nat} {us lab : Nat → Nat} {L : Nat} (h : q_R S K n pg us lab L) : k_fr K = c_n (fun f => us f ≠ 0) n := by
  obtain ⟨hn, hM, h7, h3, h1, h0, hK0, h9, hl, hL0⟩ := h
  rw [← q_M_frames hM]
  have hb : ∀ g, g < 64 → lab g < 2 ^ 31 := fun g hg => by have := hM.2.1 g hg; omega
  refine c_n_congr (fun g hg => ?_)
  rw [h9 g hg, nI_toInt (hb g hg)]
  constructor
  · rintro ⟨b1, b2⟩
    refine ⟨by omega, fun j hj q => b2 j hj ?_⟩
    rw [h9 j (by omega), q]
  · rintro ⟨b1, b2⟩
    refine ⟨by omega, fun j hj q => b2 j hj ?_⟩
    rw [h9 j (by omega)] at q
    exact (nI_eq (hb j (by omega)) (hb g hg)).mp q
theorem q_R_sh {S : q_st} {K : k_t} {n : Nat} {pg : Nat → Option Nat} {us lab : Nat → Nat} {L g : Nat} (h : q_R S K n pg us lab L) (hg : g < 64) : k_sh K g = match pg g with | none => 0 | some f => us f := by
  obtain ⟨hn, hM, h7, h3, h1, h0, hK0, h9, hl, hL0⟩ := h
  have hb : ∀ g, g < 64 → lab g < 2 ^ 31 := fun g hg => by have := hM.2.1 g hg; omega
  have e : k_sh K g = c_n (fun k => 0 < lab g ∧ lab k = lab g) 64 := by
    refine c_n_congr (fun k hk => ?_)
    rw [h9 g hg, h9 k hk, nI_toInt (hb g hg), nI_eq (hb k hk) (hb g hg)]
    constructor
    · rintro ⟨a, b⟩; exact ⟨by omega, b⟩
    · rintro ⟨a, b⟩; exact ⟨by omega, b⟩
  rw [e]
  cases hp : pg g with
  | none =>
    refine c_n_zero.mpr (fun k hk hh => ?_)
    have := (hM.2.2.1 g hg).mp hp
    omega
  | some f => exact q_M_sharers hM hp
