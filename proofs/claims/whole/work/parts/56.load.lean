/-! the class: load (rows laid by wip/whole/m56.py) -/
def k_lT (K : k_t) (c len : Nat) : k_t := fun a j => if a = 2 ∧ j = c then nI 1 else if a = 3 ∧ j = c then -1 else if a = 6 ∧ j = c then 0 else if a = 7 ∧ j = c then nI len else if a = 5 ∧ j / 8 = c then 0 else K a j
def k_lt (K : k_t) (c L t : Nat) : k_t := fun a j => if a = 0 ∧ j = 11 then nI (L + (t + 7) / 8) else if a = 9 ∧ j / 8 = c ∧ j % 8 < (t + 7) / 8 then nI (L + j % 8 + 1) else if a = 8 ∧ j / 64 = c ∧ j % 64 < t then K 1 (j % 64) else K a j
theorem k_lt_0 (K : k_t) (c L : Nat) (h : K 0 11 = nI L) : k_lt K c L 0 = K := by
  funext a j
  unfold k_lt
  split
  next q => rw [q.1, q.2, h]; rfl
  next =>
    rw [if_neg (by omega), if_neg (by omega)]
theorem k_lt_same (K : k_t) (c L t : Nat) (h : t % 8 ≠ 0) : k_u (k_lt K c L t) 8 (64 * c + t) (K 1 t) = k_lt K c L (t + 1) ∨ 64 ≤ t := by
  by_cases ht : 64 ≤ t
  · exact Or.inr ht
  · left
    funext a j
    unfold k_u k_lt
    rw [show (t + 1 + 7) / 8 = (t + 7) / 8 by omega]
    by_cases h8 : a = 8 ∧ j = 64 * c + t
    · rw [if_pos h8, if_neg (by omega), if_neg (by omega), if_pos ⟨h8.1, by omega, by omega⟩, show j % 64 = t by omega]
    · rw [if_neg h8]
      repeat' split
      all_goals first | rfl | (exfalso; omega)
theorem k_lt_new (K : k_t) (c L t : Nat) (h : t % 8 = 0) (ht : t < 64) : k_u (k_u (k_u (k_lt K c L t) 0 11 (k_lt K c L t 0 11 + 1)) 9 (8 * c + t / 8) (k_lt K c L t 0 11 + 1)) 8 (64 * c + t) (K 1 t) = k_lt K c L (t + 1) := by
  have e : k_lt K c L t 0 11 + 1 = nI (L + t / 8 + 1) := by
    unfold k_lt
    rw [if_pos ⟨rfl, rfl⟩, nI_1, show (t + 7) / 8 = t / 8 by omega]
  rw [e]
  funext a j
  unfold k_u k_lt
  rw [show (t + 1 + 7) / 8 = t / 8 + 1 by omega, show (t + 7) / 8 = t / 8 by omega]
  by_cases h8 : a = 8 ∧ j = 64 * c + t
  · rw [if_pos h8, if_neg (by omega), if_neg (by omega), if_pos ⟨h8.1, by omega, by omega⟩, show j % 64 = t by omega]
  · rw [if_neg h8]
    by_cases h9 : a = 9 ∧ j = 8 * c + t / 8
    · rw [if_pos h9, if_neg (by omega), if_pos ⟨h9.1, by omega, by omega⟩, show j % 8 = t / 8 by omega]
    · rw [if_neg h9]
      by_cases h0 : a = 0 ∧ j = 11
      · rw [if_pos h0, if_pos h0, Nat.add_assoc]
      · rw [if_neg h0, if_neg h0, if_neg h0]
        repeat' split
        all_goals first | rfl | (exfalso; omega)
theorem k_fr_9 {K K' : k_t} (h : K' 9 = K 9) : k_fr K' = k_fr K := by
  unfold k_fr
  rw [h]
theorem k_fr_add {K K' : k_t} {g : Nat} {v : Int32} (hg : g < 64) (h0 : K 9 g = 0) (hv : 0 < v.toInt) (hf : ∀ j, j < 64 → ¬ K 9 j = v) (h : ∀ j, K' 9 j = if j = g then v else K 9 j) : k_fr K' = k_fr K + 1 := by
  unfold k_fr
  have e : c_n (fun g => 0 < (K' 9 g).toInt ∧ ∀ j, j < g → ¬ K' 9 j = K' 9 g) 64 = c_n (fun i => (i < 64 ∧ 0 < (K' 9 i).toInt ∧ ∀ j, j < i → ¬ K' 9 j = K' 9 i)) 64 := c_n_congr (fun i hi => ⟨fun q => ⟨hi, q⟩, fun q => q.2⟩)
  have e2 : c_n (fun g => 0 < (K 9 g).toInt ∧ ∀ j, j < g → ¬ K 9 j = K 9 g) 64 = c_n (fun i => (i < 64 ∧ 0 < (K 9 i).toInt ∧ ∀ j, j < i → ¬ K 9 j = K 9 i)) 64 := c_n_congr (fun i hi => ⟨fun q => ⟨hi, q⟩, fun q => q.2⟩)
  rw [e, e2]
  refine c_n_add (k := g) ?_ ?_ (fun i hi => ?_) hg
  · rintro ⟨-, q, -⟩
    rw [h0] at q
    exact absurd q (by decide)
  · refine ⟨hg, by rw [h, if_pos rfl]; exact hv, fun j hj => ?_⟩
    rw [h j, if_neg (by omega), h g, if_pos rfl]
    exact hf j (by omega)
  · rw [h i, if_neg hi]
    constructor
    · rintro ⟨q1, q2, q3⟩
      refine ⟨q1, q2, fun j hj => ?_⟩
      rw [h j]
      split
      · exact fun z => hf i q1 z.symm
      · exact q3 j hj
    · rintro ⟨q1, q2, q3⟩
      refine ⟨q1, q2, fun j hj => ?_⟩
      have := q3 j hj
      rw [h j] at this
      split at this
      next hjg =>
        subst hjg
        rw [h0]
        intro z
        rw [← z] at q2
        exact absurd q2 (by decide)
      · exact this
def q_ltf (S0 S : q_st) (c len : Nat) : Prop := (∀ q s, S (5, q) s = if q = c then (if s = 0 then nI 1 else if s = 1 then -1 else if s = 3 then 0 else if s = 4 then nI len else S0 (5, q) s) else S0 (5, q) s) ∧ (∀ q r, r < 8 → S (6, q) r = if q = c then 0 else S0 (6, q) r) ∧ ∀ j : q_ix, j.1 ≠ 5 → j.1 ≠ 6 → S j = S0 j
theorem q_ltf_T {S0 S : q_st} {K : k_t} {c len : Nat} (h : q_ltf S0 S c len) (hT : q_T S0 K) : q_T S (k_lT K c len) := by
  obtain ⟨f5, f6, fo⟩ := h
  obtain ⟨h1, h2, h3, h4, h5, h6⟩ := hT
  refine ⟨fun i hi => ?_, fun q hq => ?_, fun q r hq hr => ?_, ?_, fun i hi => ?_, ?_⟩
  · rw [fo (10, 0) (by simp) (by simp)]; simp [k_lT]; exact h1 i hi
  · obtain ⟨t0, t1, t2, t3, t4⟩ := h2 q hq
    by_cases hqc : q = c
    · subst hqc
      simp [f5, k_lT, t2]
    · simp [f5, k_lT, hqc, t0, t1, t2, t3, t4]
  · rw [f6 q r hr]
    by_cases hqc : q = c
    · subst hqc
      simp [k_lT, show (8 * q + r) / 8 = q by omega]
    · rw [if_neg hqc, h3 q r hq hr]
      simp [k_lT, show ¬ (8 * q + r) / 8 = c by omega]
  · rw [fo (8, 0) (by simp) (by simp)]; simp [k_lT]; exact h4
  · rw [fo (9, 0) (by simp) (by simp)]; simp [k_lT]; exact h5 i hi
  · rw [fo (0, 0) (by simp) (by simp)]; simp [k_lT]; exact h6
theorem q_ltf_mk {S0 : q_st} {c len : Nat} : q_ltf S0 (q_up (q_fill (q_up (q_up (q_up S0 (5, c) 0 (nI 1)) (5, c) 1 (-1)) (5, c) 3 (nI 0)) (6, c) 0 8 (fun _ => 0)) (5, c) 4 (nI len)) c len := by
  refine ⟨fun q s => ?_, fun q r hr => ?_, fun j h5 h6 => ?_⟩
  · by_cases hq : q = c
    · subst hq
      simp [q_up, q_fill]
      repeat' split
      all_goals first | rfl | (exfalso; omega) | simp_all
    · simp [q_up, q_fill, hq]
  · by_cases hq : q = c
    · subst hq
      simp [q_up, q_fill, hr]
    · simp [q_up, q_fill, hq]
  · funext x
    obtain ⟨j1, j2⟩ := j
    simp only at h5 h6
    simp [q_up, q_fill, h5, h6]
/-- t words are loaded -/
def q_li (S1 : q_st) (KT : k_t) (n c L fr0 : Nat) (pg : Nat → Option Nat) (t : Nat) (S : q_st) : Prop := ∃ (pg' : Nat → Option Nat) (us' lab' : Nat → Nat), q_R S (k_lt KT c L t) n pg' us' lab' (L + (t + 7) / 8) ∧ q_sm S1 S ∧ (∀ x, x / 8 ≠ c → pg' x = pg x) ∧ (∀ i, (t + 7) / 8 ≤ i → i < 8 → pg' (8 * c + i) = none) ∧ (t % 8 ≠ 0 → ∃ f, pg' (8 * c + t / 8) = some f ∧ us' f = 1) ∧ k_fr (k_lt KT c L t) = fr0 + (t + 7) / 8
/-- a page of the new process is owned -/
theorem q_li_own {S1 S S2 : q_st} {KT : k_t} {n c L fr0 t len : Nat} {pg pg' : Nat → Option Nat} {us' lab' : Nat → Nat} {r : Int32} (hc : c < 8) (ht : t < len) (hlen : len ≤ 64) (hfr : fr0 + (len + 7) / 8 ≤ n) (hL : L + 9 < 2 ^ 30)
    (hR : q_R S (k_lt KT c L t) n pg' us' lab' (L + (t + 7) / 8)) (hs : q_sm S1 S) (hx : ∀ x, x / 8 ≠ c → pg' x = pg x) (hnone : ∀ i, (t + 7) / 8 ≤ i → i < 8 → pg' (8 * c + i) = none) (hal : t % 8 ≠ 0 → ∃ f, pg' (8 * c + t / 8) = some f ∧ us' f = 1) (hkf : k_fr (k_lt KT c L t) = fr0 + (t + 7) / 8)
    (h : q_pgo true S (k_lt KT c L t) n pg' (L + (t + 7) / 8) (8 * c + t / 8) r S2) : r = nI 0 ∧ ∃ (f : Nat) (pg2 : Nat → Option Nat) (us2 lab2 : Nat → Nat), q_R S2 (k_pg (k_lt KT c L t) (8 * c + t / 8) true).2 n pg2 us2 lab2 (L + (t + 1 + 7) / 8) ∧ q_sm S1 S2 ∧ pg2 (8 * c + t / 8) = some f ∧ us2 f = 1 ∧ ∀ (S3 : q_st), S3 = q_up S2 (2, 0) (8 * f + t % 8) (KT 1 t) → q_li S1 KT n c L fr0 pg (t + 1) S3 := by
  have hg : 8 * c + t / 8 < 64 := by omega
  have hn := hR.1
  -- what the page is
  have hk : (t % 8 ≠ 0 ∧ k_pg (k_lt KT c L t) (8 * c + t / 8) true = (true, k_lt KT c L t)) ∨ (t % 8 = 0 ∧ k_pg (k_lt KT c L t) (8 * c + t / 8) true = (true, k_u (k_u (k_lt KT c L t) 0 11 (k_lt KT c L t 0 11 + 1)) 9 (8 * c + t / 8) (k_lt KT c L t 0 11 + 1))) := by
    have hsh := q_R_sh hR hg
    by_cases h8 : t % 8 = 0
    · right
      refine ⟨h8, ?_⟩
      rw [hnone (t / 8) (by omega) (by omega)] at hsh
      rw [k_pg_f (by rw [hsh]; simp)]
      unfold k_al
      rw [if_neg]
      rw [hkf, hR.2.2.2.2.2.2.1, nI_eq (by omega) (by omega)]
      omega
    · left
      obtain ⟨f, hf, hu⟩ := hal h8
      rw [hf] at hsh
      have hsh : k_sh (k_lt KT c L t) (8 * c + t / 8) = us' f := hsh
      exact ⟨h8, k_pg_t (by rw [hsh, hu]; decide) (Or.inr (by rw [hsh]; exact hu))⟩
  rcases h with ⟨h1, h2, pg2, us2, lab2, L2, h3, h4, h5, h6, h7, f, hf, hu⟩ | ⟨h1, h2, h3, h4⟩
  · have hL2 : L2 = L + (t + 1 + 7) / 8 := by
      have e := h3.2.2.2.2.2.2.2.2.1
      have e1 := h3.2.2.2.2.2.2.2.2.2
      rcases hk with ⟨h8, hk⟩ | ⟨h8, hk⟩
      · rw [hk] at e
        have e : k_lt KT c L t 0 11 = nI L2 := e
        have e2 : k_lt KT c L t 0 11 = nI (L + (t + 7) / 8) := by simp [k_lt]
        rw [e2, nI_eq (by omega) (by omega)] at e
        omega
      · rw [hk] at e
        have e2 : k_u (k_u (k_lt KT c L t) 0 11 (k_lt KT c L t 0 11 + 1)) 9 (8 * c + t / 8) (k_lt KT c L t 0 11 + 1) 0 11 = nI (L + (t + 7) / 8 + 1) := by
          rw [k_u_ne _ _ _ _ (by simp), k_u_at]
          simp [k_lt, nI_1]
        rw [show ((true, k_u (k_u (k_lt KT c L t) 0 11 (k_lt KT c L t 0 11 + 1)) 9 (8 * c + t / 8) (k_lt KT c L t 0 11 + 1)) : Bool × k_t).2 0 11 = nI (L + (t + 7) / 8 + 1) from e2, nI_eq (by omega) (by omega)] at e
        omega
    subst hL2
    refine ⟨h1, f, pg2, us2, lab2, h3, q_sm_tr hs h6, hf, hu rfl, fun S3 hS3 => ?_⟩
    subst hS3
    have hKe : k_u (k_pg (k_lt KT c L t) (8 * c + t / 8) true).2 8 (64 * c + t) (KT 1 t) = k_lt KT c L (t + 1) := by
      rcases hk with ⟨h8, hk⟩ | ⟨h8, hk⟩
      · rw [hk]
        exact (k_lt_same KT c L t h8).resolve_right (by omega)
      · rw [hk]
        exact k_lt_new KT c L t h8 (by omega)
    refine ⟨pg2, us2, lab2, ?_, q_sm_tr (q_sm_tr hs h6) (fun j a b d e => q_up_other _ _ _ _ _ (by rintro rfl; exact b rfl)), fun x hxx => ?_, fun i hi hi8 => ?_, fun h8 => ⟨f, by rw [show (t + 1) / 8 = t / 8 by omega]; exact hf, hu rfl⟩, ?_⟩
    · rw [← hKe]
      refine q_R_put (v := KT 1 t) h3 hf (hu rfl) (k := t % 8) (by omega) (fun x => ?_) (fun i j hi => ?_) (fun x => ?_) (fun a ha => ?_)
      · simp only [q_up, true_and]
      · rw [q_irr _ _ _ _ _ _ (fun q => hi q.1)]
      · simp only [k_u, true_and]
        rw [show 64 * c + t = 8 * (8 * c + t / 8) + t % 8 by omega]
      · exact k_u_k _ _ _ _ ha
    · rw [h7 x (by omega)]
      exact hx x hxx
    · rw [h7 _ (by omega)]
      exact hnone i (by omega) hi8
    · rw [← hKe, k_fr_9 (k_u_k _ _ _ _ (by decide))]
      rcases hk with ⟨h8, hk⟩ | ⟨h8, hk⟩
      · rw [hk]
        show k_fr (k_lt KT c L t) = _
        rw [hkf]
        omega
      · rw [hk]
        have hlab : ∀ g, g < 64 → k_lt KT c L t 9 g = nI (lab' g) ∧ lab' g ≤ L + (t + 7) / 8 := fun g hg => ⟨hR.2.2.2.2.2.2.2.1 g hg, hR.2.1.2.1 g hg⟩
        have e11 : k_lt KT c L t 0 11 + 1 = nI (L + (t + 7) / 8 + 1) := by simp [k_lt, nI_1]
        rw [k_fr_add (K := k_lt KT c L t) (g := 8 * c + t / 8) (v := nI (L + (t + 7) / 8 + 1)) hg ?_ ?_ ?_ ?_, hkf]
        · omega
        · rw [(hlab _ hg).1, (hR.2.1.2.2.1 _ hg).mp (hnone (t / 8) (by omega) (by omega))]
          rfl
        · rw [nI_toInt (by omega)]
          omega
        · intro j hj
          rw [(hlab j hj).1, nI_eq (by have := (hlab j hj).2; omega) (by omega)]
          have := (hlab j hj).2
          omega
        · intro j
          show k_u (k_u (k_lt KT c L t) 0 11 (k_lt KT c L t 0 11 + 1)) 9 (8 * c + t / 8) (k_lt KT c L t 0 11 + 1) 9 j = _
          rw [e11]
          by_cases hj : j = 8 * c + t / 8
          · rw [hj, k_u_at, if_pos rfl]
          · rw [k_u_ne _ _ _ _ (fun q => hj q.2), k_u_ne _ _ _ _ (by simp), if_neg hj]
  · exfalso
    rcases hk with ⟨h8, hk⟩ | ⟨h8, hk⟩ <;> (rw [hk] at h2; cases h2)
theorem k_Ok_ld0 {K : k_t} {B c len : Nat} {v : Int32} (hl : len ≤ 64) (h : k_Ok K B) : k_Ok (k_ld0 K c len v) B := by
  refine ⟨fun j hj => ?_, k_Gl_same (fun j h11 _ => by simp [k_ld0, h11]) h.2⟩
  by_cases hjc : j = c
  · subst hjc
    refine ⟨⟨1, by decide, by simp [k_ld0]⟩, Or.inl (by simp [k_ld0]), ⟨len, hl, by simp [k_ld0]⟩, fun _ => by simp [k_ld0]⟩
  · exact k_Pr_same (by simp [k_ld0, hjc]) (by simp [k_ld0, hjc]) (by simp [k_ld0, hjc]) (h.1 j hj)
theorem q_load_F {S0 S1 S : q_st} {K : k_t} {n L B c len fr0 : Nat} {pg : Nat → Option Nat} {us lab : Nat → Nat} (hc : c < 8) (hlen : len ≤ 64) (hL : L + 9 < 2 ^ 30) (hF : q_F S0 K n L B) (hR : q_R S0 K n pg us lab L) (hZ : q_Zn K pg) (hc0 : K 2 c = 0) (hft : q_ltf S0 S1 c len) (hli : q_li S1 (k_lT K c len) n c L fr0 pg len S) : q_F S (k_ld0 K c len (K 0 11)) n (L + 8) B ∧ q_fr S0 S := by
  obtain ⟨pg', us', lab', hR', hs, hx, hnone, -, -⟩ := hli
  have hsn : q_sn S0 S1 := fun j hj => hft.2.2 j (by omega) (by omega)
  have h11 : K 0 11 = nI L := hR.2.2.2.2.2.2.2.2.1
  have ha : ∀ a, a ≠ 0 → a ≠ 8 → a ≠ 9 → k_ld0 K c len (K 0 11) a = k_lT K c len a := by
    intro a h0 h8 h9
    funext j
    simp [k_ld0, k_lT, h0, h8, h9]
  have h0 : ∀ j, j ≠ 11 → j ≠ 14 → k_ld0 K c len (K 0 11) 0 j = k_lT K c len 0 j := by
    intro j h1 _
    simp [k_ld0, k_lT, h1]
  have h9 : ∀ g, g < 64 → k_ld0 K c len (K 0 11) 9 g = k_lt (k_lT K c len) c L len 9 g := by
    intro g hg
    by_cases hgc : g / 8 = c
    · by_cases hp : g % 8 < (len + 7) / 8
      · simp [k_ld0, k_lt, hgc, hp, h11, nI_add]
        rw [Nat.add_assoc]
      · have hpn := hZ c hc (Or.inl hc0) (g % 8) (by omega)
        rw [show 8 * c + g % 8 = g by omega] at hpn
        have hl0 := (hR.2.1.2.2.1 g hg).mp hpn
        have := hR.2.2.2.2.2.2.2.1 g hg
        rw [hl0] at this
        simp [k_ld0, k_lt, k_lT, hgc, hp, this]
        rfl
    · simp [k_ld0, k_lt, k_lT, hgc]
  have h8 : ∀ j, j < 512 → k_ld0 K c len (K 0 11) 8 j = k_lt (k_lT K c len) c L len 8 j := by
    intro j hj
    by_cases hjc : j / 64 = c
    · by_cases hp : j % 64 < len
      · simp [k_ld0, k_lt, k_lT, hjc, hp]
      · have hpn := hZ c hc (Or.inl hc0) (j % 64 / 8) (by omega)
        have := hR.2.1.2.2.2.2.2.2 (8 * c + j % 64 / 8) (j % 8) (by omega) hpn (by omega)
        rw [show 8 * (8 * c + j % 64 / 8) + j % 8 = j by omega] at this
        simp [k_ld0, k_lt, k_lT, hjc, hp, this]
    · simp [k_ld0, k_lt, k_lT, hjc]
  refine ⟨⟨k_Ok_ld0 hlen hF.1, q_T_sm hs (q_T_k ha h0 (q_ltf_T hft hF.2.1)), ?_, pg', us', lab', ?_, ?_⟩, q_fr_tr (q_fr_sn hsn) (q_fr_sm hs)⟩
  · refine q_C_sm hs (q_C_sn hsn (q_C_k (fun j h1 h2 => ?_) hF.2.2.1))
    simp [k_ld0, h1]
  · obtain ⟨hn, ⟨m1, m2, m3, m4, m5, m6, m7⟩, t7, t3, t1, t0, tK0, t9, tl, tL0⟩ := hR'
    refine ⟨hn, ⟨m1, fun g hg => by have := m2 g hg; omega, m3, m4, m5, fun g f k hg hk => ?_, fun g k hg hp hk => ?_⟩, t7, t3, t1, t0, ?_, fun g hg => ?_, ?_, by omega⟩
    · rw [h8 _ (by have := (m1 g f hg).2; omega)]
      exact m6 g f k hg hk
    · rw [h8 _ (by omega)]
      exact m7 g k hg hp hk
    · rw [← tK0]
      simp [k_ld0, k_lt, k_lT]
    · rw [h9 g hg]
      exact t9 g hg
    · simp [k_ld0, h11, nI_add]
  · intro q hq hss i hi
    by_cases hqc : q = c
    · subst hqc
      simp [k_ld0] at hss
      rcases hss with hss | hss <;> exact absurd hss (by decide)
    · rw [hx _ (by omega)]
      refine hZ q hq ?_ i hi
      simpa [k_ld0, hqc] using hss

set_option maxRecDepth 100000 in
set_option maxHeartbeats 4000000 in
theorem lp_kload {G : q_g} {n : Nat} {ad : q_ix → Nat} {X : q_cx} (F : q_fx G X iX3_load) {S0 S1 : q_st} {K : k_t} {x : Int32} {c len L B : Nat} {pg : Nat → Option Nat} {us lab : Nat → Nat} (hc : c < 8) (hl1 : 1 ≤ len) (hlen : len ≤ 64) (hx : x = nI len) (hL : L + 9 < 2 ^ 30) (hF : q_F S0 K n L B) (hR0 : q_R S0 K n pg us lab L) (hZ : q_Zn K pg) (hc0 : K 2 c = 0) (hff : k_ff K = some c) (hfr : k_fr K + (len + 7) / 8 ≤ n) (hft : q_ltf S0 S1 c len) (E : q_en G X iX3_load (q_pi (q_w G n ad) (fun r S' => (r = -16 ∧ ¬ (1 ≤ x.toInt ∧ x.toInt ≤ 64) ∧ S' = S0) ∨ (∃ len, 1 ≤ len ∧ len ≤ 64 ∧ x = nI len ∧ ((k_ff K = none ∧ r = -15 ∧ S' = S0) ∨ (∃ p, p < 8 ∧ k_ff K = some p ∧ ((¬ k_fr K + (len + 7) / 8 ≤ n ∧ r = -13 ∧ S' = S0) ∨ (k_fr K + (len + 7) / 8 ≤ n ∧ r = nI p ∧ q_F S' (k_ld0 K p len (K 0 11)) n (L + 8) B ∧ q_fr S0 S')))))))) : ∀ t, t ≤ len → ∀ S, q_li S1 (k_lT K c len) n c L (k_fr K) pg t S → q_W G X iX3_load (q_w G n ad) (0, 0) 74 [some (.inr (some (0, 0))), some (.inl (nI len)), some (.inl (nI c)), some (.inl (nI ((len + 8 - 1) / 8))), some (.inr (some (5, c))), some (.inl (nI t))] [] S := by
  refine q_loop (fun t ht ih => ?_)
  intro S hli
  refine q_iload F dX3_load_74 rfl ?_
  refine q_iload_n F dX3_load_76 rfl ?_
  refine q_icmpN_ge F 115 dX3_load_77 (by decide) (by omega) (by omega) (fun h77 => ?_) (fun h77 => ?_)
  · obtain rfl : t = len := by omega
    refine q_iload_n F dX3_load_115 rfl ?_
    refine q_iret F E rfl (Or.inr ⟨t, hl1, hlen, hx, Or.inr ⟨c, hc, hff, Or.inr ⟨hfr, rfl, q_load_F hc hlen hL hF hR0 hZ hc0 hft hli⟩⟩⟩) dX3_load_116
  · obtain ⟨pg1, us1, lab1, hR, hs, hpx, hnone, hal, hkf⟩ := hli
    refine q_aload_n F dX3_load_80 rfl ?_
    refine q_aload F dX3_load_81 rfl ?_
    refine q_iload F dX3_load_83 rfl ?_
    refine q_bipush F (nI 8) dX3_load_85 (by decide) ?_
    refine q_idivN F dX3_load_87 (by omega) (by omega) (by omega) ?_
    refine q_callVi F [.inr (some (5, c)), .inl (nI (t / 8))] (fun l => t_own l S hc (by omega) hR (by omega)) clX3_59 rfl q_m0 rfl rfl rfl ⟨Nat.le_of_ble_eq_true rfl, Nat.le_of_ble_eq_true rfl⟩ (Nat.le_of_ble_eq_true rfl) ⟨rfl, rfl⟩ ⟨Nat.zero_le _, Nat.zero_le _⟩ dX3_load_88 (fun r1 S2 h1 => ?_)
    obtain ⟨rfl, f, pg2, us2, lab2, hR2, hs2, hf2, hu2, hnx⟩ := q_li_own hc h77 hlen hfr hL hR hs hpx hnone hal hkf h1
    refine q_ifN_ne F 109 dX3_load_91 (by decide) (by omega) (fun h91 => ?_) (fun h91 => ?_)
    · exact absurd h91 (by decide)
    · refine q_aload_n F dX3_load_94 rfl ?_
      refine q_aload F dX3_load_95 rfl ?_
      refine q_iload F dX3_load_97 rfl ?_
      refine q_aload_n F dX3_load_99 rfl ?_
      refine q_getr F (k := 3) fkX3_32 q_m0 rfl rfl dX3_load_100 ?_
      refine q_iload F dX3_load_103 rfl ?_
      refine q_iald F (_) q_m10 rfl rfl (by omega) (by omega) dX3_load_105 ?_
      refine q_top (k_lT K c len 1 t) (by rw [hs2 (10, 0) (by simp) (by simp) (by simp) (by simp)]; exact (q_ltf_T hft hF.2.1).1 t (by omega)) ?_
      refine q_callVv F [.inr (some (5, c)), .inl (nI t), .inl (k_lT K c len 1 t)] (fun l => t_putWord l S2 hc (by omega) (hR2.2.1.1 _ _ hf2).1 hR2.1.2 (by rw [hR2.2.2.1 c (t / 8) hc (by omega), hf2]; rfl)) clX3_63 rfl q_m0 rfl rfl rfl ⟨Nat.le_of_ble_eq_true rfl, Nat.le_of_ble_eq_true rfl⟩ (Nat.le_of_ble_eq_true rfl) ⟨rfl, rfl⟩ ⟨Nat.zero_le _, Nat.zero_le _⟩ dX3_load_106 (fun S3 hS3 => ?_)
      refine q_iinc_5 F _ dX3_load_109 (q_inc1 _) (by decide) ?_
      exact q_goto F 74 dX3_load_112 (by decide) (ih h77 _ (hnx S3 hS3))

set_option maxRecDepth 100000 in
set_option maxHeartbeats 4000000 in
theorem t_load {G : q_g} {n : Nat} {ad : q_ix → Nat} (l : Launch) (S0 : q_st) {K : k_t} {L B : Nat} {x : Int32} (hF : q_F S0 K n L B) (hL : L + 9 < 2 ^ 30) : q_Ct l G iX3_load [.inr (some (0, 0)), .inl x] (q_w G n ad) (S0) (q_pi (q_w G n ad) (fun r S' => (r = -16 ∧ ¬ (1 ≤ x.toInt ∧ x.toInt ≤ 64) ∧ S' = S0) ∨ (∃ len, 1 ≤ len ∧ len ≤ 64 ∧ x = nI len ∧ ((k_ff K = none ∧ r = -15 ∧ S' = S0) ∨ (∃ p, p < 8 ∧ k_ff K = some p ∧ ((¬ k_fr K + (len + 7) / 8 ≤ n ∧ r = -13 ∧ S' = S0) ∨ (k_fr K + (len + 7) / 8 ≤ n ∧ r = nI p ∧ q_F S' (k_ld0 K p len (K 0 11)) n (L + 8) B ∧ q_fr S0 S'))))))) := by
  refine q_enter (by decide) (Nat.le_of_ble_eq_true rfl) (fun X F E => ?_)
  show q_W G X iX3_load (q_w G n ad) (0, 0) 0 [some (.inr (some (0, 0))), some (.inl x), none, none, none, none] [] (S0)
  obtain ⟨hok, hT0, hC, pg, us, lab, hR, hZ⟩ := id hF
  have hn := hR.1
  refine q_iload_n F dX3_load_0 rfl ?_
  refine q_iconst F (nI 1) dX3_load_1 (by decide) ?_
  refine q_icmp_lt F 11 dX3_load_2 (by decide) (fun h2 => ?_) (fun h2 => ?_)
  · rw [nI_toInt (by omega)] at h2
    refine q_bipush F (-16) dX3_load_11 (by decide) ?_
    refine q_iret F E rfl (Or.inl ⟨rfl, by omega, rfl⟩) dX3_load_13
  · rw [nI_toInt (by omega)] at h2
    refine q_iload_n F dX3_load_5 rfl ?_
    refine q_bipush F (nI 64) dX3_load_6 (by decide) ?_
    refine q_icmp_le F 14 dX3_load_8 (by decide) (fun h8 => ?_) (fun h8 => ?_)
    · rw [nI_toInt (by omega)] at h8
      obtain ⟨len, hl65, rfl⟩ := q_ofx (x := x) (m := 65) (by decide) (by omega) (by omega)
      rw [nI_toInt (by omega)] at h2 h8
      refine q_aload_n F dX3_load_14 rfl ?_
      refine q_callVi F [] (fun l => t_firstFree l S0) clX3_46 rfl q_m0 rfl rfl rfl ⟨Nat.le_of_ble_eq_true rfl, Nat.le_of_ble_eq_true rfl⟩ (Nat.le_of_ble_eq_true rfl) ⟨rfl, rfl⟩ ⟨Nat.zero_le _, Nat.zero_le _⟩ dX3_load_15 (fun v1 S1 hv1 => ?_)
      obtain ⟨hv1, hS1⟩ := hv1
      have hS1 := hS1.symm
      subst hS1
      rw [q_ff_eq hT0] at hv1
      subst hv1
      rcases f_st_spec (P := fun p => K 2 p = 0) 8 with ⟨hff, -⟩ | ⟨c, hff, hc, hc0, -⟩
      · refine q_top (-1) (by unfold k_ff; rw [hff]; rfl) ?_
        refine q_istore_n_2 F dX3_load_18 (by decide) ?_
        refine q_iload_n F dX3_load_19 rfl ?_
        refine q_iconst F (-1) dX3_load_20 (by decide) ?_
        refine q_icmp_ne F 27 dX3_load_21 (by decide) (fun h21 => ?_) (fun h21 => ?_)
        · exact absurd rfl h21
        · refine q_bipush F (-15) dX3_load_24 (by decide) ?_
          refine q_iret F E rfl (Or.inr ⟨len, by omega, by omega, rfl, Or.inl ⟨hff, rfl, rfl⟩⟩) dX3_load_26
      · refine q_top (nI c) (by unfold k_ff; rw [hff]; rfl) ?_
        refine q_istore_n_2 F dX3_load_18 (by decide) ?_
        refine q_iload_n F dX3_load_19 rfl ?_
        refine q_iconst F (-1) dX3_load_20 (by decide) ?_
        refine q_icmp_ne F 27 dX3_load_21 (by decide) (fun h21 => ?_) (fun h21 => ?_)
        · refine q_iload_n F dX3_load_27 rfl ?_
          refine q_bipush F (nI 8) dX3_load_28 (by decide) ?_
          refine q_iaddN F dX3_load_30 ?_
          refine q_iconst F (nI 1) dX3_load_31 (by decide) ?_
          refine q_isubN F dX3_load_32 (by omega) ?_
          refine q_bipush F (nI 8) dX3_load_33 (by decide) ?_
          refine q_idivN F dX3_load_35 (by omega) (by omega) (by omega) ?_
          refine q_istore_n_3 F dX3_load_36 (by decide) ?_
          refine q_iload_n F dX3_load_37 rfl ?_
          refine q_aload_n F dX3_load_38 rfl ?_
          refine q_getr F (k := 0) fkX3_14 q_m0 rfl rfl dX3_load_39 ?_
          refine q_callVi F [] (fun l => t_unused l S0) clX3_50 rfl q_m1 rfl rfl rfl ⟨Nat.le_of_ble_eq_true rfl, Nat.le_of_ble_eq_true rfl⟩ (Nat.le_of_ble_eq_true rfl) ⟨rfl, rfl⟩ ⟨Nat.zero_le _, Nat.zero_le _⟩ dX3_load_42 (fun v2 S2 hv2 => ?_)
          obtain ⟨hv2, hS2⟩ := hv2
          have hS2 := hS2.symm
          subst hS2
          have hun : v2 = nI (n - k_fr K) := by rw [hv2, hR.2.2.2.2.2.1, hR.2.2.2.2.1, q_R_fr hR, pk_sub (c_n_le _ _)]
          subst hun
          have hfrn : k_fr K ≤ n := by rw [q_R_fr hR]; exact c_n_le _ _
          refine q_icmpN_le F 51 dX3_load_45 (by decide) (by omega) (by omega) (fun h45 => ?_) (fun h45 => ?_)
          · refine q_aload_n F dX3_load_51 rfl ?_
            refine q_getr F (k := 1) fkX3_20 q_m0 rfl rfl dX3_load_52 ?_
            refine q_iload_n F dX3_load_55 rfl ?_
            refine q_aald F (_) q_m4 rfl rfl (by omega) (by decide) rfl dX3_load_56 ?_
            refine q_astore_4 F dX3_load_57 (by decide) ?_
            refine q_aload F dX3_load_59 rfl ?_
            refine q_iconst F (-1) dX3_load_61 (by decide) ?_
            refine q_callVv F [.inl (-1)] (fun l => t_begin l S0 hc) clX3_53 rfl (q_m5 (by omega)) rfl rfl rfl ⟨Nat.le_of_ble_eq_true rfl, Nat.le_of_ble_eq_true rfl⟩ (Nat.le_of_ble_eq_true rfl) ⟨rfl, rfl⟩ ⟨Nat.zero_le _, Nat.zero_le _⟩ dX3_load_62 (fun S3 hS3 => ?_)
            subst hS3
            refine q_aload F dX3_load_65 rfl ?_
            refine q_iload_n F dX3_load_67 rfl ?_
            refine q_puti F (k := 4) fkX3_56 fp2_4 (q_m5 (by omega)) rfl rfl dX3_load_68 ?_
            refine q_iconst F (nI 0) dX3_load_71 (by decide) ?_
            refine q_istore_5 F dX3_load_72 (by decide) ?_
            refine lp_kload F hc (by omega) (by omega) rfl hL hF hR hZ hc0 hff (by omega) q_ltf_mk E 0 (Nat.zero_le _) _ ⟨pg, us, lab, ?_, q_sm_rf _, fun _ _ => rfl, fun i _ hi => hZ c hc (Or.inl hc0) i hi, fun q => absurd rfl q, ?_⟩
            · rw [k_lt_0 _ _ _ (by simp [k_lT]; exact hR.2.2.2.2.2.2.2.2.1)]
              exact q_R_sn (fun j hj => (q_ltf_mk (S0 := S0) (c := c) (len := len)).2.2 j (by omega) (by omega)) (by funext j; simp [k_lT]) (by funext j; simp [k_lT]) (by simp [k_lT]) (by simp [k_lT]) hR
            · rw [k_lt_0 _ _ _ (by simp [k_lT]; exact hR.2.2.2.2.2.2.2.2.1)]
              rw [k_fr_9 (K := K) (K' := k_lT K c len) (by funext j; simp [k_lT])]
              omega
          · refine q_bipush F (-13) dX3_load_48 (by decide) ?_
            refine q_iret F E rfl (Or.inr ⟨len, by omega, by omega, rfl, Or.inr ⟨c, hc, hff, Or.inl ⟨by omega, rfl, rfl⟩⟩⟩) dX3_load_50
        · exact absurd h21 (q_nm1 (by omega))
    · rw [nI_toInt (by omega)] at h8
      refine q_bipush F (-16) dX3_load_11 (by decide) ?_
      refine q_iret F E rfl (Or.inl ⟨rfl, by omega, rfl⟩) dX3_load_13
