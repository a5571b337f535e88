/-! the class: pages given back, words cleared (rows laid by wip/whole/m50.py) -/
/-- the pages of process p from page i0 up to page i are given back -/
def q_rf (S0 : q_st) (K : k_t) (n p b i0 : Nat) (pg : Nat → Option Nat) (L i : Nat) (S : q_st) : Prop := ∃ (pg' : Nat → Option Nat) (us' lab' : Nat → Nat), q_R S (k_rz K p b i) n pg' us' lab' L ∧ q_sm S0 S ∧ ∀ x, pg' x = if x / 8 = p ∧ i0 ≤ x % 8 ∧ x % 8 < i then none else pg x
theorem k_rz_id (K : k_t) (p b i : Nat) (h : ∀ j, j < i → 8 * j < b) : k_rz K p b i = K := by
  induction i with
  | zero => exact k_rz_0 K p b
  | succ i ih =>
    by_cases hi : i < 8
    · rw [← k_rz_n K p b i hi (h i (Nat.lt_succ_self i))]
      exact ih (fun j hj => h j (by omega))
    · funext a j
      have e := congrFun (congrFun (ih (fun j hj => h j (by omega))) a) j
      rw [← e]
      unfold k_rz
      repeat' split
      all_goals first | rfl | (exfalso; omega)
theorem q_rf_0 {S : q_st} {K : k_t} {n p b i0 : Nat} {pg : Nat → Option Nat} {us lab : Nat → Nat} {L : Nat} (h : q_R S K n pg us lab L) (hb : ∀ i, i < 8 → (i0 ≤ i ↔ b ≤ 8 * i)) (h8 : i0 ≤ 8) : q_rf S K n p b i0 pg L i0 S := by
  refine ⟨pg, us, lab, ?_, q_sm_rf S, fun x => ?_⟩
  · rw [k_rz_id K p b i0 (fun j hj => by have := hb j (by omega); omega)]
    exact h
  · rw [if_neg (by omega)]
theorem q_rf_s {S0 S S' : q_st} {K : k_t} {n p b i0 : Nat} {pg : Nat → Option Nat} {L i : Nat} {pg' : Nat → Option Nat} {us' lab' : Nat → Nat} (hp : p < 8) (hi : i < 8) (h0 : i0 ≤ i) (hb : b ≤ 8 * i) (h : q_R S (k_rz K p b i) n pg' us' lab' L) (hs : q_sm S0 S) (hpg : ∀ x, pg' x = if x / 8 = p ∧ i0 ≤ x % 8 ∧ x % 8 < i then none else pg x)
    (hS : (pg' (8 * p + i) = none ∧ S' = S) ∨ ∃ f, pg' (8 * p + i) = some f ∧ S' = c_lv S f) : q_rf S0 K n p b i0 pg L (i + 1) (q_up S' (7, p) i (-1)) := by
  have key : q_R (q_up S' (7, p) i (-1)) (k_rz K p b (i + 1)) n (fun x => if x = 8 * p + i then none else pg' x) (fun x => if pg' (8 * p + i) = some x then us' x - 1 else us' x) (fun x => if x = 8 * p + i then 0 else lab' x) L := by
    refine q_R_rel h hp hi ?_ ?_ ?_ ?_ ?_ ?_ ?_ ?_
    · intro p' i' hp' hi'
      by_cases hx : 8 * p' + i' = 8 * p + i
      · obtain ⟨rfl, rfl⟩ : p' = p ∧ i' = i := by omega
        simp [q_up]
      · rw [if_neg hx, q_irr _ _ _ _ _ _ (by rintro ⟨q, rfl⟩; cases q; exact hx rfl)]
        rcases hS with ⟨-, rfl⟩ | ⟨f, -, rfl⟩
        · rfl
        · simp [c_lv_at]
    · intro x hx
      rw [q_irr _ _ _ _ _ _ (by simp)]
      rcases hS with ⟨hn, rfl⟩ | ⟨f, hf, rfl⟩
      · rw [hn]; simp
      · rw [hf, c_lv_at]
        by_cases hxf : x = f
        · subst hxf
          have h1 := q_R_us1 h hf
          rw [if_pos ⟨rfl, rfl⟩, if_pos rfl, h.2.2.2.1 x hx, pk_sub (by omega)]
        · rw [if_neg (fun q => hxf q.2), if_neg (by simp), if_neg (by intro q; cases q; exact hxf rfl)]
    · rw [q_irr _ _ _ _ _ _ (by simp)]
      rcases hS with ⟨hn, rfl⟩ | ⟨f, hf, rfl⟩
      · rw [if_neg (by rintro ⟨x, hx, -⟩; rw [hn] at hx; cases hx)]
      · have hfn := (h.2.1.1 _ _ hf).1
        have h1 := q_R_us1 h hf
        have h2 := q_R_us h hfn
        have hz : S (3, 0) f - nI 1 = 0 ↔ us' f = 1 := by
          rw [h.2.2.2.1 f hfn, pk_sub (by omega), q_nI0 (by omega)]
          omega
        rw [c_lv_at, if_neg (by simp)]
        by_cases h3 : us' f = 1
        · rw [if_pos ⟨rfl, rfl, hz.mpr h3⟩, if_pos ⟨f, hf, h3⟩]
          rfl
        · rw [if_neg (fun q => h3 (hz.mp q.2.2)), if_neg (by rintro ⟨x, hx, hx1⟩; rw [hf] at hx; cases hx; exact h3 hx1)]
    · rw [q_irr _ _ _ _ _ _ (by simp)]
      rcases hS with ⟨hn, rfl⟩ | ⟨f, hf, rfl⟩
      · rfl
      · simp [c_lv_at]
    · funext x
      rw [q_irr _ _ _ _ _ _ (by simp)]
      rcases hS with ⟨hn, rfl⟩ | ⟨f, hf, rfl⟩
      · rfl
      · simp [c_lv_at]
    · rw [← k_rz_s K p b i hi hb]
      funext j
      simp [k_rl]
    · intro g
      rw [← k_rz_s K p b i hi hb]
      simp [k_rl]
    · intro x
      rw [← k_rz_s K p b i hi hb]
      simp [k_rl]
  refine ⟨_, _, _, key, q_sm_tr hs (fun j a b c d => ?_), fun x => ?_⟩
  · funext x
    rw [q_irr _ _ _ _ _ _ (by rintro ⟨rfl, -⟩; exact d rfl)]
    rcases hS with ⟨-, rfl⟩ | ⟨f, -, rfl⟩
    · rfl
    · rw [c_lv_at, if_neg (by rintro ⟨rfl, -⟩; exact c rfl), if_neg (by rintro ⟨rfl, -⟩; exact a rfl)]
  · by_cases hx : x = 8 * p + i
    · rw [if_pos hx, if_pos (by omega)]
    · rw [if_neg hx, hpg]
      repeat' split
      all_goals first | rfl | (exfalso; omega)

set_option maxRecDepth 100000 in
set_option maxHeartbeats 4000000 in
theorem lp_releaseFrom {G : q_g} {n : Nat} {ad : q_ix → Nat} {X : q_cx} (F : q_fx G X iX3_releaseFrom) {S0 : q_st} {K : k_t} {p b i0 : Nat} {pg : Nat → Option Nat} {L : Nat} (hp : p < 8) (hb : ∀ i, i < 8 → (i0 ≤ i ↔ b ≤ 8 * i)) (E : q_en G X iX3_releaseFrom (q_pv (q_w G n ad) (fun S' => q_rf S0 K n p b i0 pg L 8 S'))) : ∀ i, i ≤ 8 → i0 ≤ i → ∀ S, q_rf S0 K n p b i0 pg L i S → q_W G X iX3_releaseFrom (q_w G n ad) (0, 0) 2 [some (.inr (some (0, 0))), some (.inr (some (5, p))), some (.inl (nI i0)), some (.inl (nI i))] [] S := by
  refine q_loop (fun i hi8 ih => ?_)
  intro h0 S hrf
  refine q_iload_n F dX3_releaseFrom_2 rfl ?_
  refine q_bipush F (nI 8) dX3_releaseFrom_3 (by decide) ?_
  refine q_icmpN_ge F 34 dX3_releaseFrom_5 (by decide) (by omega) (by omega) (fun h5 => ?_) (fun h5 => ?_)
  · obtain rfl : i = 8 := by omega
    refine q_vret F E rfl hrf dX3_releaseFrom_34
  · obtain ⟨pg1, us1, lab1, hR, hs, hpg⟩ := hrf
    have hn := hR.1.2
    refine q_aload_n F dX3_releaseFrom_8 rfl ?_
    refine q_getr F (k := 0) fkX3_14 q_m0 rfl rfl dX3_releaseFrom_9 ?_
    refine q_aload_n F dX3_releaseFrom_12 rfl ?_
    refine q_getr F (k := 6) fkX3_112 (q_m5 (by omega)) rfl rfl dX3_releaseFrom_13 ?_
    refine q_iload_n F dX3_releaseFrom_16 rfl ?_
    refine q_iald F (_) (q_m7 (by omega)) rfl rfl (by omega) (by omega) dX3_releaseFrom_17 ?_
    cases hf : pg1 (8 * p + i)
    · refine q_top (-1) (by rw [hR.2.2.1 p i hp h5, hf]; rfl) ?_
      refine q_callVv F [.inl (-1)] (fun l => t_leave0 l S) clX3_191 rfl q_m1 rfl rfl rfl ⟨Nat.le_of_ble_eq_true rfl, Nat.le_of_ble_eq_true rfl⟩ (Nat.le_of_ble_eq_true rfl) ⟨rfl, rfl⟩ ⟨Nat.zero_le _, Nat.zero_le _⟩ dX3_releaseFrom_18 (fun S' hS => ?_)
      subst hS
      refine q_aload_n F dX3_releaseFrom_21 rfl ?_
      refine q_getr F (k := 6) fkX3_112 (q_m5 (by omega)) rfl rfl dX3_releaseFrom_22 ?_
      refine q_iload_n F dX3_releaseFrom_25 rfl ?_
      refine q_iconst F (-1) dX3_releaseFrom_26 (by decide) ?_
      refine q_iast F (_) (q_m7 (by omega)) rfl rfl (by omega) (by omega) dX3_releaseFrom_27 ?_
      refine q_iinc_3 F _ dX3_releaseFrom_28 (q_inc1 _) (by decide) ?_
      exact q_goto F 2 dX3_releaseFrom_31 (by decide) (ih h5 (by omega) _ (q_rf_s hp h5 h0 ((hb i h5).mp h0) hR hs hpg (Or.inl ⟨hf, rfl⟩)))
    · rename_i f
      have hff := (hR.2.1.1 _ _ hf).1
      refine q_top (nI f) (by rw [hR.2.2.1 p i hp h5, hf]; rfl) ?_
      refine q_callVv F [.inl (nI f)] (fun l => t_leave l S hff hn) clX3_191 rfl q_m1 rfl rfl rfl ⟨Nat.le_of_ble_eq_true rfl, Nat.le_of_ble_eq_true rfl⟩ (Nat.le_of_ble_eq_true rfl) ⟨rfl, rfl⟩ ⟨Nat.zero_le _, Nat.zero_le _⟩ dX3_releaseFrom_18 (fun S' hS => ?_)
      subst hS
      refine q_aload_n F dX3_releaseFrom_21 rfl ?_
      refine q_getr F (k := 6) fkX3_112 (q_m5 (by omega)) rfl rfl dX3_releaseFrom_22 ?_
      refine q_iload_n F dX3_releaseFrom_25 rfl ?_
      refine q_iconst F (-1) dX3_releaseFrom_26 (by decide) ?_
      refine q_iast F (_) (q_m7 (by omega)) rfl rfl (by omega) (by omega) dX3_releaseFrom_27 ?_
      refine q_iinc_3 F _ dX3_releaseFrom_28 (q_inc1 _) (by decide) ?_
      exact q_goto F 2 dX3_releaseFrom_31 (by decide) (ih h5 (by omega) _ (q_rf_s hp h5 h0 ((hb i h5).mp h0) hR hs hpg (Or.inr ⟨f, hf, rfl⟩)))

set_option maxRecDepth 100000 in
set_option maxHeartbeats 4000000 in
theorem t_releaseFrom {G : q_g} {n : Nat} {ad : q_ix → Nat} (l : Launch) (S0 : q_st) {K : k_t} {p b i0 : Nat} {pg : Nat → Option Nat} {us lab : Nat → Nat} {L : Nat} (hp : p < 8) (hi0 : i0 ≤ 8) (hb : ∀ i, i < 8 → (i0 ≤ i ↔ b ≤ 8 * i)) (hR : q_R S0 K n pg us lab L) : q_Ct l G iX3_releaseFrom [.inr (some (0, 0)), .inr (some (5, p)), .inl (nI i0)] (q_w G n ad) (S0) (q_pv (q_w G n ad) (fun S' => q_rf S0 K n p b i0 pg L 8 S')) := by
  refine q_enter (by decide) (Nat.le_of_ble_eq_true rfl) (fun X F E => ?_)
  show q_W G X iX3_releaseFrom (q_w G n ad) (0, 0) 0 [some (.inr (some (0, 0))), some (.inr (some (5, p))), some (.inl (nI i0)), none] [] (S0)
  refine q_iload_n F dX3_releaseFrom_0 rfl ?_
  refine q_istore_n_3 F dX3_releaseFrom_1 (by decide) ?_
  exact lp_releaseFrom F hp hb E i0 hi0 (Nat.le_refl _) S0 (q_rf_0 hR hb hi0)

def q_cf (S0 : q_st) (K : k_t) (n p b : Nat) (pg : Nat → Option Nat) (us lab : Nat → Nat) (L t : Nat) (S : q_st) : Prop := q_R S (k_fill K 8 (64 * p + b) t (fun _ => 0)) n pg us lab L ∧ q_sm S0 S
theorem q_cf_s {S0 S : q_st} {K : k_t} {n p b : Nat} {pg : Nat → Option Nat} {us lab : Nat → Nat} {L t f : Nat} (hp : p < 8) (hb : b < 64) (ht : t < 8 * (b / 8 + 1) - b) (h : q_cf S0 K n p b pg us lab L t S) (hf : pg (8 * p + b / 8) = some f) (hu : us f = 1) : q_cf S0 K n p b pg us lab L (t + 1) (q_up S (2, 0) (8 * f + (b + t) % 8) (nI 0)) := by
  obtain ⟨hR, hs⟩ := h
  refine ⟨?_, q_sm_tr hs (fun j a b c d => ?_)⟩
  · rw [← k_fill_s K 8 (64 * p + b) t (fun _ => 0) 0 rfl]
    refine q_R_put (v := 0) hR hf hu (k := (b + t) % 8) (by omega) (fun x => ?_) (fun i j hi => ?_) (fun x => ?_) (fun a ha => ?_)
    · simp only [q_up, true_and]
      rfl
    · rw [q_irr _ _ _ _ _ _ (fun q => hi q.1)]
    · simp only [k_u, true_and]
      rw [show 64 * p + b + t = 8 * (8 * p + b / 8) + (b + t) % 8 by omega]
    · exact k_u_k _ _ _ _ ha
  · funext x
    rw [q_irr _ _ _ _ _ _ (by rintro ⟨rfl, -⟩; exact b rfl)]

set_option maxRecDepth 100000 in
set_option maxHeartbeats 4000000 in
theorem lp_clearFrom {G : q_g} {n : Nat} {ad : q_ix → Nat} {X : q_cx} (F : q_fx G X iX3_clearFrom) {S0 : q_st} {K : k_t} {p b f : Nat} {pg : Nat → Option Nat} {us lab : Nat → Nat} {L : Nat} (hp : p < 8) (hb : b < 64) (hf : pg (8 * p + b / 8) = some f) (hu : us f = 1) (E : q_en G X iX3_clearFrom (q_pv (q_w G n ad) (fun S' => q_R S' (k_cl K p b) n pg us lab L ∧ q_sm S0 S'))) : ∀ t, t ≤ 8 * (b / 8 + 1) - b → ∀ S, q_cf S0 K n p b pg us lab L t S → q_W G X iX3_clearFrom (q_w G n ad) (0, 0) 13 [some (.inr (some (0, 0))), some (.inr (some (5, p))), some (.inl (nI b)), some (.inl (nI ((b / 8 + 1) * 8))), some (.inl (nI (b + t)))] [] S := by
  refine q_loop (fun t ht ih => ?_)
  intro S hcf
  refine q_iload F dX3_clearFrom_13 rfl ?_
  refine q_iload_n F dX3_clearFrom_15 rfl ?_
  refine q_icmpN_ge F 33 dX3_clearFrom_16 (by decide) (by omega) (by omega) (fun h16 => ?_) (fun h16 => ?_)
  · obtain rfl : t = 8 * (b / 8 + 1) - b := by omega
    refine q_vret F E rfl (by obtain ⟨h1, h2⟩ := hcf; rw [k_cl_eq] at h1; exact ⟨h1, h2⟩) dX3_clearFrom_33
  · refine q_aload_n F dX3_clearFrom_19 rfl ?_
    refine q_aload_n F dX3_clearFrom_20 rfl ?_
    refine q_iload F dX3_clearFrom_21 rfl ?_
    refine q_iconst F (nI 0) dX3_clearFrom_23 (by decide) ?_
    refine q_callVv F [.inr (some (5, p)), .inl (nI (b + t)), .inl (nI 0)] (fun l => t_putWord l S hp (show b + t < 64 by omega) (hcf.1.2.1.1 _ _ hf).1 hcf.1.1.2 (by rw [show (b + t) / 8 = b / 8 by omega, hcf.1.2.2.1 p (b / 8) hp (by omega), hf]; rfl)) clX3_63 rfl q_m0 rfl rfl rfl ⟨Nat.le_of_ble_eq_true rfl, Nat.le_of_ble_eq_true rfl⟩ (Nat.le_of_ble_eq_true rfl) ⟨rfl, rfl⟩ ⟨Nat.zero_le _, Nat.zero_le _⟩ dX3_clearFrom_24 (fun S' hS => ?_)
    subst hS
    refine q_iinc_4 F _ dX3_clearFrom_27 (q_inc1 _) (by decide) ?_
    exact q_goto F 13 dX3_clearFrom_30 (by decide) (ih (by omega) _ (q_cf_s hp hb (by omega) hcf hf hu))

set_option maxRecDepth 100000 in
set_option maxHeartbeats 4000000 in
theorem t_clearFrom {G : q_g} {n : Nat} {ad : q_ix → Nat} (l : Launch) (S0 : q_st) {K : k_t} {p b f : Nat} {pg : Nat → Option Nat} {us lab : Nat → Nat} {L : Nat} (hp : p < 8) (hb : b < 64) (hf : pg (8 * p + b / 8) = some f) (hu : us f = 1) (hR : q_R S0 K n pg us lab L) : q_Ct l G iX3_clearFrom [.inr (some (0, 0)), .inr (some (5, p)), .inl (nI b)] (q_w G n ad) (S0) (q_pv (q_w G n ad) (fun S' => q_R S' (k_cl K p b) n pg us lab L ∧ q_sm S0 S')) := by
  refine q_enter (by decide) (Nat.le_of_ble_eq_true rfl) (fun X F E => ?_)
  show q_W G X iX3_clearFrom (q_w G n ad) (0, 0) 0 [some (.inr (some (0, 0))), some (.inr (some (5, p))), some (.inl (nI b)), none, none] [] (S0)
  refine q_iload_n F dX3_clearFrom_0 rfl ?_
  refine q_bipush F (nI 8) dX3_clearFrom_1 (by decide) ?_
  refine q_idivN F dX3_clearFrom_3 (by omega) (by omega) (by omega) ?_
  refine q_iconst F (nI 1) dX3_clearFrom_4 (by decide) ?_
  refine q_iaddN F dX3_clearFrom_5 ?_
  refine q_bipush F (nI 8) dX3_clearFrom_6 (by decide) ?_
  refine q_imulN F dX3_clearFrom_8 ?_
  refine q_istore_n_3 F dX3_clearFrom_9 (by decide) ?_
  refine q_iload_n F dX3_clearFrom_10 rfl ?_
  refine q_istore_4 F dX3_clearFrom_11 (by decide) ?_
  exact lp_clearFrom F hp hb hf hu E 0 (Nat.zero_le _) S0 ⟨by rw [k_fill_0]; exact hR, q_sm_rf S0⟩
