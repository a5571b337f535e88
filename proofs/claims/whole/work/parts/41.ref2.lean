/-! the reference: end, choose, getters (rows laid by wip/whole/m41.py) -/
/-- process p's pages below i, from the break b on, are given back -/
def k_rz (K : k_t) (p b i : Nat) : k_t := fun a j => if a = 9 ∧ j / 8 = p ∧ j % 8 < i ∧ b ≤ 8 * (j % 8) then 0 else if a = 8 ∧ j / 64 = p ∧ j % 64 / 8 < i ∧ b ≤ 8 * (j % 64 / 8) then 0 else K a j
theorem k_rz_0 (K : k_t) (p b : Nat) : k_rz K p b 0 = K := by
  funext a j
  unfold k_rz
  rw [if_neg (by omega), if_neg (by omega)]
theorem k_rz_s (K : k_t) (p b i : Nat) (hi : i < 8) (h : b ≤ 8 * i) : k_rl (k_rz K p b i) (8 * p + i) = k_rz K p b (i + 1) := by
  funext a j
  unfold k_rl k_rz
  repeat' split
  all_goals first | rfl | (exfalso; omega)
theorem k_rz_n (K : k_t) (p b i : Nat) (hi : i < 8) (h : 8 * i < b) : k_rz K p b i = k_rz K p b (i + 1) := by
  funext a j
  unfold k_rz
  repeat' split
  all_goals first | rfl | (exfalso; omega)
/-- the children below k of process p lose their parent -/
def k_pz (K : k_t) (p k : Nat) : k_t := fun a j => if a = 3 ∧ j < k ∧ K 3 j = nI p then -1 else K a j
theorem k_pz_0 (K : k_t) (p : Nat) : k_pz K p 0 = K := by
  funext a j
  unfold k_pz
  rw [if_neg (by rintro ⟨-, q, -⟩; omega)]
theorem k_pz_at (K : k_t) (p k : Nat) : k_pz K p k 3 k = K 3 k := by
  unfold k_pz
  rw [if_neg (by rintro ⟨-, q, -⟩; omega)]
theorem k_pz_s (K : k_t) (p k : Nat) (v : Int32) (hv : v = if K 3 k = nI p then -1 else K 3 k) : k_u (k_pz K p k) 3 k v = k_pz K p (k + 1) := by
  funext a j
  unfold k_u k_pz
  by_cases h3 : a = 3
  · subst h3
    by_cases hj : j = k
    · subst hj
      rw [if_pos ⟨rfl, rfl⟩, hv]
      by_cases h : K 3 j = nI p
      · rw [if_pos h, if_pos ⟨rfl, by omega, h⟩]
      · rw [if_neg h, if_neg (fun q => h q.2.2)]
    · rw [if_neg (fun q => hj q.2)]
      by_cases h : j < k ∧ K 3 j = nI p
      · rw [if_pos ⟨rfl, h⟩, if_pos ⟨rfl, by omega, h.2⟩]
      · rw [if_neg (fun q => h q.2), if_neg (fun q => h ⟨by omega, q.2.2⟩)]
  · simp [h3]
theorem k_en0_eq (K : k_t) (p : Nat) (code : Int32) : k_pz (k_rz (k_u (k_u K 2 p (nI 3)) 4 p code) p 0 8) p 8 = k_en0 K p code := by
  have e3 : ∀ j, k_rz (k_u (k_u K 2 p (nI 3)) 4 p code) p 0 8 3 j = K 3 j := by
    intro j
    simp [k_rz, k_u]
  funext a j
  unfold k_pz
  rw [e3]
  unfold k_rz k_en0 k_u
  by_cases h2 : a = 2
  · subst h2
    simp
  · by_cases h4 : a = 4
    · subst h4
      simp
    · by_cases h9 : a = 9
      · subst h9
        by_cases hj : j / 8 = p
        · simp [hj]
          omega
        · simp [hj]
      · by_cases h8 : a = 8
        · subst h8
          by_cases hj : j / 64 = p
          · simp [hj]
            omega
          · simp [hj]
        · by_cases h3 : a = 3
          · subst h3
            simp
          · simp [h2, h4, h9, h8, h3]

theorem k_en0_3 {K : k_t} {p : Nat} {code : Int32} (hp : p < 8) (hpar : ∀ j, j < 8 → K 3 j = -1 ∨ ∃ r, r < 8 ∧ K 3 j = nI r) : k_en0 K p code 3 p = -1 ∨ ∃ r, r < 8 ∧ k_en0 K p code 3 p = nI r := by
  unfold k_en0
  simp
  by_cases h : K 3 p = nI p
  · left
    simp [hp, h]
  · simp [h]
    exact hpar p hp

set_option maxRecDepth 100000 in
set_option maxHeartbeats 4000000 in
theorem lp_end_78 {G : q_g} {n : Nat} {ad : q_ix → Nat} {X : q_cx} (F : q_fx G X iX4_end) {S : q_st} {K : k_t} {p : Nat} {code : Int32} (hp : p < 8) (hpar : ∀ j, j < 8 → K 3 j = -1 ∨ ∃ r, r < 8 ∧ K 3 j = nI r) (E : q_en G X iX4_end (q_pv (q_w G n ad) (fun S' => S' = q_put S (k_en K p code)))) {z : Option q_v} : q_W G X iX4_end (q_w G n ad) (0, 0) 78 [some (.inr (some (20, 0))), some (.inl (nI p)), some (.inl code), z] [] (q_put S (k_en0 K p code)) := by
  refine q_aload_n F dX4_end_78 rfl ?_
  refine q_getr F (k := 4) fkX4_16 q_m20 rfl rfl dX4_end_79 ?_
  refine q_iload_n F dX4_end_82 rfl ?_
  refine q_kald F 3 (_) q_m23 rfl rfl rfl (by omega) (by decide) dX4_end_83 ?_
  refine q_istore_n_3 F dX4_end_84 (by decide) ?_
  refine q_iload_n F dX4_end_85 rfl ?_
  refine q_iconst F (-1) dX4_end_86 (by decide) ?_
  refine q_icmp_eq F 107 dX4_end_87 (by decide) (fun h87 => ?_) (fun h87 => ?_)
  · refine q_vret F E rfl (by unfold k_en; first | (rw [if_pos ⟨h87, by rw [hun]; exact h97⟩, hun]; done) | (rw [if_neg (fun q => q.1 h87)]; done) | (rw [if_neg (fun q => h97 (by have := q.2; rw [hun] at this; exact this))]; done)) dX4_end_107
  · obtain ⟨u, hu8, hu⟩ : ∃ u, u < 8 ∧ k_en0 K p code 3 p = nI u := (k_en0_3 hp hpar).resolve_left h87
    have hun : (k_en0 K p code 3 p).toInt.toNat = u := by rw [hu, nI_toInt (by omega)]; rfl
    refine q_aload_n F dX4_end_90 rfl ?_
    refine q_getr F (k := 3) fkX4_13 q_m20 rfl rfl dX4_end_91 ?_
    refine q_iload_n F dX4_end_94 rfl ?_
    refine q_top (nI u) hu ?_
    refine q_kald F 2 (_) q_m22 rfl rfl rfl (by omega) (by decide) dX4_end_95 ?_
    refine q_iconst F (nI 2) dX4_end_96 (by decide) ?_
    refine q_icmp_ne F 107 dX4_end_97 (by decide) (fun h97 => ?_) (fun h97 => ?_)
    · refine q_vret F E rfl (by unfold k_en; first | (rw [if_pos ⟨h87, by rw [hun]; exact h97⟩, hun]; done) | (rw [if_neg (fun q => q.1 h87)]; done) | (rw [if_neg (fun q => h97 (by have := q.2; rw [hun] at this; exact this))]; done)) dX4_end_107
    · refine q_aload_n F dX4_end_100 rfl ?_
      refine q_getr F (k := 3) fkX4_13 q_m20 rfl rfl dX4_end_101 ?_
      refine q_iload_n F dX4_end_104 rfl ?_
      refine q_iconst F (nI 1) dX4_end_105 (by decide) ?_
      refine q_kast F 2 (u) q_m22 rfl rfl hu hu8 (by decide) dX4_end_106 ?_
      refine q_vret F E rfl (by unfold k_en; first | (rw [if_pos ⟨h87, by rw [hun]; exact h97⟩, hun]; done) | (rw [if_neg (fun q => q.1 h87)]; done) | (rw [if_neg (fun q => h97 (by have := q.2; rw [hun] at this; exact this))]; done)) dX4_end_107

set_option maxRecDepth 100000 in
set_option maxHeartbeats 4000000 in
theorem lp_end_40 {G : q_g} {n : Nat} {ad : q_ix → Nat} {X : q_cx} (F : q_fx G X iX4_end) {S : q_st} {K : k_t} {p : Nat} {code : Int32} (hp : p < 8) (hpar : ∀ j, j < 8 → K 3 j = -1 ∨ ∃ r, r < 8 ∧ K 3 j = nI r) (E : q_en G X iX4_end (q_pv (q_w G n ad) (fun S' => S' = q_put S (k_en K p code)))) : ∀ k, k ≤ 8 → q_W G X iX4_end (q_w G n ad) (0, 0) 40 [some (.inr (some (20, 0))), some (.inl (nI p)), some (.inl code), some (.inl (nI k))] [] (q_put S (k_pz (k_rz (k_u (k_u K 2 p (nI 3)) 4 p code) p 0 8) p k)) := by
  refine q_loop (fun k hk ih => ?_)
  refine q_iload_n F dX4_end_40 rfl ?_
  refine q_bipush F (nI 8) dX4_end_41 (by decide) ?_
  refine q_icmpN_ge F 78 dX4_end_43 (by decide) (by omega) (by omega) (fun h43 => ?_) (fun h43 => ?_)
  · obtain rfl : k = 8 := by omega
    rw [k_en0_eq]
    exact lp_end_78 F hp hpar E
  · refine q_aload_n F dX4_end_46 rfl ?_
    refine q_getr F (k := 4) fkX4_16 q_m20 rfl rfl dX4_end_47 ?_
    refine q_iload_n F dX4_end_50 rfl ?_
    refine q_aload_n F dX4_end_51 rfl ?_
    refine q_getr F (k := 4) fkX4_16 q_m20 rfl rfl dX4_end_52 ?_
    refine q_iload_n F dX4_end_55 rfl ?_
    refine q_kald F 3 (_) q_m23 rfl rfl rfl (by omega) (by decide) dX4_end_56 ?_
    refine q_iload_n F dX4_end_57 rfl ?_
    refine q_icmp_ne F 65 dX4_end_58 (by decide) (fun h58 => ?_) (fun h58 => ?_)
    · rw [k_pz_at] at h58
      refine q_aload_n F dX4_end_65 rfl ?_
      refine q_getr F (k := 4) fkX4_16 q_m20 rfl rfl dX4_end_66 ?_
      refine q_iload_n F dX4_end_69 rfl ?_
      refine q_kald F 3 (_) q_m23 rfl rfl rfl (by omega) (by decide) dX4_end_70 ?_
      refine q_kast F 3 (_) q_m23 rfl rfl rfl (by omega) (by decide) dX4_end_71 ?_
      rw [k_pz_s _ _ _ _ (by first | rw [if_pos h58] | (rw [if_neg h58]; exact k_pz_at _ _ _))]
      refine q_iinc_3 F _ dX4_end_72 (q_inc1 _) (by decide) ?_
      exact q_goto F 40 dX4_end_75 (by decide) (ih h43)
    · rw [k_pz_at] at h58
      refine q_iconst F (-1) dX4_end_61 (by decide) ?_
      refine q_goto F 71 dX4_end_62 (by decide) ?_
      refine q_kast F 3 (_) q_m23 rfl rfl rfl (by omega) (by decide) dX4_end_71 ?_
      rw [k_pz_s _ _ _ _ (by first | rw [if_pos h58] | (rw [if_neg h58]; exact k_pz_at _ _ _))]
      refine q_iinc_3 F _ dX4_end_72 (q_inc1 _) (by decide) ?_
      exact q_goto F 40 dX4_end_75 (by decide) (ih h43)

set_option maxRecDepth 100000 in
set_option maxHeartbeats 4000000 in
theorem lp_end_16 {G : q_g} {n : Nat} {ad : q_ix → Nat} {X : q_cx} (F : q_fx G X iX4_end) {S : q_st} {K : k_t} {p : Nat} {code : Int32} (hp : p < 8) (hpar : ∀ j, j < 8 → K 3 j = -1 ∨ ∃ r, r < 8 ∧ K 3 j = nI r) (E : q_en G X iX4_end (q_pv (q_w G n ad) (fun S' => S' = q_put S (k_en K p code)))) : ∀ k, k ≤ 8 → q_W G X iX4_end (q_w G n ad) (0, 0) 16 [some (.inr (some (20, 0))), some (.inl (nI p)), some (.inl code), some (.inl (nI k))] [] (q_put S (k_rz (k_u (k_u K 2 p (nI 3)) 4 p code) p 0 k)) := by
  refine q_loop (fun k hk ih => ?_)
  refine q_iload_n F dX4_end_16 rfl ?_
  refine q_bipush F (nI 8) dX4_end_17 (by decide) ?_
  refine q_icmpN_ge F 38 dX4_end_19 (by decide) (by omega) (by omega) (fun h19 => ?_) (fun h19 => ?_)
  · obtain rfl : k = 8 := by omega
    refine q_iconst F (nI 0) dX4_end_38 (by decide) ?_
    refine q_istore_n_3 F dX4_end_39 (by decide) ?_
    have h := lp_end_40 F hp hpar E 0 (by decide)
    rw [k_pz_0] at h
    exact h
  · refine q_aload_n F dX4_end_22 rfl ?_
    refine q_bipush F (nI 8) dX4_end_23 (by decide) ?_
    refine q_iload_n F dX4_end_25 rfl ?_
    refine q_imulN F dX4_end_26 ?_
    refine q_iload_n F dX4_end_27 rfl ?_
    refine q_iaddN F dX4_end_28 ?_
    refine q_callVv F [.inl (nI (8 * p + k))] (fun l => t_release l S _ (by omega)) clX4_74 rfl q_m20 rfl rfl rfl ⟨Nat.le_of_ble_eq_true rfl, Nat.le_of_ble_eq_true rfl⟩ (Nat.le_of_ble_eq_true rfl) ⟨rfl, rfl⟩ ⟨Nat.zero_le _, Nat.zero_le _⟩ dX4_end_29 (fun S' hS => ?_)
    subst hS
    rw [k_rz_s _ _ _ _ h19 (Nat.zero_le _)]
    refine q_iinc_3 F _ dX4_end_32 (q_inc1 _) (by decide) ?_
    exact q_goto F 16 dX4_end_35 (by decide) (ih h19)

set_option maxRecDepth 100000 in
set_option maxHeartbeats 4000000 in
theorem t_mend {G : q_g} {n : Nat} {ad : q_ix → Nat} (l : Launch) (S : q_st) (K : k_t) {p : Nat} {code : Int32} (hp : p < 8) (hpar : ∀ j, j < 8 → K 3 j = -1 ∨ ∃ r, r < 8 ∧ K 3 j = nI r) : q_Ct l G iX4_end [.inr (some (20, 0)), .inl (nI p), .inl code] (q_w G n ad) (q_put S K) (q_pv (q_w G n ad) (fun S' => S' = q_put S (k_en K p code))) := by
  refine q_enter (by decide) (Nat.le_of_ble_eq_true rfl) (fun X F E => ?_)
  show q_W G X iX4_end (q_w G n ad) (0, 0) 0 [some (.inr (some (20, 0))), some (.inl (nI p)), some (.inl code), none] [] (q_put S K)
  refine q_aload_n F dX4_end_0 rfl ?_
  refine q_getr F (k := 3) fkX4_13 q_m20 rfl rfl dX4_end_1 ?_
  refine q_iload_n F dX4_end_4 rfl ?_
  refine q_iconst F (nI 3) dX4_end_5 (by decide) ?_
  refine q_kast F 2 (_) q_m22 rfl rfl rfl (by omega) (by decide) dX4_end_6 ?_
  refine q_aload_n F dX4_end_7 rfl ?_
  refine q_getr F (k := 5) fkX4_19 q_m20 rfl rfl dX4_end_8 ?_
  refine q_iload_n F dX4_end_11 rfl ?_
  refine q_iload_n F dX4_end_12 rfl ?_
  refine q_kast F 4 (_) q_m24 rfl rfl rfl (by omega) (by decide) dX4_end_13 ?_
  refine q_iconst F (nI 0) dX4_end_14 (by decide) ?_
  refine q_istore_n_3 F dX4_end_15 (by decide) ?_
  have h := lp_end_16 F hp hpar E 0 (by decide)
  rw [k_rz_0] at h
  exact h

theorem k_ch_on {K : k_t} (h : k_on K) : k_ch K = (true, K) := by
  unfold k_ch
  rw [if_pos h]
theorem k_ch_some {K : k_t} (h : ¬ k_on K) {k : Nat} (hk : f_st (fun k => K 2 ((k_fm K + k) % 8) = nI 1) 8 = some k) : k_ch K = (true, k_u (k_u K 0 12 (nI ((k_fm K + k) % 8))) 0 13 0) := by
  unfold k_ch
  rw [if_neg h, hk]
theorem k_ch_none {K : k_t} (h : ¬ k_on K) (hk : f_st (fun k => K 2 ((k_fm K + k) % 8) = nI 1) 8 = none) : k_ch K = (false, k_u K 0 12 (-1)) := by
  unfold k_ch
  rw [if_neg h, hk]

set_option maxRecDepth 100000 in
set_option maxHeartbeats 4000000 in
theorem lp_choose {G : q_g} {n : Nat} {ad : q_ix → Nat} {X : q_cx} (F : q_fx G X iX4_choose) {S : q_st} {K : k_t} {m : Nat} (hm : k_fm K = m) (hm8 : m ≤ 8) (hno : ¬ k_on K) (E : q_en G X iX4_choose (q_pi (q_w G n ad) (fun r S' => ((r = nI 0 ∧ (k_ch K).1 = false) ∨ (r = nI 1 ∧ (k_ch K).1 = true)) ∧ S' = q_put S (k_ch K).2))) : ∀ k, k ≤ 8 → (∀ i, i < k → ¬ K 2 ((m + i) % 8) = nI 1) → q_W G X iX4_choose (q_w G n ad) (0, 0) 55 [some (.inr (some (20, 0))), some (.inl (nI m)), some (.inl (nI k)), none] [] (q_put S K) := by
  refine q_loop (fun k hk ih => ?_)
  intro hall
  refine q_iload_n F dX4_choose_55 rfl ?_
  refine q_bipush F (nI 8) dX4_choose_56 (by decide) ?_
  refine q_icmpN_ge F 96 dX4_choose_58 (by decide) (by omega) (by omega) (fun h58 => ?_) (fun h58 => ?_)
  · obtain rfl : k = 8 := by omega
    refine q_aload_n F dX4_choose_96 rfl ?_
    refine q_iconst F (-1) dX4_choose_97 (by decide) ?_
    refine q_kputi F (k := 12) fkX4_37 fp4_12 rfl dX4_choose_98 ?_
    refine q_iconst F (nI 0) dX4_choose_101 (by decide) ?_
    refine q_zret F E rfl (by decide) (by rw [k_ch_none hno (f_st_none (by rw [hm]; exact hall))]; exact ⟨Or.inl ⟨rfl, rfl⟩, rfl⟩) dX4_choose_102
  · refine q_iload_n F dX4_choose_61 rfl ?_
    refine q_iload_n F dX4_choose_62 rfl ?_
    refine q_iaddN F dX4_choose_63 ?_
    refine q_bipush F (nI 8) dX4_choose_64 (by decide) ?_
    refine q_iremN F dX4_choose_66 (by omega) (by omega) (by omega) ?_
    refine q_istore_n_3 F dX4_choose_67 (by decide) ?_
    refine q_aload_n F dX4_choose_68 rfl ?_
    refine q_getr F (k := 3) fkX4_13 q_m20 rfl rfl dX4_choose_69 ?_
    refine q_iload_n F dX4_choose_72 rfl ?_
    refine q_kald F 2 (_) q_m22 rfl rfl rfl (by omega) (by decide) dX4_choose_73 ?_
    refine q_iconst F (nI 1) dX4_choose_74 (by decide) ?_
    refine q_icmp_ne F 90 dX4_choose_75 (by decide) (fun h75 => ?_) (fun h75 => ?_)
    · refine q_iinc_2 F _ dX4_choose_90 (q_inc1 _) (by decide) ?_
      exact q_goto F 55 dX4_choose_93 (by decide) (q_drop_3 (ih h58 (lt_s hall h75)))
    · refine q_aload_n F dX4_choose_78 rfl ?_
      refine q_iload_n F dX4_choose_79 rfl ?_
      refine q_kputi F (k := 12) fkX4_37 fp4_12 rfl dX4_choose_80 ?_
      refine q_aload_n F dX4_choose_83 rfl ?_
      refine q_iconst F (nI 0) dX4_choose_84 (by decide) ?_
      refine q_kputi F (k := 13) fkX4_88 fp4_13 rfl dX4_choose_85 ?_
      refine q_iconst F (nI 1) dX4_choose_88 (by decide) ?_
      refine q_zret F E rfl (by decide) (by rw [k_ch_some hno (f_st_some (k := k) (by rw [hm]; exact h75) (by rw [hm]; exact hall) h58), hm]; exact ⟨Or.inr ⟨rfl, rfl⟩, rfl⟩) dX4_choose_89

set_option maxRecDepth 100000 in
set_option maxHeartbeats 4000000 in
theorem t_choose {G : q_g} {n : Nat} {ad : q_ix → Nat} (l : Launch) (S : q_st) (K : k_t) (hc : K 0 12 = -1 ∨ ∃ c, c < 8 ∧ K 0 12 = nI c) : q_Ct l G iX4_choose [.inr (some (20, 0))] (q_w G n ad) (q_put S K) (q_pi (q_w G n ad) (fun r S' => ((r = nI 0 ∧ (k_ch K).1 = false) ∨ (r = nI 1 ∧ (k_ch K).1 = true)) ∧ S' = q_put S (k_ch K).2)) := by
  refine q_enter (by decide) (Nat.le_of_ble_eq_true rfl) (fun X F E => ?_)
  show q_W G X iX4_choose (q_w G n ad) (0, 0) 0 [some (.inr (some (20, 0))), none, none, none] [] (q_put S K)
  refine q_aload_n F dX4_choose_0 rfl ?_
  refine q_kgeti F (k := 12) fkX4_37 rfl dX4_choose_1 ?_
  refine q_iconst F (-1) dX4_choose_4 (by decide) ?_
  refine q_icmp_eq F 34 dX4_choose_5 (by decide) (fun h5 => ?_) (fun h5 => ?_)
  · have hno : ¬ k_on K := fun q => q.1 h5
    have hm : k_fm K = 0 := by unfold k_fm; rw [if_pos h5]
    refine q_aload_n F dX4_choose_34 rfl ?_
    refine q_kgeti F (k := 12) fkX4_37 rfl dX4_choose_35 ?_
    refine q_iconst F (-1) dX4_choose_38 (by decide) ?_
    refine q_icmp_ne F 46 dX4_choose_39 (by decide) (fun h39 => ?_) (fun h39 => ?_)
    · have h39 := h39
      obtain ⟨c, hc8, hc⟩ : ∃ c, c < 8 ∧ K 0 12 = nI c := (show K 0 12 = -1 ∨ ∃ c, c < 8 ∧ K 0 12 = nI c from by first | exact hc | exact Or.inr ⟨_, hc8, hc⟩).resolve_left h39
      have hcn : (K 0 12).toInt.toNat = c := by rw [hc, nI_toInt (by omega)]; rfl
      have hm : k_fm K = c + 1 := by unfold k_fm; rw [if_neg h39, hcn]
      refine q_aload_n F dX4_choose_46 rfl ?_
      refine q_kgeti F (k := 12) fkX4_37 rfl dX4_choose_47 ?_
      refine q_top (nI c) hc ?_
      refine q_iconst F (nI 1) dX4_choose_50 (by decide) ?_
      refine q_iaddN F dX4_choose_51 ?_
      refine q_istore_n_1 F dX4_choose_52 (by decide) ?_
      refine q_iconst F (nI 0) dX4_choose_53 (by decide) ?_
      refine q_istore_n_2 F dX4_choose_54 (by decide) ?_
      exact lp_choose F hm (by omega) hno E 0 (by decide) (fun i hi => absurd hi (Nat.not_lt_zero i))
    · have hm : k_fm K = 0 := by unfold k_fm; rw [if_pos h39]
      refine q_iconst F (nI 0) dX4_choose_42 (by decide) ?_
      refine q_goto F 52 dX4_choose_43 (by decide) ?_
      refine q_istore_n_1 F dX4_choose_52 (by decide) ?_
      refine q_iconst F (nI 0) dX4_choose_53 (by decide) ?_
      refine q_istore_n_2 F dX4_choose_54 (by decide) ?_
      exact lp_choose F hm (by omega) hno E 0 (by decide) (fun i hi => absurd hi (Nat.not_lt_zero i))
  · obtain ⟨c, hc8, hc⟩ : ∃ c, c < 8 ∧ K 0 12 = nI c := hc.resolve_left h5
    have hcn : (K 0 12).toInt.toNat = c := by rw [hc, nI_toInt (by omega)]; rfl
    have hm : k_fm K = c + 1 := by unfold k_fm; rw [if_neg h5, hcn]
    refine q_aload_n F dX4_choose_8 rfl ?_
    refine q_getr F (k := 3) fkX4_13 q_m20 rfl rfl dX4_choose_9 ?_
    refine q_aload_n F dX4_choose_12 rfl ?_
    refine q_kgeti F (k := 12) fkX4_37 rfl dX4_choose_13 ?_
    refine q_top (nI c) hc ?_
    refine q_kald F 2 (_) q_m22 rfl rfl rfl (by omega) (by decide) dX4_choose_16 ?_
    refine q_iconst F (nI 1) dX4_choose_17 (by decide) ?_
    refine q_icmp_ne F 34 dX4_choose_18 (by decide) (fun h18 => ?_) (fun h18 => ?_)
    · have hno : ¬ k_on K := fun q => h18 (by have := q.2.1; rw [hcn] at this; exact this)
      refine q_aload_n F dX4_choose_34 rfl ?_
      refine q_kgeti F (k := 12) fkX4_37 rfl dX4_choose_35 ?_
      refine q_iconst F (-1) dX4_choose_38 (by decide) ?_
      refine q_icmp_ne F 46 dX4_choose_39 (by decide) (fun h39 => ?_) (fun h39 => ?_)
      · have h39 := h39
        obtain ⟨c, hc8, hc⟩ : ∃ c, c < 8 ∧ K 0 12 = nI c := (show K 0 12 = -1 ∨ ∃ c, c < 8 ∧ K 0 12 = nI c from by first | exact hc | exact Or.inr ⟨_, hc8, hc⟩).resolve_left h39
        have hcn : (K 0 12).toInt.toNat = c := by rw [hc, nI_toInt (by omega)]; rfl
        have hm : k_fm K = c + 1 := by unfold k_fm; rw [if_neg h39, hcn]
        refine q_aload_n F dX4_choose_46 rfl ?_
        refine q_kgeti F (k := 12) fkX4_37 rfl dX4_choose_47 ?_
        refine q_top (nI c) hc ?_
        refine q_iconst F (nI 1) dX4_choose_50 (by decide) ?_
        refine q_iaddN F dX4_choose_51 ?_
        refine q_istore_n_1 F dX4_choose_52 (by decide) ?_
        refine q_iconst F (nI 0) dX4_choose_53 (by decide) ?_
        refine q_istore_n_2 F dX4_choose_54 (by decide) ?_
        exact lp_choose F hm (by omega) hno E 0 (by decide) (fun i hi => absurd hi (Nat.not_lt_zero i))
      · have hm : k_fm K = 0 := by unfold k_fm; rw [if_pos h39]
        refine q_iconst F (nI 0) dX4_choose_42 (by decide) ?_
        refine q_goto F 52 dX4_choose_43 (by decide) ?_
        refine q_istore_n_1 F dX4_choose_52 (by decide) ?_
        refine q_iconst F (nI 0) dX4_choose_53 (by decide) ?_
        refine q_istore_n_2 F dX4_choose_54 (by decide) ?_
        exact lp_choose F hm (by omega) hno E 0 (by decide) (fun i hi => absurd hi (Nat.not_lt_zero i))
    · refine q_aload_n F dX4_choose_21 rfl ?_
      refine q_kgeti F (k := 13) fkX4_88 rfl dX4_choose_22 ?_
      refine q_aload_n F dX4_choose_25 rfl ?_
      refine q_kgeti F (k := 1) fkX4_47 rfl dX4_choose_26 ?_
      refine q_icmp_ge F 34 dX4_choose_29 (by decide) (fun h29 => ?_) (fun h29 => ?_)
      · have hno : ¬ k_on K := fun q => by have := q.2.2; omega
        refine q_aload_n F dX4_choose_34 rfl ?_
        refine q_kgeti F (k := 12) fkX4_37 rfl dX4_choose_35 ?_
        refine q_iconst F (-1) dX4_choose_38 (by decide) ?_
        refine q_icmp_ne F 46 dX4_choose_39 (by decide) (fun h39 => ?_) (fun h39 => ?_)
        · have h39 := h39
          obtain ⟨c, hc8, hc⟩ : ∃ c, c < 8 ∧ K 0 12 = nI c := (show K 0 12 = -1 ∨ ∃ c, c < 8 ∧ K 0 12 = nI c from by first | exact hc | exact Or.inr ⟨_, hc8, hc⟩).resolve_left h39
          have hcn : (K 0 12).toInt.toNat = c := by rw [hc, nI_toInt (by omega)]; rfl
          have hm : k_fm K = c + 1 := by unfold k_fm; rw [if_neg h39, hcn]
          refine q_aload_n F dX4_choose_46 rfl ?_
          refine q_kgeti F (k := 12) fkX4_37 rfl dX4_choose_47 ?_
          refine q_top (nI c) hc ?_
          refine q_iconst F (nI 1) dX4_choose_50 (by decide) ?_
          refine q_iaddN F dX4_choose_51 ?_
          refine q_istore_n_1 F dX4_choose_52 (by decide) ?_
          refine q_iconst F (nI 0) dX4_choose_53 (by decide) ?_
          refine q_istore_n_2 F dX4_choose_54 (by decide) ?_
          exact lp_choose F hm (by omega) hno E 0 (by decide) (fun i hi => absurd hi (Nat.not_lt_zero i))
        · have hm : k_fm K = 0 := by unfold k_fm; rw [if_pos h39]
          refine q_iconst F (nI 0) dX4_choose_42 (by decide) ?_
          refine q_goto F 52 dX4_choose_43 (by decide) ?_
          refine q_istore_n_1 F dX4_choose_52 (by decide) ?_
          refine q_iconst F (nI 0) dX4_choose_53 (by decide) ?_
          refine q_istore_n_2 F dX4_choose_54 (by decide) ?_
          exact lp_choose F hm (by omega) hno E 0 (by decide) (fun i hi => absurd hi (Nat.not_lt_zero i))
      · refine q_iconst F (nI 1) dX4_choose_32 (by decide) ?_
        refine q_zret F E rfl (by decide) (by rw [k_ch_on ⟨h5, by rw [hcn]; exact h18, h29⟩]; exact ⟨Or.inr ⟨rfl, rfl⟩, rfl⟩) dX4_choose_33

set_option maxRecDepth 100000 in
set_option maxHeartbeats 4000000 in
theorem t_mregister {G : q_g} {n : Nat} {ad : q_ix → Nat} (l : Launch) (S : q_st) (K : k_t) {x y : Int32} : q_Ct l G iX4_register [.inr (some (20, 0)), .inl x, .inl y] (q_w G n ad) (q_put S K) (q_pi (q_w G n ad) (fun r S' => r = (match q_lvf (K 2) x with | some p => if 0 ≤ y.toInt ∧ y.toInt < 10 then (if y.toInt = 8 then K 6 p else if y.toInt = 9 then K 7 p else K 5 (8 * p + y.toInt.toNat)) else 0 | none => 0) ∧ S' = q_put S K)) := by
  refine q_enter (by decide) (Nat.le_of_ble_eq_true rfl) (fun X F E => ?_)
  show q_W G X iX4_register (q_w G n ad) (0, 0) 0 [some (.inr (some (20, 0))), some (.inl x), some (.inl y)] [] (q_put S K)
  refine q_aload_n F dX4_register_0 rfl ?_
  refine q_iload_n F dX4_register_1 rfl ?_
  refine q_callVi F [.inl x] (fun l => t_lives l S K) clX4_78 rfl q_m20 rfl rfl rfl ⟨Nat.le_of_ble_eq_true rfl, Nat.le_of_ble_eq_true rfl⟩ (Nat.le_of_ble_eq_true rfl) ⟨rfl, rfl⟩ ⟨Nat.zero_le _, Nat.zero_le _⟩ dX4_register_2 (fun v S' hv => ?_)
  obtain ⟨hv, hS⟩ := hv
  subst hS
  rcases hv with ⟨p, hp, rfl, hx, rfl⟩ | ⟨hx, rfl⟩
  · refine q_ifN_eq F 18 dX4_register_5 (by decide) (by omega) (fun h5 => ?_) (fun h5 => ?_)
    · exact absurd h5 (by decide)
    · refine q_iload_n F dX4_register_8 rfl ?_
      refine q_if_lt F 18 dX4_register_9 (by decide) (fun h9 => ?_) (fun h9 => ?_)
      · refine q_iconst F (nI 0) dX4_register_18 (by decide) ?_
        refine q_iret F E rfl ⟨by rw [hx]; simp only []; rw [if_neg (by omega)]; rfl, rfl⟩ dX4_register_19
      · refine q_iload_n F dX4_register_12 rfl ?_
        refine q_bipush F (nI 9) dX4_register_13 (by decide) ?_
        refine q_icmp_le F 20 dX4_register_15 (by decide) (fun h15 => ?_) (fun h15 => ?_)
        · rw [nI_toInt (by omega)] at h15
          obtain ⟨b, hb, rfl⟩ := q_ofx (x := y) (m := 10) (by decide) h9 (by omega)
          rw [nI_toInt (by omega)] at h9 h15
          refine q_iload_n F dX4_register_20 rfl ?_
          refine q_bipush F (nI 8) dX4_register_21 (by decide) ?_
          refine q_icmpN_ne F 35 dX4_register_23 (by decide) (by omega) (by omega) (fun h23 => ?_) (fun h23 => ?_)
          · refine q_iload_n F dX4_register_35 rfl ?_
            refine q_bipush F (nI 9) dX4_register_36 (by decide) ?_
            refine q_icmpN_ne F 50 dX4_register_38 (by decide) (by omega) (by omega) (fun h38 => ?_) (fun h38 => ?_)
            · refine q_aload_n F dX4_register_50 rfl ?_
              refine q_getr F (k := 6) fkX4_22 q_m20 rfl rfl dX4_register_51 ?_
              refine q_bipush F (nI 8) dX4_register_54 (by decide) ?_
              refine q_iload_n F dX4_register_56 rfl ?_
              refine q_imulN F dX4_register_57 ?_
              refine q_iload_n F dX4_register_58 rfl ?_
              refine q_iaddN F dX4_register_59 ?_
              refine q_kald F 5 (_) q_m25 rfl rfl rfl (by omega) (by decide) dX4_register_60 ?_
              refine q_iret F E rfl ⟨by rw [hx, nI_toInt (by omega)]; simp only [Int.toNat_natCast]; rw [if_pos ⟨by omega, by omega⟩]; first | (rw [if_pos (by omega)]; done) | (rw [if_neg (by omega), if_pos (by omega)]; done) | (rw [if_neg (by omega), if_neg (by omega)]; done), rfl⟩ dX4_register_61
            · refine q_aload_n F dX4_register_41 rfl ?_
              refine q_getr F (k := 8) fkX4_28 q_m20 rfl rfl dX4_register_42 ?_
              refine q_iload_n F dX4_register_45 rfl ?_
              refine q_kald F 7 (_) q_m27 rfl rfl rfl (by omega) (by decide) dX4_register_46 ?_
              refine q_goto F 61 dX4_register_47 (by decide) ?_
              refine q_iret F E rfl ⟨by rw [hx, nI_toInt (by omega)]; simp only [Int.toNat_natCast]; rw [if_pos ⟨by omega, by omega⟩]; first | (rw [if_pos (by omega)]; done) | (rw [if_neg (by omega), if_pos (by omega)]; done) | (rw [if_neg (by omega), if_neg (by omega)]; done), rfl⟩ dX4_register_61
          · refine q_aload_n F dX4_register_26 rfl ?_
            refine q_getr F (k := 7) fkX4_25 q_m20 rfl rfl dX4_register_27 ?_
            refine q_iload_n F dX4_register_30 rfl ?_
            refine q_kald F 6 (_) q_m26 rfl rfl rfl (by omega) (by decide) dX4_register_31 ?_
            refine q_goto F 61 dX4_register_32 (by decide) ?_
            refine q_iret F E rfl ⟨by rw [hx, nI_toInt (by omega)]; simp only [Int.toNat_natCast]; rw [if_pos ⟨by omega, by omega⟩]; first | (rw [if_pos (by omega)]; done) | (rw [if_neg (by omega), if_pos (by omega)]; done) | (rw [if_neg (by omega), if_neg (by omega)]; done), rfl⟩ dX4_register_61
        · rw [nI_toInt (by omega)] at h15
          refine q_iconst F (nI 0) dX4_register_18 (by decide) ?_
          refine q_iret F E rfl ⟨by rw [hx]; simp only []; rw [if_neg (by omega)]; rfl, rfl⟩ dX4_register_19
  · refine q_ifN_eq F 18 dX4_register_5 (by decide) (by omega) (fun h5 => ?_) (fun h5 => ?_)
    · refine q_iconst F (nI 0) dX4_register_18 (by decide) ?_
      refine q_iret F E rfl ⟨by rw [hx]; rfl, rfl⟩ dX4_register_19
    · exact absurd h5 (by decide)

set_option maxRecDepth 100000 in
set_option maxHeartbeats 4000000 in
theorem t_mpeek {G : q_g} {n : Nat} {ad : q_ix → Nat} (l : Launch) (S : q_st) (K : k_t) {x y : Int32} (hb : ∀ p, p < 8 → (K 7 p).toInt ≤ 64) : q_Ct l G iX4_peek [.inr (some (20, 0)), .inl x, .inl y] (q_w G n ad) (q_put S K) (q_pi (q_w G n ad) (fun r S' => r = (match q_lvf (K 2) x with | some p => if 0 ≤ y.toInt ∧ y.toInt < (K 7 p).toInt then K 8 (64 * p + y.toInt.toNat) else 0 | none => 0) ∧ S' = q_put S K)) := by
  refine q_enter (by decide) (Nat.le_of_ble_eq_true rfl) (fun X F E => ?_)
  show q_W G X iX4_peek (q_w G n ad) (0, 0) 0 [some (.inr (some (20, 0))), some (.inl x), some (.inl y)] [] (q_put S K)
  refine q_aload_n F dX4_peek_0 rfl ?_
  refine q_iload_n F dX4_peek_1 rfl ?_
  refine q_callVi F [.inl x] (fun l => t_lives l S K) clX4_78 rfl q_m20 rfl rfl rfl ⟨Nat.le_of_ble_eq_true rfl, Nat.le_of_ble_eq_true rfl⟩ (Nat.le_of_ble_eq_true rfl) ⟨rfl, rfl⟩ ⟨Nat.zero_le _, Nat.zero_le _⟩ dX4_peek_2 (fun v S' hv => ?_)
  obtain ⟨hv, hS⟩ := hv
  subst hS
  rcases hv with ⟨p, hp, rfl, hx, rfl⟩ | ⟨hx, rfl⟩
  · refine q_ifN_eq F 36 dX4_peek_5 (by decide) (by omega) (fun h5 => ?_) (fun h5 => ?_)
    · exact absurd h5 (by decide)
    · have hbp := hb p hp
      refine q_iload_n F dX4_peek_8 rfl ?_
      refine q_if_lt F 36 dX4_peek_9 (by decide) (fun h9 => ?_) (fun h9 => ?_)
      · refine q_iconst F (nI 0) dX4_peek_36 (by decide) ?_
        refine q_iret F E rfl ⟨by first | (rw [hx, nI_toInt (by omega)]; simp only [Int.toNat_natCast]; rw [if_pos ⟨by omega, by omega⟩]; done) | (rw [hx]; simp only []; rw [if_neg (by omega)]; rfl), rfl⟩ dX4_peek_37
      · refine q_iload_n F dX4_peek_12 rfl ?_
        refine q_aload_n F dX4_peek_13 rfl ?_
        refine q_getr F (k := 8) fkX4_28 q_m20 rfl rfl dX4_peek_14 ?_
        refine q_iload_n F dX4_peek_17 rfl ?_
        refine q_kald F 7 (_) q_m27 rfl rfl rfl (by omega) (by decide) dX4_peek_18 ?_
        refine q_icmp_ge F 36 dX4_peek_19 (by decide) (fun h19 => ?_) (fun h19 => ?_)
        · refine q_iconst F (nI 0) dX4_peek_36 (by decide) ?_
          refine q_iret F E rfl ⟨by first | (rw [hx, nI_toInt (by omega)]; simp only [Int.toNat_natCast]; rw [if_pos ⟨by omega, by omega⟩]; done) | (rw [hx]; simp only []; rw [if_neg (by omega)]; rfl), rfl⟩ dX4_peek_37
        · obtain ⟨b, hb64, rfl⟩ := q_ofx (x := y) (m := 64) (by decide) h9 (by omega)
          rw [nI_toInt (by omega)] at h9 h19
          refine q_aload_n F dX4_peek_22 rfl ?_
          refine q_getr F (k := 9) fkX4_31 q_m20 rfl rfl dX4_peek_23 ?_
          refine q_bipush F (nI 64) dX4_peek_26 (by decide) ?_
          refine q_iload_n F dX4_peek_28 rfl ?_
          refine q_imulN F dX4_peek_29 ?_
          refine q_iload_n F dX4_peek_30 rfl ?_
          refine q_iaddN F dX4_peek_31 ?_
          refine q_kald F 8 (_) q_m28 rfl rfl rfl (by omega) (by decide) dX4_peek_32 ?_
          refine q_goto F 37 dX4_peek_33 (by decide) ?_
          refine q_iret F E rfl ⟨by first | (rw [hx, nI_toInt (by omega)]; simp only [Int.toNat_natCast]; rw [if_pos ⟨by omega, by omega⟩]; done) | (rw [hx]; simp only []; rw [if_neg (by omega)]; rfl), rfl⟩ dX4_peek_37
  · refine q_ifN_eq F 36 dX4_peek_5 (by decide) (by omega) (fun h5 => ?_) (fun h5 => ?_)
    · refine q_iconst F (nI 0) dX4_peek_36 (by decide) ?_
      refine q_iret F E rfl ⟨by rw [hx]; rfl, rfl⟩ dX4_peek_37
    · exact absurd h5 (by decide)

set_option maxRecDepth 100000 in
set_option maxHeartbeats 4000000 in
theorem t_msharing {G : q_g} {n : Nat} {ad : q_ix → Nat} (l : Launch) (S : q_st) (K : k_t) {x y : Int32} : q_Ct l G iX4_sharing [.inr (some (20, 0)), .inl x, .inl y] (q_w G n ad) (q_put S K) (q_pi (q_w G n ad) (fun r S' => r = (match q_lvf (K 2) x with | some p => if 0 ≤ y.toInt ∧ y.toInt < 8 then nI (k_sh K (8 * p + y.toInt.toNat)) else 0 | none => 0) ∧ S' = q_put S K)) := by
  refine q_enter (by decide) (Nat.le_of_ble_eq_true rfl) (fun X F E => ?_)
  show q_W G X iX4_sharing (q_w G n ad) (0, 0) 0 [some (.inr (some (20, 0))), some (.inl x), some (.inl y)] [] (q_put S K)
  refine q_aload_n F dX4_sharing_0 rfl ?_
  refine q_iload_n F dX4_sharing_1 rfl ?_
  refine q_callVi F [.inl x] (fun l => t_lives l S K) clX4_78 rfl q_m20 rfl rfl rfl ⟨Nat.le_of_ble_eq_true rfl, Nat.le_of_ble_eq_true rfl⟩ (Nat.le_of_ble_eq_true rfl) ⟨rfl, rfl⟩ ⟨Nat.zero_le _, Nat.zero_le _⟩ dX4_sharing_2 (fun v S' hv => ?_)
  obtain ⟨hv, hS⟩ := hv
  subst hS
  rcases hv with ⟨p, hp, rfl, hx, rfl⟩ | ⟨hx, rfl⟩
  · refine q_ifN_eq F 31 dX4_sharing_5 (by decide) (by omega) (fun h5 => ?_) (fun h5 => ?_)
    · exact absurd h5 (by decide)
    · refine q_iload_n F dX4_sharing_8 rfl ?_
      refine q_if_lt F 31 dX4_sharing_9 (by decide) (fun h9 => ?_) (fun h9 => ?_)
      · refine q_iconst F (nI 0) dX4_sharing_31 (by decide) ?_
        refine q_iret F E rfl ⟨by first | (rw [hx, nI_toInt (by omega)]; simp only [Int.toNat_natCast]; rw [if_pos ⟨by omega, by omega⟩]; done) | (rw [hx]; simp only []; rw [if_neg (by omega)]; rfl), rfl⟩ dX4_sharing_32
      · refine q_iload_n F dX4_sharing_12 rfl ?_
        refine q_bipush F (nI 8) dX4_sharing_13 (by decide) ?_
        refine q_icmp_ge F 31 dX4_sharing_15 (by decide) (fun h15 => ?_) (fun h15 => ?_)
        · rw [nI_toInt (by omega)] at h15
          refine q_iconst F (nI 0) dX4_sharing_31 (by decide) ?_
          refine q_iret F E rfl ⟨by first | (rw [hx, nI_toInt (by omega)]; simp only [Int.toNat_natCast]; rw [if_pos ⟨by omega, by omega⟩]; done) | (rw [hx]; simp only []; rw [if_neg (by omega)]; rfl), rfl⟩ dX4_sharing_32
        · rw [nI_toInt (by omega)] at h15
          obtain ⟨b, hb8, rfl⟩ := q_ofx (x := y) (m := 8) (by decide) h9 (by omega)
          rw [nI_toInt (by omega)] at h9 h15
          refine q_aload_n F dX4_sharing_18 rfl ?_
          refine q_bipush F (nI 8) dX4_sharing_19 (by decide) ?_
          refine q_iload_n F dX4_sharing_21 rfl ?_
          refine q_imulN F dX4_sharing_22 ?_
          refine q_iload_n F dX4_sharing_23 rfl ?_
          refine q_iaddN F dX4_sharing_24 ?_
          refine q_callVi F [.inl (nI (8 * p + b))] (fun l => t_sharers l S K (by omega)) clX4_60 rfl q_m20 rfl rfl rfl ⟨Nat.le_of_ble_eq_true rfl, Nat.le_of_ble_eq_true rfl⟩ (Nat.le_of_ble_eq_true rfl) ⟨rfl, rfl⟩ ⟨Nat.zero_le _, Nat.zero_le _⟩ dX4_sharing_25 (fun v S' hv => ?_)
          obtain ⟨hv, hS⟩ := hv
          subst hS
          subst hv
          refine q_goto F 32 dX4_sharing_28 (by decide) ?_
          refine q_iret F E rfl ⟨by first | (rw [hx, nI_toInt (by omega)]; simp only [Int.toNat_natCast]; rw [if_pos ⟨by omega, by omega⟩]; done) | (rw [hx]; simp only []; rw [if_neg (by omega)]; rfl), rfl⟩ dX4_sharing_32
  · refine q_ifN_eq F 31 dX4_sharing_5 (by decide) (by omega) (fun h5 => ?_) (fun h5 => ?_)
    · refine q_iconst F (nI 0) dX4_sharing_31 (by decide) ?_
      refine q_iret F E rfl ⟨by rw [hx]; rfl, rfl⟩ dX4_sharing_32
    · exact absurd h5 (by decide)

set_option maxRecDepth 100000 in
set_option maxHeartbeats 4000000 in
theorem t_mkill {G : q_g} {n : Nat} {ad : q_ix → Nat} (l : Launch) (S : q_st) (K : k_t) {x : Int32} (hpar : ∀ j, j < 8 → K 3 j = -1 ∨ ∃ r, r < 8 ∧ K 3 j = nI r) : q_Ct l G iX4_kill [.inr (some (20, 0)), .inl x] (q_w G n ad) (q_put S K) (q_pi (q_w G n ad) (fun r S' => (∃ p, p < 8 ∧ x = nI p ∧ q_lvf (K 2) x = some p ∧ r = nI 1 ∧ S' = q_put S (k_en K p (-14))) ∨ (q_lvf (K 2) x = none ∧ r = nI 0 ∧ S' = q_put S K))) := by
  refine q_enter (by decide) (Nat.le_of_ble_eq_true rfl) (fun X F E => ?_)
  show q_W G X iX4_kill (q_w G n ad) (0, 0) 0 [some (.inr (some (20, 0))), some (.inl x)] [] (q_put S K)
  refine q_aload_n F dX4_kill_0 rfl ?_
  refine q_iload_n F dX4_kill_1 rfl ?_
  refine q_callVi F [.inl x] (fun l => t_lives l S K) clX4_78 rfl q_m20 rfl rfl rfl ⟨Nat.le_of_ble_eq_true rfl, Nat.le_of_ble_eq_true rfl⟩ (Nat.le_of_ble_eq_true rfl) ⟨rfl, rfl⟩ ⟨Nat.zero_le _, Nat.zero_le _⟩ dX4_kill_2 (fun v S' hv => ?_)
  obtain ⟨hv, hS⟩ := hv
  subst hS
  rcases hv with ⟨p, hp, rfl, hx, rfl⟩ | ⟨hx, rfl⟩
  · refine q_ifN_ne F 10 dX4_kill_5 (by decide) (by omega) (fun h5 => ?_) (fun h5 => ?_)
    · refine q_aload_n F dX4_kill_10 rfl ?_
      refine q_iload_n F dX4_kill_11 rfl ?_
      refine q_bipush F (-14) dX4_kill_12 (by decide) ?_
      refine q_callVv F [.inl (nI p), .inl (-14)] (fun l => t_mend l S K hp hpar) clX4_81 rfl q_m20 rfl rfl rfl ⟨Nat.le_of_ble_eq_true rfl, Nat.le_of_ble_eq_true rfl⟩ (Nat.le_of_ble_eq_true rfl) ⟨rfl, rfl⟩ ⟨Nat.zero_le _, Nat.zero_le _⟩ dX4_kill_14 (fun S' hS => ?_)
      subst hS
      refine q_iconst F (nI 1) dX4_kill_17 (by decide) ?_
      refine q_zret F E rfl (by decide) (Or.inl ⟨p, hp, rfl, hx, rfl, rfl⟩) dX4_kill_18
    · exact absurd h5 (by decide)
  · refine q_ifN_ne F 10 dX4_kill_5 (by decide) (by omega) (fun h5 => ?_) (fun h5 => ?_)
    · exact absurd h5 (by decide)
    · refine q_iconst F (nI 0) dX4_kill_8 (by decide) ?_
      refine q_zret F E rfl (by decide) (Or.inr ⟨hx, rfl, rfl⟩) dX4_kill_9

set_option maxRecDepth 100000 in
set_option maxHeartbeats 4000000 in
theorem t_mreap {G : q_g} {n : Nat} {ad : q_ix → Nat} (l : Launch) (S : q_st) (K : k_t) {x : Int32} : q_Ct l G iX4_reap [.inr (some (20, 0)), .inl x] (q_w G n ad) (q_put S K) (q_pi (q_w G n ad) (fun r S' => (∃ p, p < 8 ∧ x = nI p ∧ K 2 p = nI 3 ∧ K 3 p = -1 ∧ r = K 4 p ∧ S' = q_put S (k_free K p)) ∨ ((∀ p, p < 8 → x = nI p → ¬ (K 2 p = nI 3 ∧ K 3 p = -1)) ∧ r = -1 ∧ S' = q_put S K))) := by
  refine q_enter (by decide) (Nat.le_of_ble_eq_true rfl) (fun X F E => ?_)
  show q_W G X iX4_reap (q_w G n ad) (0, 0) 0 [some (.inr (some (20, 0))), some (.inl x)] [] (q_put S K)
  refine q_iload_n F dX4_reap_0 rfl ?_
  refine q_callSi F [.inl x] (fun l => t_isProcess l S K) clX4_68 rfl rfl ⟨Nat.le_of_ble_eq_true rfl, Nat.le_of_ble_eq_true rfl⟩ (Nat.le_of_ble_eq_true rfl) ⟨rfl, rfl⟩ ⟨Nat.zero_le _, Nat.zero_le _⟩ dX4_reap_1 (fun v S' hv => ?_)
  obtain ⟨hv, hS⟩ := hv
  subst hS
  refine q_if_eq F 27 dX4_reap_4 (by decide) (fun h4 => ?_) (fun h4 => ?_)
  · have hx := q_on_none (q_bl_F hv h4)
    refine q_iconst F (-1) dX4_reap_27 (by decide) ?_
    refine q_iret F E rfl (Or.inr ⟨by first | (intro q hq he; subst he; rw [q_on_some hq] at hx; cases hx; done) | (intro q hq he hh; rw [nI_eq (by omega) (by omega)] at he; subst he; first | exact h14 hh.1 | exact h24 hh.2), rfl, rfl⟩) dX4_reap_28
  · obtain ⟨p, hp, rfl⟩ := q_ofx (m := 8) (by decide) (q_bl_T hv h4).1 (q_bl_T hv h4).2
    have hx := q_on_some hp
    refine q_aload_n F dX4_reap_7 rfl ?_
    refine q_getr F (k := 3) fkX4_13 q_m20 rfl rfl dX4_reap_8 ?_
    refine q_iload_n F dX4_reap_11 rfl ?_
    refine q_kald F 2 (_) q_m22 rfl rfl rfl (by omega) (by decide) dX4_reap_12 ?_
    refine q_iconst F (nI 3) dX4_reap_13 (by decide) ?_
    refine q_icmp_ne F 27 dX4_reap_14 (by decide) (fun h14 => ?_) (fun h14 => ?_)
    · refine q_iconst F (-1) dX4_reap_27 (by decide) ?_
      refine q_iret F E rfl (Or.inr ⟨by first | (intro q hq he; subst he; rw [q_on_some hq] at hx; cases hx; done) | (intro q hq he hh; rw [nI_eq (by omega) (by omega)] at he; subst he; first | exact h14 hh.1 | exact h24 hh.2), rfl, rfl⟩) dX4_reap_28
    · refine q_aload_n F dX4_reap_17 rfl ?_
      refine q_getr F (k := 4) fkX4_16 q_m20 rfl rfl dX4_reap_18 ?_
      refine q_iload_n F dX4_reap_21 rfl ?_
      refine q_kald F 3 (_) q_m23 rfl rfl rfl (by omega) (by decide) dX4_reap_22 ?_
      refine q_iconst F (-1) dX4_reap_23 (by decide) ?_
      refine q_icmp_eq F 29 dX4_reap_24 (by decide) (fun h24 => ?_) (fun h24 => ?_)
      · refine q_aload_n F dX4_reap_29 rfl ?_
        refine q_iload_n F dX4_reap_30 rfl ?_
        refine q_callVv F [.inl (nI p)] (fun l => t_mfree l S K hp) clX4_85 rfl q_m20 rfl rfl rfl ⟨Nat.le_of_ble_eq_true rfl, Nat.le_of_ble_eq_true rfl⟩ (Nat.le_of_ble_eq_true rfl) ⟨rfl, rfl⟩ ⟨Nat.zero_le _, Nat.zero_le _⟩ dX4_reap_31 (fun S' hS => ?_)
        subst hS
        refine q_aload_n F dX4_reap_34 rfl ?_
        refine q_getr F (k := 5) fkX4_19 q_m20 rfl rfl dX4_reap_35 ?_
        refine q_iload_n F dX4_reap_38 rfl ?_
        refine q_kald F 4 (_) q_m24 rfl rfl rfl (by omega) (by decide) dX4_reap_39 ?_
        refine q_iret F E rfl (Or.inl ⟨p, hp, rfl, h14, h24, by simp [k_free, k_u], rfl⟩) dX4_reap_40
      · refine q_iconst F (-1) dX4_reap_27 (by decide) ?_
        refine q_iret F E rfl (Or.inr ⟨by first | (intro q hq he; subst he; rw [q_on_some hq] at hx; cases hx; done) | (intro q hq he hh; rw [nI_eq (by omega) (by omega)] at he; subst he; first | exact h14 hh.1 | exact h24 hh.2), rfl, rfl⟩) dX4_reap_28
