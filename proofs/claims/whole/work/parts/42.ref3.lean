/-! the reference: load, fork, grow, await (rows laid by wip/whole/m42.py) -/
def k_lb (K : k_t) (p m : Nat) (L : Int32) (i : Nat) : k_t := fun a j => if a = 0 ∧ j = 11 then L + nI i else if a = 9 ∧ 8 * p ≤ j ∧ j < 8 * p + i then (if j - 8 * p < m then L + nI (j - 8 * p + 1) else 0) else K a j
theorem k_lb_0 (K : k_t) (p m : Nat) (L : Int32) (h : K 0 11 = L) : k_lb K p m L 0 = K := by
  funext a j
  unfold k_lb
  split
  next q => rw [q.1, q.2, h]; show L + 0 = L; rw [Int32.add_zero]
  next =>
    split
    next q => exfalso; omega
    next => rfl
theorem k_lb_s (K : k_t) (p m : Nat) (L : Int32) (i : Nat) (v : Int32) (hv : v = if i < m then L + nI (i + 1) else 0) : k_u (k_u (k_lb K p m L i) 0 11 (L + nI (i + 1))) 9 (8 * p + i) v = k_lb K p m L (i + 1) := by
  funext a j
  unfold k_u k_lb
  by_cases h9 : a = 9 ∧ j = 8 * p + i
  · obtain ⟨rfl, rfl⟩ := h9
    rw [if_pos ⟨rfl, rfl⟩, if_neg (by simp), if_pos ⟨rfl, by omega, by omega⟩, hv, show 8 * p + i - 8 * p = i by omega]
  · rw [if_neg h9]
    repeat' split
    all_goals first | rfl | (exfalso; omega)
theorem k_ld0_eq (K : k_t) (p len : Nat) (hl : len ≤ 64) : k_lb (k_fill (k_fill (k_u (k_u (k_u (k_u K 2 p (nI 1)) 3 p (-1)) 6 p (nI 0)) 7 p (nI len)) 5 (8 * p) 8 (fun _ => 0)) 8 (64 * p) 64 (fun x => if x - 64 * p < len then K 1 (x - 64 * p) else 0)) p ((len + 7) / 8) (K 0 11) 8 = k_ld0 K p len (K 0 11) := by
  funext a j
  unfold k_lb k_fill k_u k_ld0
  by_cases h0 : a = 0 ∧ j = 11
  · obtain ⟨rfl, rfl⟩ := h0
    simp
  · rw [if_neg h0, if_neg h0]
    by_cases h9 : a = 9 ∧ j / 8 = p
    · obtain ⟨rfl, h9⟩ := h9
      rw [if_pos ⟨rfl, by omega, by omega⟩]
      simp only [h9, show j - 8 * p = j % 8 by omega]
      simp
    · rw [if_neg (by rintro ⟨rfl, q1, q2⟩; exact h9 ⟨rfl, by omega⟩)]
      by_cases h8 : a = 8 ∧ j / 64 = p
      · obtain ⟨rfl, h8⟩ := h8
        rw [if_pos ⟨rfl, by omega, by omega⟩]
        simp only [h8, show j - 64 * p = j % 64 by omega]
        simp
      · rw [if_neg (by rintro ⟨rfl, q1, q2⟩; exact h8 ⟨rfl, by omega⟩)]
        by_cases h5 : a = 5 ∧ j / 8 = p
        · obtain ⟨rfl, h5⟩ := h5
          rw [if_pos ⟨rfl, by omega, by omega⟩]
          simp [h5]
        · rw [if_neg (by rintro ⟨rfl, q1, q2⟩; exact h5 ⟨rfl, by omega⟩)]
          simp only [h9, h8, h5, if_false]
          repeat' split
          all_goals first | rfl | (exfalso; omega)

set_option maxRecDepth 100000 in
set_option maxHeartbeats 4000000 in
theorem lp_load3 {G : q_g} {n : Nat} {ad : q_ix → Nat} {X : q_cx} (F : q_fx G X iX4_load) {S : q_st} {K : k_t} {x : Int32} {lim p len : Nat} (hp : p < 8) (hl1 : 1 ≤ len) (hl : len ≤ 64) (hx : x = nI len) (hff : k_ff K = some p) (hok : k_fr K + (len + 7) / 8 ≤ lim) (E : q_en G X iX4_load (q_pi (q_w G n ad) (fun r S' => (r = -16 ∧ ¬ (1 ≤ x.toInt ∧ x.toInt ≤ 64) ∧ S' = q_put S K) ∨ (∃ len, 1 ≤ len ∧ len ≤ 64 ∧ x = nI len ∧ ((k_ff K = none ∧ r = -15 ∧ S' = q_put S K) ∨ (∃ p, p < 8 ∧ k_ff K = some p ∧ ((¬ k_fr K + (len + 7) / 8 ≤ lim ∧ r = -13 ∧ S' = q_put S K) ∨ (k_fr K + (len + 7) / 8 ≤ lim ∧ r = nI p ∧ S' = q_put S (k_ld0 K p len (K 0 11)))))))))) : ∀ i, i ≤ 8 → q_W G X iX4_load (q_w G n ad) (0, 0) 156 [some (.inr (some (20, 0))), some (.inl (nI len)), some (.inl (nI p)), some (.inl (nI ((len + 7) / 8))), some (.inl (nI i))] [] (q_put S (k_lb (k_fill (k_fill (k_u (k_u (k_u (k_u K 2 p (nI 1)) 3 p (-1)) 6 p (nI 0)) 7 p (nI len)) 5 (8 * p) 8 (fun _ => 0)) 8 (64 * p) 64 (fun x => if x - 64 * p < len then K 1 (x - 64 * p) else 0)) p ((len + 7) / 8) (K 0 11) i)) := by
  refine q_loop (fun i hi ih => ?_)
  refine q_iload F dX4_load_156 rfl ?_
  refine q_bipush F (nI 8) dX4_load_158 (by decide) ?_
  refine q_icmpN_ge F 205 dX4_load_160 (by decide) (by omega) (by omega) (fun h160 => ?_) (fun h160 => ?_)
  · obtain rfl : i = 8 := by omega
    refine q_iload_n F dX4_load_205 rfl ?_
    refine q_iret F E rfl (Or.inr ⟨len, hl1, hl, hx, Or.inr ⟨p, hp, hff, Or.inr ⟨hok, rfl, by rw [k_ld0_eq _ _ _ hl]⟩⟩⟩) dX4_load_206
  · refine q_aload_n F dX4_load_163 rfl ?_
    refine q_dup F dX4_load_164 ?_
    refine q_kgeti F (k := 11) fkX4_57 rfl dX4_load_165 ?_
    refine q_iconst F (nI 1) dX4_load_168 (by decide) ?_
    refine q_iadd F dX4_load_169 ?_
    refine q_top (K 0 11 + nI (i + 1)) (by rw [show k_lb (k_fill (k_fill (k_u (k_u (k_u (k_u K 2 p (nI 1)) 3 p (-1)) 6 p (nI 0)) 7 p (nI len)) 5 (8 * p) 8 (fun _ => 0)) 8 (64 * p) 64 (fun x => if x - 64 * p < len then K 1 (x - 64 * p) else 0)) p ((len + 7) / 8) (K 0 11) i 0 11 = K 0 11 + nI i by simp [k_lb], Int32.add_assoc, nI_add]) ?_
    refine q_kputi F (k := 11) fkX4_57 fp4_11 rfl dX4_load_170 ?_
    refine q_aload_n F dX4_load_173 rfl ?_
    refine q_getr F (k := 10) fkX4_34 q_m20 rfl rfl dX4_load_174 ?_
    refine q_bipush F (nI 8) dX4_load_177 (by decide) ?_
    refine q_iload_n F dX4_load_179 rfl ?_
    refine q_imulN F dX4_load_180 ?_
    refine q_iload F dX4_load_181 rfl ?_
    refine q_iaddN F dX4_load_183 ?_
    refine q_iload F dX4_load_184 rfl ?_
    refine q_iload_n F dX4_load_186 rfl ?_
    refine q_icmpN_ge F 197 dX4_load_187 (by decide) (by omega) (by omega) (fun h187 => ?_) (fun h187 => ?_)
    · refine q_iconst F (nI 0) dX4_load_197 (by decide) ?_
      refine q_kast F 9 (_) q_m29 rfl rfl rfl (by omega) (by decide) dX4_load_198 ?_
      rw [k_lb_s _ _ _ _ _ _ (by first | rw [if_pos h187] | (rw [if_neg (by omega)]; rfl))]
      refine q_iinc_4 F _ dX4_load_199 (q_inc1 _) (by decide) ?_
      exact q_goto F 156 dX4_load_202 (by decide) (ih h160)
    · refine q_aload_n F dX4_load_190 rfl ?_
      refine q_kgeti F (k := 11) fkX4_57 rfl dX4_load_191 ?_
      refine q_top (K 0 11 + nI (i + 1)) (by simp [k_u]) ?_
      refine q_goto F 198 dX4_load_194 (by decide) ?_
      refine q_kast F 9 (_) q_m29 rfl rfl rfl (by omega) (by decide) dX4_load_198 ?_
      rw [k_lb_s _ _ _ _ _ _ (by first | rw [if_pos h187] | (rw [if_neg (by omega)]; rfl))]
      refine q_iinc_4 F _ dX4_load_199 (q_inc1 _) (by decide) ?_
      exact q_goto F 156 dX4_load_202 (by decide) (ih h160)

set_option maxRecDepth 100000 in
set_option maxHeartbeats 4000000 in
theorem lp_load2 {G : q_g} {n : Nat} {ad : q_ix → Nat} {X : q_cx} (F : q_fx G X iX4_load) {S : q_st} {K : k_t} {x : Int32} {lim p len : Nat} (hp : p < 8) (hl1 : 1 ≤ len) (hl : len ≤ 64) (hx : x = nI len) (hff : k_ff K = some p) (hok : k_fr K + (len + 7) / 8 ≤ lim) (E : q_en G X iX4_load (q_pi (q_w G n ad) (fun r S' => (r = -16 ∧ ¬ (1 ≤ x.toInt ∧ x.toInt ≤ 64) ∧ S' = q_put S K) ∨ (∃ len, 1 ≤ len ∧ len ≤ 64 ∧ x = nI len ∧ ((k_ff K = none ∧ r = -15 ∧ S' = q_put S K) ∨ (∃ p, p < 8 ∧ k_ff K = some p ∧ ((¬ k_fr K + (len + 7) / 8 ≤ lim ∧ r = -13 ∧ S' = q_put S K) ∨ (k_fr K + (len + 7) / 8 ≤ lim ∧ r = nI p ∧ S' = q_put S (k_ld0 K p len (K 0 11)))))))))) : ∀ i, i ≤ 64 → q_W G X iX4_load (q_w G n ad) (0, 0) 111 [some (.inr (some (20, 0))), some (.inl (nI len)), some (.inl (nI p)), some (.inl (nI ((len + 7) / 8))), some (.inl (nI i))] [] (q_put S (k_fill (k_fill (k_u (k_u (k_u (k_u K 2 p (nI 1)) 3 p (-1)) 6 p (nI 0)) 7 p (nI len)) 5 (8 * p) 8 (fun _ => 0)) 8 (64 * p) i (fun x => if x - 64 * p < len then K 1 (x - 64 * p) else 0))) := by
  refine q_loop (fun i hi ih => ?_)
  refine q_iload F dX4_load_111 rfl ?_
  refine q_bipush F (nI 64) dX4_load_113 (by decide) ?_
  refine q_icmpN_ge F 153 dX4_load_115 (by decide) (by omega) (by omega) (fun h115 => ?_) (fun h115 => ?_)
  · obtain rfl : i = 64 := by omega
    refine q_iconst F (nI 0) dX4_load_153 (by decide) ?_
    refine q_istore_4 F dX4_load_154 (by decide) ?_
    have h := lp_load3 F hp hl1 hl hx hff hok E 0 (by decide)
    rw [k_lb_0 _ _ _ _ (by simp [k_fill, k_u])] at h
    exact h
  · refine q_aload_n F dX4_load_118 rfl ?_
    refine q_getr F (k := 9) fkX4_31 q_m20 rfl rfl dX4_load_119 ?_
    refine q_bipush F (nI 64) dX4_load_122 (by decide) ?_
    refine q_iload_n F dX4_load_124 rfl ?_
    refine q_imulN F dX4_load_125 ?_
    refine q_iload F dX4_load_126 rfl ?_
    refine q_iaddN F dX4_load_128 ?_
    refine q_iload F dX4_load_129 rfl ?_
    refine q_iload_n F dX4_load_131 rfl ?_
    refine q_icmpN_ge F 145 dX4_load_132 (by decide) (by omega) (by omega) (fun h132 => ?_) (fun h132 => ?_)
    · refine q_iconst F (nI 0) dX4_load_145 (by decide) ?_
      refine q_kast F 8 (_) q_m28 rfl rfl rfl (by omega) (by decide) dX4_load_146 ?_
      rw [k_fill_s _ _ _ _ (fun x => if x - 64 * p < len then K 1 (x - 64 * p) else 0) _ (by rw [show 64 * p + i - 64 * p = i by omega]; first | rw [if_pos h132] | (rw [if_neg (by omega)]; rfl))]
      refine q_iinc_4 F _ dX4_load_147 (q_inc1 _) (by decide) ?_
      exact q_goto F 111 dX4_load_150 (by decide) (ih h115)
    · refine q_aload_n F dX4_load_135 rfl ?_
      refine q_getr F (k := 2) fkX4_7 q_m20 rfl rfl dX4_load_136 ?_
      refine q_iload F dX4_load_139 rfl ?_
      refine q_kald F 1 (_) q_m21 rfl rfl rfl (by omega) (by decide) dX4_load_141 ?_
      refine q_top (K 1 i) (by simp [k_fill, k_u]) ?_
      refine q_goto F 146 dX4_load_142 (by decide) ?_
      refine q_kast F 8 (_) q_m28 rfl rfl rfl (by omega) (by decide) dX4_load_146 ?_
      rw [k_fill_s _ _ _ _ (fun x => if x - 64 * p < len then K 1 (x - 64 * p) else 0) _ (by rw [show 64 * p + i - 64 * p = i by omega]; first | rw [if_pos h132] | (rw [if_neg (by omega)]; rfl))]
      refine q_iinc_4 F _ dX4_load_147 (q_inc1 _) (by decide) ?_
      exact q_goto F 111 dX4_load_150 (by decide) (ih h115)

set_option maxRecDepth 100000 in
set_option maxHeartbeats 4000000 in
theorem lp_load1 {G : q_g} {n : Nat} {ad : q_ix → Nat} {X : q_cx} (F : q_fx G X iX4_load) {S : q_st} {K : k_t} {x : Int32} {lim p len : Nat} (hp : p < 8) (hl1 : 1 ≤ len) (hl : len ≤ 64) (hx : x = nI len) (hff : k_ff K = some p) (hok : k_fr K + (len + 7) / 8 ≤ lim) (E : q_en G X iX4_load (q_pi (q_w G n ad) (fun r S' => (r = -16 ∧ ¬ (1 ≤ x.toInt ∧ x.toInt ≤ 64) ∧ S' = q_put S K) ∨ (∃ len, 1 ≤ len ∧ len ≤ 64 ∧ x = nI len ∧ ((k_ff K = none ∧ r = -15 ∧ S' = q_put S K) ∨ (∃ p, p < 8 ∧ k_ff K = some p ∧ ((¬ k_fr K + (len + 7) / 8 ≤ lim ∧ r = -13 ∧ S' = q_put S K) ∨ (k_fr K + (len + 7) / 8 ≤ lim ∧ r = nI p ∧ S' = q_put S (k_ld0 K p len (K 0 11)))))))))) : ∀ i, i ≤ 8 → q_W G X iX4_load (q_w G n ad) (0, 0) 82 [some (.inr (some (20, 0))), some (.inl (nI len)), some (.inl (nI p)), some (.inl (nI ((len + 7) / 8))), some (.inl (nI i))] [] (q_put S (k_fill (k_u (k_u (k_u (k_u K 2 p (nI 1)) 3 p (-1)) 6 p (nI 0)) 7 p (nI len)) 5 (8 * p) i (fun _ => 0))) := by
  refine q_loop (fun i hi ih => ?_)
  refine q_iload F dX4_load_82 rfl ?_
  refine q_bipush F (nI 8) dX4_load_84 (by decide) ?_
  refine q_icmpN_ge F 108 dX4_load_86 (by decide) (by omega) (by omega) (fun h86 => ?_) (fun h86 => ?_)
  · obtain rfl : i = 8 := by omega
    refine q_iconst F (nI 0) dX4_load_108 (by decide) ?_
    refine q_istore_4 F dX4_load_109 (by decide) ?_
    have h := lp_load2 F hp hl1 hl hx hff hok E 0 (by decide)
    rw [k_fill_0] at h
    exact h
  · refine q_aload_n F dX4_load_89 rfl ?_
    refine q_getr F (k := 6) fkX4_22 q_m20 rfl rfl dX4_load_90 ?_
    refine q_bipush F (nI 8) dX4_load_93 (by decide) ?_
    refine q_iload_n F dX4_load_95 rfl ?_
    refine q_imulN F dX4_load_96 ?_
    refine q_iload F dX4_load_97 rfl ?_
    refine q_iaddN F dX4_load_99 ?_
    refine q_iconst F (nI 0) dX4_load_100 (by decide) ?_
    refine q_kast F 5 (_) q_m25 rfl rfl rfl (by omega) (by decide) dX4_load_101 ?_
    rw [k_fill_s _ _ _ _ (fun _ => 0) (nI 0) rfl]
    refine q_iinc_4 F _ dX4_load_102 (q_inc1 _) (by decide) ?_
    exact q_goto F 82 dX4_load_105 (by decide) (ih h86)

set_option maxRecDepth 100000 in
set_option maxHeartbeats 4000000 in
theorem t_mload {G : q_g} {n : Nat} {ad : q_ix → Nat} (l : Launch) (S : q_st) (K : k_t) {x : Int32} {lim : Nat} (hlim : K 0 0 = nI lim) (hlim2 : lim < 2 ^ 30) : q_Ct l G iX4_load [.inr (some (20, 0)), .inl x] (q_w G n ad) (q_put S K) (q_pi (q_w G n ad) (fun r S' => (r = -16 ∧ ¬ (1 ≤ x.toInt ∧ x.toInt ≤ 64) ∧ S' = q_put S K) ∨ (∃ len, 1 ≤ len ∧ len ≤ 64 ∧ x = nI len ∧ ((k_ff K = none ∧ r = -15 ∧ S' = q_put S K) ∨ (∃ p, p < 8 ∧ k_ff K = some p ∧ ((¬ k_fr K + (len + 7) / 8 ≤ lim ∧ r = -13 ∧ S' = q_put S K) ∨ (k_fr K + (len + 7) / 8 ≤ lim ∧ r = nI p ∧ S' = q_put S (k_ld0 K p len (K 0 11))))))))) := by
  refine q_enter (by decide) (Nat.le_of_ble_eq_true rfl) (fun X F E => ?_)
  show q_W G X iX4_load (q_w G n ad) (0, 0) 0 [some (.inr (some (20, 0))), some (.inl x), none, none, none] [] (q_put S K)
  refine q_iload_n F dX4_load_0 rfl ?_
  refine q_iconst F (nI 1) dX4_load_1 (by decide) ?_
  refine q_icmp_lt F 11 dX4_load_2 (by decide) (fun h2 => ?_) (fun h2 => ?_)
  · rw [nI_toInt (by omega)] at h2
    refine q_bipush F (-16) dX4_load_11 (by decide) ?_
    refine q_iret F E rfl (Or.inl ⟨rfl, by omega, rfl⟩) dX4_load_13
  · rw [nI_toInt (by omega)] at h2
    refine q_iload_n F dX4_load_5 rfl ?_
    refine q_bipush F (nI 64) dX4_load_6 (by decide) ?_
    refine q_icmp_le F 14 dX4_load_8 (by decide) (fun h8 => ?_) (fun h8 => ?_)
    · rw [nI_toInt (by omega)] at h8
      obtain ⟨len, hl65, rfl⟩ := q_ofx (x := x) (m := 65) (by decide) (by omega) (by omega)
      rw [nI_toInt (by omega)] at h2 h8
      refine q_aload_n F dX4_load_14 rfl ?_
      refine q_callVi F [] (fun l => t_mfirstFree l S K) clX4_71 rfl q_m20 rfl rfl rfl ⟨Nat.le_of_ble_eq_true rfl, Nat.le_of_ble_eq_true rfl⟩ (Nat.le_of_ble_eq_true rfl) ⟨rfl, rfl⟩ ⟨Nat.zero_le _, Nat.zero_le _⟩ dX4_load_15 (fun v S' hv => ?_)
      obtain ⟨hv, hS⟩ := hv
      subst hS
      subst hv
      rcases f_st_spec (P := fun p => K 2 p = 0) 8 with ⟨hff, -⟩ | ⟨p, hff, hp, -, -⟩
      · refine q_top (-1) (by unfold k_ff; rw [hff]; rfl) ?_
        refine q_istore_n_2 F dX4_load_18 (by decide) ?_
        refine q_iload_n F dX4_load_19 rfl ?_
        refine q_iconst F (-1) dX4_load_20 (by decide) ?_
        refine q_icmp_ne F 27 dX4_load_21 (by decide) (fun h21 => ?_) (fun h21 => ?_)
        · exact absurd rfl h21
        · refine q_bipush F (-15) dX4_load_24 (by decide) ?_
          refine q_iret F E rfl (Or.inr ⟨len, by omega, by omega, rfl, Or.inl ⟨hff, rfl, rfl⟩⟩) dX4_load_26
      · refine q_top (nI p) (by unfold k_ff; rw [hff]; rfl) ?_
        refine q_istore_n_2 F dX4_load_18 (by decide) ?_
        refine q_iload_n F dX4_load_19 rfl ?_
        refine q_iconst F (-1) dX4_load_20 (by decide) ?_
        refine q_icmp_ne F 27 dX4_load_21 (by decide) (fun h21 => ?_) (fun h21 => ?_)
        · refine q_iload_n F dX4_load_27 rfl ?_
          refine q_bipush F (nI 7) dX4_load_28 (by decide) ?_
          refine q_iaddN F dX4_load_30 ?_
          refine q_bipush F (nI 8) dX4_load_31 (by decide) ?_
          refine q_idivN F dX4_load_33 (by omega) (by omega) (by omega) ?_
          refine q_istore_n_3 F dX4_load_34 (by decide) ?_
          refine q_aload_n F dX4_load_35 rfl ?_
          refine q_callVi F [] (fun l => t_mframes l S K) clX4_50 rfl q_m20 rfl rfl rfl ⟨Nat.le_of_ble_eq_true rfl, Nat.le_of_ble_eq_true rfl⟩ (Nat.le_of_ble_eq_true rfl) ⟨rfl, rfl⟩ ⟨Nat.zero_le _, Nat.zero_le _⟩ dX4_load_36 (fun v S' hv => ?_)
          obtain ⟨hv, hS⟩ := hv
          subst hS
          subst hv
          have hfr : k_fr K ≤ 64 := c_n_le _ _
          refine q_iload_n F dX4_load_39 rfl ?_
          refine q_iaddN F dX4_load_40 ?_
          refine q_aload_n F dX4_load_41 rfl ?_
          refine q_kgeti F (k := 0) fkX4_44 rfl dX4_load_42 ?_
          refine q_top (nI lim) hlim ?_
          refine q_icmpN_le F 51 dX4_load_45 (by decide) (by omega) (by omega) (fun h45 => ?_) (fun h45 => ?_)
          · refine q_aload_n F dX4_load_51 rfl ?_
            refine q_getr F (k := 3) fkX4_13 q_m20 rfl rfl dX4_load_52 ?_
            refine q_iload_n F dX4_load_55 rfl ?_
            refine q_iconst F (nI 1) dX4_load_56 (by decide) ?_
            refine q_kast F 2 (_) q_m22 rfl rfl rfl (by omega) (by decide) dX4_load_57 ?_
            refine q_aload_n F dX4_load_58 rfl ?_
            refine q_getr F (k := 4) fkX4_16 q_m20 rfl rfl dX4_load_59 ?_
            refine q_iload_n F dX4_load_62 rfl ?_
            refine q_iconst F (-1) dX4_load_63 (by decide) ?_
            refine q_kast F 3 (_) q_m23 rfl rfl rfl (by omega) (by decide) dX4_load_64 ?_
            refine q_aload_n F dX4_load_65 rfl ?_
            refine q_getr F (k := 7) fkX4_25 q_m20 rfl rfl dX4_load_66 ?_
            refine q_iload_n F dX4_load_69 rfl ?_
            refine q_iconst F (nI 0) dX4_load_70 (by decide) ?_
            refine q_kast F 6 (_) q_m26 rfl rfl rfl (by omega) (by decide) dX4_load_71 ?_
            refine q_aload_n F dX4_load_72 rfl ?_
            refine q_getr F (k := 8) fkX4_28 q_m20 rfl rfl dX4_load_73 ?_
            refine q_iload_n F dX4_load_76 rfl ?_
            refine q_iload_n F dX4_load_77 rfl ?_
            refine q_kast F 7 (_) q_m27 rfl rfl rfl (by omega) (by decide) dX4_load_78 ?_
            refine q_iconst F (nI 0) dX4_load_79 (by decide) ?_
            refine q_istore_4 F dX4_load_80 (by decide) ?_
            have h := lp_load1 F hp (by omega) (by omega) rfl hff h45 E 0 (by decide)
            rw [k_fill_0] at h
            exact h
          · refine q_bipush F (-13) dX4_load_48 (by decide) ?_
            refine q_iret F E rfl (Or.inr ⟨len, by omega, by omega, rfl, Or.inr ⟨p, hp, hff, Or.inl ⟨by omega, rfl, rfl⟩⟩⟩) dX4_load_50
        · exact absurd h21 (q_nm1 (by omega))
    · rw [nI_toInt (by omega)] at h8
      refine q_bipush F (-16) dX4_load_11 (by decide) ?_
      refine q_iret F E rfl (Or.inl ⟨rfl, by omega, rfl⟩) dX4_load_13

def k_f1 (K : k_t) (p a c i : Nat) : k_t := fun b j => if b = 5 ∧ 8 * c ≤ j ∧ j < 8 * c + i then (if j - 8 * c = a then 0 else K 5 (8 * p + (j - 8 * c))) else if b = 9 ∧ 8 * c ≤ j ∧ j < 8 * c + i then K 9 (8 * p + (j - 8 * c)) else K b j
theorem k_f1_0 (K : k_t) (p a c : Nat) : k_f1 K p a c 0 = K := by
  funext b j
  unfold k_f1
  repeat' split
  all_goals first | rfl | (exfalso; omega)
theorem k_f1_s (K : k_t) (p a c i : Nat) (v : Int32) (hv : v = if i = a then 0 else K 5 (8 * p + i)) : k_u (k_u (k_f1 K p a c i) 5 (8 * c + i) v) 9 (8 * c + i) (K 9 (8 * p + i)) = k_f1 K p a c (i + 1) := by
  funext b j
  unfold k_u k_f1
  by_cases h9 : b = 9 ∧ j = 8 * c + i
  · obtain ⟨rfl, rfl⟩ := h9
    rw [if_pos ⟨rfl, rfl⟩, if_neg (by simp), if_pos ⟨rfl, by omega, by omega⟩, show 8 * c + i - 8 * c = i by omega]
  · rw [if_neg h9]
    by_cases h5 : b = 5 ∧ j = 8 * c + i
    · obtain ⟨rfl, rfl⟩ := h5
      rw [if_pos ⟨rfl, rfl⟩, if_pos ⟨rfl, by omega, by omega⟩, hv, show 8 * c + i - 8 * c = i by omega]
    · rw [if_neg h5]
      repeat' split
      all_goals first | rfl | (exfalso; omega)
theorem k_f1_5 (K : k_t) (p a c i k : Nat) (hpc : p ≠ c) (hk : k < 8) : k_f1 K p a c i 5 (8 * p + k) = K 5 (8 * p + k) ∨ 8 < i := by
  by_cases hi : 8 < i
  · exact Or.inr hi
  · left
    unfold k_f1
    rw [if_neg (by omega), if_neg (by simp)]
theorem k_f1_9 (K : k_t) (p a c i k : Nat) (hpc : p ≠ c) (hk : k < 8) (hi : i ≤ 8) : k_f1 K p a c i 9 (8 * p + k) = K 9 (8 * p + k) := by
  unfold k_f1
  rw [if_neg (by simp), if_neg (by omega)]
theorem k_fk0_eq (K : k_t) (p a c : Nat) (ha : a < 8) (hpc : p ≠ c) : k_fill (k_f1 (k_u (k_u (k_u (k_u K 2 c (nI 1)) 3 c (nI p)) 6 c (K 6 p)) 7 c (K 7 p)) p a c 8) 8 (64 * c) 64 (fun x => K 8 (64 * p + (x - 64 * c))) = k_fk0 K p a c := by
  funext b j
  unfold k_fill k_f1 k_u k_fk0
  by_cases h8 : b = 8 ∧ j / 64 = c
  · obtain ⟨rfl, h8⟩ := h8
    rw [if_pos ⟨rfl, by omega, by omega⟩]
    simp only [h8, show j - 64 * c = j % 64 by omega]
    simp
  · rw [if_neg (by rintro ⟨rfl, q1, q2⟩; exact h8 ⟨rfl, by omega⟩)]
    by_cases h5 : b = 5 ∧ j / 8 = c
    · obtain ⟨rfl, h5⟩ := h5
      rw [if_pos ⟨rfl, by omega, by omega⟩]
      simp only [h5, show j - 8 * c = j % 8 by omega]
      simp
    · rw [if_neg (by rintro ⟨rfl, q1, q2⟩; exact h5 ⟨rfl, by omega⟩)]
      by_cases h9 : b = 9 ∧ j / 8 = c
      · obtain ⟨rfl, h9⟩ := h9
        rw [if_pos ⟨rfl, by omega, by omega⟩]
        simp only [h9, show j - 8 * c = j % 8 by omega]
        simp
      · rw [if_neg (by rintro ⟨rfl, q1, q2⟩; exact h9 ⟨rfl, by omega⟩)]
        simp only [h9, h8, h5, if_false]
        repeat' split
        all_goals first | rfl | (exfalso; omega)

set_option maxRecDepth 100000 in
set_option maxHeartbeats 4000000 in
theorem lp_fork2 {G : q_g} {n : Nat} {ad : q_ix → Nat} {X : q_cx} (F : q_fx G X iX4_fork) {S : q_st} {K : k_t} {p a c : Nat} (hp : p < 8) (ha : a < 8) (hc : c < 8) (hpc : p ≠ c) (hff : k_ff K = some c) (E : q_en G X iX4_fork (q_pi (q_w G n ad) (fun r S' => r = (k_fk K p a).1 ∧ S' = q_put S (k_fk K p a).2))) : ∀ i, i ≤ 64 → q_W G X iX4_fork (q_w G n ad) (0, 0) 139 [some (.inr (some (20, 0))), some (.inl (nI p)), some (.inl (nI a)), some (.inl (nI c)), some (.inl (nI i))] [] (q_put S (k_fill (k_f1 (k_u (k_u (k_u (k_u K 2 c (nI 1)) 3 c (nI p)) 6 c (K 6 p)) 7 c (K 7 p)) p a c 8) 8 (64 * c) i (fun x => K 8 (64 * p + (x - 64 * c))))) := by
  refine q_loop (fun i hi ih => ?_)
  refine q_iload F dX4_fork_139 rfl ?_
  refine q_bipush F (nI 64) dX4_fork_141 (by decide) ?_
  refine q_icmpN_ge F 176 dX4_fork_143 (by decide) (by omega) (by omega) (fun h143 => ?_) (fun h143 => ?_)
  · obtain rfl : i = 64 := by omega
    rw [k_fk0_eq _ _ _ _ ha hpc]
    refine q_aload_n F dX4_fork_176 rfl ?_
    refine q_getr F (k := 6) fkX4_22 q_m20 rfl rfl dX4_fork_177 ?_
    refine q_bipush F (nI 8) dX4_fork_180 (by decide) ?_
    refine q_iload_n F dX4_fork_182 rfl ?_
    refine q_imulN F dX4_fork_183 ?_
    refine q_iload_n F dX4_fork_184 rfl ?_
    refine q_iaddN F dX4_fork_185 ?_
    refine q_iload_n F dX4_fork_186 rfl ?_
    refine q_kast F 5 (_) q_m25 rfl rfl rfl (by omega) (by decide) dX4_fork_187 ?_
    refine q_iconst F (nI 3) dX4_fork_188 (by decide) ?_
    refine q_iret F E rfl (by unfold k_fk; rw [hff]; exact ⟨rfl, rfl⟩) dX4_fork_189
  · refine q_aload_n F dX4_fork_146 rfl ?_
    refine q_getr F (k := 9) fkX4_31 q_m20 rfl rfl dX4_fork_147 ?_
    refine q_bipush F (nI 64) dX4_fork_150 (by decide) ?_
    refine q_iload_n F dX4_fork_152 rfl ?_
    refine q_imulN F dX4_fork_153 ?_
    refine q_iload F dX4_fork_154 rfl ?_
    refine q_iaddN F dX4_fork_156 ?_
    refine q_aload_n F dX4_fork_157 rfl ?_
    refine q_getr F (k := 9) fkX4_31 q_m20 rfl rfl dX4_fork_158 ?_
    refine q_bipush F (nI 64) dX4_fork_161 (by decide) ?_
    refine q_iload_n F dX4_fork_163 rfl ?_
    refine q_imulN F dX4_fork_164 ?_
    refine q_iload F dX4_fork_165 rfl ?_
    refine q_iaddN F dX4_fork_167 ?_
    refine q_kald F 8 (_) q_m28 rfl rfl rfl (by omega) (by decide) dX4_fork_168 ?_
    refine q_top (K 8 (64 * p + i)) (by unfold k_fill; rw [if_neg (by omega)]; simp [k_f1, k_u]) ?_
    refine q_kast F 8 (_) q_m28 rfl rfl rfl (by omega) (by decide) dX4_fork_169 ?_
    rw [k_fill_s _ _ _ _ (fun x => K 8 (64 * p + (x - 64 * c))) _ (by rw [show 64 * c + i - 64 * c = i by omega])]
    refine q_iinc_4 F _ dX4_fork_170 (q_inc1 _) (by decide) ?_
    exact q_goto F 139 dX4_fork_173 (by decide) (ih h143)

set_option maxRecDepth 100000 in
set_option maxHeartbeats 4000000 in
theorem lp_fork1 {G : q_g} {n : Nat} {ad : q_ix → Nat} {X : q_cx} (F : q_fx G X iX4_fork) {S : q_st} {K : k_t} {p a c : Nat} (hp : p < 8) (ha : a < 8) (hc : c < 8) (hpc : p ≠ c) (hff : k_ff K = some c) (E : q_en G X iX4_fork (q_pi (q_w G n ad) (fun r S' => r = (k_fk K p a).1 ∧ S' = q_put S (k_fk K p a).2))) : ∀ i, i ≤ 8 → q_W G X iX4_fork (q_w G n ad) (0, 0) 65 [some (.inr (some (20, 0))), some (.inl (nI p)), some (.inl (nI a)), some (.inl (nI c)), some (.inl (nI i))] [] (q_put S (k_f1 (k_u (k_u (k_u (k_u K 2 c (nI 1)) 3 c (nI p)) 6 c (K 6 p)) 7 c (K 7 p)) p a c i)) := by
  refine q_loop (fun i hi ih => ?_)
  refine q_iload F dX4_fork_65 rfl ?_
  refine q_bipush F (nI 8) dX4_fork_67 (by decide) ?_
  refine q_icmpN_ge F 136 dX4_fork_69 (by decide) (by omega) (by omega) (fun h69 => ?_) (fun h69 => ?_)
  · obtain rfl : i = 8 := by omega
    refine q_iconst F (nI 0) dX4_fork_136 (by decide) ?_
    refine q_istore_4 F dX4_fork_137 (by decide) ?_
    have h := lp_fork2 F hp ha hc hpc hff E 0 (by decide)
    rw [k_fill_0] at h
    exact h
  · refine q_aload_n F dX4_fork_72 rfl ?_
    refine q_getr F (k := 6) fkX4_22 q_m20 rfl rfl dX4_fork_73 ?_
    refine q_bipush F (nI 8) dX4_fork_76 (by decide) ?_
    refine q_iload_n F dX4_fork_78 rfl ?_
    refine q_imulN F dX4_fork_79 ?_
    refine q_iload F dX4_fork_80 rfl ?_
    refine q_iaddN F dX4_fork_82 ?_
    refine q_iload F dX4_fork_83 rfl ?_
    refine q_iload_n F dX4_fork_85 rfl ?_
    refine q_icmpN_ne F 93 dX4_fork_86 (by decide) (by omega) (by omega) (fun h86 => ?_) (fun h86 => ?_)
    · refine q_aload_n F dX4_fork_93 rfl ?_
      refine q_getr F (k := 6) fkX4_22 q_m20 rfl rfl dX4_fork_94 ?_
      refine q_bipush F (nI 8) dX4_fork_97 (by decide) ?_
      refine q_iload_n F dX4_fork_99 rfl ?_
      refine q_imulN F dX4_fork_100 ?_
      refine q_iload F dX4_fork_101 rfl ?_
      refine q_iaddN F dX4_fork_103 ?_
      refine q_kald F 5 (_) q_m25 rfl rfl rfl (by omega) (by decide) dX4_fork_104 ?_
      refine q_top ((k_u (k_u (k_u (k_u K 2 c (nI 1)) 3 c (nI p)) 6 c (K 6 p)) 7 c (K 7 p)) 5 (8 * p + i)) (k_f1_5 _ _ _ _ _ _ hpc h69 |>.resolve_right (by omega)) ?_
      refine q_kast F 5 (_) q_m25 rfl rfl rfl (by omega) (by decide) dX4_fork_105 ?_
      refine q_aload_n F dX4_fork_106 rfl ?_
      refine q_getr F (k := 10) fkX4_34 q_m20 rfl rfl dX4_fork_107 ?_
      refine q_bipush F (nI 8) dX4_fork_110 (by decide) ?_
      refine q_iload_n F dX4_fork_112 rfl ?_
      refine q_imulN F dX4_fork_113 ?_
      refine q_iload F dX4_fork_114 rfl ?_
      refine q_iaddN F dX4_fork_116 ?_
      refine q_aload_n F dX4_fork_117 rfl ?_
      refine q_getr F (k := 10) fkX4_34 q_m20 rfl rfl dX4_fork_118 ?_
      refine q_bipush F (nI 8) dX4_fork_121 (by decide) ?_
      refine q_iload_n F dX4_fork_123 rfl ?_
      refine q_imulN F dX4_fork_124 ?_
      refine q_iload F dX4_fork_125 rfl ?_
      refine q_iaddN F dX4_fork_127 ?_
      refine q_kald F 9 (_) q_m29 rfl rfl rfl (by omega) (by decide) dX4_fork_128 ?_
      refine q_top ((k_u (k_u (k_u (k_u K 2 c (nI 1)) 3 c (nI p)) 6 c (K 6 p)) 7 c (K 7 p)) 9 (8 * p + i)) (by rw [k_u_ne _ _ _ _ (by simp)]; exact k_f1_9 _ _ _ _ _ _ hpc h69 (by omega)) ?_
      refine q_kast F 9 (_) q_m29 rfl rfl rfl (by omega) (by decide) dX4_fork_129 ?_
      rw [k_f1_s _ _ _ _ _ _ (by first | (rw [if_pos h86]; rfl) | rw [if_neg h86])]
      refine q_iinc_4 F _ dX4_fork_130 (q_inc1 _) (by decide) ?_
      exact q_goto F 65 dX4_fork_133 (by decide) (ih h69)
    · refine q_iconst F (nI 0) dX4_fork_89 (by decide) ?_
      refine q_goto F 105 dX4_fork_90 (by decide) ?_
      refine q_kast F 5 (_) q_m25 rfl rfl rfl (by omega) (by decide) dX4_fork_105 ?_
      refine q_aload_n F dX4_fork_106 rfl ?_
      refine q_getr F (k := 10) fkX4_34 q_m20 rfl rfl dX4_fork_107 ?_
      refine q_bipush F (nI 8) dX4_fork_110 (by decide) ?_
      refine q_iload_n F dX4_fork_112 rfl ?_
      refine q_imulN F dX4_fork_113 ?_
      refine q_iload F dX4_fork_114 rfl ?_
      refine q_iaddN F dX4_fork_116 ?_
      refine q_aload_n F dX4_fork_117 rfl ?_
      refine q_getr F (k := 10) fkX4_34 q_m20 rfl rfl dX4_fork_118 ?_
      refine q_bipush F (nI 8) dX4_fork_121 (by decide) ?_
      refine q_iload_n F dX4_fork_123 rfl ?_
      refine q_imulN F dX4_fork_124 ?_
      refine q_iload F dX4_fork_125 rfl ?_
      refine q_iaddN F dX4_fork_127 ?_
      refine q_kald F 9 (_) q_m29 rfl rfl rfl (by omega) (by decide) dX4_fork_128 ?_
      refine q_top ((k_u (k_u (k_u (k_u K 2 c (nI 1)) 3 c (nI p)) 6 c (K 6 p)) 7 c (K 7 p)) 9 (8 * p + i)) (by rw [k_u_ne _ _ _ _ (by simp)]; exact k_f1_9 _ _ _ _ _ _ hpc h69 (by omega)) ?_
      refine q_kast F 9 (_) q_m29 rfl rfl rfl (by omega) (by decide) dX4_fork_129 ?_
      rw [k_f1_s _ _ _ _ _ _ (by first | (rw [if_pos h86]; rfl) | rw [if_neg h86])]
      refine q_iinc_4 F _ dX4_fork_130 (q_inc1 _) (by decide) ?_
      exact q_goto F 65 dX4_fork_133 (by decide) (ih h69)

set_option maxRecDepth 100000 in
set_option maxHeartbeats 4000000 in
theorem t_mfork {G : q_g} {n : Nat} {ad : q_ix → Nat} (l : Launch) (S : q_st) (K : k_t) {p a : Nat} (hp : p < 8) (ha : a < 8) (hst : ¬ K 2 p = 0) : q_Ct l G iX4_fork [.inr (some (20, 0)), .inl (nI p), .inl (nI a)] (q_w G n ad) (q_put S K) (q_pi (q_w G n ad) (fun r S' => r = (k_fk K p a).1 ∧ S' = q_put S (k_fk K p a).2)) := by
  refine q_enter (by decide) (Nat.le_of_ble_eq_true rfl) (fun X F E => ?_)
  show q_W G X iX4_fork (q_w G n ad) (0, 0) 0 [some (.inr (some (20, 0))), some (.inl (nI p)), some (.inl (nI a)), none, none] [] (q_put S K)
  refine q_aload_n F dX4_fork_0 rfl ?_
  refine q_callVi F [] (fun l => t_mfirstFree l S K) clX4_71 rfl q_m20 rfl rfl rfl ⟨Nat.le_of_ble_eq_true rfl, Nat.le_of_ble_eq_true rfl⟩ (Nat.le_of_ble_eq_true rfl) ⟨rfl, rfl⟩ ⟨Nat.zero_le _, Nat.zero_le _⟩ dX4_fork_1 (fun v S' hv => ?_)
  obtain ⟨hv, hS⟩ := hv
  subst hS
  subst hv
  rcases f_st_spec (P := fun p => K 2 p = 0) 8 with ⟨hff, -⟩ | ⟨c, hff, hc, hc0, -⟩
  · refine q_top (-1) (by unfold k_ff; rw [hff]; rfl) ?_
    refine q_istore_n_3 F dX4_fork_4 (by decide) ?_
    refine q_iload_n F dX4_fork_5 rfl ?_
    refine q_iconst F (-1) dX4_fork_6 (by decide) ?_
    refine q_icmp_ne F 24 dX4_fork_7 (by decide) (fun h7 => ?_) (fun h7 => ?_)
    · exact absurd rfl h7
    · refine q_aload_n F dX4_fork_10 rfl ?_
      refine q_getr F (k := 6) fkX4_22 q_m20 rfl rfl dX4_fork_11 ?_
      refine q_bipush F (nI 8) dX4_fork_14 (by decide) ?_
      refine q_iload_n F dX4_fork_16 rfl ?_
      refine q_imulN F dX4_fork_17 ?_
      refine q_iload_n F dX4_fork_18 rfl ?_
      refine q_iaddN F dX4_fork_19 ?_
      refine q_iconst F (-1) dX4_fork_20 (by decide) ?_
      refine q_kast F 5 (_) q_m25 rfl rfl rfl (by omega) (by decide) dX4_fork_21 ?_
      refine q_iconst F (nI 1) dX4_fork_22 (by decide) ?_
      refine q_iret F E rfl (by unfold k_fk k_ff; rw [hff]; exact ⟨rfl, rfl⟩) dX4_fork_23
  · refine q_top (nI c) (by unfold k_ff; rw [hff]; rfl) ?_
    have hpc : p ≠ c := by rintro rfl; exact hst hc0
    refine q_istore_n_3 F dX4_fork_4 (by decide) ?_
    refine q_iload_n F dX4_fork_5 rfl ?_
    refine q_iconst F (-1) dX4_fork_6 (by decide) ?_
    refine q_icmp_ne F 24 dX4_fork_7 (by decide) (fun h7 => ?_) (fun h7 => ?_)
    · refine q_aload_n F dX4_fork_24 rfl ?_
      refine q_getr F (k := 3) fkX4_13 q_m20 rfl rfl dX4_fork_25 ?_
      refine q_iload_n F dX4_fork_28 rfl ?_
      refine q_iconst F (nI 1) dX4_fork_29 (by decide) ?_
      refine q_kast F 2 (_) q_m22 rfl rfl rfl (by omega) (by decide) dX4_fork_30 ?_
      refine q_aload_n F dX4_fork_31 rfl ?_
      refine q_getr F (k := 4) fkX4_16 q_m20 rfl rfl dX4_fork_32 ?_
      refine q_iload_n F dX4_fork_35 rfl ?_
      refine q_iload_n F dX4_fork_36 rfl ?_
      refine q_kast F 3 (_) q_m23 rfl rfl rfl (by omega) (by decide) dX4_fork_37 ?_
      refine q_aload_n F dX4_fork_38 rfl ?_
      refine q_getr F (k := 7) fkX4_25 q_m20 rfl rfl dX4_fork_39 ?_
      refine q_iload_n F dX4_fork_42 rfl ?_
      refine q_aload_n F dX4_fork_43 rfl ?_
      refine q_getr F (k := 7) fkX4_25 q_m20 rfl rfl dX4_fork_44 ?_
      refine q_iload_n F dX4_fork_47 rfl ?_
      refine q_kald F 6 (_) q_m26 rfl rfl rfl (by omega) (by decide) dX4_fork_48 ?_
      refine q_top (K 6 p) (by simp [k_u]) ?_
      refine q_kast F 6 (_) q_m26 rfl rfl rfl (by omega) (by decide) dX4_fork_49 ?_
      refine q_aload_n F dX4_fork_50 rfl ?_
      refine q_getr F (k := 8) fkX4_28 q_m20 rfl rfl dX4_fork_51 ?_
      refine q_iload_n F dX4_fork_54 rfl ?_
      refine q_aload_n F dX4_fork_55 rfl ?_
      refine q_getr F (k := 8) fkX4_28 q_m20 rfl rfl dX4_fork_56 ?_
      refine q_iload_n F dX4_fork_59 rfl ?_
      refine q_kald F 7 (_) q_m27 rfl rfl rfl (by omega) (by decide) dX4_fork_60 ?_
      refine q_top (K 7 p) (by simp [k_u]) ?_
      refine q_kast F 7 (_) q_m27 rfl rfl rfl (by omega) (by decide) dX4_fork_61 ?_
      refine q_iconst F (nI 0) dX4_fork_62 (by decide) ?_
      refine q_istore_4 F dX4_fork_63 (by decide) ?_
      have h := lp_fork1 F hp ha hc hpc hff E 0 (by decide)
      rw [k_f1_0] at h
      exact h
    · exact absurd h7 (q_nm1 (by omega))
