/-! the reference: leaves (rows laid by wip/whole/m40.py) -/
/-- the number of a process, or none -/
def q_on (x : Int32) : Option Nat := if 0 ≤ x.toInt ∧ x.toInt < 8 then some x.toInt.toNat else none
theorem q_on_some {p : Nat} (h : p < 8) : q_on (nI p) = some p := by
  unfold q_on
  rw [nI_toInt (by omega), if_pos ⟨by omega, by omega⟩, Int.toNat_natCast]
theorem q_on_none {x : Int32} (h : ¬ (0 ≤ x.toInt ∧ x.toInt < 8)) : q_on x = none := by
  unfold q_on
  rw [if_neg h]
/-- the number of a live process, or none -/
def q_lvf (f : Nat → Int32) (x : Int32) : Option Nat := match q_on x with
  | some p => if f p = nI 1 ∨ f p = nI 2 then some p else none
  | none => none

set_option maxRecDepth 100000 in
set_option maxHeartbeats 4000000 in
theorem t_isProcess {G : q_g} {n : Nat} {ad : q_ix → Nat} (l : Launch) (S : q_st) (K : k_t) {x : Int32} : q_Ct l G iX4_isProcess [.inl x] (q_w G n ad) (q_put S K) (q_pi (q_w G n ad) (fun r S' => q_bl r (0 ≤ x.toInt ∧ x.toInt < 8) ∧ S' = q_put S K)) := by
  refine q_enter (by decide) (Nat.le_of_ble_eq_true rfl) (fun X F E => ?_)
  show q_W G X iX4_isProcess (q_w G n ad) (0, 0) 0 [some (.inl x)] [] (q_put S K)
  refine q_iload_n F dX4_isProcess_0 rfl ?_
  refine q_if_lt F 14 dX4_isProcess_1 (by decide) (fun h1 => ?_) (fun h1 => ?_)
  · refine q_iconst F (nI 0) dX4_isProcess_14 (by decide) ?_
    refine q_zret F E rfl (by decide) ⟨by first | exact q_bl_1 ⟨by omega, by omega⟩ | exact q_bl_0 (by omega), rfl⟩ dX4_isProcess_15
  · refine q_iload_n F dX4_isProcess_4 rfl ?_
    refine q_bipush F (nI 8) dX4_isProcess_5 (by decide) ?_
    refine q_icmp_ge F 14 dX4_isProcess_7 (by decide) (fun h7 => ?_) (fun h7 => ?_)
    · rw [nI_toInt (by omega)] at h7
      refine q_iconst F (nI 0) dX4_isProcess_14 (by decide) ?_
      refine q_zret F E rfl (by decide) ⟨by first | exact q_bl_1 ⟨by omega, by omega⟩ | exact q_bl_0 (by omega), rfl⟩ dX4_isProcess_15
    · rw [nI_toInt (by omega)] at h7
      refine q_iconst F (nI 1) dX4_isProcess_10 (by decide) ?_
      refine q_goto F 15 dX4_isProcess_11 (by decide) ?_
      refine q_zret F E rfl (by decide) ⟨by first | exact q_bl_1 ⟨by omega, by omega⟩ | exact q_bl_0 (by omega), rfl⟩ dX4_isProcess_15

set_option maxRecDepth 100000 in
set_option maxHeartbeats 4000000 in
theorem t_lives {G : q_g} {n : Nat} {ad : q_ix → Nat} (l : Launch) (S : q_st) (K : k_t) {x : Int32} : q_Ct l G iX4_lives [.inr (some (20, 0)), .inl x] (q_w G n ad) (q_put S K) (q_pi (q_w G n ad) (fun r S' => ((∃ p, p < 8 ∧ x = nI p ∧ q_lvf (K 2) x = some p ∧ r = nI 1) ∨ (q_lvf (K 2) x = none ∧ r = nI 0)) ∧ S' = q_put S K)) := by
  refine q_enter (by decide) (Nat.le_of_ble_eq_true rfl) (fun X F E => ?_)
  show q_W G X iX4_lives (q_w G n ad) (0, 0) 0 [some (.inr (some (20, 0))), some (.inl x)] [] (q_put S K)
  refine q_iload_n F dX4_lives_0 rfl ?_
  refine q_callSi F [.inl x] (fun l => t_isProcess l S K) clX4_68 rfl rfl ⟨Nat.le_of_ble_eq_true rfl, Nat.le_of_ble_eq_true rfl⟩ (Nat.le_of_ble_eq_true rfl) ⟨rfl, rfl⟩ ⟨Nat.zero_le _, Nat.zero_le _⟩ dX4_lives_1 (fun v S' hv => ?_)
  obtain ⟨hv, hS⟩ := hv
  subst hS
  refine q_if_eq F 31 dX4_lives_4 (by decide) (fun h4 => ?_) (fun h4 => ?_)
  · have hx := q_on_none (q_bl_F hv h4)
    refine q_iconst F (nI 0) dX4_lives_31 (by decide) ?_
    refine q_zret F E rfl (by decide) ⟨by first | (refine Or.inr ⟨?_, rfl⟩; simp [q_lvf, hx]; done) | (refine Or.inl ⟨p, hp, rfl, ?_, rfl⟩; simp [q_lvf, hx, h14]; done) | (refine Or.inl ⟨p, hp, rfl, ?_, rfl⟩; simp [q_lvf, hx, h24]; done) | (refine Or.inr ⟨?_, rfl⟩; simp [q_lvf, hx, h14, h24]; done), rfl⟩ dX4_lives_32
  · obtain ⟨p, hp, rfl⟩ := q_ofx (m := 8) (by decide) (q_bl_T hv h4).1 (q_bl_T hv h4).2
    have hx := q_on_some hp
    refine q_aload_n F dX4_lives_7 rfl ?_
    refine q_getr F (k := 3) fkX4_13 q_m20 rfl rfl dX4_lives_8 ?_
    refine q_iload_n F dX4_lives_11 rfl ?_
    refine q_kald F 2 (_) q_m22 rfl rfl rfl (by omega) (by decide) dX4_lives_12 ?_
    refine q_iconst F (nI 1) dX4_lives_13 (by decide) ?_
    refine q_icmp_eq F 27 dX4_lives_14 (by decide) (fun h14 => ?_) (fun h14 => ?_)
    · refine q_iconst F (nI 1) dX4_lives_27 (by decide) ?_
      refine q_goto F 32 dX4_lives_28 (by decide) ?_
      refine q_zret F E rfl (by decide) ⟨by first | (refine Or.inr ⟨?_, rfl⟩; simp [q_lvf, hx]; done) | (refine Or.inl ⟨p, hp, rfl, ?_, rfl⟩; simp [q_lvf, hx, h14]; done) | (refine Or.inl ⟨p, hp, rfl, ?_, rfl⟩; simp [q_lvf, hx, h24]; done) | (refine Or.inr ⟨?_, rfl⟩; simp [q_lvf, hx, h14, h24]; done), rfl⟩ dX4_lives_32
    · refine q_aload_n F dX4_lives_17 rfl ?_
      refine q_getr F (k := 3) fkX4_13 q_m20 rfl rfl dX4_lives_18 ?_
      refine q_iload_n F dX4_lives_21 rfl ?_
      refine q_kald F 2 (_) q_m22 rfl rfl rfl (by omega) (by decide) dX4_lives_22 ?_
      refine q_iconst F (nI 2) dX4_lives_23 (by decide) ?_
      refine q_icmp_ne F 31 dX4_lives_24 (by decide) (fun h24 => ?_) (fun h24 => ?_)
      · refine q_iconst F (nI 0) dX4_lives_31 (by decide) ?_
        refine q_zret F E rfl (by decide) ⟨by first | (refine Or.inr ⟨?_, rfl⟩; simp [q_lvf, hx]; done) | (refine Or.inl ⟨p, hp, rfl, ?_, rfl⟩; simp [q_lvf, hx, h14]; done) | (refine Or.inl ⟨p, hp, rfl, ?_, rfl⟩; simp [q_lvf, hx, h24]; done) | (refine Or.inr ⟨?_, rfl⟩; simp [q_lvf, hx, h14, h24]; done), rfl⟩ dX4_lives_32
      · refine q_iconst F (nI 1) dX4_lives_27 (by decide) ?_
        refine q_goto F 32 dX4_lives_28 (by decide) ?_
        refine q_zret F E rfl (by decide) ⟨by first | (refine Or.inr ⟨?_, rfl⟩; simp [q_lvf, hx]; done) | (refine Or.inl ⟨p, hp, rfl, ?_, rfl⟩; simp [q_lvf, hx, h14]; done) | (refine Or.inl ⟨p, hp, rfl, ?_, rfl⟩; simp [q_lvf, hx, h24]; done) | (refine Or.inr ⟨?_, rfl⟩; simp [q_lvf, hx, h14, h24]; done), rfl⟩ dX4_lives_32

set_option maxRecDepth 100000 in
set_option maxHeartbeats 4000000 in
theorem t_mprinted {G : q_g} {n : Nat} {ad : q_ix → Nat} (l : Launch) (S : q_st) (K : k_t)  : q_Ct l G iX4_printed [.inr (some (20, 0))] (q_w G n ad) (q_put S K) (q_pi (q_w G n ad) (fun r S' => r = K 0 15 ∧ S' = q_put S K)) := by
  refine q_enter (by decide) (Nat.le_of_ble_eq_true rfl) (fun X F E => ?_)
  show q_W G X iX4_printed (q_w G n ad) (0, 0) 0 [some (.inr (some (20, 0)))] [] (q_put S K)
  refine q_aload_n F dX4_printed_0 rfl ?_
  refine q_kgeti F (k := 15) fkX4_95 rfl dX4_printed_1 ?_
  refine q_iret F E rfl ⟨rfl, rfl⟩ dX4_printed_4

set_option maxRecDepth 100000 in
set_option maxHeartbeats 4000000 in
theorem t_mstate {G : q_g} {n : Nat} {ad : q_ix → Nat} (l : Launch) (S : q_st) (K : k_t) {x : Int32} : q_Ct l G iX4_state [.inr (some (20, 0)), .inl x] (q_w G n ad) (q_put S K) (q_pi (q_w G n ad) (fun r S' => r = (match q_on x with | some p => K 2 p | none => -1) ∧ S' = q_put S K)) := by
  refine q_enter (by decide) (Nat.le_of_ble_eq_true rfl) (fun X F E => ?_)
  show q_W G X iX4_state (q_w G n ad) (0, 0) 0 [some (.inr (some (20, 0))), some (.inl x)] [] (q_put S K)
  refine q_iload_n F dX4_state_0 rfl ?_
  refine q_callSi F [.inl x] (fun l => t_isProcess l S K) clX4_68 rfl rfl ⟨Nat.le_of_ble_eq_true rfl, Nat.le_of_ble_eq_true rfl⟩ (Nat.le_of_ble_eq_true rfl) ⟨rfl, rfl⟩ ⟨Nat.zero_le _, Nat.zero_le _⟩ dX4_state_1 (fun v S' hv => ?_)
  obtain ⟨hv, hS⟩ := hv
  subst hS
  refine q_if_eq F 16 dX4_state_4 (by decide) (fun h4 => ?_) (fun h4 => ?_)
  · have hx := q_on_none (q_bl_F hv h4)
    refine q_iconst F (-1) dX4_state_16 (by decide) ?_
    refine q_iret F E rfl ⟨by rw [hx], rfl⟩ dX4_state_17
  · obtain ⟨p, hp, rfl⟩ := q_ofx (m := 8) (by decide) (q_bl_T hv h4).1 (q_bl_T hv h4).2
    have hx := q_on_some hp
    refine q_aload_n F dX4_state_7 rfl ?_
    refine q_getr F (k := 3) fkX4_13 q_m20 rfl rfl dX4_state_8 ?_
    refine q_iload_n F dX4_state_11 rfl ?_
    refine q_kald F 2 (_) q_m22 rfl rfl rfl (by omega) (by decide) dX4_state_12 ?_
    refine q_goto F 17 dX4_state_13 (by decide) ?_
    refine q_iret F E rfl ⟨by rw [hx], rfl⟩ dX4_state_17

set_option maxRecDepth 100000 in
set_option maxHeartbeats 4000000 in
theorem t_mparent {G : q_g} {n : Nat} {ad : q_ix → Nat} (l : Launch) (S : q_st) (K : k_t) {x : Int32} : q_Ct l G iX4_parent [.inr (some (20, 0)), .inl x] (q_w G n ad) (q_put S K) (q_pi (q_w G n ad) (fun r S' => r = (match q_on x with | some p => if K 2 p = 0 then -1 else K 3 p | none => -1) ∧ S' = q_put S K)) := by
  refine q_enter (by decide) (Nat.le_of_ble_eq_true rfl) (fun X F E => ?_)
  show q_W G X iX4_parent (q_w G n ad) (0, 0) 0 [some (.inr (some (20, 0))), some (.inl x)] [] (q_put S K)
  refine q_iload_n F dX4_parent_0 rfl ?_
  refine q_callSi F [.inl x] (fun l => t_isProcess l S K) clX4_68 rfl rfl ⟨Nat.le_of_ble_eq_true rfl, Nat.le_of_ble_eq_true rfl⟩ (Nat.le_of_ble_eq_true rfl) ⟨rfl, rfl⟩ ⟨Nat.zero_le _, Nat.zero_le _⟩ dX4_parent_1 (fun v S' hv => ?_)
  obtain ⟨hv, hS⟩ := hv
  subst hS
  refine q_if_eq F 25 dX4_parent_4 (by decide) (fun h4 => ?_) (fun h4 => ?_)
  · have hx := q_on_none (q_bl_F hv h4)
    refine q_iconst F (-1) dX4_parent_25 (by decide) ?_
    refine q_iret F E rfl ⟨by first | (rw [hx]; done) | (rw [hx]; simp only [h13, if_true, if_false]; done), rfl⟩ dX4_parent_26
  · obtain ⟨p, hp, rfl⟩ := q_ofx (m := 8) (by decide) (q_bl_T hv h4).1 (q_bl_T hv h4).2
    have hx := q_on_some hp
    refine q_aload_n F dX4_parent_7 rfl ?_
    refine q_getr F (k := 3) fkX4_13 q_m20 rfl rfl dX4_parent_8 ?_
    refine q_iload_n F dX4_parent_11 rfl ?_
    refine q_kald F 2 (_) q_m22 rfl rfl rfl (by omega) (by decide) dX4_parent_12 ?_
    refine q_if_eq F 25 dX4_parent_13 (by decide) (fun h13 => ?_) (fun h13 => ?_)
    · refine q_iconst F (-1) dX4_parent_25 (by decide) ?_
      refine q_iret F E rfl ⟨by first | (rw [hx]; done) | (rw [hx]; simp only [h13, if_true, if_false]; done), rfl⟩ dX4_parent_26
    · refine q_aload_n F dX4_parent_16 rfl ?_
      refine q_getr F (k := 4) fkX4_16 q_m20 rfl rfl dX4_parent_17 ?_
      refine q_iload_n F dX4_parent_20 rfl ?_
      refine q_kald F 3 (_) q_m23 rfl rfl rfl (by omega) (by decide) dX4_parent_21 ?_
      refine q_goto F 26 dX4_parent_22 (by decide) ?_
      refine q_iret F E rfl ⟨by first | (rw [hx]; done) | (rw [hx]; simp only [h13, if_true, if_false]; done), rfl⟩ dX4_parent_26

set_option maxRecDepth 100000 in
set_option maxHeartbeats 4000000 in
theorem t_mcode {G : q_g} {n : Nat} {ad : q_ix → Nat} (l : Launch) (S : q_st) (K : k_t) {x : Int32} : q_Ct l G iX4_code [.inr (some (20, 0)), .inl x] (q_w G n ad) (q_put S K) (q_pi (q_w G n ad) (fun r S' => r = (match q_on x with | some p => if K 2 p = nI 3 then K 4 p else 0 | none => 0) ∧ S' = q_put S K)) := by
  refine q_enter (by decide) (Nat.le_of_ble_eq_true rfl) (fun X F E => ?_)
  show q_W G X iX4_code (q_w G n ad) (0, 0) 0 [some (.inr (some (20, 0))), some (.inl x)] [] (q_put S K)
  refine q_iload_n F dX4_code_0 rfl ?_
  refine q_callSi F [.inl x] (fun l => t_isProcess l S K) clX4_68 rfl rfl ⟨Nat.le_of_ble_eq_true rfl, Nat.le_of_ble_eq_true rfl⟩ (Nat.le_of_ble_eq_true rfl) ⟨rfl, rfl⟩ ⟨Nat.zero_le _, Nat.zero_le _⟩ dX4_code_1 (fun v S' hv => ?_)
  obtain ⟨hv, hS⟩ := hv
  subst hS
  refine q_if_eq F 26 dX4_code_4 (by decide) (fun h4 => ?_) (fun h4 => ?_)
  · have hx := q_on_none (q_bl_F hv h4)
    refine q_iconst F (nI 0) dX4_code_26 (by decide) ?_
    refine q_iret F E rfl ⟨by first | (rw [hx]; rfl) | (rw [hx]; simp only [h14, if_true, if_false]; done) | (rw [hx]; simp only [h14, if_false]; rfl), rfl⟩ dX4_code_27
  · obtain ⟨p, hp, rfl⟩ := q_ofx (m := 8) (by decide) (q_bl_T hv h4).1 (q_bl_T hv h4).2
    have hx := q_on_some hp
    refine q_aload_n F dX4_code_7 rfl ?_
    refine q_getr F (k := 3) fkX4_13 q_m20 rfl rfl dX4_code_8 ?_
    refine q_iload_n F dX4_code_11 rfl ?_
    refine q_kald F 2 (_) q_m22 rfl rfl rfl (by omega) (by decide) dX4_code_12 ?_
    refine q_iconst F (nI 3) dX4_code_13 (by decide) ?_
    refine q_icmp_ne F 26 dX4_code_14 (by decide) (fun h14 => ?_) (fun h14 => ?_)
    · refine q_iconst F (nI 0) dX4_code_26 (by decide) ?_
      refine q_iret F E rfl ⟨by first | (rw [hx]; rfl) | (rw [hx]; simp only [h14, if_true, if_false]; done) | (rw [hx]; simp only [h14, if_false]; rfl), rfl⟩ dX4_code_27
    · refine q_aload_n F dX4_code_17 rfl ?_
      refine q_getr F (k := 5) fkX4_19 q_m20 rfl rfl dX4_code_18 ?_
      refine q_iload_n F dX4_code_21 rfl ?_
      refine q_kald F 4 (_) q_m24 rfl rfl rfl (by omega) (by decide) dX4_code_22 ?_
      refine q_goto F 27 dX4_code_23 (by decide) ?_
      refine q_iret F E rfl ⟨by first | (rw [hx]; rfl) | (rw [hx]; simp only [h14, if_true, if_false]; done) | (rw [hx]; simp only [h14, if_false]; rfl), rfl⟩ dX4_code_27

set_option maxRecDepth 100000 in
set_option maxHeartbeats 4000000 in
theorem t_mstage {G : q_g} {n : Nat} {ad : q_ix → Nat} (l : Launch) (S : q_st) (K : k_t) {x w : Int32} : q_Ct l G iX4_stage [.inr (some (20, 0)), .inl x, .inl w] (q_w G n ad) (q_put S K) (q_pi (q_w G n ad) (fun r S' => (r = nI 0 ∧ ¬ (0 ≤ x.toInt ∧ x.toInt < 64) ∧ S' = q_put S K) ∨ (∃ i, i < 64 ∧ x = nI i ∧ r = nI 1 ∧ S' = q_put S (k_u K 1 i w)))) := by
  refine q_enter (by decide) (Nat.le_of_ble_eq_true rfl) (fun X F E => ?_)
  show q_W G X iX4_stage (q_w G n ad) (0, 0) 0 [some (.inr (some (20, 0))), some (.inl x), some (.inl w)] [] (q_put S K)
  refine q_iload_n F dX4_stage_0 rfl ?_
  refine q_if_lt F 10 dX4_stage_1 (by decide) (fun h1 => ?_) (fun h1 => ?_)
  · refine q_iconst F (nI 0) dX4_stage_10 (by decide) ?_
    refine q_zret F E rfl (by decide) (Or.inl ⟨rfl, by omega, rfl⟩) dX4_stage_11
  · refine q_iload_n F dX4_stage_4 rfl ?_
    refine q_bipush F (nI 63) dX4_stage_5 (by decide) ?_
    refine q_icmp_le F 12 dX4_stage_7 (by decide) (fun h7 => ?_) (fun h7 => ?_)
    · rw [nI_toInt (by omega)] at h7
      obtain ⟨i, hi, rfl⟩ := q_ofx (x := x) (m := 64) (by decide) h1 (by omega)
      refine q_aload_n F dX4_stage_12 rfl ?_
      refine q_getr F (k := 2) fkX4_7 q_m20 rfl rfl dX4_stage_13 ?_
      refine q_iload_n F dX4_stage_16 rfl ?_
      refine q_iload_n F dX4_stage_17 rfl ?_
      refine q_kast F 1 (_) q_m21 rfl rfl rfl (by omega) (by decide) dX4_stage_18 ?_
      refine q_iconst F (nI 1) dX4_stage_19 (by decide) ?_
      refine q_zret F E rfl (by decide) (Or.inr ⟨i, hi, rfl, rfl, rfl⟩) dX4_stage_20
    · rw [nI_toInt (by omega)] at h7
      refine q_iconst F (nI 0) dX4_stage_10 (by decide) ?_
      refine q_zret F E rfl (by decide) (Or.inl ⟨rfl, by omega, rfl⟩) dX4_stage_11

set_option maxRecDepth 100000 in
set_option maxHeartbeats 4000000 in
theorem t_mrunning {G : q_g} {n : Nat} {ad : q_ix → Nat} (l : Launch) (S : q_st) (K : k_t) (hc : K 0 12 = -1 ∨ ∃ c, c < 8 ∧ K 0 12 = nI c) : q_Ct l G iX4_running [.inr (some (20, 0))] (q_w G n ad) (q_put S K) (q_pi (q_w G n ad) (fun r S' => ((k_on K ∧ r = K 0 12) ∨ (¬ k_on K ∧ r = -1)) ∧ S' = q_put S K)) := by
  refine q_enter (by decide) (Nat.le_of_ble_eq_true rfl) (fun X F E => ?_)
  show q_W G X iX4_running (q_w G n ad) (0, 0) 0 [some (.inr (some (20, 0)))] [] (q_put S K)
  refine q_aload_n F dX4_running_0 rfl ?_
  refine q_kgeti F (k := 12) fkX4_37 rfl dX4_running_1 ?_
  refine q_iconst F (-1) dX4_running_4 (by decide) ?_
  refine q_icmp_eq F 39 dX4_running_5 (by decide) (fun h5 => ?_) (fun h5 => ?_)
  · refine q_iconst F (-1) dX4_running_39 (by decide) ?_
    refine q_iret F E rfl ⟨by first | exact Or.inl ⟨⟨h5, by rw [hcn]; exact h18, h29⟩, rfl⟩ | exact Or.inr ⟨fun q => q.1 h5, rfl⟩ | exact Or.inr ⟨fun q => h18 (by have := q.2.1; rw [hcn] at this; exact this), rfl⟩ | exact Or.inr ⟨fun q => by have := q.2.2; omega, rfl⟩, rfl⟩ dX4_running_40
  · obtain ⟨c, hc8, hc⟩ : ∃ c, c < 8 ∧ K 0 12 = nI c := hc.resolve_left h5
    have hcn : (K 0 12).toInt.toNat = c := by rw [hc, nI_toInt (by omega)]; rfl
    refine q_aload_n F dX4_running_8 rfl ?_
    refine q_getr F (k := 3) fkX4_13 q_m20 rfl rfl dX4_running_9 ?_
    refine q_aload_n F dX4_running_12 rfl ?_
    refine q_kgeti F (k := 12) fkX4_37 rfl dX4_running_13 ?_
    refine q_top (nI c) hc ?_
    refine q_kald F 2 (_) q_m22 rfl rfl rfl (by omega) (by decide) dX4_running_16 ?_
    refine q_iconst F (nI 1) dX4_running_17 (by decide) ?_
    refine q_icmp_ne F 39 dX4_running_18 (by decide) (fun h18 => ?_) (fun h18 => ?_)
    · refine q_iconst F (-1) dX4_running_39 (by decide) ?_
      refine q_iret F E rfl ⟨by first | exact Or.inl ⟨⟨h5, by rw [hcn]; exact h18, h29⟩, rfl⟩ | exact Or.inr ⟨fun q => q.1 h5, rfl⟩ | exact Or.inr ⟨fun q => h18 (by have := q.2.1; rw [hcn] at this; exact this), rfl⟩ | exact Or.inr ⟨fun q => by have := q.2.2; omega, rfl⟩, rfl⟩ dX4_running_40
    · refine q_aload_n F dX4_running_21 rfl ?_
      refine q_kgeti F (k := 13) fkX4_88 rfl dX4_running_22 ?_
      refine q_aload_n F dX4_running_25 rfl ?_
      refine q_kgeti F (k := 1) fkX4_47 rfl dX4_running_26 ?_
      refine q_icmp_ge F 39 dX4_running_29 (by decide) (fun h29 => ?_) (fun h29 => ?_)
      · refine q_iconst F (-1) dX4_running_39 (by decide) ?_
        refine q_iret F E rfl ⟨by first | exact Or.inl ⟨⟨h5, by rw [hcn]; exact h18, h29⟩, rfl⟩ | exact Or.inr ⟨fun q => q.1 h5, rfl⟩ | exact Or.inr ⟨fun q => h18 (by have := q.2.1; rw [hcn] at this; exact this), rfl⟩ | exact Or.inr ⟨fun q => by have := q.2.2; omega, rfl⟩, rfl⟩ dX4_running_40
      · refine q_aload_n F dX4_running_32 rfl ?_
        refine q_kgeti F (k := 12) fkX4_37 rfl dX4_running_33 ?_
        refine q_goto F 40 dX4_running_36 (by decide) ?_
        refine q_iret F E rfl ⟨by first | exact Or.inl ⟨⟨h5, by rw [hcn]; exact h18, h29⟩, rfl⟩ | exact Or.inr ⟨fun q => q.1 h5, rfl⟩ | exact Or.inr ⟨fun q => h18 (by have := q.2.1; rw [hcn] at this; exact this), rfl⟩ | exact Or.inr ⟨fun q => by have := q.2.2; omega, rfl⟩, rfl⟩ dX4_running_40

set_option maxRecDepth 100000 in
set_option maxHeartbeats 4000000 in
theorem t_mprint {G : q_g} {n : Nat} {ad : q_ix → Nat} (l : Launch) (S : q_st) (K : k_t) {c : Nat} {k : Int32} (hc : K 0 15 = nI c) (hc2 : c < 2 ^ 30) : q_Ct l G iX4_print [.inr (some (20, 0)), .inl k] (q_w G n ad) (q_put S K) (q_pi (q_w G n ad) (fun r S' => (r = if 0 ≤ k.toInt ∧ k.toInt < 32 ∧ k.toInt < c then K 10 ((c - 1 - k.toInt.toNat) % 32) else 0) ∧ S' = q_put S K)) := by
  refine q_enter (by decide) (Nat.le_of_ble_eq_true rfl) (fun X F E => ?_)
  show q_W G X iX4_print (q_w G n ad) (0, 0) 0 [some (.inr (some (20, 0))), some (.inl k)] [] (q_put S K)
  refine q_iload_n F dX4_print_0 rfl ?_
  refine q_if_lt F 37 dX4_print_1 (by decide) (fun h1 => ?_) (fun h1 => ?_)
  · refine q_iconst F (nI 0) dX4_print_37 (by decide) ?_
    refine q_iret F E rfl ⟨by first | (rw [nI_toInt (by omega), if_pos ⟨by omega, by omega, by omega⟩, Int.toNat_natCast]; done) | (rw [if_neg (by omega)]; rfl), rfl⟩ dX4_print_38
  · refine q_iload_n F dX4_print_4 rfl ?_
    refine q_bipush F (nI 32) dX4_print_5 (by decide) ?_
    refine q_icmp_ge F 37 dX4_print_7 (by decide) (fun h7 => ?_) (fun h7 => ?_)
    · rw [nI_toInt (by omega)] at h7
      refine q_iconst F (nI 0) dX4_print_37 (by decide) ?_
      refine q_iret F E rfl ⟨by first | (rw [nI_toInt (by omega), if_pos ⟨by omega, by omega, by omega⟩, Int.toNat_natCast]; done) | (rw [if_neg (by omega)]; rfl), rfl⟩ dX4_print_38
    · rw [nI_toInt (by omega)] at h7
      refine q_iload_n F dX4_print_10 rfl ?_
      refine q_aload_n F dX4_print_11 rfl ?_
      refine q_kgeti F (k := 15) fkX4_95 rfl dX4_print_12 ?_
      refine q_top (nI c) hc ?_
      refine q_icmp_ge F 37 dX4_print_15 (by decide) (fun h15 => ?_) (fun h15 => ?_)
      · rw [nI_toInt (by omega)] at h15
        refine q_iconst F (nI 0) dX4_print_37 (by decide) ?_
        refine q_iret F E rfl ⟨by first | (rw [nI_toInt (by omega), if_pos ⟨by omega, by omega, by omega⟩, Int.toNat_natCast]; done) | (rw [if_neg (by omega)]; rfl), rfl⟩ dX4_print_38
      · rw [nI_toInt (by omega)] at h15
        obtain ⟨j, hj, rfl⟩ := q_ofx (x := k) (m := 32) (by decide) h1 (by omega)
        rw [nI_toInt (by omega)] at h1 h7 h15
        have hjc : j < c := by omega
        refine q_aload_n F dX4_print_18 rfl ?_
        refine q_getr F (k := 16) fkX4_41 q_m20 rfl rfl dX4_print_19 ?_
        refine q_aload_n F dX4_print_22 rfl ?_
        refine q_kgeti F (k := 15) fkX4_95 rfl dX4_print_23 ?_
        refine q_top (nI c) hc ?_
        refine q_iconst F (nI 1) dX4_print_26 (by decide) ?_
        refine q_isubN F dX4_print_27 (by omega) ?_
        refine q_iload_n F dX4_print_28 rfl ?_
        refine q_isubN F dX4_print_29 (by omega) ?_
        refine q_bipush F (nI 32) dX4_print_30 (by decide) ?_
        refine q_iremN F dX4_print_32 (by omega) (by omega) (by omega) ?_
        refine q_kald F 10 (_) q_m30 rfl rfl rfl (by omega) (by decide) dX4_print_33 ?_
        refine q_goto F 38 dX4_print_34 (by decide) ?_
        refine q_iret F E rfl ⟨by first | (rw [nI_toInt (by omega), if_pos ⟨by omega, by omega, by omega⟩, Int.toNat_natCast]; done) | (rw [if_neg (by omega)]; rfl), rfl⟩ dX4_print_38

set_option maxRecDepth 100000 in
set_option maxHeartbeats 4000000 in
theorem t_mfree {G : q_g} {n : Nat} {ad : q_ix → Nat} (l : Launch) (S : q_st) (K : k_t) {p : Nat} (hp : p < 8) : q_Ct l G iX4_free [.inr (some (20, 0)), .inl (nI p)] (q_w G n ad) (q_put S K) (q_pv (q_w G n ad) (fun S' => S' = q_put S (k_free K p))) := by
  refine q_enter (by decide) (Nat.le_of_ble_eq_true rfl) (fun X F E => ?_)
  show q_W G X iX4_free (q_w G n ad) (0, 0) 0 [some (.inr (some (20, 0))), some (.inl (nI p))] [] (q_put S K)
  refine q_aload_n F dX4_free_0 rfl ?_
  refine q_getr F (k := 3) fkX4_13 q_m20 rfl rfl dX4_free_1 ?_
  refine q_iload_n F dX4_free_4 rfl ?_
  refine q_iconst F (nI 0) dX4_free_5 (by decide) ?_
  refine q_kast F 2 (_) q_m22 rfl rfl rfl (by omega) (by decide) dX4_free_6 ?_
  refine q_aload_n F dX4_free_7 rfl ?_
  refine q_getr F (k := 4) fkX4_16 q_m20 rfl rfl dX4_free_8 ?_
  refine q_iload_n F dX4_free_11 rfl ?_
  refine q_iconst F (-1) dX4_free_12 (by decide) ?_
  refine q_kast F 3 (_) q_m23 rfl rfl rfl (by omega) (by decide) dX4_free_13 ?_
  refine q_vret F E rfl rfl dX4_free_14

theorem k_rl_fill (K : k_t) (g : Nat) : k_fill (k_u K 9 g (nI 0)) 8 (8 * g) 8 (fun _ => 0) = k_rl K g := by
  funext a j
  unfold k_fill k_u k_rl
  by_cases h8 : a = 8
  · subst h8
    by_cases hj : j / 8 = g
    · rw [if_pos ⟨rfl, by omega, by omega⟩, if_neg (by simp), if_pos ⟨rfl, hj⟩]
    · rw [if_neg (by rintro ⟨-, a, b⟩; omega), if_neg (by simp), if_neg (by simp), if_neg (fun q => hj q.2)]
  · rw [if_neg (fun q => h8 q.1)]
    by_cases h9 : a = 9 ∧ j = g
    · rw [if_pos h9, if_pos h9]
      rfl
    · rw [if_neg h9, if_neg h9, if_neg (fun q => h8 q.1)]

set_option maxRecDepth 100000 in
set_option maxHeartbeats 4000000 in
theorem lp_release {G : q_g} {n : Nat} {ad : q_ix → Nat} {X : q_cx} (F : q_fx G X iX4_release) {S : q_st} {K : k_t} {g : Nat} (hg : g < 64) (E : q_en G X iX4_release (q_pv (q_w G n ad) (fun S' => S' = q_put S (k_rl K g)))) : ∀ k, k ≤ 8 → q_W G X iX4_release (q_w G n ad) (0, 0) 9 [some (.inr (some (20, 0))), some (.inl (nI g)), some (.inl (nI k))] [] (q_put S (k_fill (k_u K 9 g (nI 0)) 8 (8 * g) k (fun _ => 0))) := by
  refine q_loop (fun k hk ih => ?_)
  refine q_iload_n F dX4_release_9 rfl ?_
  refine q_bipush F (nI 8) dX4_release_10 (by decide) ?_
  refine q_icmpN_ge F 33 dX4_release_12 (by decide) (by omega) (by omega) (fun h12 => ?_) (fun h12 => ?_)
  · obtain rfl : k = 8 := by omega
    refine q_vret F E rfl (by rw [k_rl_fill]) dX4_release_33
  · refine q_aload_n F dX4_release_15 rfl ?_
    refine q_getr F (k := 9) fkX4_31 q_m20 rfl rfl dX4_release_16 ?_
    refine q_bipush F (nI 8) dX4_release_19 (by decide) ?_
    refine q_iload_n F dX4_release_21 rfl ?_
    refine q_imulN F dX4_release_22 ?_
    refine q_iload_n F dX4_release_23 rfl ?_
    refine q_iaddN F dX4_release_24 ?_
    refine q_iconst F (nI 0) dX4_release_25 (by decide) ?_
    refine q_kast F 8 (_) q_m28 rfl rfl rfl (by omega) (by decide) dX4_release_26 ?_
    rw [k_fill_s _ _ _ _ (fun _ => 0) (nI 0) rfl]
    refine q_iinc_2 F _ dX4_release_27 (q_inc1 _) (by decide) ?_
    exact q_goto F 9 dX4_release_30 (by decide) (ih h12)

set_option maxRecDepth 100000 in
set_option maxHeartbeats 4000000 in
theorem t_release {G : q_g} {n : Nat} {ad : q_ix → Nat} (l : Launch) (S : q_st) (K : k_t) {g : Nat} (hg : g < 64) : q_Ct l G iX4_release [.inr (some (20, 0)), .inl (nI g)] (q_w G n ad) (q_put S K) (q_pv (q_w G n ad) (fun S' => S' = q_put S (k_rl K g))) := by
  refine q_enter (by decide) (Nat.le_of_ble_eq_true rfl) (fun X F E => ?_)
  show q_W G X iX4_release (q_w G n ad) (0, 0) 0 [some (.inr (some (20, 0))), some (.inl (nI g)), none] [] (q_put S K)
  refine q_aload_n F dX4_release_0 rfl ?_
  refine q_getr F (k := 10) fkX4_34 q_m20 rfl rfl dX4_release_1 ?_
  refine q_iload_n F dX4_release_4 rfl ?_
  refine q_iconst F (nI 0) dX4_release_5 (by decide) ?_
  refine q_kast F 9 (_) q_m29 rfl rfl rfl (by omega) (by decide) dX4_release_6 ?_
  refine q_iconst F (nI 0) dX4_release_7 (by decide) ?_
  refine q_istore_n_2 F dX4_release_8 (by decide) ?_
  have h := lp_release F hg E 0 (by decide)
  rw [k_fill_0] at h
  exact h

set_option maxRecDepth 100000 in
set_option maxHeartbeats 4000000 in
theorem lp_mfirstFree {G : q_g} {n : Nat} {ad : q_ix → Nat} {X : q_cx} (F : q_fx G X iX4_firstFree) {S : q_st} {K : k_t} (E : q_en G X iX4_firstFree (q_pi (q_w G n ad) (fun r S' => r = q_fe (k_ff K) ∧ S' = q_put S K))) : ∀ k, k ≤ 8 → (∀ i, i < k → ¬ K 2 i = 0) → q_W G X iX4_firstFree (q_w G n ad) (0, 0) 2 [some (.inr (some (20, 0))), some (.inl (nI k))] [] (q_put S K) := by
  refine q_loop (fun k hk ih => ?_)
  intro hall
  refine q_iload_n F dX4_firstFree_2 rfl ?_
  refine q_bipush F (nI 8) dX4_firstFree_3 (by decide) ?_
  refine q_icmpN_ge F 25 dX4_firstFree_5 (by decide) (by omega) (by omega) (fun h5 => ?_) (fun h5 => ?_)
  · obtain rfl : k = 8 := by omega
    refine q_iconst F (-1) dX4_firstFree_25 (by decide) ?_
    refine q_iret F E rfl ⟨by unfold k_ff; rw [f_st_none hall]; rfl, rfl⟩ dX4_firstFree_26
  · refine q_aload_n F dX4_firstFree_8 rfl ?_
    refine q_getr F (k := 3) fkX4_13 q_m20 rfl rfl dX4_firstFree_9 ?_
    refine q_iload_n F dX4_firstFree_12 rfl ?_
    refine q_kald F 2 (_) q_m22 rfl rfl rfl (by omega) (by decide) dX4_firstFree_13 ?_
    refine q_if_ne F 19 dX4_firstFree_14 (by decide) (fun h14 => ?_) (fun h14 => ?_)
    · refine q_iinc_1 F _ dX4_firstFree_19 (q_inc1 _) (by decide) ?_
      exact q_goto F 2 dX4_firstFree_22 (by decide) (ih h5 (lt_s hall h14))
    · refine q_iload_n F dX4_firstFree_17 rfl ?_
      refine q_iret F E rfl ⟨by unfold k_ff; rw [f_st_some h14 hall h5]; rfl, rfl⟩ dX4_firstFree_18

set_option maxRecDepth 100000 in
set_option maxHeartbeats 4000000 in
theorem t_mfirstFree {G : q_g} {n : Nat} {ad : q_ix → Nat} (l : Launch) (S : q_st) (K : k_t)  : q_Ct l G iX4_firstFree [.inr (some (20, 0))] (q_w G n ad) (q_put S K) (q_pi (q_w G n ad) (fun r S' => r = q_fe (k_ff K) ∧ S' = q_put S K)) := by
  refine q_enter (by decide) (Nat.le_of_ble_eq_true rfl) (fun X F E => ?_)
  show q_W G X iX4_firstFree (q_w G n ad) (0, 0) 0 [some (.inr (some (20, 0))), none] [] (q_put S K)
  refine q_iconst F (nI 0) dX4_firstFree_0 (by decide) ?_
  refine q_istore_n_1 F dX4_firstFree_1 (by decide) ?_
  exact lp_mfirstFree F E 0 (by decide) (fun i hi => absurd hi (Nat.not_lt_zero i))

set_option maxRecDepth 100000 in
set_option maxHeartbeats 4000000 in
theorem lp_sharers {G : q_g} {n : Nat} {ad : q_ix → Nat} {X : q_cx} (F : q_fx G X iX4_sharers) {S : q_st} {K : k_t} {g : Nat} (hg : g < 64) (E : q_en G X iX4_sharers (q_pi (q_w G n ad) (fun r S' => r = nI (k_sh K g) ∧ S' = q_put S K))) : ∀ k, k ≤ 64 → q_W G X iX4_sharers (q_w G n ad) (0, 0) 4 [some (.inr (some (20, 0))), some (.inl (nI g)), some (.inl (nI (c_n (fun k => 0 < (K 9 g).toInt ∧ K 9 k = K 9 g) k))), some (.inl (nI k))] [] (q_put S K) := by
  refine q_loop (fun k hk ih => ?_)
  refine q_iload_n F dX4_sharers_4 rfl ?_
  refine q_bipush F (nI 64) dX4_sharers_5 (by decide) ?_
  refine q_icmpN_ge F 48 dX4_sharers_7 (by decide) (by omega) (by omega) (fun h7 => ?_) (fun h7 => ?_)
  · obtain rfl : k = 64 := by omega
    refine q_iload_n F dX4_sharers_48 rfl ?_
    refine q_iret F E rfl ⟨rfl, rfl⟩ dX4_sharers_49
  · refine q_iload_n F dX4_sharers_10 rfl ?_
    refine q_aload_n F dX4_sharers_11 rfl ?_
    refine q_getr F (k := 10) fkX4_34 q_m20 rfl rfl dX4_sharers_12 ?_
    refine q_iload_n F dX4_sharers_15 rfl ?_
    refine q_kald F 9 (_) q_m29 rfl rfl rfl (by omega) (by decide) dX4_sharers_16 ?_
    refine q_if_le F 39 dX4_sharers_17 (by decide) (fun h17 => ?_) (fun h17 => ?_)
    · refine q_iconst F (nI 0) dX4_sharers_39 (by decide) ?_
      refine q_iaddN F dX4_sharers_40 ?_
      refine q_top (nI (c_n (fun k => 0 < (K 9 g).toInt ∧ K 9 k = K 9 g) (k + 1))) (by first | rw [c_n_pos (P := (fun k => 0 < (K 9 g).toInt ∧ K 9 k = K 9 g)) ⟨h17, h32⟩] | (rw [c_n_neg (P := (fun k => 0 < (K 9 g).toInt ∧ K 9 k = K 9 g)) (fun q => h32 q.2)]; rfl) | (rw [c_n_neg (P := (fun k => 0 < (K 9 g).toInt ∧ K 9 k = K 9 g)) (fun q => Int.not_lt.mpr h17 q.1)]; rfl)) ?_
      refine q_istore_n_2 F dX4_sharers_41 (by decide) ?_
      refine q_iinc_3 F _ dX4_sharers_42 (q_inc1 _) (by decide) ?_
      exact q_goto F 4 dX4_sharers_45 (by decide) (ih h7)
    · refine q_aload_n F dX4_sharers_20 rfl ?_
      refine q_getr F (k := 10) fkX4_34 q_m20 rfl rfl dX4_sharers_21 ?_
      refine q_iload_n F dX4_sharers_24 rfl ?_
      refine q_kald F 9 (_) q_m29 rfl rfl rfl (by omega) (by decide) dX4_sharers_25 ?_
      refine q_aload_n F dX4_sharers_26 rfl ?_
      refine q_getr F (k := 10) fkX4_34 q_m20 rfl rfl dX4_sharers_27 ?_
      refine q_iload_n F dX4_sharers_30 rfl ?_
      refine q_kald F 9 (_) q_m29 rfl rfl rfl (by omega) (by decide) dX4_sharers_31 ?_
      refine q_icmp_ne F 39 dX4_sharers_32 (by decide) (fun h32 => ?_) (fun h32 => ?_)
      · refine q_iconst F (nI 0) dX4_sharers_39 (by decide) ?_
        refine q_iaddN F dX4_sharers_40 ?_
        refine q_top (nI (c_n (fun k => 0 < (K 9 g).toInt ∧ K 9 k = K 9 g) (k + 1))) (by first | rw [c_n_pos (P := (fun k => 0 < (K 9 g).toInt ∧ K 9 k = K 9 g)) ⟨h17, h32⟩] | (rw [c_n_neg (P := (fun k => 0 < (K 9 g).toInt ∧ K 9 k = K 9 g)) (fun q => h32 q.2)]; rfl) | (rw [c_n_neg (P := (fun k => 0 < (K 9 g).toInt ∧ K 9 k = K 9 g)) (fun q => Int.not_lt.mpr h17 q.1)]; rfl)) ?_
        refine q_istore_n_2 F dX4_sharers_41 (by decide) ?_
        refine q_iinc_3 F _ dX4_sharers_42 (q_inc1 _) (by decide) ?_
        exact q_goto F 4 dX4_sharers_45 (by decide) (ih h7)
      · refine q_iconst F (nI 1) dX4_sharers_35 (by decide) ?_
        refine q_goto F 40 dX4_sharers_36 (by decide) ?_
        refine q_iaddN F dX4_sharers_40 ?_
        refine q_top (nI (c_n (fun k => 0 < (K 9 g).toInt ∧ K 9 k = K 9 g) (k + 1))) (by first | rw [c_n_pos (P := (fun k => 0 < (K 9 g).toInt ∧ K 9 k = K 9 g)) ⟨h17, h32⟩] | (rw [c_n_neg (P := (fun k => 0 < (K 9 g).toInt ∧ K 9 k = K 9 g)) (fun q => h32 q.2)]; rfl) | (rw [c_n_neg (P := (fun k => 0 < (K 9 g).toInt ∧ K 9 k = K 9 g)) (fun q => Int.not_lt.mpr h17 q.1)]; rfl)) ?_
        refine q_istore_n_2 F dX4_sharers_41 (by decide) ?_
        refine q_iinc_3 F _ dX4_sharers_42 (q_inc1 _) (by decide) ?_
        exact q_goto F 4 dX4_sharers_45 (by decide) (ih h7)

set_option maxRecDepth 100000 in
set_option maxHeartbeats 4000000 in
theorem t_sharers {G : q_g} {n : Nat} {ad : q_ix → Nat} (l : Launch) (S : q_st) (K : k_t) {g : Nat} (hg : g < 64) : q_Ct l G iX4_sharers [.inr (some (20, 0)), .inl (nI g)] (q_w G n ad) (q_put S K) (q_pi (q_w G n ad) (fun r S' => r = nI (k_sh K g) ∧ S' = q_put S K)) := by
  refine q_enter (by decide) (Nat.le_of_ble_eq_true rfl) (fun X F E => ?_)
  show q_W G X iX4_sharers (q_w G n ad) (0, 0) 0 [some (.inr (some (20, 0))), some (.inl (nI g)), none, none] [] (q_put S K)
  refine q_iconst F (nI 0) dX4_sharers_0 (by decide) ?_
  refine q_istore_n_2 F dX4_sharers_1 (by decide) ?_
  refine q_iconst F (nI 0) dX4_sharers_2 (by decide) ?_
  refine q_istore_n_3 F dX4_sharers_3 (by decide) ?_
  exact lp_sharers F hg E 0 (by decide)

set_option maxRecDepth 100000 in
set_option maxHeartbeats 4000000 in
theorem lp_frames_in {G : q_g} {n : Nat} {ad : q_ix → Nat} {X : q_cx} (F : q_fx G X iX4_frames) {S : q_st} {K : k_t} {c g : Nat} (hg : g < 64) (kk : ∀ v, q_bl v ((fun g => 0 < (K 9 g).toInt ∧ ∀ j, j < g → ¬ K 9 j = K 9 g) g) → q_W G X iX4_frames (q_w G n ad) (0, 0) 66 [some (.inr (some (20, 0))), some (.inl (nI c)), some (.inl (nI g)), some (.inl v), none] [] (q_put S K)) : ∀ j, j ≤ g → ∀ v, q_bl v (0 < (K 9 g).toInt ∧ ∀ i, i < j → ¬ K 9 i = K 9 g) → q_W G X iX4_frames (q_w G n ad) (0, 0) 28 [some (.inr (some (20, 0))), some (.inl (nI c)), some (.inl (nI g)), some (.inl v), some (.inl (nI j))] [] (q_put S K) := by
  refine q_loop (fun j hj ih => ?_)
  intro v hv
  refine q_iload F dX4_frames_28 rfl ?_
  refine q_iload_n F dX4_frames_30 rfl ?_
  refine q_icmpN_ge F 66 dX4_frames_31 (by decide) (by omega) (by omega) (fun h31 => ?_) (fun h31 => ?_)
  · obtain rfl : j = g := by omega
    exact q_drop_4 (kk v hv)
  · refine q_iload_n F dX4_frames_34 rfl ?_
    refine q_if_eq F 58 dX4_frames_35 (by decide) (fun h35 => ?_) (fun h35 => ?_)
    · refine q_iconst F (nI 0) dX4_frames_58 (by decide) ?_
      refine q_istore_n_3 F dX4_frames_59 (by decide) ?_
      refine q_iinc_4 F _ dX4_frames_60 (q_inc1 _) (by decide) ?_
      refine q_goto F 28 dX4_frames_63 (by decide) (ih h31 _ ?_)
      first | exact q_bl_1 ⟨(q_bl_T hv h35).1, lt_s (q_bl_T hv h35).2 h51⟩ | exact q_bl_0 (fun q => q_bl_F hv h35 ⟨q.1, fun i hi => q.2 i (by omega)⟩) | exact q_bl_0 (fun q => q.2 j (by omega) h51)
    · refine q_aload_n F dX4_frames_38 rfl ?_
      refine q_getr F (k := 10) fkX4_34 q_m20 rfl rfl dX4_frames_39 ?_
      refine q_iload F dX4_frames_42 rfl ?_
      refine q_kald F 9 (_) q_m29 rfl rfl rfl (by omega) (by decide) dX4_frames_44 ?_
      refine q_aload_n F dX4_frames_45 rfl ?_
      refine q_getr F (k := 10) fkX4_34 q_m20 rfl rfl dX4_frames_46 ?_
      refine q_iload_n F dX4_frames_49 rfl ?_
      refine q_kald F 9 (_) q_m29 rfl rfl rfl (by omega) (by decide) dX4_frames_50 ?_
      refine q_icmp_eq F 58 dX4_frames_51 (by decide) (fun h51 => ?_) (fun h51 => ?_)
      · refine q_iconst F (nI 0) dX4_frames_58 (by decide) ?_
        refine q_istore_n_3 F dX4_frames_59 (by decide) ?_
        refine q_iinc_4 F _ dX4_frames_60 (q_inc1 _) (by decide) ?_
        refine q_goto F 28 dX4_frames_63 (by decide) (ih h31 _ ?_)
        first | exact q_bl_1 ⟨(q_bl_T hv h35).1, lt_s (q_bl_T hv h35).2 h51⟩ | exact q_bl_0 (fun q => q_bl_F hv h35 ⟨q.1, fun i hi => q.2 i (by omega)⟩) | exact q_bl_0 (fun q => q.2 j (by omega) h51)
      · refine q_iconst F (nI 1) dX4_frames_54 (by decide) ?_
        refine q_goto F 59 dX4_frames_55 (by decide) ?_
        refine q_istore_n_3 F dX4_frames_59 (by decide) ?_
        refine q_iinc_4 F _ dX4_frames_60 (q_inc1 _) (by decide) ?_
        refine q_goto F 28 dX4_frames_63 (by decide) (ih h31 _ ?_)
        first | exact q_bl_1 ⟨(q_bl_T hv h35).1, lt_s (q_bl_T hv h35).2 h51⟩ | exact q_bl_0 (fun q => q_bl_F hv h35 ⟨q.1, fun i hi => q.2 i (by omega)⟩) | exact q_bl_0 (fun q => q.2 j (by omega) h51)

set_option maxRecDepth 100000 in
set_option maxHeartbeats 4000000 in
theorem lp_frames_66 {G : q_g} {n : Nat} {ad : q_ix → Nat} {X : q_cx} (F : q_fx G X iX4_frames) {S : q_st} {K : k_t} {g : Nat} (h7 : g < 64) (ih : g < 64 → q_W G X iX4_frames (q_w G n ad) (0, 0) 4 [some (.inr (some (20, 0))), some (.inl (nI (c_n (fun g => 0 < (K 9 g).toInt ∧ ∀ j, j < g → ¬ K 9 j = K 9 g) (g + 1)))), some (.inl (nI (g + 1))), none, none] [] (q_put S K)) (v : Int32) (hv : q_bl v ((fun g => 0 < (K 9 g).toInt ∧ ∀ j, j < g → ¬ K 9 j = K 9 g) g)) : q_W G X iX4_frames (q_w G n ad) (0, 0) 66 [some (.inr (some (20, 0))), some (.inl (nI (c_n (fun g => 0 < (K 9 g).toInt ∧ ∀ j, j < g → ¬ K 9 j = K 9 g) g))), some (.inl (nI g)), some (.inl v), none] [] (q_put S K) := by
  refine q_iload_n F dX4_frames_66 rfl ?_
  refine q_iload_n F dX4_frames_67 rfl ?_
  refine q_if_eq F 75 dX4_frames_68 (by decide) (fun h68 => ?_) (fun h68 => ?_)
  · refine q_iconst F (nI 0) dX4_frames_75 (by decide) ?_
    refine q_iaddN F dX4_frames_76 ?_
    refine q_top (nI (c_n (fun g => 0 < (K 9 g).toInt ∧ ∀ j, j < g → ¬ K 9 j = K 9 g) (g + 1))) (by first | rw [c_n_pos (P := (fun g => 0 < (K 9 g).toInt ∧ ∀ j, j < g → ¬ K 9 j = K 9 g)) (q_bl_T hv h68)] | (rw [c_n_neg (P := (fun g => 0 < (K 9 g).toInt ∧ ∀ j, j < g → ¬ K 9 j = K 9 g)) (q_bl_F hv h68)]; rfl)) ?_
    refine q_istore_n_1 F dX4_frames_77 (by decide) ?_
    refine q_iinc_2 F _ dX4_frames_78 (q_inc1 _) (by decide) ?_
    exact q_goto F 4 dX4_frames_81 (by decide) (q_drop_3 (ih h7))
  · refine q_iconst F (nI 1) dX4_frames_71 (by decide) ?_
    refine q_goto F 76 dX4_frames_72 (by decide) ?_
    refine q_iaddN F dX4_frames_76 ?_
    refine q_top (nI (c_n (fun g => 0 < (K 9 g).toInt ∧ ∀ j, j < g → ¬ K 9 j = K 9 g) (g + 1))) (by first | rw [c_n_pos (P := (fun g => 0 < (K 9 g).toInt ∧ ∀ j, j < g → ¬ K 9 j = K 9 g)) (q_bl_T hv h68)] | (rw [c_n_neg (P := (fun g => 0 < (K 9 g).toInt ∧ ∀ j, j < g → ¬ K 9 j = K 9 g)) (q_bl_F hv h68)]; rfl)) ?_
    refine q_istore_n_1 F dX4_frames_77 (by decide) ?_
    refine q_iinc_2 F _ dX4_frames_78 (q_inc1 _) (by decide) ?_
    exact q_goto F 4 dX4_frames_81 (by decide) (q_drop_3 (ih h7))

set_option maxRecDepth 100000 in
set_option maxHeartbeats 4000000 in
theorem lp_frames {G : q_g} {n : Nat} {ad : q_ix → Nat} {X : q_cx} (F : q_fx G X iX4_frames) {S : q_st} {K : k_t} (E : q_en G X iX4_frames (q_pi (q_w G n ad) (fun r S' => r = nI (k_fr K) ∧ S' = q_put S K))) : ∀ g, g ≤ 64 → q_W G X iX4_frames (q_w G n ad) (0, 0) 4 [some (.inr (some (20, 0))), some (.inl (nI (c_n (fun g => 0 < (K 9 g).toInt ∧ ∀ j, j < g → ¬ K 9 j = K 9 g) g))), some (.inl (nI g)), none, none] [] (q_put S K) := by
  refine q_loop (fun g hg ih => ?_)
  refine q_iload_n F dX4_frames_4 rfl ?_
  refine q_bipush F (nI 64) dX4_frames_5 (by decide) ?_
  refine q_icmpN_ge F 84 dX4_frames_7 (by decide) (by omega) (by omega) (fun h7 => ?_) (fun h7 => ?_)
  · obtain rfl : g = 64 := by omega
    refine q_iload_n F dX4_frames_84 rfl ?_
    refine q_iret F E rfl ⟨rfl, rfl⟩ dX4_frames_85
  · refine q_aload_n F dX4_frames_10 rfl ?_
    refine q_getr F (k := 10) fkX4_34 q_m20 rfl rfl dX4_frames_11 ?_
    refine q_iload_n F dX4_frames_14 rfl ?_
    refine q_kald F 9 (_) q_m29 rfl rfl rfl (by omega) (by decide) dX4_frames_15 ?_
    refine q_if_le F 23 dX4_frames_16 (by decide) (fun h16 => ?_) (fun h16 => ?_)
    · refine q_iconst F (nI 0) dX4_frames_23 (by decide) ?_
      refine q_istore_n_3 F dX4_frames_24 (by decide) ?_
      refine q_iconst F (nI 0) dX4_frames_25 (by decide) ?_
      refine q_istore_4 F dX4_frames_26 (by decide) ?_
      refine lp_frames_in F (by omega) ?_ 0 (by omega) _ (by first | exact q_bl_1 ⟨h16, fun i hi => absurd hi (Nat.not_lt_zero i)⟩ | exact q_bl_0 (fun q => by have := q.1; omega))
      intro v hv
      exact lp_frames_66 F h7 ih v hv
    · refine q_iconst F (nI 1) dX4_frames_19 (by decide) ?_
      refine q_goto F 24 dX4_frames_20 (by decide) ?_
      refine q_istore_n_3 F dX4_frames_24 (by decide) ?_
      refine q_iconst F (nI 0) dX4_frames_25 (by decide) ?_
      refine q_istore_4 F dX4_frames_26 (by decide) ?_
      refine lp_frames_in F (by omega) ?_ 0 (by omega) _ (by first | exact q_bl_1 ⟨h16, fun i hi => absurd hi (Nat.not_lt_zero i)⟩ | exact q_bl_0 (fun q => by have := q.1; omega))
      intro v hv
      exact lp_frames_66 F h7 ih v hv

set_option maxRecDepth 100000 in
set_option maxHeartbeats 4000000 in
theorem t_mframes {G : q_g} {n : Nat} {ad : q_ix → Nat} (l : Launch) (S : q_st) (K : k_t)  : q_Ct l G iX4_frames [.inr (some (20, 0))] (q_w G n ad) (q_put S K) (q_pi (q_w G n ad) (fun r S' => r = nI (k_fr K) ∧ S' = q_put S K)) := by
  refine q_enter (by decide) (Nat.le_of_ble_eq_true rfl) (fun X F E => ?_)
  show q_W G X iX4_frames (q_w G n ad) (0, 0) 0 [some (.inr (some (20, 0))), none, none, none, none] [] (q_put S K)
  refine q_iconst F (nI 0) dX4_frames_0 (by decide) ?_
  refine q_istore_n_1 F dX4_frames_1 (by decide) ?_
  refine q_iconst F (nI 0) dX4_frames_2 (by decide) ?_
  refine q_istore_n_2 F dX4_frames_3 (by decide) ?_
  exact lp_frames F E 0 (by decide)

set_option maxRecDepth 100000 in
set_option maxHeartbeats 4000000 in
theorem t_alone {G : q_g} {n : Nat} {ad : q_ix → Nat} (l : Launch) (S : q_st) (K : k_t) {g : Nat} (hg : g < 64) : q_Ct l G iX4_alone [.inr (some (20, 0)), .inl (nI g)] (q_w G n ad) (q_put S K) (q_pi (q_w G n ad) (fun r S' => ((r = nI 0 ∧ (k_al K g).1 = false) ∨ (r = nI 1 ∧ (k_al K g).1 = true)) ∧ S' = q_put S (k_al K g).2)) := by
  refine q_enter (by decide) (Nat.le_of_ble_eq_true rfl) (fun X F E => ?_)
  show q_W G X iX4_alone (q_w G n ad) (0, 0) 0 [some (.inr (some (20, 0))), some (.inl (nI g))] [] (q_put S K)
  refine q_aload_n F dX4_alone_0 rfl ?_
  refine q_callVi F [] (fun l => t_mframes l S K) clX4_50 rfl q_m20 rfl rfl rfl ⟨Nat.le_of_ble_eq_true rfl, Nat.le_of_ble_eq_true rfl⟩ (Nat.le_of_ble_eq_true rfl) ⟨rfl, rfl⟩ ⟨Nat.zero_le _, Nat.zero_le _⟩ dX4_alone_1 (fun v S' hv => ?_)
  obtain ⟨hv, hS⟩ := hv
  subst hS
  subst hv
  refine q_aload_n F dX4_alone_4 rfl ?_
  refine q_kgeti F (k := 0) fkX4_44 rfl dX4_alone_5 ?_
  refine q_icmp_ne F 19 dX4_alone_8 (by decide) (fun h8 => ?_) (fun h8 => ?_)
  · refine q_aload_n F dX4_alone_19 rfl ?_
    refine q_dup F dX4_alone_20 ?_
    refine q_kgeti F (k := 11) fkX4_57 rfl dX4_alone_21 ?_
    refine q_iconst F (nI 1) dX4_alone_24 (by decide) ?_
    refine q_iadd F dX4_alone_25 ?_
    refine q_kputi F (k := 11) fkX4_57 fp4_11 rfl dX4_alone_26 ?_
    refine q_aload_n F dX4_alone_29 rfl ?_
    refine q_getr F (k := 10) fkX4_34 q_m20 rfl rfl dX4_alone_30 ?_
    refine q_iload_n F dX4_alone_33 rfl ?_
    refine q_aload_n F dX4_alone_34 rfl ?_
    refine q_kgeti F (k := 11) fkX4_57 rfl dX4_alone_35 ?_
    refine q_kast F 9 (_) q_m29 rfl rfl rfl (by omega) (by decide) dX4_alone_38 ?_
    refine q_iconst F (nI 1) dX4_alone_39 (by decide) ?_
    refine q_zret F E rfl (by decide) (by have e : k_al K g = (true, k_u (k_u K 0 11 (K 0 11 + 1)) 9 g (K 0 11 + 1)) := (by unfold k_al; rw [if_neg h8]); rw [e]; exact ⟨Or.inr ⟨rfl, rfl⟩, rfl⟩) dX4_alone_40
  · refine q_aload_n F dX4_alone_11 rfl ?_
    refine q_bipush F (-13) dX4_alone_12 (by decide) ?_
    refine q_kputi F (k := 14) fkX4_54 fp4_14 rfl dX4_alone_14 ?_
    refine q_iconst F (nI 0) dX4_alone_17 (by decide) ?_
    refine q_zret F E rfl (by decide) (by have e : k_al K g = (false, k_u K 0 14 (-13)) := (by unfold k_al; rw [if_pos h8]); rw [e]; exact ⟨Or.inl ⟨rfl, rfl⟩, rfl⟩) dX4_alone_18

theorem k_re_out {K : k_t} {p : Nat} {a : Int32} {wr : Bool} (h : a.toInt < 0 ∨ (K 7 p).toInt ≤ a.toInt) : k_re K p a wr = (false, k_u K 0 14 (-11)) := by
  unfold k_re
  rw [if_pos h]
theorem k_re_in {K : k_t} {p b : Nat} {wr : Bool} (hb : b < 64) (h : (b : Int) < (K 7 p).toInt) : k_re K p (nI b) wr = k_pg K (8 * p + b / 8) wr := by
  unfold k_re
  rw [nI_toInt (by omega), if_neg (by omega), Int.toNat_natCast]
theorem k_pg_t {K : k_t} {g : Nat} {wr : Bool} (h : 0 < k_sh K g) (h2 : wr = false ∨ k_sh K g = 1) : k_pg K g wr = (true, K) := by
  unfold k_pg
  rw [if_pos ⟨h, h2⟩]
theorem k_pg_f {K : k_t} {g : Nat} {wr : Bool} (h : ¬ (0 < k_sh K g ∧ (wr = false ∨ k_sh K g = 1))) : k_pg K g wr = k_al K g := by
  unfold k_pg
  rw [if_neg h]

set_option maxRecDepth 100000 in
set_option maxHeartbeats 4000000 in
theorem t_reach {G : q_g} {n : Nat} {ad : q_ix → Nat} (l : Launch) (S : q_st) (K : k_t) {p : Nat} (hp : p < 8) {a w : Int32} {wr : Bool} (hw : q_bl w (wr = true)) (hb : (K 7 p).toInt ≤ 64) : q_Ct l G iX4_reach [.inr (some (20, 0)), .inl (nI p), .inl a, .inl w] (q_w G n ad) (q_put S K) (q_pi (q_w G n ad) (fun r S' => ((r = nI 0 ∧ (k_re K p a (wr)).1 = false) ∨ (r = nI 1 ∧ (k_re K p a (wr)).1 = true)) ∧ S' = q_put S (k_re K p a (wr)).2)) := by
  refine q_enter (by decide) (Nat.le_of_ble_eq_true rfl) (fun X F E => ?_)
  show q_W G X iX4_reach (q_w G n ad) (0, 0) 0 [some (.inr (some (20, 0))), some (.inl (nI p)), some (.inl a), some (.inl w), none, none] [] (q_put S K)
  refine q_iload_n F dX4_reach_0 rfl ?_
  refine q_if_lt F 14 dX4_reach_1 (by decide) (fun h1 => ?_) (fun h1 => ?_)
  · refine q_aload_n F dX4_reach_14 rfl ?_
    refine q_bipush F (-11) dX4_reach_15 (by decide) ?_
    refine q_kputi F (k := 14) fkX4_54 fp4_14 rfl dX4_reach_17 ?_
    refine q_iconst F (nI 0) dX4_reach_20 (by decide) ?_
    refine q_zret F E rfl (by decide) (by rw [k_re_out (by omega)]; exact ⟨Or.inl ⟨rfl, rfl⟩, rfl⟩) dX4_reach_21
  · refine q_iload_n F dX4_reach_4 rfl ?_
    refine q_aload_n F dX4_reach_5 rfl ?_
    refine q_getr F (k := 8) fkX4_28 q_m20 rfl rfl dX4_reach_6 ?_
    refine q_iload_n F dX4_reach_9 rfl ?_
    refine q_kald F 7 (_) q_m27 rfl rfl rfl (by omega) (by decide) dX4_reach_10 ?_
    refine q_icmp_lt F 22 dX4_reach_11 (by decide) (fun h11 => ?_) (fun h11 => ?_)
    · obtain ⟨b, hb64, rfl⟩ := q_ofx (x := a) (m := 64) (by decide) h1 (by omega)
      rw [nI_toInt (by omega)] at h1 h11
      have hk : k_re K p (nI b) wr = k_pg K (8 * p + b / 8) wr := k_re_in hb64 h11
      refine q_bipush F (nI 8) dX4_reach_22 (by decide) ?_
      refine q_iload_n F dX4_reach_24 rfl ?_
      refine q_imulN F dX4_reach_25 ?_
      refine q_iload_n F dX4_reach_26 rfl ?_
      refine q_bipush F (nI 8) dX4_reach_27 (by decide) ?_
      refine q_idivN F dX4_reach_29 (by omega) (by omega) (by omega) ?_
      refine q_iaddN F dX4_reach_30 ?_
      refine q_istore_4 F dX4_reach_31 (by decide) ?_
      refine q_aload_n F dX4_reach_33 rfl ?_
      refine q_iload F dX4_reach_34 rfl ?_
      refine q_callVi F [.inl (nI (8 * p + b / 8))] (fun l => t_sharers l S K (by omega)) clX4_60 rfl q_m20 rfl rfl rfl ⟨Nat.le_of_ble_eq_true rfl, Nat.le_of_ble_eq_true rfl⟩ (Nat.le_of_ble_eq_true rfl) ⟨rfl, rfl⟩ ⟨Nat.zero_le _, Nat.zero_le _⟩ dX4_reach_36 (fun v S' hv => ?_)
      obtain ⟨hv, hS⟩ := hv
      subst hS
      subst hv
      have hsh : k_sh K (8 * p + b / 8) ≤ 64 := c_n_le _ _
      refine q_istore_5 F dX4_reach_39 (by decide) ?_
      refine q_iload F dX4_reach_41 rfl ?_
      refine q_ifN_le F 56 dX4_reach_43 (by decide) (by omega) (fun h43 => ?_) (fun h43 => ?_)
      · refine q_aload_n F dX4_reach_56 rfl ?_
        refine q_iload F dX4_reach_57 rfl ?_
        refine q_callVi F [.inl (nI (8 * p + b / 8))] (fun l => t_alone l S K (by omega)) clX4_64 rfl q_m20 rfl rfl rfl ⟨Nat.le_of_ble_eq_true rfl, Nat.le_of_ble_eq_true rfl⟩ (Nat.le_of_ble_eq_true rfl) ⟨rfl, rfl⟩ ⟨Nat.zero_le _, Nat.zero_le _⟩ dX4_reach_59 (fun v S' hv => ?_)
        obtain ⟨hv, hS⟩ := hv
        subst hS
        have hal : k_pg K (8 * p + b / 8) wr = k_al K (8 * p + b / 8) := k_pg_f (by first | (intro q; omega) | (intro q; rcases q.2 with q2 | q2 <;> first | (have := q_bl_T hw h47; rw [q2] at this; cases this) | omega))
        refine q_if_eq F 69 dX4_reach_62 (by decide) (fun h62 => ?_) (fun h62 => ?_)
        · refine q_iconst F (nI 0) dX4_reach_69 (by decide) ?_
          refine q_zret F E rfl (by decide) (by first | (rw [hk, k_pg_t (by omega) (Or.inl (by have := q_bl_F hw h47; simpa using this))]; exact ⟨Or.inr ⟨rfl, rfl⟩, rfl⟩) | (rw [hk, k_pg_t (by omega) (Or.inr h53)]; exact ⟨Or.inr ⟨rfl, rfl⟩, rfl⟩) | (rw [hk, hal]; rcases hv with ⟨rfl, hv⟩ | ⟨rfl, hv⟩ <;> first | exact ⟨Or.inl ⟨rfl, hv⟩, rfl⟩ | exact ⟨Or.inr ⟨rfl, hv⟩, rfl⟩ | exact absurd h62 (by decide))) dX4_reach_70
        · refine q_iconst F (nI 1) dX4_reach_65 (by decide) ?_
          refine q_goto F 70 dX4_reach_66 (by decide) ?_
          refine q_zret F E rfl (by decide) (by first | (rw [hk, k_pg_t (by omega) (Or.inl (by have := q_bl_F hw h47; simpa using this))]; exact ⟨Or.inr ⟨rfl, rfl⟩, rfl⟩) | (rw [hk, k_pg_t (by omega) (Or.inr h53)]; exact ⟨Or.inr ⟨rfl, rfl⟩, rfl⟩) | (rw [hk, hal]; rcases hv with ⟨rfl, hv⟩ | ⟨rfl, hv⟩ <;> first | exact ⟨Or.inl ⟨rfl, hv⟩, rfl⟩ | exact ⟨Or.inr ⟨rfl, hv⟩, rfl⟩ | exact absurd h62 (by decide))) dX4_reach_70
      · refine q_iload_n F dX4_reach_46 rfl ?_
        refine q_if_eq F 65 dX4_reach_47 (by decide) (fun h47 => ?_) (fun h47 => ?_)
        · refine q_iconst F (nI 1) dX4_reach_65 (by decide) ?_
          refine q_goto F 70 dX4_reach_66 (by decide) ?_
          refine q_zret F E rfl (by decide) (by first | (rw [hk, k_pg_t (by omega) (Or.inl (by have := q_bl_F hw h47; simpa using this))]; exact ⟨Or.inr ⟨rfl, rfl⟩, rfl⟩) | (rw [hk, k_pg_t (by omega) (Or.inr h53)]; exact ⟨Or.inr ⟨rfl, rfl⟩, rfl⟩) | (rw [hk, hal]; rcases hv with ⟨rfl, hv⟩ | ⟨rfl, hv⟩ <;> first | exact ⟨Or.inl ⟨rfl, hv⟩, rfl⟩ | exact ⟨Or.inr ⟨rfl, hv⟩, rfl⟩ | exact absurd h62 (by decide))) dX4_reach_70
        · refine q_iload F dX4_reach_50 rfl ?_
          refine q_iconst F (nI 1) dX4_reach_52 (by decide) ?_
          refine q_icmpN_eq F 65 dX4_reach_53 (by decide) (by omega) (by omega) (fun h53 => ?_) (fun h53 => ?_)
          · refine q_iconst F (nI 1) dX4_reach_65 (by decide) ?_
            refine q_goto F 70 dX4_reach_66 (by decide) ?_
            refine q_zret F E rfl (by decide) (by first | (rw [hk, k_pg_t (by omega) (Or.inl (by have := q_bl_F hw h47; simpa using this))]; exact ⟨Or.inr ⟨rfl, rfl⟩, rfl⟩) | (rw [hk, k_pg_t (by omega) (Or.inr h53)]; exact ⟨Or.inr ⟨rfl, rfl⟩, rfl⟩) | (rw [hk, hal]; rcases hv with ⟨rfl, hv⟩ | ⟨rfl, hv⟩ <;> first | exact ⟨Or.inl ⟨rfl, hv⟩, rfl⟩ | exact ⟨Or.inr ⟨rfl, hv⟩, rfl⟩ | exact absurd h62 (by decide))) dX4_reach_70
          · refine q_aload_n F dX4_reach_56 rfl ?_
            refine q_iload F dX4_reach_57 rfl ?_
            refine q_callVi F [.inl (nI (8 * p + b / 8))] (fun l => t_alone l S K (by omega)) clX4_64 rfl q_m20 rfl rfl rfl ⟨Nat.le_of_ble_eq_true rfl, Nat.le_of_ble_eq_true rfl⟩ (Nat.le_of_ble_eq_true rfl) ⟨rfl, rfl⟩ ⟨Nat.zero_le _, Nat.zero_le _⟩ dX4_reach_59 (fun v S' hv => ?_)
            obtain ⟨hv, hS⟩ := hv
            subst hS
            have hal : k_pg K (8 * p + b / 8) wr = k_al K (8 * p + b / 8) := k_pg_f (by first | (intro q; omega) | (intro q; rcases q.2 with q2 | q2 <;> first | (have := q_bl_T hw h47; rw [q2] at this; cases this) | omega))
            refine q_if_eq F 69 dX4_reach_62 (by decide) (fun h62 => ?_) (fun h62 => ?_)
            · refine q_iconst F (nI 0) dX4_reach_69 (by decide) ?_
              refine q_zret F E rfl (by decide) (by first | (rw [hk, k_pg_t (by omega) (Or.inl (by have := q_bl_F hw h47; simpa using this))]; exact ⟨Or.inr ⟨rfl, rfl⟩, rfl⟩) | (rw [hk, k_pg_t (by omega) (Or.inr h53)]; exact ⟨Or.inr ⟨rfl, rfl⟩, rfl⟩) | (rw [hk, hal]; rcases hv with ⟨rfl, hv⟩ | ⟨rfl, hv⟩ <;> first | exact ⟨Or.inl ⟨rfl, hv⟩, rfl⟩ | exact ⟨Or.inr ⟨rfl, hv⟩, rfl⟩ | exact absurd h62 (by decide))) dX4_reach_70
            · refine q_iconst F (nI 1) dX4_reach_65 (by decide) ?_
              refine q_goto F 70 dX4_reach_66 (by decide) ?_
              refine q_zret F E rfl (by decide) (by first | (rw [hk, k_pg_t (by omega) (Or.inl (by have := q_bl_F hw h47; simpa using this))]; exact ⟨Or.inr ⟨rfl, rfl⟩, rfl⟩) | (rw [hk, k_pg_t (by omega) (Or.inr h53)]; exact ⟨Or.inr ⟨rfl, rfl⟩, rfl⟩) | (rw [hk, hal]; rcases hv with ⟨rfl, hv⟩ | ⟨rfl, hv⟩ <;> first | exact ⟨Or.inl ⟨rfl, hv⟩, rfl⟩ | exact ⟨Or.inr ⟨rfl, hv⟩, rfl⟩ | exact absurd h62 (by decide))) dX4_reach_70
    · refine q_aload_n F dX4_reach_14 rfl ?_
      refine q_bipush F (-11) dX4_reach_15 (by decide) ?_
      refine q_kputi F (k := 14) fkX4_54 fp4_14 rfl dX4_reach_17 ?_
      refine q_iconst F (nI 0) dX4_reach_20 (by decide) ?_
      refine q_zret F E rfl (by decide) (by rw [k_re_out (by omega)]; exact ⟨Or.inl ⟨rfl, rfl⟩, rfl⟩) dX4_reach_21
