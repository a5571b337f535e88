/-! the class: its other public methods (rows laid by wip/whole/m59.py) -/
theorem q_lv_T {S : q_st} {K : k_t} {x : Int32} (hT : q_T S K) (h : ∃ p, p < 8 ∧ x = nI p ∧ (S (5, p) 0 = nI 1 ∨ S (5, p) 0 = nI 2)) : ∃ p, p < 8 ∧ x = nI p ∧ q_lvf (K 2) x = some p := by
  obtain ⟨p, hp, rfl, hs⟩ := h
  rw [(hT.2.1 p hp).1] at hs
  refine ⟨p, hp, rfl, ?_⟩
  unfold q_lvf
  rw [q_on_some hp]
  simp only []
  rw [if_pos hs]
theorem q_lv_F {S : q_st} {K : k_t} {x : Int32} (hT : q_T S K) (h : ¬ ∃ p, p < 8 ∧ x = nI p ∧ (S (5, p) 0 = nI 1 ∨ S (5, p) 0 = nI 2)) : q_lvf (K 2) x = none := by
  unfold q_lvf
  by_cases hx : 0 ≤ x.toInt ∧ x.toInt < 8
  · obtain ⟨p, hp, rfl⟩ := q_ofx (x := x) (m := 8) (by decide) hx.1 hx.2
    rw [q_on_some hp]
    simp only []
    rw [if_neg]
    intro q
    exact h ⟨p, hp, rfl, by rw [(hT.2.1 p hp).1]; exact q⟩
  · rw [q_on_none hx]
theorem q_on_F {x : Int32} (h : ∀ p, p < 8 → ¬ x = nI p) : q_on x = none := by
  refine q_on_none (fun q => ?_)
  obtain ⟨p, hp, rfl⟩ := q_ofx (x := x) (m := 8) (by decide) q.1 q.2
  exact h p hp rfl

set_option maxRecDepth 100000 in
set_option maxHeartbeats 4000000 in
theorem t_state {G : q_g} {n : Nat} {ad : q_ix → Nat} (l : Launch) (S0 : q_st) {K : k_t} {L B : Nat} (hF : q_F S0 K n L B) {x : Int32} : q_Ct l G iX3_state [.inr (some (0, 0)), .inl x] (q_w G n ad) (S0) (q_pi (q_w G n ad) (fun r S' => r = (match q_on x with | some p => K 2 p | none => -1) ∧ S' = S0)) := by
  refine q_enter (by decide) (Nat.le_of_ble_eq_true rfl) (fun X F E => ?_)
  show q_W G X iX3_state (q_w G n ad) (0, 0) 0 [some (.inr (some (0, 0))), some (.inl x)] [] (S0)
  obtain ⟨hok, hT0, hC, pg, us, lab, hR, hZ⟩ := id hF
  refine q_iload_n F dX3_state_0 rfl ?_
  refine q_callSi F [.inl x] (fun l => t_isNumber l S0) clX3_87 rfl rfl ⟨Nat.le_of_ble_eq_true rfl, Nat.le_of_ble_eq_true rfl⟩ (Nat.le_of_ble_eq_true rfl) ⟨rfl, rfl⟩ ⟨Nat.zero_le _, Nat.zero_le _⟩ dX3_state_1 (fun v1 S1 hv1 => ?_)
  obtain ⟨hv1, hS1⟩ := hv1
  have hS1 := hS1.symm
  subst hS1
  refine q_if_eq F 19 dX3_state_4 (by decide) (fun h4 => ?_) (fun h4 => ?_)
  · have hx := q_on_none (q_bl_F hv1 h4)
    refine q_iconst F (-1) dX3_state_19 (by decide) ?_
    refine q_iret F E rfl ⟨by rw [hx], rfl⟩ dX3_state_20
  · obtain ⟨p, hp, rfl⟩ := q_ofx (m := 8) (by decide) (q_bl_T hv1 h4).1 (q_bl_T hv1 h4).2
    have hx := q_on_some hp
    obtain ⟨t0, t1, t2, t3, t4⟩ := hT0.2.1 p hp
    refine q_aload_n F dX3_state_7 rfl ?_
    refine q_getr F (k := 1) fkX3_20 q_m0 rfl rfl dX3_state_8 ?_
    refine q_iload_n F dX3_state_11 rfl ?_
    refine q_aald F (_) q_m4 rfl rfl (by omega) (by decide) rfl dX3_state_12 ?_
    refine q_geti F (k := 0) fkX3_90 (q_m5 (by omega)) rfl rfl dX3_state_13 ?_
    refine q_top (K 2 p) t0 ?_
    refine q_goto F 20 dX3_state_16 (by decide) ?_
    refine q_iret F E rfl ⟨by rw [hx], rfl⟩ dX3_state_20

set_option maxRecDepth 100000 in
set_option maxHeartbeats 4000000 in
theorem t_parent {G : q_g} {n : Nat} {ad : q_ix → Nat} (l : Launch) (S0 : q_st) {K : k_t} {L B : Nat} (hF : q_F S0 K n L B) {x : Int32} : q_Ct l G iX3_parent [.inr (some (0, 0)), .inl x] (q_w G n ad) (S0) (q_pi (q_w G n ad) (fun r S' => r = (match q_on x with | some p => if K 2 p = 0 then -1 else K 3 p | none => -1) ∧ S' = S0)) := by
  refine q_enter (by decide) (Nat.le_of_ble_eq_true rfl) (fun X F E => ?_)
  show q_W G X iX3_parent (q_w G n ad) (0, 0) 0 [some (.inr (some (0, 0))), some (.inl x)] [] (S0)
  obtain ⟨hok, hT0, hC, pg, us, lab, hR, hZ⟩ := id hF
  refine q_iload_n F dX3_parent_0 rfl ?_
  refine q_callSi F [.inl x] (fun l => t_isNumber l S0) clX3_87 rfl rfl ⟨Nat.le_of_ble_eq_true rfl, Nat.le_of_ble_eq_true rfl⟩ (Nat.le_of_ble_eq_true rfl) ⟨rfl, rfl⟩ ⟨Nat.zero_le _, Nat.zero_le _⟩ dX3_parent_1 (fun v1 S1 hv1 => ?_)
  obtain ⟨hv1, hS1⟩ := hv1
  have hS1 := hS1.symm
  subst hS1
  refine q_if_eq F 19 dX3_parent_4 (by decide) (fun h4 => ?_) (fun h4 => ?_)
  · have hx := q_on_none (q_bl_F hv1 h4)
    refine q_iconst F (-1) dX3_parent_19 (by decide) ?_
    refine q_iret F E rfl ⟨by rw [hx], rfl⟩ dX3_parent_20
  · obtain ⟨p, hp, rfl⟩ := q_ofx (m := 8) (by decide) (q_bl_T hv1 h4).1 (q_bl_T hv1 h4).2
    have hx := q_on_some hp
    obtain ⟨t0, t1, t2, t3, t4⟩ := hT0.2.1 p hp
    refine q_aload_n F dX3_parent_7 rfl ?_
    refine q_getr F (k := 1) fkX3_20 q_m0 rfl rfl dX3_parent_8 ?_
    refine q_iload_n F dX3_parent_11 rfl ?_
    refine q_aald F (_) q_m4 rfl rfl (by omega) (by decide) rfl dX3_parent_12 ?_
    refine q_geti F (k := 1) fkX3_81 (q_m5 (by omega)) rfl rfl dX3_parent_13 ?_
    refine q_top (if K 2 p = 0 then -1 else K 3 p) (by rw [show S0 (5, p) 1 = K 3 p from t1]; split; exact (hok.1 p hp).2.2.2 ‹_›; rfl) ?_
    refine q_goto F 20 dX3_parent_16 (by decide) ?_
    refine q_iret F E rfl ⟨by rw [hx], rfl⟩ dX3_parent_20

theorem q_code0 {S : q_st} {K : k_t} {x : Int32} (hT : q_T S K) (h : ¬ ∃ p, p < 8 ∧ x = nI p ∧ S (5, p) 0 = nI 3) : (0 : Int32) = (match q_on x with | some p => if K 2 p = nI 3 then K 4 p else 0 | none => 0) := by
  by_cases hx : 0 ≤ x.toInt ∧ x.toInt < 8
  · obtain ⟨p, hp, rfl⟩ := q_ofx (x := x) (m := 8) (by decide) hx.1 hx.2
    rw [q_on_some hp]
    simp only []
    rw [if_neg]
    intro q
    exact h ⟨p, hp, rfl, by rw [(hT.2.1 p hp).1]; exact q⟩
  · rw [q_on_none hx]

set_option maxRecDepth 100000 in
set_option maxHeartbeats 4000000 in
theorem t_code {G : q_g} {n : Nat} {ad : q_ix → Nat} (l : Launch) (S0 : q_st) {K : k_t} {L B : Nat} (hF : q_F S0 K n L B) {x : Int32} : q_Ct l G iX3_code [.inr (some (0, 0)), .inl x] (q_w G n ad) (S0) (q_pi (q_w G n ad) (fun r S' => r = (match q_on x with | some p => if K 2 p = nI 3 then K 4 p else 0 | none => 0) ∧ S' = S0)) := by
  refine q_enter (by decide) (Nat.le_of_ble_eq_true rfl) (fun X F E => ?_)
  show q_W G X iX3_code (q_w G n ad) (0, 0) 0 [some (.inr (some (0, 0))), some (.inl x)] [] (S0)
  obtain ⟨hok, hT0, hC, pg, us, lab, hR, hZ⟩ := id hF
  refine q_aload_n F dX3_code_0 rfl ?_
  refine q_iload_n F dX3_code_1 rfl ?_
  refine q_callVi F [.inl x] (fun l => t_isZombie l S0) clX3_78 rfl q_m0 rfl rfl rfl ⟨Nat.le_of_ble_eq_true rfl, Nat.le_of_ble_eq_true rfl⟩ (Nat.le_of_ble_eq_true rfl) ⟨rfl, rfl⟩ ⟨Nat.zero_le _, Nat.zero_le _⟩ dX3_code_2 (fun v1 S1 hv1 => ?_)
  obtain ⟨hv1, hS1⟩ := hv1
  have hS1 := hS1.symm
  subst hS1
  refine q_if_eq F 20 dX3_code_5 (by decide) (fun h5 => ?_) (fun h5 => ?_)
  · have hz := q_bl_F hv1 h5
    refine q_iconst F (nI 0) dX3_code_20 (by decide) ?_
    exact q_iret F E rfl ⟨q_code0 hT0 hz, rfl⟩ dX3_code_21
  · obtain ⟨p, hp, rfl, hz⟩ := q_bl_T hv1 h5
    have hx := q_on_some hp
    obtain ⟨t0, t1, t2, t3, t4⟩ := hT0.2.1 p hp
    rw [t0] at hz
    refine q_aload_n F dX3_code_8 rfl ?_
    refine q_getr F (k := 1) fkX3_20 q_m0 rfl rfl dX3_code_9 ?_
    refine q_iload_n F dX3_code_12 rfl ?_
    refine q_aald F (_) q_m4 rfl rfl (by omega) (by decide) rfl dX3_code_13 ?_
    refine q_geti F (k := 2) fkX3_93 (q_m5 (by omega)) rfl rfl dX3_code_14 ?_
    refine q_top (K 4 p) t2 ?_
    refine q_goto F 21 dX3_code_17 (by decide) ?_
    refine q_iret F E rfl ⟨by rw [hx]; simp only []; rw [if_pos hz], rfl⟩ dX3_code_21

set_option maxRecDepth 100000 in
set_option maxHeartbeats 4000000 in
theorem t_reap {G : q_g} {n : Nat} {ad : q_ix → Nat} (l : Launch) (S0 : q_st) {K : k_t} {L B : Nat} (hF : q_F S0 K n L B) {x : Int32} : q_Ct l G iX3_reap [.inr (some (0, 0)), .inl x] (q_w G n ad) (S0) (q_pi (q_w G n ad) (fun r S' => (∃ p, p < 8 ∧ x = nI p ∧ K 2 p = nI 3 ∧ K 3 p = -1 ∧ r = K 4 p ∧ q_F S' (k_free K p) n L B ∧ q_fr S0 S') ∨ ((∀ p, p < 8 → x = nI p → ¬ (K 2 p = nI 3 ∧ K 3 p = -1)) ∧ r = -1 ∧ S' = S0))) := by
  refine q_enter (by decide) (Nat.le_of_ble_eq_true rfl) (fun X F E => ?_)
  show q_W G X iX3_reap (q_w G n ad) (0, 0) 0 [some (.inr (some (0, 0))), some (.inl x)] [] (S0)
  obtain ⟨hok, hT0, hC, pg, us, lab, hR, hZ⟩ := id hF
  refine q_aload_n F dX3_reap_0 rfl ?_
  refine q_iload_n F dX3_reap_1 rfl ?_
  refine q_callVi F [.inl x] (fun l => t_isZombie l S0) clX3_78 rfl q_m0 rfl rfl rfl ⟨Nat.le_of_ble_eq_true rfl, Nat.le_of_ble_eq_true rfl⟩ (Nat.le_of_ble_eq_true rfl) ⟨rfl, rfl⟩ ⟨Nat.zero_le _, Nat.zero_le _⟩ dX3_reap_2 (fun v1 S1 hv1 => ?_)
  obtain ⟨hv1, hS1⟩ := hv1
  have hS1 := hS1.symm
  subst hS1
  refine q_if_eq F 21 dX3_reap_5 (by decide) (fun h5 => ?_) (fun h5 => ?_)
  · have hz := q_bl_F hv1 h5
    refine q_iconst F (-1) dX3_reap_21 (by decide) ?_
    exact q_iret F E rfl (Or.inr ⟨fun p hp he hh => hz ⟨p, hp, he, by rw [(hT0.2.1 p hp).1]; exact hh.1⟩, rfl, rfl⟩) dX3_reap_22
  · obtain ⟨p, hp, rfl, hz⟩ := q_bl_T hv1 h5
    have hx := q_on_some hp
    obtain ⟨t0, t1, t2, t3, t4⟩ := hT0.2.1 p hp
    rw [t0] at hz
    refine q_aload_n F dX3_reap_8 rfl ?_
    refine q_getr F (k := 1) fkX3_20 q_m0 rfl rfl dX3_reap_9 ?_
    refine q_iload_n F dX3_reap_12 rfl ?_
    refine q_aald F (_) q_m4 rfl rfl (by omega) (by decide) rfl dX3_reap_13 ?_
    refine q_geti F (k := 1) fkX3_81 (q_m5 (by omega)) rfl rfl dX3_reap_14 ?_
    refine q_top (K 3 p) t1 ?_
    refine q_iconst F (-1) dX3_reap_17 (by decide) ?_
    refine q_icmp_eq F 23 dX3_reap_18 (by decide) (fun h18 => ?_) (fun h18 => ?_)
    · refine q_aload_n F dX3_reap_23 rfl ?_
      refine q_getr F (k := 1) fkX3_20 q_m0 rfl rfl dX3_reap_24 ?_
      refine q_iload_n F dX3_reap_27 rfl ?_
      refine q_aald F (_) q_m4 rfl rfl (by omega) (by decide) rfl dX3_reap_28 ?_
      refine q_callVi F [] (fun l => t_vacate l S0 hp) clX3_84 rfl (q_m5 (by omega)) rfl rfl rfl ⟨Nat.le_of_ble_eq_true rfl, Nat.le_of_ble_eq_true rfl⟩ (Nat.le_of_ble_eq_true rfl) ⟨rfl, rfl⟩ ⟨Nat.zero_le _, Nat.zero_le _⟩ dX3_reap_29 (fun v2 S2 hv2 => ?_)
      obtain ⟨rfl, rfl⟩ := hv2
      refine q_iret F E rfl (Or.inl ⟨p, hp, rfl, hz, h18, t2, (q_F_free hp hz hF).1, (q_F_free hp hz hF).2⟩) dX3_reap_32
    · refine q_iconst F (-1) dX3_reap_21 (by decide) ?_
      refine q_iret F E rfl (Or.inr ⟨fun q hq he hh => by rw [nI_eq (by omega) (by omega)] at he; subst he; exact h18 hh.2, rfl, rfl⟩) dX3_reap_22

set_option maxRecDepth 100000 in
set_option maxHeartbeats 4000000 in
theorem t_kill {G : q_g} {n : Nat} {ad : q_ix → Nat} (l : Launch) (S0 : q_st) {K : k_t} {L B : Nat} (hF : q_F S0 K n L B) {x : Int32} : q_Ct l G iX3_kill [.inr (some (0, 0)), .inl x] (q_w G n ad) (S0) (q_pi (q_w G n ad) (fun r S' => (∃ p, p < 8 ∧ x = nI p ∧ q_lvf (K 2) x = some p ∧ r = nI 1 ∧ q_F S' (k_en K p (-14)) n L B ∧ q_fr S0 S') ∨ (q_lvf (K 2) x = none ∧ r = nI 0 ∧ S' = S0))) := by
  refine q_enter (by decide) (Nat.le_of_ble_eq_true rfl) (fun X F E => ?_)
  show q_W G X iX3_kill (q_w G n ad) (0, 0) 0 [some (.inr (some (0, 0))), some (.inl x)] [] (S0)
  obtain ⟨hok, hT0, hC, pg, us, lab, hR, hZ⟩ := id hF
  refine q_aload_n F dX3_kill_0 rfl ?_
  refine q_iload_n F dX3_kill_1 rfl ?_
  refine q_callVi F [.inl x] (fun l => t_isLive l S0) clX3_70 rfl q_m0 rfl rfl rfl ⟨Nat.le_of_ble_eq_true rfl, Nat.le_of_ble_eq_true rfl⟩ (Nat.le_of_ble_eq_true rfl) ⟨rfl, rfl⟩ ⟨Nat.zero_le _, Nat.zero_le _⟩ dX3_kill_2 (fun v1 S1 hv1 => ?_)
  obtain ⟨hv1, hS1⟩ := hv1
  have hS1 := hS1.symm
  subst hS1
  refine q_if_ne F 10 dX3_kill_5 (by decide) (fun h5 => ?_) (fun h5 => ?_)
  · obtain ⟨p, hp, rfl, hx⟩ := q_lv_T hT0 (q_bl_T hv1 h5)
    obtain ⟨t0, t1, t2, t3, t4⟩ := hT0.2.1 p hp
    obtain ⟨b0, hb064, hb0⟩ := (hok.1 p hp).2.2.1
    refine q_aload_n F dX3_kill_10 rfl ?_
    refine q_iload_n F dX3_kill_11 rfl ?_
    refine q_bipush F (-14) dX3_kill_12 (by decide) ?_
    refine q_callVi F [.inl (nI p), .inl (-14)] (fun l => t_end l S0 hp hF) clX3_74 rfl q_m0 rfl rfl rfl ⟨Nat.le_of_ble_eq_true rfl, Nat.le_of_ble_eq_true rfl⟩ (Nat.le_of_ble_eq_true rfl) ⟨rfl, rfl⟩ ⟨Nat.zero_le _, Nat.zero_le _⟩ dX3_kill_14 (fun v2 S2 hv2 => ?_)
    obtain ⟨-, hv2, hv3⟩ := hv2
    refine q_pop F dX3_kill_17 ?_
    refine q_iconst F (nI 1) dX3_kill_18 (by decide) ?_
    refine q_zret F E rfl (by decide) (Or.inl ⟨p, hp, rfl, hx, rfl, hv2, hv3⟩) dX3_kill_19
  · have hx := q_lv_F hT0 (q_bl_F hv1 h5)
    refine q_iconst F (nI 0) dX3_kill_8 (by decide) ?_
    refine q_zret F E rfl (by decide) (Or.inr ⟨hx, rfl, rfl⟩) dX3_kill_9

set_option maxRecDepth 100000 in
set_option maxHeartbeats 4000000 in
theorem t_register {G : q_g} {n : Nat} {ad : q_ix → Nat} (l : Launch) (S0 : q_st) {K : k_t} {L B : Nat} (hF : q_F S0 K n L B) {x y : Int32} : q_Ct l G iX3_register [.inr (some (0, 0)), .inl x, .inl y] (q_w G n ad) (S0) (q_pi (q_w G n ad) (fun r S' => r = (match q_lvf (K 2) x with | some p => if 0 ≤ y.toInt ∧ y.toInt < 10 then (if y.toInt = 8 then K 6 p else if y.toInt = 9 then K 7 p else K 5 (8 * p + y.toInt.toNat)) else 0 | none => 0) ∧ S' = S0)) := by
  refine q_enter (by decide) (Nat.le_of_ble_eq_true rfl) (fun X F E => ?_)
  show q_W G X iX3_register (q_w G n ad) (0, 0) 0 [some (.inr (some (0, 0))), some (.inl x), some (.inl y)] [] (S0)
  obtain ⟨hok, hT0, hC, pg, us, lab, hR, hZ⟩ := id hF
  refine q_aload_n F dX3_register_0 rfl ?_
  refine q_iload_n F dX3_register_1 rfl ?_
  refine q_callVi F [.inl x] (fun l => t_isLive l S0) clX3_70 rfl q_m0 rfl rfl rfl ⟨Nat.le_of_ble_eq_true rfl, Nat.le_of_ble_eq_true rfl⟩ (Nat.le_of_ble_eq_true rfl) ⟨rfl, rfl⟩ ⟨Nat.zero_le _, Nat.zero_le _⟩ dX3_register_2 (fun v1 S1 hv1 => ?_)
  obtain ⟨hv1, hS1⟩ := hv1
  have hS1 := hS1.symm
  subst hS1
  refine q_if_eq F 18 dX3_register_5 (by decide) (fun h5 => ?_) (fun h5 => ?_)
  · have hx := q_lv_F hT0 (q_bl_F hv1 h5)
    refine q_iconst F (nI 0) dX3_register_18 (by decide) ?_
    exact q_iret F E rfl ⟨by rw [hx]; rfl, rfl⟩ dX3_register_19
  · obtain ⟨p, hp, rfl, hx⟩ := q_lv_T hT0 (q_bl_T hv1 h5)
    obtain ⟨t0, t1, t2, t3, t4⟩ := hT0.2.1 p hp
    obtain ⟨b0, hb064, hb0⟩ := (hok.1 p hp).2.2.1
    refine q_iload_n F dX3_register_8 rfl ?_
    refine q_if_lt F 18 dX3_register_9 (by decide) (fun h9 => ?_) (fun h9 => ?_)
    · refine q_iconst F (nI 0) dX3_register_18 (by decide) ?_
      refine q_iret F E rfl ⟨by rw [hx]; simp only []; rw [if_neg (by omega)]; rfl, rfl⟩ dX3_register_19
    · refine q_iload_n F dX3_register_12 rfl ?_
      refine q_bipush F (nI 9) dX3_register_13 (by decide) ?_
      refine q_icmp_le F 20 dX3_register_15 (by decide) (fun h15 => ?_) (fun h15 => ?_)
      · rw [nI_toInt (by omega)] at h15
        obtain ⟨b, hb, rfl⟩ := q_ofx (x := y) (m := 10) (by decide) h9 (by omega)
        rw [nI_toInt (by omega)] at h9 h15
        refine q_iload_n F dX3_register_20 rfl ?_
        refine q_bipush F (nI 8) dX3_register_21 (by decide) ?_
        refine q_icmpN_ne F 36 dX3_register_23 (by decide) (by omega) (by omega) (fun h23 => ?_) (fun h23 => ?_)
        · refine q_iload_n F dX3_register_36 rfl ?_
          refine q_bipush F (nI 9) dX3_register_37 (by decide) ?_
          refine q_icmpN_ne F 52 dX3_register_39 (by decide) (by omega) (by omega) (fun h39 => ?_) (fun h39 => ?_)
          · refine q_aload_n F dX3_register_52 rfl ?_
            refine q_getr F (k := 1) fkX3_20 q_m0 rfl rfl dX3_register_53 ?_
            refine q_iload_n F dX3_register_56 rfl ?_
            refine q_aald F (_) q_m4 rfl rfl (by omega) (by decide) rfl dX3_register_57 ?_
            refine q_getr F (k := 5) fkX3_103 (q_m5 (by omega)) rfl rfl dX3_register_58 ?_
            refine q_iload_n F dX3_register_61 rfl ?_
            refine q_iald F (_) (q_m6 (by omega)) rfl rfl (by omega) (by omega) dX3_register_62 ?_
            refine q_top (K 5 (8 * p + b)) (hT0.2.2.1 p b hp (by omega)) ?_
            refine q_iret F E rfl ⟨by rw [hx, nI_toInt (by omega)]; simp only [Int.toNat_natCast]; rw [if_pos ⟨by omega, by omega⟩, if_neg (by omega), if_neg (by omega)], rfl⟩ dX3_register_63
          · refine q_aload_n F dX3_register_42 rfl ?_
            refine q_getr F (k := 1) fkX3_20 q_m0 rfl rfl dX3_register_43 ?_
            refine q_iload_n F dX3_register_46 rfl ?_
            refine q_aald F (_) q_m4 rfl rfl (by omega) (by decide) rfl dX3_register_47 ?_
            refine q_geti F (k := 4) fkX3_56 (q_m5 (by omega)) rfl rfl dX3_register_48 ?_
            refine q_top (K 7 p) t4 ?_
            refine q_iret F E rfl ⟨by rw [hx, nI_toInt (by omega)]; simp only [Int.toNat_natCast]; rw [if_pos ⟨by omega, by omega⟩, if_neg (by omega), if_pos (by omega)], rfl⟩ dX3_register_51
        · refine q_aload_n F dX3_register_26 rfl ?_
          refine q_getr F (k := 1) fkX3_20 q_m0 rfl rfl dX3_register_27 ?_
          refine q_iload_n F dX3_register_30 rfl ?_
          refine q_aald F (_) q_m4 rfl rfl (by omega) (by decide) rfl dX3_register_31 ?_
          refine q_geti F (k := 3) fkX3_100 (q_m5 (by omega)) rfl rfl dX3_register_32 ?_
          refine q_top (K 6 p) t3 ?_
          refine q_iret F E rfl ⟨by rw [hx, nI_toInt (by omega)]; simp only [Int.toNat_natCast]; rw [if_pos ⟨by omega, by omega⟩, if_pos (by omega)], rfl⟩ dX3_register_35
      · rw [nI_toInt (by omega)] at h15
        refine q_iconst F (nI 0) dX3_register_18 (by decide) ?_
        refine q_iret F E rfl ⟨by rw [hx]; simp only []; rw [if_neg (by omega)]; rfl, rfl⟩ dX3_register_19

set_option maxRecDepth 100000 in
set_option maxHeartbeats 4000000 in
theorem t_peek {G : q_g} {n : Nat} {ad : q_ix → Nat} (l : Launch) (S0 : q_st) {K : k_t} {L B : Nat} (hF : q_F S0 K n L B) {x y : Int32} : q_Ct l G iX3_peek [.inr (some (0, 0)), .inl x, .inl y] (q_w G n ad) (S0) (q_pi (q_w G n ad) (fun r S' => r = (match q_lvf (K 2) x with | some p => if 0 ≤ y.toInt ∧ y.toInt < (K 7 p).toInt then K 8 (64 * p + y.toInt.toNat) else 0 | none => 0) ∧ S' = S0)) := by
  refine q_enter (by decide) (Nat.le_of_ble_eq_true rfl) (fun X F E => ?_)
  show q_W G X iX3_peek (q_w G n ad) (0, 0) 0 [some (.inr (some (0, 0))), some (.inl x), some (.inl y)] [] (S0)
  obtain ⟨hok, hT0, hC, pg, us, lab, hR, hZ⟩ := id hF
  refine q_aload_n F dX3_peek_0 rfl ?_
  refine q_iload_n F dX3_peek_1 rfl ?_
  refine q_callVi F [.inl x] (fun l => t_isLive l S0) clX3_70 rfl q_m0 rfl rfl rfl ⟨Nat.le_of_ble_eq_true rfl, Nat.le_of_ble_eq_true rfl⟩ (Nat.le_of_ble_eq_true rfl) ⟨rfl, rfl⟩ ⟨Nat.zero_le _, Nat.zero_le _⟩ dX3_peek_2 (fun v1 S1 hv1 => ?_)
  obtain ⟨hv1, hS1⟩ := hv1
  have hS1 := hS1.symm
  subst hS1
  refine q_if_eq F 21 dX3_peek_5 (by decide) (fun h5 => ?_) (fun h5 => ?_)
  · have hx := q_lv_F hT0 (q_bl_F hv1 h5)
    refine q_iconst F (nI 0) dX3_peek_21 (by decide) ?_
    exact q_iret F E rfl ⟨by rw [hx]; rfl, rfl⟩ dX3_peek_22
  · obtain ⟨p, hp, rfl, hx⟩ := q_lv_T hT0 (q_bl_T hv1 h5)
    obtain ⟨t0, t1, t2, t3, t4⟩ := hT0.2.1 p hp
    obtain ⟨b0, hb064, hb0⟩ := (hok.1 p hp).2.2.1
    refine q_aload_n F dX3_peek_8 rfl ?_
    refine q_getr F (k := 1) fkX3_20 q_m0 rfl rfl dX3_peek_9 ?_
    refine q_iload_n F dX3_peek_12 rfl ?_
    refine q_aald F (_) q_m4 rfl rfl (by omega) (by decide) rfl dX3_peek_13 ?_
    refine q_iload_n F dX3_peek_14 rfl ?_
    refine q_callVi F [.inl y] (fun l => t_holds l S0 hp) clX3_106 rfl (q_m5 (by omega)) rfl rfl rfl ⟨Nat.le_of_ble_eq_true rfl, Nat.le_of_ble_eq_true rfl⟩ (Nat.le_of_ble_eq_true rfl) ⟨rfl, rfl⟩ ⟨Nat.zero_le _, Nat.zero_le _⟩ dX3_peek_15 (fun v2 S2 hv2 => ?_)
    obtain ⟨hv2, hS2⟩ := hv2
    have hS2 := hS2.symm
    subst hS2
    rw [show S0 (5, p) 4 = K 7 p from t4] at hv2
    refine q_if_ne F 23 dX3_peek_18 (by decide) (fun h18 => ?_) (fun h18 => ?_)
    · obtain ⟨h18a, h18b⟩ := q_bl_T hv2 h18
      have hb7 : (K 7 p).toInt ≤ 64 := by rw [hb0, nI_toInt (by omega)]; omega
      obtain ⟨b, hb, rfl⟩ := q_ofx (x := y) (m := 64) (by decide) h18a (by omega)
      rw [nI_toInt (by omega)] at h18a h18b
      refine q_aload_n F dX3_peek_23 rfl ?_
      refine q_aload_n F dX3_peek_24 rfl ?_
      refine q_getr F (k := 1) fkX3_20 q_m0 rfl rfl dX3_peek_25 ?_
      refine q_iload_n F dX3_peek_28 rfl ?_
      refine q_aald F (_) q_m4 rfl rfl (by omega) (by decide) rfl dX3_peek_29 ?_
      refine q_iload_n F dX3_peek_30 rfl ?_
      cases hf : pg (8 * p + b / 8)
      · refine q_callVi F [.inr (some (5, p)), .inl (nI b)] (fun l => t_wordAt0 l S0 hp hb (by rw [hR.2.2.1 p (b / 8) hp (by omega), hf]; rfl)) clX3_109 rfl q_m0 rfl rfl rfl ⟨Nat.le_of_ble_eq_true rfl, Nat.le_of_ble_eq_true rfl⟩ (Nat.le_of_ble_eq_true rfl) ⟨rfl, rfl⟩ ⟨Nat.zero_le _, Nat.zero_le _⟩ dX3_peek_31 (fun v3 S3 hv3 => ?_)
        obtain ⟨rfl, hS3⟩ := hv3
        refine q_iret F E rfl ⟨by rw [hx, nI_toInt (by omega)]; simp only [Int.toNat_natCast]; rw [if_pos ⟨by omega, by omega⟩, show 64 * p + b = 8 * (8 * p + b / 8) + b % 8 by omega, hR.2.1.2.2.2.2.2.2 (8 * p + b / 8) (b % 8) (by omega) hf (by omega)], hS3⟩ dX3_peek_34
      · rename_i f
        refine q_callVi F [.inr (some (5, p)), .inl (nI b)] (fun l => t_wordAt l S0 hp hb (hR.2.1.1 _ _ hf).1 hR.1.2 (by rw [hR.2.2.1 p (b / 8) hp (by omega), hf]; rfl)) clX3_109 rfl q_m0 rfl rfl rfl ⟨Nat.le_of_ble_eq_true rfl, Nat.le_of_ble_eq_true rfl⟩ (Nat.le_of_ble_eq_true rfl) ⟨rfl, rfl⟩ ⟨Nat.zero_le _, Nat.zero_le _⟩ dX3_peek_31 (fun v3 S3 hv3 => ?_)
        obtain ⟨rfl, hS3⟩ := hv3
        refine q_iret F E rfl ⟨by rw [hx, nI_toInt (by omega)]; simp only [Int.toNat_natCast]; rw [if_pos ⟨by omega, by omega⟩, show 64 * p + b = 8 * (8 * p + b / 8) + b % 8 by omega, hR.2.1.2.2.2.2.2.1 (8 * p + b / 8) f (b % 8) hf (by omega)], hS3⟩ dX3_peek_34
    · refine q_iconst F (nI 0) dX3_peek_21 (by decide) ?_
      refine q_iret F E rfl ⟨by rw [hx]; simp only []; rw [if_neg (q_bl_F hv2 h18)]; rfl, rfl⟩ dX3_peek_22

set_option maxRecDepth 100000 in
set_option maxHeartbeats 4000000 in
theorem t_sharing {G : q_g} {n : Nat} {ad : q_ix → Nat} (l : Launch) (S0 : q_st) {K : k_t} {L B : Nat} (hF : q_F S0 K n L B) {x y : Int32} : q_Ct l G iX3_sharing [.inr (some (0, 0)), .inl x, .inl y] (q_w G n ad) (S0) (q_pi (q_w G n ad) (fun r S' => r = (match q_lvf (K 2) x with | some p => if 0 ≤ y.toInt ∧ y.toInt < 8 then nI (k_sh K (8 * p + y.toInt.toNat)) else 0 | none => 0) ∧ S' = S0)) := by
  refine q_enter (by decide) (Nat.le_of_ble_eq_true rfl) (fun X F E => ?_)
  show q_W G X iX3_sharing (q_w G n ad) (0, 0) 0 [some (.inr (some (0, 0))), some (.inl x), some (.inl y)] [] (S0)
  obtain ⟨hok, hT0, hC, pg, us, lab, hR, hZ⟩ := id hF
  refine q_aload_n F dX3_sharing_0 rfl ?_
  refine q_iload_n F dX3_sharing_1 rfl ?_
  refine q_callVi F [.inl x] (fun l => t_isLive l S0) clX3_70 rfl q_m0 rfl rfl rfl ⟨Nat.le_of_ble_eq_true rfl, Nat.le_of_ble_eq_true rfl⟩ (Nat.le_of_ble_eq_true rfl) ⟨rfl, rfl⟩ ⟨Nat.zero_le _, Nat.zero_le _⟩ dX3_sharing_2 (fun v1 S1 hv1 => ?_)
  obtain ⟨hv1, hS1⟩ := hv1
  have hS1 := hS1.symm
  subst hS1
  refine q_if_eq F 33 dX3_sharing_5 (by decide) (fun h5 => ?_) (fun h5 => ?_)
  · have hx := q_lv_F hT0 (q_bl_F hv1 h5)
    refine q_iconst F (nI 0) dX3_sharing_33 (by decide) ?_
    exact q_iret F E rfl ⟨by rw [hx]; rfl, rfl⟩ dX3_sharing_34
  · obtain ⟨p, hp, rfl, hx⟩ := q_lv_T hT0 (q_bl_T hv1 h5)
    obtain ⟨t0, t1, t2, t3, t4⟩ := hT0.2.1 p hp
    obtain ⟨b0, hb064, hb0⟩ := (hok.1 p hp).2.2.1
    refine q_iload_n F dX3_sharing_8 rfl ?_
    refine q_if_lt F 33 dX3_sharing_9 (by decide) (fun h9 => ?_) (fun h9 => ?_)
    · refine q_iconst F (nI 0) dX3_sharing_33 (by decide) ?_
      refine q_iret F E rfl ⟨by rw [hx]; simp only []; rw [if_neg (by omega)]; rfl, rfl⟩ dX3_sharing_34
    · refine q_iload_n F dX3_sharing_12 rfl ?_
      refine q_bipush F (nI 8) dX3_sharing_13 (by decide) ?_
      refine q_icmp_ge F 33 dX3_sharing_15 (by decide) (fun h15 => ?_) (fun h15 => ?_)
      · rw [nI_toInt (by omega)] at h15
        refine q_iconst F (nI 0) dX3_sharing_33 (by decide) ?_
        refine q_iret F E rfl ⟨by rw [hx]; simp only []; rw [if_neg (by omega)]; rfl, rfl⟩ dX3_sharing_34
      · rw [nI_toInt (by omega)] at h15
        obtain ⟨b, hb8, rfl⟩ := q_ofx (x := y) (m := 8) (by decide) h9 (by omega)
        rw [nI_toInt (by omega)] at h9 h15
        have hsh := q_R_sh hR (show 8 * p + b < 64 by omega)
        cases hf : pg (8 * p + b)
        · refine q_aload_n F dX3_sharing_18 rfl ?_
          refine q_getr F (k := 1) fkX3_20 q_m0 rfl rfl dX3_sharing_19 ?_
          refine q_iload_n F dX3_sharing_22 rfl ?_
          refine q_aald F (_) q_m4 rfl rfl (by omega) (by decide) rfl dX3_sharing_23 ?_
          refine q_getr F (k := 6) fkX3_112 (q_m5 (by omega)) rfl rfl dX3_sharing_24 ?_
          refine q_iload_n F dX3_sharing_27 rfl ?_
          refine q_iald F (_) (q_m7 (by omega)) rfl rfl (by omega) (by omega) dX3_sharing_28 ?_
          refine q_top (-1) (by rw [hR.2.2.1 p b hp hb8, hf]; rfl) ?_
          refine q_iconst F (-1) dX3_sharing_29 (by decide) ?_
          refine q_icmp_ne F 35 dX3_sharing_30 (by decide) (fun h30 => ?_) (fun h30 => ?_)
          · exact absurd rfl h30
          · refine q_iconst F (nI 0) dX3_sharing_33 (by decide) ?_
            refine q_iret F E rfl ⟨by rw [hx, nI_toInt (by omega)]; simp only [Int.toNat_natCast]; rw [if_pos ⟨by omega, by omega⟩, hsh, hf], rfl⟩ dX3_sharing_34
        · rename_i f
          have hfn := (hR.2.1.1 _ _ hf).1
          have hn32 := hR.1.2
          refine q_aload_n F dX3_sharing_18 rfl ?_
          refine q_getr F (k := 1) fkX3_20 q_m0 rfl rfl dX3_sharing_19 ?_
          refine q_iload_n F dX3_sharing_22 rfl ?_
          refine q_aald F (_) q_m4 rfl rfl (by omega) (by decide) rfl dX3_sharing_23 ?_
          refine q_getr F (k := 6) fkX3_112 (q_m5 (by omega)) rfl rfl dX3_sharing_24 ?_
          refine q_iload_n F dX3_sharing_27 rfl ?_
          refine q_iald F (_) (q_m7 (by omega)) rfl rfl (by omega) (by omega) dX3_sharing_28 ?_
          refine q_top (nI f) (by rw [hR.2.2.1 p b hp hb8, hf]; rfl) ?_
          refine q_iconst F (-1) dX3_sharing_29 (by decide) ?_
          refine q_icmp_ne F 35 dX3_sharing_30 (by decide) (fun h30 => ?_) (fun h30 => ?_)
          · refine q_aload_n F dX3_sharing_35 rfl ?_
            refine q_getr F (k := 0) fkX3_14 q_m0 rfl rfl dX3_sharing_36 ?_
            refine q_getr F (k := 2) fkX3_115 q_m1 rfl rfl dX3_sharing_39 ?_
            refine q_aload_n F dX3_sharing_42 rfl ?_
            refine q_getr F (k := 1) fkX3_20 q_m0 rfl rfl dX3_sharing_43 ?_
            refine q_iload_n F dX3_sharing_46 rfl ?_
            refine q_aald F (_) q_m4 rfl rfl (by omega) (by decide) rfl dX3_sharing_47 ?_
            refine q_getr F (k := 6) fkX3_112 (q_m5 (by omega)) rfl rfl dX3_sharing_48 ?_
            refine q_iload_n F dX3_sharing_51 rfl ?_
            refine q_iald F (_) (q_m7 (by omega)) rfl rfl (by omega) (by omega) dX3_sharing_52 ?_
            refine q_top (nI f) (by rw [hR.2.2.1 p b hp hb8, hf]; rfl) ?_
            refine q_iald F (_) q_m3 rfl rfl (by omega) (by omega) dX3_sharing_53 ?_
            refine q_top (nI (us f)) (hR.2.2.2.1 f hfn) ?_
            refine q_iret F E rfl ⟨by rw [hx, nI_toInt (by omega)]; simp only [Int.toNat_natCast]; rw [if_pos ⟨by omega, by omega⟩, hsh, hf], rfl⟩ dX3_sharing_54
          · exact absurd h30 (q_nm1 (by omega))

set_option maxRecDepth 100000 in
set_option maxHeartbeats 4000000 in
theorem t_frames {G : q_g} {n : Nat} {ad : q_ix → Nat} (l : Launch) (S0 : q_st) {K : k_t} {L B : Nat} (hF : q_F S0 K n L B)  : q_Ct l G iX3_frames [.inr (some (0, 0))] (q_w G n ad) (S0) (q_pi (q_w G n ad) (fun r S' => r = nI (k_fr K) ∧ S' = S0)) := by
  refine q_enter (by decide) (Nat.le_of_ble_eq_true rfl) (fun X F E => ?_)
  show q_W G X iX3_frames (q_w G n ad) (0, 0) 0 [some (.inr (some (0, 0)))] [] (S0)
  obtain ⟨hok, hT0, hC, pg, us, lab, hR, hZ⟩ := id hF
  refine q_aload_n F dX3_frames_0 rfl ?_
  refine q_getr F (k := 0) fkX3_14 q_m0 rfl rfl dX3_frames_1 ?_
  refine q_geti F (k := 3) fkX3_118 q_m1 rfl rfl dX3_frames_4 ?_
  refine q_iret F E rfl ⟨by rw [hR.2.2.2.2.1, q_R_fr hR], rfl⟩ dX3_frames_7

set_option maxRecDepth 100000 in
set_option maxHeartbeats 4000000 in
theorem t_printed {G : q_g} {n : Nat} {ad : q_ix → Nat} (l : Launch) (S0 : q_st) {K : k_t} {L B : Nat} (hF : q_F S0 K n L B)  : q_Ct l G iX3_printed [.inr (some (0, 0))] (q_w G n ad) (S0) (q_pi (q_w G n ad) (fun r S' => r = K 0 15 ∧ S' = S0)) := by
  refine q_enter (by decide) (Nat.le_of_ble_eq_true rfl) (fun X F E => ?_)
  show q_W G X iX3_printed (q_w G n ad) (0, 0) 0 [some (.inr (some (0, 0)))] [] (S0)
  obtain ⟨hok, hT0, hC, pg, us, lab, hR, hZ⟩ := id hF
  refine q_aload_n F dX3_printed_0 rfl ?_
  refine q_getr F (k := 2) fkX3_28 q_m0 rfl rfl dX3_printed_1 ?_
  refine q_geti F (k := 1) fkX3_121 q_m8 rfl rfl dX3_printed_4 ?_
  refine q_iret F E rfl ⟨hT0.2.2.2.1, rfl⟩ dX3_printed_7

set_option maxRecDepth 100000 in
set_option maxHeartbeats 4000000 in
theorem t_print {G : q_g} {n : Nat} {ad : q_ix → Nat} (l : Launch) (S0 : q_st) {K : k_t} {L B : Nat} (hF : q_F S0 K n L B) {c : Nat} {k : Int32} (hc : K 0 15 = nI c) (hc2 : c < 2 ^ 30) : q_Ct l G iX3_print [.inr (some (0, 0)), .inl k] (q_w G n ad) (S0) (q_pi (q_w G n ad) (fun r S' => (r = if 0 ≤ k.toInt ∧ k.toInt < 32 ∧ k.toInt < c then K 10 ((c - 1 - k.toInt.toNat) % 32) else 0) ∧ S' = S0)) := by
  refine q_enter (by decide) (Nat.le_of_ble_eq_true rfl) (fun X F E => ?_)
  show q_W G X iX3_print (q_w G n ad) (0, 0) 0 [some (.inr (some (0, 0))), some (.inl k)] [] (S0)
  obtain ⟨hok, hT0, hC, pg, us, lab, hR, hZ⟩ := id hF
  refine q_aload_n F dX3_print_0 rfl ?_
  refine q_getr F (k := 2) fkX3_28 q_m0 rfl rfl dX3_print_1 ?_
  refine q_iload_n F dX3_print_4 rfl ?_
  refine q_callVi F [.inl k] (fun l => t_latest l S0 (hT0.2.2.2.1.trans hc) hc2) clX3_124 rfl q_m8 rfl rfl rfl ⟨Nat.le_of_ble_eq_true rfl, Nat.le_of_ble_eq_true rfl⟩ (Nat.le_of_ble_eq_true rfl) ⟨rfl, rfl⟩ ⟨Nat.zero_le _, Nat.zero_le _⟩ dX3_print_5 (fun v1 S1 hv1 => ?_)
  obtain ⟨hv1, hS1⟩ := hv1
  refine q_iret F E rfl ⟨by rw [hv1, hT0.2.2.2.2.1 _ (Nat.mod_lt _ (by decide))], hS1⟩ dX3_print_8

set_option maxRecDepth 100000 in
set_option maxHeartbeats 4000000 in
theorem t_running {G : q_g} {n : Nat} {ad : q_ix → Nat} (l : Launch) (S0 : q_st) {K : k_t} {L B : Nat} (hF : q_F S0 K n L B)  : q_Ct l G iX3_running [.inr (some (0, 0))] (q_w G n ad) (S0) (q_pi (q_w G n ad) (fun r S' => ((k_on K ∧ r = K 0 12) ∨ (¬ k_on K ∧ r = -1)) ∧ S' = S0)) := by
  refine q_enter (by decide) (Nat.le_of_ble_eq_true rfl) (fun X F E => ?_)
  show q_W G X iX3_running (q_w G n ad) (0, 0) 0 [some (.inr (some (0, 0)))] [] (S0)
  obtain ⟨hok, hT0, hC, pg, us, lab, hR, hZ⟩ := id hF
  refine q_aload_n F dX3_running_0 rfl ?_
  rcases hok.2.1 with hcur | ⟨c, hc8, hcur⟩
  · refine q_callVi F [] (fun l => t_rowOff l S0 (hC.1.trans hcur)) clX3_96 rfl q_m0 rfl rfl rfl ⟨Nat.le_of_ble_eq_true rfl, Nat.le_of_ble_eq_true rfl⟩ (Nat.le_of_ble_eq_true rfl) ⟨rfl, rfl⟩ ⟨Nat.zero_le _, Nat.zero_le _⟩ dX3_running_1 (fun v1 S1 hv1 => ?_)
    obtain ⟨rfl, hS1⟩ := hv1
    have hS1 := hS1.symm
    subst hS1
    refine q_ifN_eq F 14 dX3_running_4 (by decide) (by omega) (fun h4 => ?_) (fun h4 => ?_)
    · refine q_iconst F (-1) dX3_running_14 (by decide) ?_
      refine q_iret F E rfl ⟨Or.inr ⟨fun q => q.1 hcur, rfl⟩, rfl⟩ dX3_running_15
    · exact absurd h4 (by decide)
  · refine q_callVi F [] (fun l => t_rowOn l S0 hc8 (hC.1.trans hcur)) clX3_96 rfl q_m0 rfl rfl rfl ⟨Nat.le_of_ble_eq_true rfl, Nat.le_of_ble_eq_true rfl⟩ (Nat.le_of_ble_eq_true rfl) ⟨rfl, rfl⟩ ⟨Nat.zero_le _, Nat.zero_le _⟩ dX3_running_1 (fun v1 S1 hv1 => ?_)
    obtain ⟨hv1, hS1⟩ := hv1
    have hS1 := hS1.symm
    subst hS1
    have hne : ¬ K 0 12 = -1 := by rw [hcur]; exact q_nm1 (by omega)
    have hcn : (K 0 12).toInt.toNat = c := by rw [hcur, nI_toInt (by omega)]; rfl
    have hon : (S0 (5, c) 0 = nI 1 ∧ (S0 (0, 0) 6).toInt < (S0 (0, 0) 4).toInt) ↔ k_on K := by
      unfold k_on
      rw [hcn, (hT0.2.1 c hc8).1, hC.2 hne, hT0.2.2.2.2.2]
      exact ⟨fun q => ⟨hne, q⟩, fun q => q.2⟩
    refine q_if_eq F 14 dX3_running_4 (by decide) (fun h4 => ?_) (fun h4 => ?_)
    · refine q_iconst F (-1) dX3_running_14 (by decide) ?_
      refine q_iret F E rfl ⟨by first | exact Or.inl ⟨hon.mp (q_bl_T hv1 h4), rfl⟩ | exact Or.inr ⟨fun q => q_bl_F hv1 h4 (hon.mpr q), rfl⟩, rfl⟩ dX3_running_15
    · refine q_aload_n F dX3_running_7 rfl ?_
      refine q_geti F (k := 5) fkX3_40 q_m0 rfl rfl dX3_running_8 ?_
      refine q_top (K 0 12) hC.1 ?_
      refine q_goto F 15 dX3_running_11 (by decide) ?_
      refine q_iret F E rfl ⟨by first | exact Or.inl ⟨hon.mp (q_bl_T hv1 h4), rfl⟩ | exact Or.inr ⟨fun q => q_bl_F hv1 h4 (hon.mpr q), rfl⟩, rfl⟩ dX3_running_15

set_option maxRecDepth 100000 in
set_option maxHeartbeats 4000000 in
theorem t_stage {G : q_g} {n : Nat} {ad : q_ix → Nat} (l : Launch) (S0 : q_st) {K : k_t} {L B : Nat} (hF : q_F S0 K n L B) {x w : Int32} : q_Ct l G iX3_stage [.inr (some (0, 0)), .inl x, .inl w] (q_w G n ad) (S0) (q_pi (q_w G n ad) (fun r S' => (r = nI 0 ∧ ¬ (0 ≤ x.toInt ∧ x.toInt < 64) ∧ S' = S0) ∨ (∃ i, i < 64 ∧ x = nI i ∧ r = nI 1 ∧ q_F S' (k_u K 1 i w) n L B ∧ q_fr S0 S'))) := by
  refine q_enter (by decide) (Nat.le_of_ble_eq_true rfl) (fun X F E => ?_)
  show q_W G X iX3_stage (q_w G n ad) (0, 0) 0 [some (.inr (some (0, 0))), some (.inl x), some (.inl w)] [] (S0)
  obtain ⟨hok, hT0, hC, pg, us, lab, hR, hZ⟩ := id hF
  refine q_iload_n F dX3_stage_0 rfl ?_
  refine q_if_lt F 10 dX3_stage_1 (by decide) (fun h1 => ?_) (fun h1 => ?_)
  · refine q_iconst F (nI 0) dX3_stage_10 (by decide) ?_
    refine q_zret F E rfl (by decide) (Or.inl ⟨rfl, by omega, rfl⟩) dX3_stage_11
  · refine q_iload_n F dX3_stage_4 rfl ?_
    refine q_bipush F (nI 64) dX3_stage_5 (by decide) ?_
    refine q_icmp_lt F 12 dX3_stage_7 (by decide) (fun h7 => ?_) (fun h7 => ?_)
    · rw [nI_toInt (by omega)] at h7
      obtain ⟨i, hi, rfl⟩ := q_ofx (x := x) (m := 64) (by decide) h1 (by omega)
      refine q_aload_n F dX3_stage_12 rfl ?_
      refine q_getr F (k := 3) fkX3_32 q_m0 rfl rfl dX3_stage_13 ?_
      refine q_iload_n F dX3_stage_16 rfl ?_
      refine q_iload_n F dX3_stage_17 rfl ?_
      refine q_iast F (_) q_m10 rfl rfl (by omega) (by omega) dX3_stage_18 ?_
      refine q_iconst F (nI 1) dX3_stage_19 (by decide) ?_
      refine q_zret F E rfl (by decide) (Or.inr ⟨i, hi, rfl, rfl, q_F_up (Or.inr (Or.inr (Or.inl ⟨rfl, rfl, rfl⟩))) (by simp) hF, q_fr_up (by simp)⟩) dX3_stage_20
    · rw [nI_toInt (by omega)] at h7
      refine q_iconst F (nI 0) dX3_stage_10 (by decide) ?_
      refine q_zret F E rfl (by decide) (Or.inl ⟨rfl, by omega, rfl⟩) dX3_stage_11
