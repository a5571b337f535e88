/-! the class's kernel: who is there, words of pages (rows laid by wip/whole/m31.py) -/
theorem q_ofx {x : Int32} {m : Nat} (hm : m < 2 ^ 31) (h0 : 0 ≤ x.toInt) (h : x.toInt < m) : ∃ p, p < m ∧ x = nI p := ⟨x.toInt.toNat, by omega, by rw [← Int32.toInt_inj, nI_toInt (by omega)]; omega⟩

set_option maxRecDepth 100000 in
set_option maxHeartbeats 4000000 in
theorem t_isNumber {G : q_g} {n : Nat} {ad : q_ix → Nat} (l : Launch) (S : q_st) {x : Int32} : q_Ct l G iX3_isNumber [.inl x] (q_w G n ad) (S) (q_pi (q_w G n ad) (fun r S' => q_bl r (0 ≤ x.toInt ∧ x.toInt < 8) ∧ S' = S)) := by
  refine q_enter (by decide) (Nat.le_of_ble_eq_true rfl) (fun X F E => ?_)
  show q_W G X iX3_isNumber (q_w G n ad) (0, 0) 0 [some (.inl x)] [] (S)
  refine q_iload_n F dX3_isNumber_0 rfl ?_
  refine q_if_lt F 14 dX3_isNumber_1 (by decide) (fun h1 => ?_) (fun h1 => ?_)
  · refine q_iconst F (nI 0) dX3_isNumber_14 (by decide) ?_
    refine q_zret F E rfl (by decide) ⟨by first | exact q_bl_1 ⟨by omega, by omega⟩ | exact q_bl_0 (by omega), rfl⟩ dX3_isNumber_15
  · refine q_iload_n F dX3_isNumber_4 rfl ?_
    refine q_bipush F (nI 8) dX3_isNumber_5 (by decide) ?_
    refine q_icmp_ge F 14 dX3_isNumber_7 (by decide) (fun h7 => ?_) (fun h7 => ?_)
    · rw [nI_toInt (by omega)] at h7
      refine q_iconst F (nI 0) dX3_isNumber_14 (by decide) ?_
      refine q_zret F E rfl (by decide) ⟨by first | exact q_bl_1 ⟨by omega, by omega⟩ | exact q_bl_0 (by omega), rfl⟩ dX3_isNumber_15
    · rw [nI_toInt (by omega)] at h7
      refine q_iconst F (nI 1) dX3_isNumber_10 (by decide) ?_
      refine q_goto F 15 dX3_isNumber_11 (by decide) ?_
      refine q_zret F E rfl (by decide) ⟨by first | exact q_bl_1 ⟨by omega, by omega⟩ | exact q_bl_0 (by omega), rfl⟩ dX3_isNumber_15

set_option maxRecDepth 100000 in
set_option maxHeartbeats 4000000 in
theorem t_isLive {G : q_g} {n : Nat} {ad : q_ix → Nat} (l : Launch) (S : q_st) {x : Int32} : q_Ct l G iX3_isLive [.inr (some (0, 0)), .inl x] (q_w G n ad) (S) (q_pi (q_w G n ad) (fun r S' => q_bl r (∃ p, p < 8 ∧ x = nI p ∧ (S (5, p) 0 = nI 1 ∨ S (5, p) 0 = nI 2)) ∧ S' = S)) := by
  refine q_enter (by decide) (Nat.le_of_ble_eq_true rfl) (fun X F E => ?_)
  show q_W G X iX3_isLive (q_w G n ad) (0, 0) 0 [some (.inr (some (0, 0))), some (.inl x)] [] (S)
  refine q_iload_n F dX3_isLive_0 rfl ?_
  refine q_callSi F [.inl x] (fun l => t_isNumber l S) clX3_87 rfl rfl ⟨Nat.le_of_ble_eq_true rfl, Nat.le_of_ble_eq_true rfl⟩ (Nat.le_of_ble_eq_true rfl) ⟨rfl, rfl⟩ ⟨Nat.zero_le _, Nat.zero_le _⟩ dX3_isLive_1 (fun v S' hv => ?_)
  obtain ⟨hv, rfl⟩ := hv
  refine q_if_eq F 37 dX3_isLive_4 (by decide) (fun h4 => ?_) (fun h4 => ?_)
  · have hx := q_bl_F hv h4
    refine q_iconst F (nI 0) dX3_isLive_37 (by decide) ?_
    refine q_zret F E rfl (by decide) ⟨by first | exact q_bl_1 ⟨p, hp, rfl, Or.inl h17⟩ | exact q_bl_1 ⟨p, hp, rfl, Or.inr h30⟩ | exact q_bl_0 (by rintro ⟨q, hq, he, -⟩; subst he; rw [nI_toInt (by omega)] at hx; omega) | exact q_bl_0 (by rintro ⟨q, hq, he, hc⟩; rw [nI_eq (by omega) (by omega)] at he; subst he; first | exact h17 hc | exact (hc.elim h17 h30)), rfl⟩ dX3_isLive_38
  · obtain ⟨p, hp, rfl⟩ := q_ofx (m := 8) (by decide) (q_bl_T hv h4).1 (q_bl_T hv h4).2
    refine q_aload_n F dX3_isLive_7 rfl ?_
    refine q_getr F (k := 1) fkX3_20 q_m0 rfl rfl dX3_isLive_8 ?_
    refine q_iload_n F dX3_isLive_11 rfl ?_
    refine q_aald F (_) q_m4 rfl rfl (by omega) (by decide) rfl dX3_isLive_12 ?_
    refine q_geti F (k := 0) fkX3_90 (q_m5 (by omega)) rfl rfl dX3_isLive_13 ?_
    refine q_iconst F (nI 1) dX3_isLive_16 (by decide) ?_
    refine q_icmp_eq F 33 dX3_isLive_17 (by decide) (fun h17 => ?_) (fun h17 => ?_)
    · refine q_iconst F (nI 1) dX3_isLive_33 (by decide) ?_
      refine q_goto F 38 dX3_isLive_34 (by decide) ?_
      refine q_zret F E rfl (by decide) ⟨by first | exact q_bl_1 ⟨p, hp, rfl, Or.inl h17⟩ | exact q_bl_1 ⟨p, hp, rfl, Or.inr h30⟩ | exact q_bl_0 (by rintro ⟨q, hq, he, -⟩; subst he; rw [nI_toInt (by omega)] at hx; omega) | exact q_bl_0 (by rintro ⟨q, hq, he, hc⟩; rw [nI_eq (by omega) (by omega)] at he; subst he; first | exact h17 hc | exact (hc.elim h17 h30)), rfl⟩ dX3_isLive_38
    · refine q_aload_n F dX3_isLive_20 rfl ?_
      refine q_getr F (k := 1) fkX3_20 q_m0 rfl rfl dX3_isLive_21 ?_
      refine q_iload_n F dX3_isLive_24 rfl ?_
      refine q_aald F (_) q_m4 rfl rfl (by omega) (by decide) rfl dX3_isLive_25 ?_
      refine q_geti F (k := 0) fkX3_90 (q_m5 (by omega)) rfl rfl dX3_isLive_26 ?_
      refine q_iconst F (nI 2) dX3_isLive_29 (by decide) ?_
      refine q_icmp_ne F 37 dX3_isLive_30 (by decide) (fun h30 => ?_) (fun h30 => ?_)
      · refine q_iconst F (nI 0) dX3_isLive_37 (by decide) ?_
        refine q_zret F E rfl (by decide) ⟨by first | exact q_bl_1 ⟨p, hp, rfl, Or.inl h17⟩ | exact q_bl_1 ⟨p, hp, rfl, Or.inr h30⟩ | exact q_bl_0 (by rintro ⟨q, hq, he, -⟩; subst he; rw [nI_toInt (by omega)] at hx; omega) | exact q_bl_0 (by rintro ⟨q, hq, he, hc⟩; rw [nI_eq (by omega) (by omega)] at he; subst he; first | exact h17 hc | exact (hc.elim h17 h30)), rfl⟩ dX3_isLive_38
      · refine q_iconst F (nI 1) dX3_isLive_33 (by decide) ?_
        refine q_goto F 38 dX3_isLive_34 (by decide) ?_
        refine q_zret F E rfl (by decide) ⟨by first | exact q_bl_1 ⟨p, hp, rfl, Or.inl h17⟩ | exact q_bl_1 ⟨p, hp, rfl, Or.inr h30⟩ | exact q_bl_0 (by rintro ⟨q, hq, he, -⟩; subst he; rw [nI_toInt (by omega)] at hx; omega) | exact q_bl_0 (by rintro ⟨q, hq, he, hc⟩; rw [nI_eq (by omega) (by omega)] at he; subst he; first | exact h17 hc | exact (hc.elim h17 h30)), rfl⟩ dX3_isLive_38

set_option maxRecDepth 100000 in
set_option maxHeartbeats 4000000 in
theorem t_isZombie {G : q_g} {n : Nat} {ad : q_ix → Nat} (l : Launch) (S : q_st) {x : Int32} : q_Ct l G iX3_isZombie [.inr (some (0, 0)), .inl x] (q_w G n ad) (S) (q_pi (q_w G n ad) (fun r S' => q_bl r (∃ p, p < 8 ∧ x = nI p ∧ (S (5, p) 0 = nI 3)) ∧ S' = S)) := by
  refine q_enter (by decide) (Nat.le_of_ble_eq_true rfl) (fun X F E => ?_)
  show q_W G X iX3_isZombie (q_w G n ad) (0, 0) 0 [some (.inr (some (0, 0))), some (.inl x)] [] (S)
  refine q_iload_n F dX3_isZombie_0 rfl ?_
  refine q_callSi F [.inl x] (fun l => t_isNumber l S) clX3_87 rfl rfl ⟨Nat.le_of_ble_eq_true rfl, Nat.le_of_ble_eq_true rfl⟩ (Nat.le_of_ble_eq_true rfl) ⟨rfl, rfl⟩ ⟨Nat.zero_le _, Nat.zero_le _⟩ dX3_isZombie_1 (fun v S' hv => ?_)
  obtain ⟨hv, rfl⟩ := hv
  refine q_if_eq F 24 dX3_isZombie_4 (by decide) (fun h4 => ?_) (fun h4 => ?_)
  · have hx := q_bl_F hv h4
    refine q_iconst F (nI 0) dX3_isZombie_24 (by decide) ?_
    refine q_zret F E rfl (by decide) ⟨by first | exact q_bl_1 ⟨p, hp, rfl, h17⟩ | exact q_bl_0 (by rintro ⟨q, hq, he, -⟩; subst he; rw [nI_toInt (by omega)] at hx; omega) | exact q_bl_0 (by rintro ⟨q, hq, he, hc⟩; rw [nI_eq (by omega) (by omega)] at he; subst he; first | exact h17 hc | exact (hc.elim h17 h30)), rfl⟩ dX3_isZombie_25
  · obtain ⟨p, hp, rfl⟩ := q_ofx (m := 8) (by decide) (q_bl_T hv h4).1 (q_bl_T hv h4).2
    refine q_aload_n F dX3_isZombie_7 rfl ?_
    refine q_getr F (k := 1) fkX3_20 q_m0 rfl rfl dX3_isZombie_8 ?_
    refine q_iload_n F dX3_isZombie_11 rfl ?_
    refine q_aald F (_) q_m4 rfl rfl (by omega) (by decide) rfl dX3_isZombie_12 ?_
    refine q_geti F (k := 0) fkX3_90 (q_m5 (by omega)) rfl rfl dX3_isZombie_13 ?_
    refine q_iconst F (nI 3) dX3_isZombie_16 (by decide) ?_
    refine q_icmp_ne F 24 dX3_isZombie_17 (by decide) (fun h17 => ?_) (fun h17 => ?_)
    · refine q_iconst F (nI 0) dX3_isZombie_24 (by decide) ?_
      refine q_zret F E rfl (by decide) ⟨by first | exact q_bl_1 ⟨p, hp, rfl, h17⟩ | exact q_bl_0 (by rintro ⟨q, hq, he, -⟩; subst he; rw [nI_toInt (by omega)] at hx; omega) | exact q_bl_0 (by rintro ⟨q, hq, he, hc⟩; rw [nI_eq (by omega) (by omega)] at he; subst he; first | exact h17 hc | exact (hc.elim h17 h30)), rfl⟩ dX3_isZombie_25
    · refine q_iconst F (nI 1) dX3_isZombie_20 (by decide) ?_
      refine q_goto F 25 dX3_isZombie_21 (by decide) ?_
      refine q_zret F E rfl (by decide) ⟨by first | exact q_bl_1 ⟨p, hp, rfl, h17⟩ | exact q_bl_0 (by rintro ⟨q, hq, he, -⟩; subst he; rw [nI_toInt (by omega)] at hx; omega) | exact q_bl_0 (by rintro ⟨q, hq, he, hc⟩; rw [nI_eq (by omega) (by omega)] at he; subst he; first | exact h17 hc | exact (hc.elim h17 h30)), rfl⟩ dX3_isZombie_25

set_option maxRecDepth 100000 in
set_option maxHeartbeats 4000000 in
theorem lp_firstFree {G : q_g} {n : Nat} {ad : q_ix → Nat} {X : q_cx} (F : q_fx G X iX3_firstFree) {S : q_st}  (E : q_en G X iX3_firstFree (q_pi (q_w G n ad) (fun r S' => r = q_fe (f_st (fun p => S (5, p) 0 = 0) 8) ∧ S' = S))) : ∀ k, k ≤ 8 → (∀ i, i < k → ¬ (S (5, i) 0 = 0)) → q_W G X iX3_firstFree (q_w G n ad) (0, 0) 2 [some (.inr (some (0, 0))), some (.inl (nI k))] [] S := by
  refine q_loop (fun k hk ih => ?_)
  intro hall
  refine q_iload_n F dX3_firstFree_2 rfl ?_
  refine q_bipush F (nI 8) dX3_firstFree_3 (by decide) ?_
  refine q_icmpN_ge F 28 dX3_firstFree_5 (by decide) (by omega) (by omega) (fun h5 => ?_) (fun h5 => ?_)
  · obtain rfl : k = 8 := by omega
    refine q_iconst F (-1) dX3_firstFree_28 (by decide) ?_
    refine q_iret F E rfl ⟨by rw [f_st_none hall]; rfl, rfl⟩ dX3_firstFree_29
  · refine q_aload_n F dX3_firstFree_8 rfl ?_
    refine q_getr F (k := 1) fkX3_20 q_m0 rfl rfl dX3_firstFree_9 ?_
    refine q_iload_n F dX3_firstFree_12 rfl ?_
    refine q_aald F (_) q_m4 rfl rfl (by omega) (by decide) rfl dX3_firstFree_13 ?_
    refine q_geti F (k := 0) fkX3_90 (q_m5 (by omega)) rfl rfl dX3_firstFree_14 ?_
    refine q_if_ne F 22 dX3_firstFree_17 (by decide) (fun h17 => ?_) (fun h17 => ?_)
    · refine q_iinc_1 F _ dX3_firstFree_22 (q_inc1 _) (by decide) ?_
      exact q_goto F 2 dX3_firstFree_25 (by decide) (ih h5 (lt_s hall h17))
    · refine q_iload_n F dX3_firstFree_20 rfl ?_
      refine q_iret F E rfl ⟨by rw [f_st_some h17 hall h5]; rfl, rfl⟩ dX3_firstFree_21
set_option maxRecDepth 100000 in
set_option maxHeartbeats 4000000 in
theorem t_firstFree {G : q_g} {n : Nat} {ad : q_ix → Nat} (l : Launch) (S : q_st)  : q_Ct l G iX3_firstFree [.inr (some (0, 0))] (q_w G n ad) (S) (q_pi (q_w G n ad) (fun r S' => r = q_fe (f_st (fun p => S (5, p) 0 = 0) 8) ∧ S' = S)) := by
  refine q_enter (by decide) (Nat.le_of_ble_eq_true rfl) (fun X F E => ?_)
  show q_W G X iX3_firstFree (q_w G n ad) (0, 0) 0 [some (.inr (some (0, 0))), none] [] (S)
  refine q_iconst F (nI 0) dX3_firstFree_0 (by decide) ?_
  refine q_istore_n_1 F dX3_firstFree_1 (by decide) ?_
  exact lp_firstFree F E 0 (by decide) (fun i hi => absurd hi (Nat.not_lt_zero i))

set_option maxRecDepth 100000 in
set_option maxHeartbeats 4000000 in
theorem lp_hasChild {G : q_g} {n : Nat} {ad : q_ix → Nat} {X : q_cx} (F : q_fx G X iX3_hasChild) {S : q_st} {v : Int32} (E : q_en G X iX3_hasChild (q_pi (q_w G n ad) (fun r S' => q_bl r (∃ p, p < 8 ∧ S (5, p) 1 = v) ∧ S' = S))) : ∀ k, k ≤ 8 → (∀ i, i < k → ¬ (S (5, i) 1 = v)) → q_W G X iX3_hasChild (q_w G n ad) (0, 0) 2 [some (.inr (some (0, 0))), some (.inl v), some (.inl (nI k))] [] S := by
  refine q_loop (fun k hk ih => ?_)
  intro hall
  refine q_iload_n F dX3_hasChild_2 rfl ?_
  refine q_bipush F (nI 8) dX3_hasChild_3 (by decide) ?_
  refine q_icmpN_ge F 29 dX3_hasChild_5 (by decide) (by omega) (by omega) (fun h5 => ?_) (fun h5 => ?_)
  · obtain rfl : k = 8 := by omega
    refine q_iconst F (nI 0) dX3_hasChild_29 (by decide) ?_
    refine q_zret F E rfl (by decide) ⟨q_bl_0 (by rintro ⟨p, hp, h⟩; exact hall p hp h), rfl⟩ dX3_hasChild_30
  · refine q_aload_n F dX3_hasChild_8 rfl ?_
    refine q_getr F (k := 1) fkX3_20 q_m0 rfl rfl dX3_hasChild_9 ?_
    refine q_iload_n F dX3_hasChild_12 rfl ?_
    refine q_aald F (_) q_m4 rfl rfl (by omega) (by decide) rfl dX3_hasChild_13 ?_
    refine q_geti F (k := 1) fkX3_81 (q_m5 (by omega)) rfl rfl dX3_hasChild_14 ?_
    refine q_iload_n F dX3_hasChild_17 rfl ?_
    refine q_icmp_ne F 23 dX3_hasChild_18 (by decide) (fun h18 => ?_) (fun h18 => ?_)
    · refine q_iinc_2 F _ dX3_hasChild_23 (q_inc1 _) (by decide) ?_
      exact q_goto F 2 dX3_hasChild_26 (by decide) (ih h5 (lt_s hall h18))
    · refine q_iconst F (nI 1) dX3_hasChild_21 (by decide) ?_
      refine q_zret F E rfl (by decide) ⟨q_bl_1 ⟨k, h5, h18⟩, rfl⟩ dX3_hasChild_22
set_option maxRecDepth 100000 in
set_option maxHeartbeats 4000000 in
theorem t_hasChild {G : q_g} {n : Nat} {ad : q_ix → Nat} (l : Launch) (S : q_st) {v : Int32} : q_Ct l G iX3_hasChild [.inr (some (0, 0)), .inl v] (q_w G n ad) (S) (q_pi (q_w G n ad) (fun r S' => q_bl r (∃ p, p < 8 ∧ S (5, p) 1 = v) ∧ S' = S)) := by
  refine q_enter (by decide) (Nat.le_of_ble_eq_true rfl) (fun X F E => ?_)
  show q_W G X iX3_hasChild (q_w G n ad) (0, 0) 0 [some (.inr (some (0, 0))), some (.inl v), none] [] (S)
  refine q_iconst F (nI 0) dX3_hasChild_0 (by decide) ?_
  refine q_istore_n_2 F dX3_hasChild_1 (by decide) ?_
  exact lp_hasChild F E 0 (by decide) (fun i hi => absurd hi (Nat.not_lt_zero i))

set_option maxRecDepth 100000 in
set_option maxHeartbeats 4000000 in
theorem lp_firstZombieChild {G : q_g} {n : Nat} {ad : q_ix → Nat} {X : q_cx} (F : q_fx G X iX3_firstZombieChild) {S : q_st} {v : Int32} (E : q_en G X iX3_firstZombieChild (q_pi (q_w G n ad) (fun r S' => r = q_fe (f_st (fun p => S (5, p) 1 = v ∧ S (5, p) 0 = nI 3) 8) ∧ S' = S))) : ∀ k, k ≤ 8 → (∀ i, i < k → ¬ (S (5, i) 1 = v ∧ S (5, i) 0 = nI 3)) → q_W G X iX3_firstZombieChild (q_w G n ad) (0, 0) 2 [some (.inr (some (0, 0))), some (.inl v), some (.inl (nI k))] [] S := by
  refine q_loop (fun k hk ih => ?_)
  intro hall
  refine q_iload_n F dX3_firstZombieChild_2 rfl ?_
  refine q_bipush F (nI 8) dX3_firstZombieChild_3 (by decide) ?_
  refine q_icmpN_ge F 42 dX3_firstZombieChild_5 (by decide) (by omega) (by omega) (fun h5 => ?_) (fun h5 => ?_)
  · obtain rfl : k = 8 := by omega
    refine q_iconst F (-1) dX3_firstZombieChild_42 (by decide) ?_
    refine q_iret F E rfl ⟨by rw [f_st_none hall]; rfl, rfl⟩ dX3_firstZombieChild_43
  · refine q_aload_n F dX3_firstZombieChild_8 rfl ?_
    refine q_getr F (k := 1) fkX3_20 q_m0 rfl rfl dX3_firstZombieChild_9 ?_
    refine q_iload_n F dX3_firstZombieChild_12 rfl ?_
    refine q_aald F (_) q_m4 rfl rfl (by omega) (by decide) rfl dX3_firstZombieChild_13 ?_
    refine q_geti F (k := 1) fkX3_81 (q_m5 (by omega)) rfl rfl dX3_firstZombieChild_14 ?_
    refine q_iload_n F dX3_firstZombieChild_17 rfl ?_
    refine q_icmp_ne F 36 dX3_firstZombieChild_18 (by decide) (fun h18 => ?_) (fun h18 => ?_)
    · refine q_iinc_2 F _ dX3_firstZombieChild_36 (q_inc1 _) (by decide) ?_
      exact q_goto F 2 dX3_firstZombieChild_39 (by decide) (ih h5 (lt_s hall (by rintro ⟨q1, q2⟩; first | exact h18 q1 | exact h31 q2)))
    · refine q_aload_n F dX3_firstZombieChild_21 rfl ?_
      refine q_getr F (k := 1) fkX3_20 q_m0 rfl rfl dX3_firstZombieChild_22 ?_
      refine q_iload_n F dX3_firstZombieChild_25 rfl ?_
      refine q_aald F (_) q_m4 rfl rfl (by omega) (by decide) rfl dX3_firstZombieChild_26 ?_
      refine q_geti F (k := 0) fkX3_90 (q_m5 (by omega)) rfl rfl dX3_firstZombieChild_27 ?_
      refine q_iconst F (nI 3) dX3_firstZombieChild_30 (by decide) ?_
      refine q_icmp_ne F 36 dX3_firstZombieChild_31 (by decide) (fun h31 => ?_) (fun h31 => ?_)
      · refine q_iinc_2 F _ dX3_firstZombieChild_36 (q_inc1 _) (by decide) ?_
        exact q_goto F 2 dX3_firstZombieChild_39 (by decide) (ih h5 (lt_s hall (by rintro ⟨q1, q2⟩; first | exact h18 q1 | exact h31 q2)))
      · refine q_iload_n F dX3_firstZombieChild_34 rfl ?_
        refine q_iret F E rfl ⟨by rw [f_st_some ⟨h18, h31⟩ hall h5]; rfl, rfl⟩ dX3_firstZombieChild_35
set_option maxRecDepth 100000 in
set_option maxHeartbeats 4000000 in
theorem t_firstZombieChild {G : q_g} {n : Nat} {ad : q_ix → Nat} (l : Launch) (S : q_st) {v : Int32} : q_Ct l G iX3_firstZombieChild [.inr (some (0, 0)), .inl v] (q_w G n ad) (S) (q_pi (q_w G n ad) (fun r S' => r = q_fe (f_st (fun p => S (5, p) 1 = v ∧ S (5, p) 0 = nI 3) 8) ∧ S' = S)) := by
  refine q_enter (by decide) (Nat.le_of_ble_eq_true rfl) (fun X F E => ?_)
  show q_W G X iX3_firstZombieChild (q_w G n ad) (0, 0) 0 [some (.inr (some (0, 0))), some (.inl v), none] [] (S)
  refine q_iconst F (nI 0) dX3_firstZombieChild_0 (by decide) ?_
  refine q_istore_n_2 F dX3_firstZombieChild_1 (by decide) ?_
  exact lp_firstZombieChild F E 0 (by decide) (fun i hi => absurd hi (Nat.not_lt_zero i))

set_option maxRecDepth 100000 in
set_option maxHeartbeats 4000000 in
theorem t_rowOff {G : q_g} {n : Nat} {ad : q_ix → Nat} (l : Launch) (S : q_st) (h0 : S (0, 0) 5 = -1) : q_Ct l G iX3_rowGoesOn [.inr (some (0, 0))] (q_w G n ad) (S) (q_pi (q_w G n ad) (fun r S' => r = nI 0 ∧ S' = S)) := by
  refine q_enter (by decide) (Nat.le_of_ble_eq_true rfl) (fun X F E => ?_)
  show q_W G X iX3_rowGoesOn (q_w G n ad) (0, 0) 0 [some (.inr (some (0, 0)))] [] (S)
  refine q_aload_n F dX3_rowGoesOn_0 rfl ?_
  refine q_geti F (k := 5) fkX3_40 q_m0 rfl rfl dX3_rowGoesOn_1 ?_
  refine q_iconst F (-1) dX3_rowGoesOn_4 (by decide) ?_
  refine q_icmp_eq F 39 dX3_rowGoesOn_5 (by decide) (fun h5 => ?_) (fun h5 => ?_)
  · refine q_iconst F (nI 0) dX3_rowGoesOn_39 (by decide) ?_
    refine q_zret F E rfl (by decide) ⟨rfl, rfl⟩ dX3_rowGoesOn_40
  · exact absurd h0 h5

set_option maxRecDepth 100000 in
set_option maxHeartbeats 4000000 in
theorem t_rowOn {G : q_g} {n : Nat} {ad : q_ix → Nat} (l : Launch) (S : q_st) {c : Nat} (hc : c < 8) (h0 : S (0, 0) 5 = nI c) : q_Ct l G iX3_rowGoesOn [.inr (some (0, 0))] (q_w G n ad) (S) (q_pi (q_w G n ad) (fun r S' => q_bl r (S (5, c) 0 = nI 1 ∧ (S (0, 0) 6).toInt < (S (0, 0) 4).toInt) ∧ S' = S)) := by
  refine q_enter (by decide) (Nat.le_of_ble_eq_true rfl) (fun X F E => ?_)
  show q_W G X iX3_rowGoesOn (q_w G n ad) (0, 0) 0 [some (.inr (some (0, 0)))] [] (S)
  refine q_aload_n F dX3_rowGoesOn_0 rfl ?_
  refine q_geti F (k := 5) fkX3_40 q_m0 rfl rfl dX3_rowGoesOn_1 ?_
  refine q_iconst F (-1) dX3_rowGoesOn_4 (by decide) ?_
  refine q_icmp_eq F 39 dX3_rowGoesOn_5 (by decide) (fun h5 => ?_) (fun h5 => ?_)
  · rw [h0] at h5
    exact absurd h5 (q_nm1 (by omega))
  · refine q_aload_n F dX3_rowGoesOn_8 rfl ?_
    refine q_getr F (k := 1) fkX3_20 q_m0 rfl rfl dX3_rowGoesOn_9 ?_
    refine q_aload_n F dX3_rowGoesOn_12 rfl ?_
    refine q_geti F (k := 5) fkX3_40 q_m0 rfl rfl dX3_rowGoesOn_13 ?_
    refine q_top (nI c) h0 ?_
    refine q_aald F (_) q_m4 rfl rfl (by omega) (by decide) rfl dX3_rowGoesOn_16 ?_
    refine q_geti F (k := 0) fkX3_90 (q_m5 (by omega)) rfl rfl dX3_rowGoesOn_17 ?_
    refine q_iconst F (nI 1) dX3_rowGoesOn_20 (by decide) ?_
    refine q_icmp_ne F 39 dX3_rowGoesOn_21 (by decide) (fun h21 => ?_) (fun h21 => ?_)
    · refine q_iconst F (nI 0) dX3_rowGoesOn_39 (by decide) ?_
      refine q_zret F E rfl (by decide) ⟨by first | exact q_bl_1 ⟨h21, h32⟩ | exact q_bl_0 (fun q => h21 q.1) | exact q_bl_0 (fun q => by have := q.2; omega), rfl⟩ dX3_rowGoesOn_40
    · refine q_aload_n F dX3_rowGoesOn_24 rfl ?_
      refine q_geti F (k := 6) fkX3_43 q_m0 rfl rfl dX3_rowGoesOn_25 ?_
      refine q_aload_n F dX3_rowGoesOn_28 rfl ?_
      refine q_geti F (k := 4) fkX3_36 q_m0 rfl rfl dX3_rowGoesOn_29 ?_
      refine q_icmp_ge F 39 dX3_rowGoesOn_32 (by decide) (fun h32 => ?_) (fun h32 => ?_)
      · refine q_iconst F (nI 0) dX3_rowGoesOn_39 (by decide) ?_
        refine q_zret F E rfl (by decide) ⟨by first | exact q_bl_1 ⟨h21, h32⟩ | exact q_bl_0 (fun q => h21 q.1) | exact q_bl_0 (fun q => by have := q.2; omega), rfl⟩ dX3_rowGoesOn_40
      · refine q_iconst F (nI 1) dX3_rowGoesOn_35 (by decide) ?_
        refine q_goto F 40 dX3_rowGoesOn_36 (by decide) ?_
        refine q_zret F E rfl (by decide) ⟨by first | exact q_bl_1 ⟨h21, h32⟩ | exact q_bl_0 (fun q => h21 q.1) | exact q_bl_0 (fun q => by have := q.2; omega), rfl⟩ dX3_rowGoesOn_40

set_option maxRecDepth 100000 in
set_option maxHeartbeats 4000000 in
theorem lp_nextReady {G : q_g} {n : Nat} {ad : q_ix → Nat} {X : q_cx} (F : q_fx G X iX3_nextReady) {S : q_st} {m : Nat} (hm : m ≤ 8) (h0 : S (0, 0) 5 + 1 = nI m) (E : q_en G X iX3_nextReady (q_pi (q_w G n ad) (fun r S' => r = q_fe ((f_st (fun j => S (5, (m + j) % 8) 0 = nI 1) 8).map (fun j => (m + j) % 8)) ∧ S' = S))) : ∀ j, j ≤ 8 → (∀ i, i < j → ¬ S (5, (m + i) % 8) 0 = nI 1) → q_W G X iX3_nextReady (q_w G n ad) (0, 0) 2 [some (.inr (some (0, 0))), some (.inl (nI (j + 1))), none] [] S := by
  refine q_loop (fun j hj ih => ?_)
  intro hall
  refine q_iload_n F dX3_nextReady_2 rfl ?_
  refine q_bipush F (nI 8) dX3_nextReady_3 (by decide) ?_
  refine q_icmpN_gt F 39 dX3_nextReady_5 (by decide) (by omega) (by omega) (fun h5 => ?_) (fun h5 => ?_)
  · obtain rfl : j = 8 := by omega
    refine q_iconst F (-1) dX3_nextReady_39 (by decide) ?_
    refine q_iret F E rfl ⟨by rw [f_st_none hall]; rfl, rfl⟩ dX3_nextReady_40
  · refine q_aload_n F dX3_nextReady_8 rfl ?_
    refine q_geti F (k := 5) fkX3_40 q_m0 rfl rfl dX3_nextReady_9 ?_
    refine q_iload_n F dX3_nextReady_12 rfl ?_
    refine q_iadd F dX3_nextReady_13 ?_
    refine q_top (nI (m + j)) (by rw [← nI_1 j, Int32.add_comm (nI j) 1, ← Int32.add_assoc, h0, nI_add]) ?_
    refine q_bipush F (nI 8) dX3_nextReady_14 (by decide) ?_
    refine q_iremN F dX3_nextReady_16 (by omega) (by omega) (by omega) ?_
    refine q_istore_n_2 F dX3_nextReady_17 (by decide) ?_
    refine q_aload_n F dX3_nextReady_18 rfl ?_
    refine q_getr F (k := 1) fkX3_20 q_m0 rfl rfl dX3_nextReady_19 ?_
    refine q_iload_n F dX3_nextReady_22 rfl ?_
    refine q_aald F (_) q_m4 rfl rfl (by omega) (by decide) rfl dX3_nextReady_23 ?_
    refine q_geti F (k := 0) fkX3_90 (q_m5 (by omega)) rfl rfl dX3_nextReady_24 ?_
    refine q_iconst F (nI 1) dX3_nextReady_27 (by decide) ?_
    refine q_icmp_ne F 33 dX3_nextReady_28 (by decide) (fun h28 => ?_) (fun h28 => ?_)
    · refine q_iinc_1 F _ dX3_nextReady_33 (q_inc1 _) (by decide) ?_
      exact q_goto F 2 dX3_nextReady_36 (by decide) (q_drop_2 (ih (by omega) (lt_s hall h28)))
    · refine q_iload_n F dX3_nextReady_31 rfl ?_
      refine q_iret F E rfl ⟨by rw [f_st_some h28 hall (by omega)]; rfl, rfl⟩ dX3_nextReady_32

set_option maxRecDepth 100000 in
set_option maxHeartbeats 4000000 in
theorem t_nextReady {G : q_g} {n : Nat} {ad : q_ix → Nat} (l : Launch) (S : q_st) {m : Nat} (hm : m ≤ 8) (h0 : S (0, 0) 5 + 1 = nI m) : q_Ct l G iX3_nextReady [.inr (some (0, 0))] (q_w G n ad) (S) (q_pi (q_w G n ad) (fun r S' => r = q_fe ((f_st (fun j => S (5, (m + j) % 8) 0 = nI 1) 8).map (fun j => (m + j) % 8)) ∧ S' = S)) := by
  refine q_enter (by decide) (Nat.le_of_ble_eq_true rfl) (fun X F E => ?_)
  show q_W G X iX3_nextReady (q_w G n ad) (0, 0) 0 [some (.inr (some (0, 0))), none, none] [] (S)
  refine q_iconst F (nI 1) dX3_nextReady_0 (by decide) ?_
  refine q_istore_n_1 F dX3_nextReady_1 (by decide) ?_
  exact lp_nextReady F hm h0 E 0 (by decide) (fun i hi => absurd hi (Nat.not_lt_zero i))

set_option maxRecDepth 100000 in
set_option maxHeartbeats 4000000 in
theorem t_wordAt0 {G : q_g} {n : Nat} {ad : q_ix → Nat} (l : Launch) (S : q_st) {p a : Nat} (hp : p < 8) (ha : a < 64) (h0 : S (7, p) (a / 8) = -1) : q_Ct l G iX3_wordAt [.inr (some (0, 0)), .inr (some (5, p)), .inl (nI a)] (q_w G n ad) (S) (q_pi (q_w G n ad) (fun r S' => r = 0 ∧ S' = S)) := by
  refine q_enter (by decide) (Nat.le_of_ble_eq_true rfl) (fun X F E => ?_)
  show q_W G X iX3_wordAt (q_w G n ad) (0, 0) 0 [some (.inr (some (0, 0))), some (.inr (some (5, p))), some (.inl (nI a)), none] [] (S)
  refine q_aload_n F dX3_wordAt_0 rfl ?_
  refine q_getr F (k := 6) fkX3_112 (q_m5 (by omega)) rfl rfl dX3_wordAt_1 ?_
  refine q_iload_n F dX3_wordAt_4 rfl ?_
  refine q_bipush F (nI 8) dX3_wordAt_5 (by decide) ?_
  refine q_idivN F dX3_wordAt_7 (by omega) (by omega) (by omega) ?_
  refine q_iald F (_) (q_m7 (by omega)) rfl rfl (by omega) (by omega) dX3_wordAt_8 ?_
  refine q_top (-1) h0 ?_
  refine q_istore_n_3 F dX3_wordAt_9 (by decide) ?_
  refine q_iload_n F dX3_wordAt_10 rfl ?_
  refine q_iconst F (-1) dX3_wordAt_11 (by decide) ?_
  refine q_icmp_ne F 19 dX3_wordAt_12 (by decide) (fun h12 => ?_) (fun h12 => ?_)
  · exact absurd rfl h12
  · refine q_iconst F (nI 0) dX3_wordAt_15 (by decide) ?_
    refine q_goto F 36 dX3_wordAt_16 (by decide) ?_
    refine q_iret F E rfl ⟨rfl, rfl⟩ dX3_wordAt_36

set_option maxRecDepth 100000 in
set_option maxHeartbeats 4000000 in
theorem t_wordAt {G : q_g} {n : Nat} {ad : q_ix → Nat} (l : Launch) (S : q_st) {p a f : Nat} (hp : p < 8) (ha : a < 64) (hf : f < n) (hn : n ≤ 32) (h0 : S (7, p) (a / 8) = nI f) : q_Ct l G iX3_wordAt [.inr (some (0, 0)), .inr (some (5, p)), .inl (nI a)] (q_w G n ad) (S) (q_pi (q_w G n ad) (fun r S' => r = S (2, 0) (8 * f + a % 8) ∧ S' = S)) := by
  refine q_enter (by decide) (Nat.le_of_ble_eq_true rfl) (fun X F E => ?_)
  show q_W G X iX3_wordAt (q_w G n ad) (0, 0) 0 [some (.inr (some (0, 0))), some (.inr (some (5, p))), some (.inl (nI a)), none] [] (S)
  refine q_aload_n F dX3_wordAt_0 rfl ?_
  refine q_getr F (k := 6) fkX3_112 (q_m5 (by omega)) rfl rfl dX3_wordAt_1 ?_
  refine q_iload_n F dX3_wordAt_4 rfl ?_
  refine q_bipush F (nI 8) dX3_wordAt_5 (by decide) ?_
  refine q_idivN F dX3_wordAt_7 (by omega) (by omega) (by omega) ?_
  refine q_iald F (_) (q_m7 (by omega)) rfl rfl (by omega) (by omega) dX3_wordAt_8 ?_
  refine q_top (nI f) h0 ?_
  refine q_istore_n_3 F dX3_wordAt_9 (by decide) ?_
  refine q_iload_n F dX3_wordAt_10 rfl ?_
  refine q_iconst F (-1) dX3_wordAt_11 (by decide) ?_
  refine q_icmp_ne F 19 dX3_wordAt_12 (by decide) (fun h12 => ?_) (fun h12 => ?_)
  · refine q_aload_n F dX3_wordAt_19 rfl ?_
    refine q_getr F (k := 0) fkX3_14 q_m0 rfl rfl dX3_wordAt_20 ?_
    refine q_getr F (k := 1) fkX3_194 q_m1 rfl rfl dX3_wordAt_23 ?_
    refine q_iload_n F dX3_wordAt_26 rfl ?_
    refine q_bipush F (nI 8) dX3_wordAt_27 (by decide) ?_
    refine q_imulN F dX3_wordAt_29 ?_
    refine q_iload_n F dX3_wordAt_30 rfl ?_
    refine q_bipush F (nI 8) dX3_wordAt_31 (by decide) ?_
    refine q_iremN F dX3_wordAt_33 (by omega) (by omega) (by omega) ?_
    refine q_iaddN F dX3_wordAt_34 ?_
    refine q_iald F (8 * f + a % 8) q_m2 rfl (by rw [Nat.mul_comm]) (by omega) (by omega) dX3_wordAt_35 ?_
    refine q_iret F E rfl ⟨rfl, rfl⟩ dX3_wordAt_36
  · exact absurd h12 (q_nm1 (by omega))

set_option maxRecDepth 100000 in
set_option maxHeartbeats 4000000 in
theorem t_putWord {G : q_g} {n : Nat} {ad : q_ix → Nat} (l : Launch) (S : q_st) {p a f : Nat} {v : Int32} (hp : p < 8) (ha : a < 64) (hf : f < n) (hn : n ≤ 32) (h0 : S (7, p) (a / 8) = nI f) : q_Ct l G iX3_putWord [.inr (some (0, 0)), .inr (some (5, p)), .inl (nI a), .inl v] (q_w G n ad) (S) (q_pv (q_w G n ad) (fun S' => S' = q_up S (2, 0) (8 * f + a % 8) v)) := by
  refine q_enter (by decide) (Nat.le_of_ble_eq_true rfl) (fun X F E => ?_)
  show q_W G X iX3_putWord (q_w G n ad) (0, 0) 0 [some (.inr (some (0, 0))), some (.inr (some (5, p))), some (.inl (nI a)), some (.inl v), none] [] (S)
  refine q_aload_n F dX3_putWord_0 rfl ?_
  refine q_getr F (k := 6) fkX3_112 (q_m5 (by omega)) rfl rfl dX3_putWord_1 ?_
  refine q_iload_n F dX3_putWord_4 rfl ?_
  refine q_bipush F (nI 8) dX3_putWord_5 (by decide) ?_
  refine q_idivN F dX3_putWord_7 (by omega) (by omega) (by omega) ?_
  refine q_iald F (_) (q_m7 (by omega)) rfl rfl (by omega) (by omega) dX3_putWord_8 ?_
  refine q_top (nI f) h0 ?_
  refine q_istore_4 F dX3_putWord_9 (by decide) ?_
  refine q_iload F dX3_putWord_11 rfl ?_
  refine q_iconst F (-1) dX3_putWord_13 (by decide) ?_
  refine q_icmp_eq F 36 dX3_putWord_14 (by decide) (fun h14 => ?_) (fun h14 => ?_)
  · exact absurd h14 (q_nm1 (by omega))
  · refine q_aload_n F dX3_putWord_17 rfl ?_
    refine q_getr F (k := 0) fkX3_14 q_m0 rfl rfl dX3_putWord_18 ?_
    refine q_getr F (k := 1) fkX3_194 q_m1 rfl rfl dX3_putWord_21 ?_
    refine q_iload F dX3_putWord_24 rfl ?_
    refine q_bipush F (nI 8) dX3_putWord_26 (by decide) ?_
    refine q_imulN F dX3_putWord_28 ?_
    refine q_iload_n F dX3_putWord_29 rfl ?_
    refine q_bipush F (nI 8) dX3_putWord_30 (by decide) ?_
    refine q_iremN F dX3_putWord_32 (by omega) (by omega) (by omega) ?_
    refine q_iaddN F dX3_putWord_33 ?_
    refine q_iload_n F dX3_putWord_34 rfl ?_
    refine q_iast F (8 * f + a % 8) q_m2 rfl (by rw [Nat.mul_comm]) (by omega) (by omega) dX3_putWord_35 ?_
    refine q_vret F E rfl rfl dX3_putWord_36

set_option maxRecDepth 100000 in
set_option maxHeartbeats 4000000 in
theorem t_jumpIf {G : q_g} {n : Nat} {ad : q_ix → Nat} (l : Launch) (S : q_st) {p : Nat} (hp : p < 8) {b v : Int32} : q_Ct l G iX3_jumpIf [.inr (some (5, p)), .inl b, .inl v] (q_w G n ad) (S) (q_pi (q_w G n ad) (fun r S' => r = nI 1 ∧ S' = if b = 0 then S else q_up S (5, p) 3 v)) := by
  refine q_enter (by decide) (Nat.le_of_ble_eq_true rfl) (fun X F E => ?_)
  show q_W G X iX3_jumpIf (q_w G n ad) (0, 0) 0 [some (.inr (some (5, p))), some (.inl b), some (.inl v)] [] (S)
  refine q_iload_n F dX3_jumpIf_0 rfl ?_
  refine q_if_eq F 9 dX3_jumpIf_1 (by decide) (fun h1 => ?_) (fun h1 => ?_)
  · refine q_iconst F (nI 1) dX3_jumpIf_9 (by decide) ?_
    refine q_iret F E rfl ⟨rfl, by first | rw [if_pos h1] | rw [if_neg h1]⟩ dX3_jumpIf_10
  · refine q_aload_n F dX3_jumpIf_4 rfl ?_
    refine q_iload_n F dX3_jumpIf_5 rfl ?_
    refine q_puti F (k := 3) fkX3_100 fp2_3 (q_m5 (by omega)) rfl rfl dX3_jumpIf_6 ?_
    refine q_iconst F (nI 1) dX3_jumpIf_9 (by decide) ?_
    refine q_iret F E rfl ⟨rfl, by first | rw [if_pos h1] | rw [if_neg h1]⟩ dX3_jumpIf_10
