/-! the reference: step, steps (rows laid by wip/whole/m46.py) -/
set_option maxRecDepth 100000 in
set_option maxHeartbeats 4000000 in
theorem lp_mstep {G : q_g} {n : Nat} {ad : q_ix → Nat} {X : q_cx} (F : q_fx G X iX4_step) {S : q_st} {K : k_t} {p B : Nat} (hp : p < 8) (hok : k_Ok K B) (hB : B < 2 ^ 30) (hst : ¬ K 2 p = 0) (Q : Int32 × k_t) (hQ : Q = k_s1 K p) (E : q_en G X iX4_step (q_pi (q_w G n ad) (fun r S' => r = Q.1 ∧ S' = q_put S Q.2))) : q_W G X iX4_step (q_w G n ad) (0, 0) 29 [some (.inr (some (20, 0))), some (.inl (nI p)), none, none] [] (q_put S K) := by
  obtain ⟨b0, hb064, hb0⟩ := (hok.1 p hp).2.2.1
  obtain ⟨m, hm, hm1⟩ := hok.2.2.1
  have hbr : (K 7 p).toInt ≤ 64 := by rw [hb0, nI_toInt (by omega)]; omega
  have hok1 : k_Ok (k_re K p (K 6 p) false).2 B := k_Ok_re hok
  unfold k_s1 at hQ
  refine q_aload_n F dX4_step_29 rfl ?_
  refine q_getr F (k := 7) fkX4_25 q_m20 rfl rfl dX4_step_30 ?_
  refine q_iload_n F dX4_step_33 rfl ?_
  refine q_kald F 6 (_) q_m26 rfl rfl rfl (by omega) (by decide) dX4_step_34 ?_
  refine q_istore_n_2 F dX4_step_35 (by decide) ?_
  refine q_aload_n F dX4_step_36 rfl ?_
  refine q_iload_n F dX4_step_37 rfl ?_
  refine q_iload_n F dX4_step_38 rfl ?_
  refine q_iconst F (nI 0) dX4_step_39 (by decide) ?_
  refine q_callVi F [.inl (nI p), .inl (K 6 p), .inl (nI 0)] (fun l => t_reach l S K hp (wr := false) (q_bl_0 (by decide)) hbr) clX4_91 rfl q_m20 rfl rfl rfl ⟨Nat.le_of_ble_eq_true rfl, Nat.le_of_ble_eq_true rfl⟩ (Nat.le_of_ble_eq_true rfl) ⟨rfl, rfl⟩ ⟨Nat.zero_le _, Nat.zero_le _⟩ dX4_step_40 (fun v S' hv => ?_)
  obtain ⟨hv, hS⟩ := hv
  subst hS
  rcases hv with ⟨rfl, hre⟩ | ⟨rfl, hre⟩
  · refine q_ifN_eq F 81 dX4_step_43 (by decide) (by omega) (fun h43 => ?_) (fun h43 => ?_)
    · refine q_aload_n F dX4_step_81 rfl ?_
      refine q_iload_n F dX4_step_82 rfl ?_
      refine q_aload_n F dX4_step_83 rfl ?_
      refine q_kgeti F (k := 14) fkX4_54 rfl dX4_step_84 ?_
      refine q_callVv F [.inl (nI p), .inl ((k_re K p (K 6 p) false).2 0 14)] (fun l => t_mend l S _ hp (k_Ok_par hok1)) clX4_81 rfl q_m20 rfl rfl rfl ⟨Nat.le_of_ble_eq_true rfl, Nat.le_of_ble_eq_true rfl⟩ (Nat.le_of_ble_eq_true rfl) ⟨rfl, rfl⟩ ⟨Nat.zero_le _, Nat.zero_le _⟩ dX4_step_87 (fun S' hS => ?_)
      subst hS
      refine q_iconst F (nI 5) dX4_step_90 (by decide) ?_
      refine q_iret F E rfl (by rw [hQ, if_neg (by rw [hre]; decide)]; exact ⟨rfl, rfl⟩) dX4_step_91
    · exact absurd h43 (by decide)
  · refine q_ifN_eq F 81 dX4_step_43 (by decide) (by omega) (fun h43 => ?_) (fun h43 => ?_)
    · exact absurd h43 (by decide)
    · rw [if_pos hre] at hQ
      obtain ⟨t, ht, hte⟩ := k_re_ok hre hbr
      have htn : (K 6 p).toInt.toNat = t := by rw [hte, nI_toInt (by omega)]; rfl
      have hok4 : k_Ok (k_u (k_re K p (K 6 p) false).2 6 p (K 6 p + 1)) B := k_Ok_u (by decide) hok1
      refine q_aload_n F dX4_step_46 rfl ?_
      refine q_getr F (k := 7) fkX4_25 q_m20 rfl rfl dX4_step_47 ?_
      refine q_iload_n F dX4_step_50 rfl ?_
      refine q_iload_n F dX4_step_51 rfl ?_
      refine q_iconst F (nI 1) dX4_step_52 (by decide) ?_
      refine q_iadd F dX4_step_53 ?_
      refine q_top (K 6 p + 1) rfl ?_
      refine q_kast F 6 (_) q_m26 rfl rfl rfl (by omega) (by decide) dX4_step_54 ?_
      refine q_aload_n F dX4_step_55 rfl ?_
      refine q_iload_n F dX4_step_56 rfl ?_
      refine q_aload_n F dX4_step_57 rfl ?_
      refine q_getr F (k := 9) fkX4_31 q_m20 rfl rfl dX4_step_58 ?_
      refine q_bipush F (nI 64) dX4_step_61 (by decide) ?_
      refine q_iload_n F dX4_step_63 rfl ?_
      refine q_imulN F dX4_step_64 ?_
      refine q_iload_n F dX4_step_65 rfl ?_
      refine q_iadd F dX4_step_66 ?_
      refine q_kald F 8 (64 * p + t) q_m28 rfl rfl (by rw [hte, nI_add]) (by omega) (by decide) dX4_step_67 ?_
      refine q_top (((k_re K p (K 6 p) false).2 8 (64 * p + (K 6 p).toInt.toNat))) (by rw [k_u_ne _ _ _ _ (by simp), htn]) ?_
      refine q_callVi F [.inl (nI p), .inl ((k_re K p (K 6 p) false).2 8 (64 * p + (K 6 p).toInt.toNat))] (fun l => t_perform l S (k_u (k_re K p (K 6 p) false).2 6 p (K 6 p + 1)) hp (b0 := b0) (by rw [k_u_ne _ _ _ _ (by simp)]; exact (congrFun (k_re_k (by decide) (by decide)) _).trans hb0) hb064 (k_Ok_par hok4) (by rw [k_u_ne _ _ _ _ (by simp)]; rw [congrFun (k_re_k (by decide) (by decide)) _]; exact hst) (m := m) (by rw [k_u_ne _ _ _ _ (by simp)]; exact (k_re_0 (by decide) (by decide)).trans hm1) (by omega)) clX4_117 rfl q_m20 rfl rfl rfl ⟨Nat.le_of_ble_eq_true rfl, Nat.le_of_ble_eq_true rfl⟩ (Nat.le_of_ble_eq_true rfl) ⟨rfl, rfl⟩ ⟨Nat.zero_le _, Nat.zero_le _⟩ dX4_step_68 (fun v S' hv => ?_)
      obtain ⟨hv, hS⟩ := hv
      subst hS
      subst hv
      have hok5 : k_Ok (k_dn (k_u (k_re K p (K 6 p) false).2 6 p (K 6 p + 1)) p ((k_re K p (K 6 p) false).2 8 (64 * p + (K 6 p).toInt.toNat))).2 (B + 1) := k_Ok_op hp hok4
      unfold k_s2 at hQ
      refine q_istore_n_3 F dX4_step_71 (by decide) ?_
      refine q_aload_n F dX4_step_72 rfl ?_
      refine q_kgeti F (k := 14) fkX4_54 rfl dX4_step_73 ?_
      refine q_if_ne F 81 dX4_step_76 (by decide) (fun h76 => ?_) (fun h76 => ?_)
      · refine q_aload_n F dX4_step_81 rfl ?_
        refine q_iload_n F dX4_step_82 rfl ?_
        refine q_aload_n F dX4_step_83 rfl ?_
        refine q_kgeti F (k := 14) fkX4_54 rfl dX4_step_84 ?_
        refine q_callVv F [.inl (nI p), .inl ((k_dn (k_u (k_re K p (K 6 p) false).2 6 p (K 6 p + 1)) p ((k_re K p (K 6 p) false).2 8 (64 * p + (K 6 p).toInt.toNat))).2 0 14)] (fun l => t_mend l S _ hp (k_Ok_par hok5)) clX4_81 rfl q_m20 rfl rfl rfl ⟨Nat.le_of_ble_eq_true rfl, Nat.le_of_ble_eq_true rfl⟩ (Nat.le_of_ble_eq_true rfl) ⟨rfl, rfl⟩ ⟨Nat.zero_le _, Nat.zero_le _⟩ dX4_step_87 (fun S' hS => ?_)
        subst hS
        refine q_iconst F (nI 5) dX4_step_90 (by decide) ?_
        refine q_iret F E rfl (by rw [hQ, if_neg h76]; exact ⟨rfl, rfl⟩) dX4_step_91
      · refine q_iload_n F dX4_step_79 rfl ?_
        refine q_iret F E rfl (by rw [hQ, if_pos h76]; exact ⟨rfl, rfl⟩) dX4_step_80

set_option maxRecDepth 100000 in
set_option maxHeartbeats 4000000 in
theorem t_mstep {G : q_g} {n : Nat} {ad : q_ix → Nat} (l : Launch) (S : q_st) (K : k_t) {B : Nat} (hok : k_Ok K B) (hB : B < 2 ^ 30) : q_Ct l G iX4_step [.inr (some (20, 0))] (q_w G n ad) (q_put S K) (q_pi (q_w G n ad) (fun r S' => r = (k_s K).1 ∧ S' = q_put S (k_s K).2)) := by
  refine q_enter (by decide) (Nat.le_of_ble_eq_true rfl) (fun X F E => ?_)
  show q_W G X iX4_step (q_w G n ad) (0, 0) 0 [some (.inr (some (20, 0))), none, none, none] [] (q_put S K)
  refine q_aload_n F dX4_step_0 rfl ?_
  refine q_callVi F [] (fun l => t_choose l S K hok.2.1) clX4_113 rfl q_m20 rfl rfl rfl ⟨Nat.le_of_ble_eq_true rfl, Nat.le_of_ble_eq_true rfl⟩ (Nat.le_of_ble_eq_true rfl) ⟨rfl, rfl⟩ ⟨Nat.zero_le _, Nat.zero_le _⟩ dX4_step_1 (fun v S' hv => ?_)
  obtain ⟨hv, hS⟩ := hv
  subst hS
  rcases hv with ⟨rfl, hch⟩ | ⟨rfl, hch⟩
  · refine q_ifN_ne F 9 dX4_step_4 (by decide) (by omega) (fun h4 => ?_) (fun h4 => ?_)
    · exact absurd h4 (by decide)
    · refine q_iconst F (nI 0) dX4_step_7 (by decide) ?_
      refine q_iret F E rfl (by unfold k_s; rw [if_neg (by rw [hch]; decide)]; exact ⟨rfl, rfl⟩) dX4_step_8
  · refine q_ifN_ne F 9 dX4_step_4 (by decide) (by omega) (fun h4 => ?_) (fun h4 => ?_)
    · obtain ⟨hok1, ha, h0, p, hp, hp1, hp2, -⟩ := k_ch_ok hok hch
      refine q_aload_n F dX4_step_9 rfl ?_
      refine q_kgeti F (k := 12) fkX4_37 rfl dX4_step_10 ?_
      refine q_top (nI p) hp1 ?_
      refine q_istore_n_1 F dX4_step_13 (by decide) ?_
      refine q_aload_n F dX4_step_14 rfl ?_
      refine q_dup F dX4_step_15 ?_
      refine q_kgeti F (k := 13) fkX4_88 rfl dX4_step_16 ?_
      refine q_iconst F (nI 1) dX4_step_19 (by decide) ?_
      refine q_iadd F dX4_step_20 ?_
      refine q_kputi F (k := 13) fkX4_88 fp4_13 rfl dX4_step_21 ?_
      refine q_aload_n F dX4_step_24 rfl ?_
      refine q_iconst F (nI 0) dX4_step_25 (by decide) ?_
      refine q_kputi F (k := 14) fkX4_54 fp4_14 rfl dX4_step_26 ?_
      refine lp_mstep F hp (k_Ok_row hok hch) hB ?_ (k_s K) ?_ E
      · rw [k_u_ne _ _ _ _ (by simp), k_u_ne _ _ _ _ (by simp), ha 2 (by decide), hp2]; decide
      · unfold k_s; rw [if_pos hch, hp1, nI_toInt (by omega), Int.toNat_natCast]; rfl
    · exact absurd h4 (by decide)

theorem k_ss_stop {K : k_t} {m : Nat} (h : (k_ss m K).1 < m) : ∀ d, k_ss (m + d) K = k_ss m K
  | 0 => rfl
  | d + 1 => by
    have ih := k_ss_stop h d
    show k_ss (m + d + 1) K = _
    rw [k_ss, ih, if_neg (fun q => by have := q.1; omega), if_neg (by omega)]
theorem k_ss_go {K : k_t} {k : Nat} (h : (k_ss k K).1 = k) (hs : ¬ (k_s (k_ss k K).2).1 = 0) : k_ss (k + 1) K = (k + 1, (k_s (k_ss k K).2).2) := by
  rw [k_ss, if_pos ⟨h, hs⟩]
theorem k_ss_end {K : k_t} {k : Nat} (h : (k_ss k K).1 = k) (hs : (k_s (k_ss k K).2).1 = 0) : k_ss (k + 1) K = (k, (k_s (k_ss k K).2).2) := by
  rw [k_ss, if_neg (fun q => q.2 hs), if_pos h]
theorem k_Ok_ss {K : k_t} {B : Nat} (h : k_Ok K B) : ∀ k, k_Ok (k_ss k K).2 (B + k)
  | 0 => h
  | k + 1 => by
    have ih := k_Ok_ss h k
    rw [k_ss]
    split
    · exact k_Ok_s ih
    · split
      · exact k_Ok_s ih
      · exact k_Ok_le (by omega) ih

set_option maxRecDepth 100000 in
set_option maxHeartbeats 4000000 in
theorem lp_msteps {G : q_g} {n : Nat} {ad : q_ix → Nat} {X : q_cx} (F : q_fx G X iX4_steps) {S : q_st} {K : k_t} {B m : Nat} (hok : k_Ok K B) (hB : B + 50 < 2 ^ 30) (hm : m ≤ 50) {P : Int32 → q_st → Prop} (hP : P (nI (k_ss m K).1) (q_put S (k_ss m K).2)) (E : q_en G X iX4_steps (q_pi (q_w G n ad) P)) : ∀ k, k ≤ m → (k_ss k K).1 = k → q_W G X iX4_steps (q_w G n ad) (0, 0) 14 [some (.inr (some (20, 0))), some (.inl (nI m)), some (.inl (nI k))] [] (q_put S (k_ss k K).2) := by
  refine q_loop (fun k hk ih => ?_)
  intro hkk
  refine q_iload_n F dX4_steps_14 rfl ?_
  refine q_iload_n F dX4_steps_15 rfl ?_
  refine q_icmpN_ge F 32 dX4_steps_16 (by decide) (by omega) (by omega) (fun h16 => ?_) (fun h16 => ?_)
  · obtain rfl : k = m := by omega
    rw [hkk] at hP
    refine q_iload_n F dX4_steps_32 rfl ?_
    refine q_iret F E rfl hP dX4_steps_33
  · refine q_aload_n F dX4_steps_19 rfl ?_
    refine q_callVi F [] (fun l => t_mstep l S _ (k_Ok_ss hok k) (by omega)) clX4_120 rfl q_m20 rfl rfl rfl ⟨Nat.le_of_ble_eq_true rfl, Nat.le_of_ble_eq_true rfl⟩ (Nat.le_of_ble_eq_true rfl) ⟨rfl, rfl⟩ ⟨Nat.zero_le _, Nat.zero_le _⟩ dX4_steps_20 (fun v S' hv => ?_)
    obtain ⟨hv, hS⟩ := hv
    subst hS
    subst hv
    refine q_if_eq F 32 dX4_steps_23 (by decide) (fun h23 => ?_) (fun h23 => ?_)
    · have he := k_ss_end hkk h23
      have hst := k_ss_stop (K := K) (m := k + 1) (by rw [he]; exact Nat.lt_succ_self k) (m - (k + 1))
      rw [show k + 1 + (m - (k + 1)) = m by omega, he] at hst
      rw [hst] at hP
      refine q_iload_n F dX4_steps_32 rfl ?_
      refine q_iret F E rfl hP dX4_steps_33
    · refine q_iinc_2 F _ dX4_steps_26 (q_inc1 _) (by decide) ?_
      have hg := k_ss_go hkk h23
      refine q_goto F 14 dX4_steps_29 (by decide) ?_
      have h := ih h16 (by rw [hg])
      rw [hg] at h
      exact h

set_option maxRecDepth 100000 in
set_option maxHeartbeats 4000000 in
theorem t_msteps {G : q_g} {n : Nat} {ad : q_ix → Nat} (l : Launch) (S : q_st) (K : k_t) {x : Int32} {B : Nat} (hok : k_Ok K B) (hB : B + 50 < 2 ^ 30) : q_Ct l G iX4_steps [.inr (some (20, 0)), .inl x] (q_w G n ad) (q_put S K) (q_pi (q_w G n ad) (fun r S' => (r = -1 ∧ ¬ (0 ≤ x.toInt ∧ x.toInt ≤ 50) ∧ S' = q_put S K) ∨ (∃ m, m ≤ 50 ∧ x = nI m ∧ r = nI (k_ss m K).1 ∧ S' = q_put S (k_ss m K).2))) := by
  refine q_enter (by decide) (Nat.le_of_ble_eq_true rfl) (fun X F E => ?_)
  show q_W G X iX4_steps (q_w G n ad) (0, 0) 0 [some (.inr (some (20, 0))), some (.inl x), none] [] (q_put S K)
  refine q_iload_n F dX4_steps_0 rfl ?_
  refine q_if_lt F 10 dX4_steps_1 (by decide) (fun h1 => ?_) (fun h1 => ?_)
  · refine q_iconst F (-1) dX4_steps_10 (by decide) ?_
    refine q_iret F E rfl (Or.inl ⟨rfl, by omega, rfl⟩) dX4_steps_11
  · refine q_iload_n F dX4_steps_4 rfl ?_
    refine q_bipush F (nI 50) dX4_steps_5 (by decide) ?_
    refine q_icmp_le F 12 dX4_steps_7 (by decide) (fun h7 => ?_) (fun h7 => ?_)
    · rw [nI_toInt (by omega)] at h7
      obtain ⟨m, hm, rfl⟩ := q_ofx (x := x) (m := 51) (by decide) h1 (by omega)
      refine q_iconst F (nI 0) dX4_steps_12 (by decide) ?_
      refine q_istore_n_2 F dX4_steps_13 (by decide) ?_
      exact lp_msteps F hok hB (by omega) (Or.inr ⟨m, by omega, rfl, rfl, rfl⟩) E 0 (Nat.zero_le _) rfl
    · rw [nI_toInt (by omega)] at h7
      refine q_iconst F (-1) dX4_steps_10 (by decide) ?_
      refine q_iret F E rfl (Or.inl ⟨rfl, by omega, rfl⟩) dX4_steps_11
