/-! the class: a process ends (rows laid by wip/whole/m52.py) -/
theorem k_en0_eq2 (K : k_t) (p : Nat) (code : Int32) : k_pz (k_u (k_u (k_rz K p 0 8) 2 p (nI 3)) 4 p code) p 8 = k_en0 K p code := by
  have e : k_u (k_u (k_rz K p 0 8) 2 p (nI 3)) 4 p code = k_rz (k_u (k_u K 2 p (nI 3)) 4 p code) p 0 8 := by
    funext a j
    by_cases h4 : a = 4
    · subst h4; simp [k_u, k_rz]
    · by_cases h2 : a = 2
      · subst h2; simp [k_u, k_rz]
      · simp [k_u, k_rz, h4, h2]
  rw [e, k_en0_eq]
theorem q_tcP {p : Nat} (hp : p < 8) : q_tc (5, p) 0 2 p ∧ q_tc (5, p) 1 3 p ∧ q_tc (5, p) 2 4 p ∧ q_tc (5, p) 3 6 p ∧ q_tc (5, p) 4 7 p := by
  refine ⟨?_, ?_, ?_, ?_, ?_⟩ <;> exact Or.inl ⟨rfl, hp, rfl, by simp⟩
theorem q_tcR {p r : Nat} (hp : p < 8) (hr : r < 8) : q_tc (6, p) r 5 (8 * p + r) := Or.inr (Or.inl ⟨rfl, hp, hr, rfl, rfl⟩)
theorem k_en_k {K : k_t} {p : Nat} {code : Int32} {a : Nat} (h : a ≠ 2) : k_en K p code a = k_en0 K p code a := by
  unfold k_en
  split
  · exact k_u_k _ _ _ _ h
  · rfl
theorem k_en_2 {K : k_t} {p : Nat} {code : Int32} {q : Nat} (h : k_en K p code 2 q = 0 ∨ k_en K p code 2 q = nI 3) : q = p ∨ K 2 q = 0 ∨ K 2 q = nI 3 := by
  by_cases hq : q = p
  · exact Or.inl hq
  · right
    unfold k_en at h
    split at h
    next hc =>
      generalize (k_en0 K p code 3 p).toInt.toNat = u at *
      by_cases hu : q = u
      · subst hu
        rw [k_u_at] at h
        rcases h with h | h <;> exact absurd h (by decide)
      · rw [k_u_ne _ _ _ _ (fun z => hu z.2)] at h
        simpa [k_en0, hq] using h
    · simpa [k_en0, hq] using h
/-- what end leaves behind -/
theorem q_F_en {S0 S1 S4 : q_st} {K : k_t} {n L B p : Nat} {code : Int32} (hp : p < 8) (hF : q_F S0 K n L B) {pg : Nat → Option Nat} {us lab : Nat → Nat} (hR : q_R S0 K n pg us lab L) (hZ : q_Zn K pg) (hrf : q_rf S0 K n p 0 0 pg L 8 S1) (hT : q_T S4 (k_en K p code)) (hsn : q_sn S1 S4) : q_F S4 (k_en K p code) n L B ∧ q_fr S0 S4 := by
  obtain ⟨h1, h2, h3, -⟩ := hF
  obtain ⟨pg', us', lab', hR', hsm, hpg⟩ := hrf
  refine ⟨⟨k_Ok_en hp h1, hT, ?_, pg', us', lab', ?_, ?_⟩, q_fr_tr (q_fr_sm hsm) (q_fr_sn hsn)⟩
  · refine q_C_sn hsn (q_C_sm hsm (q_C_k (fun j _ _ => ?_) h3))
    rw [k_en_k (by decide)]
    simp [k_en0]
  · refine q_R_sn hsn ?_ ?_ ?_ ?_ hR'
    · rw [k_en_k (by decide)]
      funext j
      unfold k_en0 k_rz
      repeat' split
      all_goals first | rfl | (exfalso; omega)
    · rw [k_en_k (by decide)]
      funext j
      unfold k_en0 k_rz
      repeat' split
      all_goals first | rfl | (exfalso; omega)
    · rw [k_en_k (by decide)]
      simp [k_en0, k_rz]
    · rw [k_en_k (by decide)]
      simp [k_en0, k_rz]
  · intro q hq hs i hi
    rw [hpg]
    by_cases hqp : q = p
    · rw [if_pos ⟨by omega, by omega, by omega⟩]
    · split
      · rfl
      · exact hZ q hq ((k_en_2 hs).resolve_left hqp) i hi

theorem k_pz_n (K : k_t) (p k : Nat) (h : ¬ K 3 k = nI p) : k_pz K p k = k_pz K p (k + 1) := by
  rw [← k_pz_s K p k (K 3 k) (by rw [if_neg h]), k_u_id _ _ _ _ (k_pz_at _ _ _)]

set_option maxRecDepth 100000 in
set_option maxHeartbeats 4000000 in
theorem lp_kend_64 {G : q_g} {n : Nat} {ad : q_ix → Nat} {X : q_cx} (F : q_fx G X iX3_end) {S0 S1 : q_st} {K : k_t} {p L B : Nat} {code : Int32} (hp : p < 8) (hF : q_F S0 K n L B) {pg : Nat → Option Nat} {us lab : Nat → Nat} (hR : q_R S0 K n pg us lab L) (hZ : q_Zn K pg) (hrf : q_rf S0 K n p 0 0 pg L 8 S1) (E : q_en G X iX3_end (q_pi (q_w G n ad) (fun r S' => r = nI 5 ∧ q_F S' (k_en K p code) n L B ∧ q_fr S0 S'))) {S : q_st} {z : Option q_v} (hT : q_T S (k_en0 K p code)) (hsn : q_sn S1 S) : q_W G X iX3_end (q_w G n ad) (0, 0) 64 [some (.inr (some (0, 0))), some (.inl (nI p)), some (.inl code), some (.inr (some (5, p))), z] [] S := by
  obtain ⟨t0, t1, t2, t3, t4⟩ := hT.2.1 p hp
  have hp3 := k_en0_3 (code := code) hp (k_Ok_par hF.1)
  refine q_aload_n F dX3_end_64 rfl ?_
  refine q_geti F (k := 1) fkX3_81 (q_m5 (by omega)) rfl rfl dX3_end_65 ?_
  refine q_top (k_en0 K p code 3 p) t1 ?_
  refine q_iconst F (-1) dX3_end_68 (by decide) ?_
  refine q_icmp_eq F 101 dX3_end_69 (by decide) (fun h69 => ?_) (fun h69 => ?_)
  · have hen : k_en K p code = k_en0 K p code := by unfold k_en; rw [if_neg (fun q => q.1 h69)]
    refine q_iconst F (nI 5) dX3_end_101 (by decide) ?_
    refine q_iret F E rfl ⟨rfl, by first | exact q_F_en hp hF hR hZ hrf (Eq.mpr (congrArg (q_T _) hen) hT) hsn | exact q_F_en hp hF hR hZ hrf (Eq.mpr (congrArg (q_T _) hen) (q_T_up (q_tcP hu8).1 hT)) (q_sn_tr hsn (q_sn_up (Or.inl rfl)))⟩ dX3_end_102
  · obtain ⟨u, hu8, hu⟩ := hp3.resolve_left h69
    have hun : (k_en0 K p code 3 p).toInt.toNat = u := by rw [hu, nI_toInt (by omega)]; rfl
    refine q_aload_n F dX3_end_72 rfl ?_
    refine q_getr F (k := 1) fkX3_20 q_m0 rfl rfl dX3_end_73 ?_
    refine q_aload_n F dX3_end_76 rfl ?_
    refine q_geti F (k := 1) fkX3_81 (q_m5 (by omega)) rfl rfl dX3_end_77 ?_
    refine q_top (nI u) (t1.trans hu) ?_
    refine q_aald F (_) q_m4 rfl rfl (by omega) (by decide) rfl dX3_end_80 ?_
    refine q_geti F (k := 0) fkX3_90 (q_m5 (by omega)) rfl rfl dX3_end_81 ?_
    refine q_top (k_en0 K p code 2 u) (hT.2.1 u hu8).1 ?_
    refine q_iconst F (nI 2) dX3_end_84 (by decide) ?_
    refine q_icmp_ne F 101 dX3_end_85 (by decide) (fun h85 => ?_) (fun h85 => ?_)
    · have hen : k_en K p code = k_en0 K p code := by unfold k_en; rw [hun, if_neg (fun q => h85 q.2)]
      refine q_iconst F (nI 5) dX3_end_101 (by decide) ?_
      refine q_iret F E rfl ⟨rfl, by first | exact q_F_en hp hF hR hZ hrf (Eq.mpr (congrArg (q_T _) hen) hT) hsn | exact q_F_en hp hF hR hZ hrf (Eq.mpr (congrArg (q_T _) hen) (q_T_up (q_tcP hu8).1 hT)) (q_sn_tr hsn (q_sn_up (Or.inl rfl)))⟩ dX3_end_102
    · have hen : k_en K p code = k_u (k_en0 K p code) 2 u (nI 1) := by unfold k_en; rw [hun, if_pos ⟨h69, h85⟩]
      refine q_aload_n F dX3_end_88 rfl ?_
      refine q_getr F (k := 1) fkX3_20 q_m0 rfl rfl dX3_end_89 ?_
      refine q_aload_n F dX3_end_92 rfl ?_
      refine q_geti F (k := 1) fkX3_81 (q_m5 (by omega)) rfl rfl dX3_end_93 ?_
      refine q_top (nI u) (t1.trans hu) ?_
      refine q_aald F (_) q_m4 rfl rfl (by omega) (by decide) rfl dX3_end_96 ?_
      refine q_iconst F (nI 1) dX3_end_97 (by decide) ?_
      refine q_puti F (k := 0) fkX3_90 fp2_0 (q_m5 (by omega)) rfl rfl dX3_end_98 ?_
      refine q_iconst F (nI 5) dX3_end_101 (by decide) ?_
      refine q_iret F E rfl ⟨rfl, by first | exact q_F_en hp hF hR hZ hrf (Eq.mpr (congrArg (q_T _) hen) hT) hsn | exact q_F_en hp hF hR hZ hrf (Eq.mpr (congrArg (q_T _) hen) (q_T_up (q_tcP hu8).1 hT)) (q_sn_tr hsn (q_sn_up (Or.inl rfl)))⟩ dX3_end_102

set_option maxRecDepth 100000 in
set_option maxHeartbeats 4000000 in
theorem lp_kend {G : q_g} {n : Nat} {ad : q_ix → Nat} {X : q_cx} (F : q_fx G X iX3_end) {S0 S1 : q_st} {K : k_t} {p L B : Nat} {code : Int32} (hp : p < 8) (hF : q_F S0 K n L B) {pg : Nat → Option Nat} {us lab : Nat → Nat} (hR : q_R S0 K n pg us lab L) (hZ : q_Zn K pg) (hrf : q_rf S0 K n p 0 0 pg L 8 S1) (E : q_en G X iX3_end (q_pi (q_w G n ad) (fun r S' => r = nI 5 ∧ q_F S' (k_en K p code) n L B ∧ q_fr S0 S'))) : ∀ k, k ≤ 8 → ∀ S, q_T S (k_pz (k_u (k_u (k_rz K p 0 8) 2 p (nI 3)) 4 p code) p k) → q_sn S1 S → q_W G X iX3_end (q_w G n ad) (0, 0) 26 [some (.inr (some (0, 0))), some (.inl (nI p)), some (.inl code), some (.inr (some (5, p))), some (.inl (nI k))] [] S := by
  refine q_loop (fun k hk ih => ?_)
  intro S hT hsn
  refine q_iload F dX3_end_26 rfl ?_
  refine q_bipush F (nI 8) dX3_end_28 (by decide) ?_
  refine q_icmpN_ge F 64 dX3_end_30 (by decide) (by omega) (by omega) (fun h30 => ?_) (fun h30 => ?_)
  · obtain rfl : k = 8 := by omega
    rw [k_en0_eq2] at hT
    exact lp_kend_64 F hp hF hR hZ hrf E hT hsn
  · refine q_aload_n F dX3_end_33 rfl ?_
    refine q_getr F (k := 1) fkX3_20 q_m0 rfl rfl dX3_end_34 ?_
    refine q_iload F dX3_end_37 rfl ?_
    refine q_aald F (_) q_m4 rfl rfl (by omega) (by decide) rfl dX3_end_39 ?_
    refine q_geti F (k := 1) fkX3_81 (q_m5 (by omega)) rfl rfl dX3_end_40 ?_
    refine q_top ((k_u (k_u (k_rz K p 0 8) 2 p (nI 3)) 4 p code) 3 k) ((hT.2.1 k h30).2.1.trans (k_pz_at _ _ _)) ?_
    refine q_iload_n F dX3_end_43 rfl ?_
    refine q_icmp_ne F 58 dX3_end_44 (by decide) (fun h44 => ?_) (fun h44 => ?_)
    · refine q_iinc_4 F _ dX3_end_58 (q_inc1 _) (by decide) ?_
      refine q_goto F 26 dX3_end_61 (by decide) (ih h30 _ ?_ ?_)
      · first | exact (k_pz_s _ _ _ (-1) (by rw [if_pos h44])) ▸ q_T_up (q_tcP h30).2.1 hT | exact (k_pz_n _ _ _ h44) ▸ hT
      · first | exact hsn | exact q_sn_tr hsn (q_sn_up (by simp))
    · refine q_aload_n F dX3_end_47 rfl ?_
      refine q_getr F (k := 1) fkX3_20 q_m0 rfl rfl dX3_end_48 ?_
      refine q_iload F dX3_end_51 rfl ?_
      refine q_aald F (_) q_m4 rfl rfl (by omega) (by decide) rfl dX3_end_53 ?_
      refine q_iconst F (-1) dX3_end_54 (by decide) ?_
      refine q_puti F (k := 1) fkX3_81 fp2_1 (q_m5 (by omega)) rfl rfl dX3_end_55 ?_
      refine q_iinc_4 F _ dX3_end_58 (q_inc1 _) (by decide) ?_
      refine q_goto F 26 dX3_end_61 (by decide) (ih h30 _ ?_ ?_)
      · first | exact (k_pz_s _ _ _ (-1) (by rw [if_pos h44])) ▸ q_T_up (q_tcP h30).2.1 hT | exact (k_pz_n _ _ _ h44) ▸ hT
      · first | exact hsn | exact q_sn_tr hsn (q_sn_up (by simp))

set_option maxRecDepth 100000 in
set_option maxHeartbeats 4000000 in
theorem t_end {G : q_g} {n : Nat} {ad : q_ix → Nat} (l : Launch) (S0 : q_st) {K : k_t} {p L B : Nat} {code : Int32} (hp : p < 8) (hF : q_F S0 K n L B) : q_Ct l G iX3_end [.inr (some (0, 0)), .inl (nI p), .inl code] (q_w G n ad) (S0) (q_pi (q_w G n ad) (fun r S' => r = nI 5 ∧ q_F S' (k_en K p code) n L B ∧ q_fr S0 S')) := by
  refine q_enter (by decide) (Nat.le_of_ble_eq_true rfl) (fun X F E => ?_)
  show q_W G X iX3_end (q_w G n ad) (0, 0) 0 [some (.inr (some (0, 0))), some (.inl (nI p)), some (.inl code), none, none] [] (S0)
  obtain ⟨hok, hT0, hC, pg, us, lab, hR, hZ⟩ := id hF
  refine q_aload_n F dX3_end_0 rfl ?_
  refine q_getr F (k := 1) fkX3_20 q_m0 rfl rfl dX3_end_1 ?_
  refine q_iload_n F dX3_end_4 rfl ?_
  refine q_aald F (_) q_m4 rfl rfl (by omega) (by decide) rfl dX3_end_5 ?_
  refine q_astore_n_3 F dX3_end_6 (by decide) ?_
  refine q_aload_n F dX3_end_7 rfl ?_
  refine q_aload_n F dX3_end_8 rfl ?_
  refine q_iconst F (nI 0) dX3_end_9 (by decide) ?_
  refine q_callVv F [.inr (some (5, p)), .inl (nI 0)] (fun l => t_releaseFrom l S0 (K := K) (b := 0) hp (Nat.zero_le _) (fun i hi => by omega) hR) clX3_171 rfl q_m0 rfl rfl rfl ⟨Nat.le_of_ble_eq_true rfl, Nat.le_of_ble_eq_true rfl⟩ (Nat.le_of_ble_eq_true rfl) ⟨rfl, rfl⟩ ⟨Nat.zero_le _, Nat.zero_le _⟩ dX3_end_10 (fun S1 hrf => ?_)
  refine q_aload_n F dX3_end_13 rfl ?_
  refine q_iconst F (nI 3) dX3_end_14 (by decide) ?_
  refine q_puti F (k := 0) fkX3_90 fp2_0 (q_m5 (by omega)) rfl rfl dX3_end_15 ?_
  refine q_aload_n F dX3_end_18 rfl ?_
  refine q_iload_n F dX3_end_19 rfl ?_
  refine q_puti F (k := 2) fkX3_93 fp2_2 (q_m5 (by omega)) rfl rfl dX3_end_20 ?_
  refine q_iconst F (nI 0) dX3_end_23 (by decide) ?_
  refine q_istore_4 F dX3_end_24 (by decide) ?_
  refine lp_kend F hp hF hR hZ hrf E 0 (by decide) _ ?_ (q_sn_tr (q_sn_up (by simp)) (q_sn_up (by simp)))
  rw [k_pz_0]
  obtain ⟨pg1, us1, lab1, hR1, hsm, -⟩ := hrf
  refine q_T_up (q_tcP hp).2.2.1 (q_T_up (q_tcP hp).1 (q_T_sm hsm (q_T_k (fun a h0 h8 h9 => ?_) (fun j _ _ => ?_) hT0)))
  · funext j; simp [k_rz, h8, h9]
  · simp [k_rz]
