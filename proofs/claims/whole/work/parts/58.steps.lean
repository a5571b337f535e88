/-! the class: step, steps (rows laid by wip/whole/m58.py) -/
/-- only the number that runs and its row change -/
theorem q_F_00 {S S' : q_st} {K K' : k_t} {n L B B' : Nat} (hS : ∀ j : q_ix, j ≠ (0, 0) → S' j = S j) (hS4 : S' (0, 0) 4 = S (0, 0) 4) (hK : ∀ a, a ≠ 0 → K' a = K a) (hK0 : ∀ j, j ≠ 12 → j ≠ 13 → j ≠ 14 → K' 0 j = K 0 j) (hok : k_Ok K' B') (hC : q_C S' K') (h : q_F S K n L B) : q_F S' K' n L B' ∧ q_fr S S' := by
  obtain ⟨h1, h2, h3, pg, us, lab, h4, h5⟩ := h
  refine ⟨⟨hok, ?_, hC, pg, us, lab, ?_, q_Zn_k (hK 2 (by decide)) h5⟩, fun j hj => hS j (by rintro rfl; simp at hj)⟩
  · obtain ⟨t1, t2, t3, t4, t5, t6⟩ := h2
    refine ⟨fun i hi => ?_, fun q hq => ?_, fun q r hq hr => ?_, ?_, fun i hi => ?_, ?_⟩
    · rw [hS _ (by simp), hK 1 (by decide)]; exact t1 i hi
    · rw [hS _ (by simp), hK 2 (by decide), hK 3 (by decide), hK 4 (by decide), hK 6 (by decide), hK 7 (by decide)]; exact t2 q hq
    · rw [hS _ (by simp), hK 5 (by decide)]; exact t3 q r hq hr
    · rw [hS _ (by simp), hK0 15 (by decide) (by decide) (by decide)]; exact t4
    · rw [hS _ (by simp), hK 10 (by decide)]; exact t5 i hi
    · rw [hS4, hK0 1 (by decide) (by decide) (by decide)]; exact t6
  · obtain ⟨hn, hM, h7, hh3, hh1, h0, hKn, h9, hl, hL0⟩ := h4
    refine ⟨hn, ?_, fun p i hp hi => ?_, fun f hf => ?_, ?_, ?_, ?_, ?_, ?_, hL0⟩
    · rw [hS _ (by simp), hK 8 (by decide)]; exact hM
    · rw [hS _ (by simp)]; exact h7 p i hp hi
    · rw [hS _ (by simp)]; exact hh3 f hf
    · rw [hS _ (by simp)]; exact hh1
    · rw [hS _ (by simp)]; exact h0
    · rw [hK0 0 (by decide) (by decide) (by decide)]; exact hKn
    · rw [hK 9 (by decide)]; exact h9
    · rw [hK0 11 (by decide) (by decide) (by decide)]; exact hl

set_option maxRecDepth 100000 in
set_option maxHeartbeats 4000000 in
theorem t_fetch {G : q_g} {n : Nat} {ad : q_ix → Nat} (l : Launch) (S0 : q_st) {K : k_t} {p L B : Nat} (hp : p < 8) (hF : q_F S0 K n L B) (hL : L + 2 < 2 ^ 30) (hB : B < 2 ^ 30) (hlive : ¬ (K 2 p = 0 ∨ K 2 p = nI 3)) (h14 : K 0 14 = 0) : q_Ct l G iX3_fetchAndDo [.inr (some (0, 0)), .inl (nI p)] (q_w G n ad) (S0) (q_pi (q_w G n ad) (fun r S' => ∃ L', L' ≤ L + 2 ∧ r = (k_s1 K p).1 ∧ q_F S' (k_s1 K p).2 n L' (B + 1) ∧ q_fr S0 S')) := by
  refine q_enter (by decide) (Nat.le_of_ble_eq_true rfl) (fun X F E => ?_)
  show q_W G X iX3_fetchAndDo (q_w G n ad) (0, 0) 0 [some (.inr (some (0, 0))), some (.inl (nI p)), none, none, none, none, none, none, none] [] (S0)
  obtain ⟨hok, hT0, hC, pg, us, lab, hR, hZ⟩ := id hF
  obtain ⟨bb, hbb64, hbb7⟩ := (hok.1 p hp).2.2.1
  have hlim : (S0 (5, p) 4).toInt = (K 7 p).toInt := by rw [(hT0.2.1 p hp).2.2.2.2]
  have hb7 : (K 7 p).toInt ≤ 64 := by rw [hbb7, nI_toInt (by omega)]; omega
  refine q_aload_n F dX3_fetchAndDo_0 rfl ?_
  refine q_getr F (k := 1) fkX3_20 q_m0 rfl rfl dX3_fetchAndDo_1 ?_
  refine q_iload_n F dX3_fetchAndDo_4 rfl ?_
  refine q_aald F (_) q_m4 rfl rfl (by omega) (by decide) rfl dX3_fetchAndDo_5 ?_
  refine q_astore_n_2 F dX3_fetchAndDo_6 (by decide) ?_
  refine q_aload_n F dX3_fetchAndDo_7 rfl ?_
  refine q_aload_n F dX3_fetchAndDo_8 rfl ?_
  refine q_aload_n F dX3_fetchAndDo_9 rfl ?_
  refine q_geti F (k := 3) fkX3_100 (q_m5 (by omega)) rfl rfl dX3_fetchAndDo_10 ?_
  refine q_top (K 6 p) (hT0.2.1 p hp).2.2.2.1 ?_
  refine q_callVi F [.inr (some (5, p)), .inl (K 6 p)] (fun l => t_touch l S0 hp (by omega) hR (by omega)) clX3_134 rfl q_m0 rfl rfl rfl ⟨Nat.le_of_ble_eq_true rfl, Nat.le_of_ble_eq_true rfl⟩ (Nat.le_of_ble_eq_true rfl) ⟨rfl, rfl⟩ ⟨Nat.zero_le _, Nat.zero_le _⟩ dX3_fetchAndDo_13 (fun r1 S1 h1 => ?_)
  have hrho : q_rho false S0 K n L p (K 6 p) r1 S1 := by
    rcases h1 with ⟨rfl, h1, rfl⟩ | ⟨b, hb, hbe, h1, h2⟩
    · exact q_rho_out (by rw [← hlim]; exact h1)
    · rw [hbe] at h1 ⊢
      exact q_rho_pg hp hb (by have := h1.2; rw [nI_toInt (by omega)] at this; omega) hlive hZ h2
  rcases hrho with ⟨rfl, hre, b0, f, pg1, us1, lab1, L1, hb, hbe, hR1, hZ1, hL1, hs, hf, hu⟩ | ⟨hr0, hre, ⟨v, hv0, hrv, rfl⟩, hSS⟩
  · refine q_istore_n_3 F dX3_fetchAndDo_16 (by decide) ?_
    refine q_iload_n F dX3_fetchAndDo_17 rfl ?_
    refine q_ifN_eq F 28 dX3_fetchAndDo_18 (by decide) (by omega) (fun h18 => ?_) (fun h18 => ?_)
    · have hF1 := q_rho_F hF hR1 hZ1 hs
      have h5 : S1 (5, p) 3 = K 6 p := by rw [hs (5, p) (by simp) (by simp) (by simp) (by simp)]; exact (hT0.2.1 p hp).2.2.2.1
      have hw : S1 (2, 0) (8 * f + b0 % 8) = ((k_re K p (K 6 p) false).2 8 (64 * p + (K 6 p).toInt.toNat)) := by rw [← hR1.2.1.2.2.2.2.2.1 (8 * p + b0 / 8) f (b0 % 8) hf (by omega), hbe, nI_toInt (by omega), Int.toNat_natCast, show 8 * (8 * p + b0 / 8) + b0 % 8 = 64 * p + b0 by omega]
      obtain ⟨j, hj16, hj, hjn⟩ := q_and15 ((k_re K p (K 6 p) false).2 8 (64 * p + (K 6 p).toInt.toNat))
      obtain ⟨a, ha8, ha, han⟩ := q_and7 (((k_re K p (K 6 p) false).2 8 (64 * p + (K 6 p).toInt.toNat)) >>> 4)
      obtain ⟨b, hb8, hbb, hbn⟩ := q_and7 (((k_re K p (K 6 p) false).2 8 (64 * p + (K 6 p).toInt.toNat)) >>> 7)
      have hdn : k_dn (k_u (k_re K p (K 6 p) false).2 6 p (K 6 p + 1)) p ((k_re K p (K 6 p) false).2 8 (64 * p + (K 6 p).toInt.toNat)) = k_op (k_u (k_re K p (K 6 p) false).2 6 p (K 6 p + 1)) p j a b (((k_re K p (K 6 p) false).2 8 (64 * p + (K 6 p).toInt.toNat)) >>> 10) := by unfold k_dn; rw [hjn, han, hbn]
      have hs1 : k_s1 K p = k_s2 K p (k_dn (k_u (k_re K p (K 6 p) false).2 6 p (K 6 p + 1)) p ((k_re K p (K 6 p) false).2 8 (64 * p + (K 6 p).toInt.toNat))) := by unfold k_s1; rw [if_pos hre]
      refine q_aload_n F dX3_fetchAndDo_28 rfl ?_
      refine q_aload_n F dX3_fetchAndDo_29 rfl ?_
      refine q_aload_n F dX3_fetchAndDo_30 rfl ?_
      refine q_geti F (k := 3) fkX3_100 (q_m5 (by omega)) rfl rfl dX3_fetchAndDo_31 ?_
      refine q_top (nI b0) (h5.trans hbe) ?_
      refine q_callVi F [.inr (some (5, p)), .inl (nI b0)] (fun l => t_wordAt l S1 hp hb (hR1.2.1.1 _ _ hf).1 hR1.1.2 (by rw [hR1.2.2.1 p (b0 / 8) hp (by omega), hf]; rfl)) clX3_109 rfl q_m0 rfl rfl rfl ⟨Nat.le_of_ble_eq_true rfl, Nat.le_of_ble_eq_true rfl⟩ (Nat.le_of_ble_eq_true rfl) ⟨rfl, rfl⟩ ⟨Nat.zero_le _, Nat.zero_le _⟩ dX3_fetchAndDo_34 (fun v2 S2 hv2 => ?_)
      obtain ⟨hv2, hS2⟩ := hv2
      have hS2 := hS2.symm
      subst hS2
      subst hv2
      refine q_top ((k_re K p (K 6 p) false).2 8 (64 * p + (K 6 p).toInt.toNat)) hw ?_
      refine q_istore_4 F dX3_fetchAndDo_37 (by decide) ?_
      refine q_aload_n F dX3_fetchAndDo_39 rfl ?_
      refine q_dup F dX3_fetchAndDo_40 ?_
      refine q_geti F (k := 3) fkX3_100 (q_m5 (by omega)) rfl rfl dX3_fetchAndDo_41 ?_
      refine q_top (K 6 p) h5 ?_
      refine q_iconst F (nI 1) dX3_fetchAndDo_44 (by decide) ?_
      refine q_iadd F dX3_fetchAndDo_45 ?_
      refine q_top (K 6 p + 1) rfl ?_
      refine q_puti F (k := 3) fkX3_100 fp2_3 (q_m5 (by omega)) rfl rfl dX3_fetchAndDo_46 ?_
      have hF2 : q_F (q_up S1 (5, p) 3 (K 6 p + 1)) (k_u (k_re K p (K 6 p) false).2 6 p (K 6 p + 1)) n L1 B := q_F_up (q_tcP hp).2.2.2.1 (by simp) hF1
      have hfr2 : q_fr S0 (q_up S1 (5, p) 3 (K 6 p + 1)) := q_fr_tr (q_fr_sm hs) (q_fr_up (by simp))
      have hlv2 : ¬ ((k_u (k_re K p (K 6 p) false).2 6 p (K 6 p + 1)) 2 p = 0 ∨ (k_u (k_re K p (K 6 p) false).2 6 p (K 6 p + 1)) 2 p = nI 3) := by rw [k_u_ne _ _ _ _ (by simp), congrFun (k_re_k (by decide) (by decide)) _]; exact hlive
      have h142 : (k_u (k_re K p (K 6 p) false).2 6 p (K 6 p + 1)) 0 14 = 0 := by rw [k_u_ne _ _ _ _ (by simp), k_re_14 hre]; exact h14
      refine q_iload F dX3_fetchAndDo_49 rfl ?_
      refine q_bipush F (nI 15) dX3_fetchAndDo_51 (by decide) ?_
      refine q_iand F dX3_fetchAndDo_53 ?_
      refine q_top (nI j) hj ?_
      refine q_istore_5 F dX3_fetchAndDo_54 (by decide) ?_
      refine q_iload F dX3_fetchAndDo_56 rfl ?_
      refine q_iconst F (nI 4) dX3_fetchAndDo_58 (by decide) ?_
      refine q_ishr F dX3_fetchAndDo_59 ?_
      refine q_top (((k_re K p (K 6 p) false).2 8 (64 * p + (K 6 p).toInt.toNat)) >>> 4) (by rw [show (nI 4 &&& 31 : Int32) = 4 by decide]) ?_
      refine q_bipush F (nI 7) dX3_fetchAndDo_60 (by decide) ?_
      refine q_iand F dX3_fetchAndDo_62 ?_
      refine q_top (nI a) ha ?_
      refine q_istore_6 F dX3_fetchAndDo_63 (by decide) ?_
      refine q_iload F dX3_fetchAndDo_65 rfl ?_
      refine q_bipush F (nI 7) dX3_fetchAndDo_67 (by decide) ?_
      refine q_ishr F dX3_fetchAndDo_69 ?_
      refine q_top (((k_re K p (K 6 p) false).2 8 (64 * p + (K 6 p).toInt.toNat)) >>> 7) (by rw [show (nI 7 &&& 31 : Int32) = 7 by decide]) ?_
      refine q_bipush F (nI 7) dX3_fetchAndDo_70 (by decide) ?_
      refine q_iand F dX3_fetchAndDo_72 ?_
      refine q_top (nI b) hbb ?_
      refine q_istore_7 F dX3_fetchAndDo_73 (by decide) ?_
      refine q_iload F dX3_fetchAndDo_75 rfl ?_
      refine q_bipush F (nI 10) dX3_fetchAndDo_77 (by decide) ?_
      refine q_ishr F dX3_fetchAndDo_79 ?_
      refine q_top (((k_re K p (K 6 p) false).2 8 (64 * p + (K 6 p).toInt.toNat)) >>> 10) (by rw [show (nI 10 &&& 31 : Int32) = 10 by decide]) ?_
      refine q_istore_8 F dX3_fetchAndDo_80 (by decide) ?_
      refine q_iload F dX3_fetchAndDo_82 rfl ?_
      refine q_bipush F (nI 8) dX3_fetchAndDo_84 (by decide) ?_
      refine q_icmpN_ge F 105 dX3_fetchAndDo_86 (by decide) (by omega) (by omega) (fun h86 => ?_) (fun h86 => ?_)
      · refine q_aload_n F dX3_fetchAndDo_105 rfl ?_
        refine q_iload_n F dX3_fetchAndDo_106 rfl ?_
        refine q_iload F dX3_fetchAndDo_107 rfl ?_
        refine q_iload F dX3_fetchAndDo_109 rfl ?_
        refine q_iload F dX3_fetchAndDo_111 rfl ?_
        refine q_callVi F [.inl (nI p), .inl (nI j), .inl (nI a), .inl (((k_re K p (K 6 p) false).2 8 (64 * p + (K 6 p).toInt.toNat)) >>> 10)] (fun l => t_kerOp l _ (b := b) hp ha8 hb8 hF2 (by omega) hB hlv2 h142 hj16 h86) clX3_141 rfl q_m0 rfl rfl rfl ⟨Nat.le_of_ble_eq_true rfl, Nat.le_of_ble_eq_true rfl⟩ (Nat.le_of_ble_eq_true rfl) ⟨rfl, rfl⟩ ⟨Nat.zero_le _, Nat.zero_le _⟩ dX3_fetchAndDo_113 (fun v3 S3 hv3 => ?_)
        refine q_iret F E rfl (by obtain ⟨L', g1, g2, g3, g4⟩ := hv3; exact ⟨L', by omega, by rw [hs1, hdn]; exact g2, by rw [hs1, hdn]; exact g3, q_fr_tr hfr2 g4⟩) dX3_fetchAndDo_116
      · refine q_aload_n F dX3_fetchAndDo_89 rfl ?_
        refine q_iload_n F dX3_fetchAndDo_90 rfl ?_
        refine q_iload F dX3_fetchAndDo_91 rfl ?_
        refine q_iload F dX3_fetchAndDo_93 rfl ?_
        refine q_iload F dX3_fetchAndDo_95 rfl ?_
        refine q_iload F dX3_fetchAndDo_97 rfl ?_
        refine q_callVi F [.inl (nI p), .inl (nI j), .inl (nI a), .inl (nI b), .inl (((k_re K p (K 6 p) false).2 8 (64 * p + (K 6 p).toInt.toNat)) >>> 10)] (fun l => t_ownOp l _ hp ha8 hb8 hF2 (by omega) hB hlv2 h142 h86) clX3_137 rfl q_m0 rfl rfl rfl ⟨Nat.le_of_ble_eq_true rfl, Nat.le_of_ble_eq_true rfl⟩ (Nat.le_of_ble_eq_true rfl) ⟨rfl, rfl⟩ ⟨Nat.zero_le _, Nat.zero_le _⟩ dX3_fetchAndDo_99 (fun v3 S3 hv3 => ?_)
        refine q_goto F 116 dX3_fetchAndDo_102 (by decide) ?_
        refine q_iret F E rfl (by obtain ⟨L', g1, g2, g3, g4⟩ := hv3; exact ⟨L', by omega, by rw [hs1, hdn]; exact g2, by rw [hs1, hdn]; exact g3, q_fr_tr hfr2 g4⟩) dX3_fetchAndDo_116
    · exact absurd h18 (by decide)
  · subst hSS
    refine q_istore_n_3 F dX3_fetchAndDo_16 (by decide) ?_
    refine q_iload_n F dX3_fetchAndDo_17 rfl ?_
    refine q_if_eq F 28 dX3_fetchAndDo_18 (by decide) (fun h18 => ?_) (fun h18 => ?_)
    · exact absurd h18 hr0
    · refine q_aload_n F dX3_fetchAndDo_21 rfl ?_
      refine q_iload_n F dX3_fetchAndDo_22 rfl ?_
      refine q_iload_n F dX3_fetchAndDo_23 rfl ?_
      refine q_callVi F [.inl (nI p), .inl r1] (fun l => t_end l _ hp (q_F_14 (v := r1) hF)) clX3_74 rfl q_m0 rfl rfl rfl ⟨Nat.le_of_ble_eq_true rfl, Nat.le_of_ble_eq_true rfl⟩ (Nat.le_of_ble_eq_true rfl) ⟨rfl, rfl⟩ ⟨Nat.zero_le _, Nat.zero_le _⟩ dX3_fetchAndDo_24 (fun v2 S2 hv2 => ?_)
      obtain ⟨rfl, hv2, hv3⟩ := hv2
      refine q_iret F E rfl (by have e : k_s1 K p = (nI 5, k_en (k_u K 0 14 r1) p r1) := (by unfold k_s1; rw [if_neg (by rw [hre]; decide), hrv, k_u_at]); rw [e]; exact ⟨L, by omega, rfl, q_F_le (Nat.le_succ B) hv2, hv3⟩) dX3_fetchAndDo_27

set_option maxRecDepth 100000 in
set_option maxHeartbeats 4000000 in
theorem lp_take_30 {G : q_g} {n : Nat} {ad : q_ix → Nat} {X : q_cx} (F : q_fx G X iX3_takeStep) {S0 S1 : q_st} {K : k_t} {L B : Nat} (hF0 : q_F S0 K n L B) (hL : L + 2 < 2 ^ 30) (hB : B < 2 ^ 30) (hch : (k_ch K).1 = true) (hF1 : q_F S1 (k_ch K).2 n L B) (hfr1 : q_fr S0 S1) (E : q_en G X iX3_takeStep (q_pi (q_w G n ad) (fun r S' => ∃ L', L' ≤ L + 2 ∧ r = (k_s K).1 ∧ q_F S' (k_s K).2 n L' (B + 1) ∧ q_fr S0 S'))) : q_W G X iX3_takeStep (q_w G n ad) (0, 0) 30 [some (.inr (some (0, 0)))] [] S1 := by
  obtain ⟨hok1, ha, h0, q, hq, hq1, hq2, -⟩ := k_ch_ok hF0.1 hch
  have hc5 : S1 (0, 0) 5 = nI q := hF1.2.2.1.1.trans hq1
  have hc6 : S1 (0, 0) 6 = (k_ch K).2 0 13 := hF1.2.2.1.2 (by rw [hq1]; exact q_nm1 (by omega))
  have hsK : k_s K = k_s1 (k_u (k_u (k_ch K).2 0 13 ((k_ch K).2 0 13 + 1)) 0 14 0) q := by
    unfold k_s
    rw [if_pos hch, hq1, nI_toInt (by omega), Int.toNat_natCast]
  have hF2 := q_F_00 (S' := q_up S1 (0, 0) 6 ((k_ch K).2 0 13 + 1)) (K' := k_u (k_u (k_ch K).2 0 13 ((k_ch K).2 0 13 + 1)) 0 14 0) (fun j hj => q_up_other _ _ _ _ _ hj) (by simp [q_up]) (fun a ha => by funext j; simp [k_u, ha]) (fun j h12 h13 h14 => by simp [k_u, h13, h14]) (k_Ok_row hF0.1 hch) ⟨by simp [q_up, k_u]; exact hF1.2.2.1.1, fun _ => by simp [q_up, k_u]⟩ hF1
  refine q_aload_n F dX3_takeStep_30 rfl ?_
  refine q_dup F dX3_takeStep_31 ?_
  refine q_geti F (k := 6) fkX3_43 q_m0 rfl rfl dX3_takeStep_32 ?_
  refine q_top ((k_ch K).2 0 13) hc6 ?_
  refine q_iconst F (nI 1) dX3_takeStep_35 (by decide) ?_
  refine q_iadd F dX3_takeStep_36 ?_
  refine q_top ((k_ch K).2 0 13 + 1) rfl ?_
  refine q_puti F (k := 6) fkX3_43 fp3_6 q_m0 rfl rfl dX3_takeStep_37 ?_
  refine q_aload_n F dX3_takeStep_40 rfl ?_
  refine q_aload_n F dX3_takeStep_41 rfl ?_
  refine q_geti F (k := 5) fkX3_40 q_m0 rfl rfl dX3_takeStep_42 ?_
  refine q_top (nI q) (by simp [q_up]; exact hc5) ?_
  refine q_callVi F [.inl (nI q)] (fun l => t_fetch l _ hq hF2.1 hL hB (by rw [k_u_ne _ _ _ _ (by simp), k_u_ne _ _ _ _ (by simp), ha 2 (by decide), hq2]; decide) (by rw [k_u_at])) clX3_131 rfl q_m0 rfl rfl rfl ⟨Nat.le_of_ble_eq_true rfl, Nat.le_of_ble_eq_true rfl⟩ (Nat.le_of_ble_eq_true rfl) ⟨rfl, rfl⟩ ⟨Nat.zero_le _, Nat.zero_le _⟩ dX3_takeStep_45 (fun v1 S3 hv1 => ?_)
  refine q_iret F E rfl (by obtain ⟨L', g1, g2, g3, g4⟩ := hv1; exact ⟨L', g1, by rw [hsK]; exact g2, by rw [hsK]; exact g3, q_fr_tr hfr1 (q_fr_tr hF2.2 g4)⟩) dX3_takeStep_48

set_option maxRecDepth 100000 in
set_option maxHeartbeats 4000000 in
theorem lp_take_7 {G : q_g} {n : Nat} {ad : q_ix → Nat} {X : q_cx} (F : q_fx G X iX3_takeStep) {S0 : q_st} {K : k_t} {L B m : Nat} (hF : q_F S0 K n L B) (hL : L + 2 < 2 ^ 30) (hB : B < 2 ^ 30) (hno : ¬ k_on K) (hm : k_fm K = m) (hm8 : m ≤ 8) (h5 : S0 (0, 0) 5 + 1 = nI m) (E : q_en G X iX3_takeStep (q_pi (q_w G n ad) (fun r S' => ∃ L', L' ≤ L + 2 ∧ r = (k_s K).1 ∧ q_F S' (k_s K).2 n L' (B + 1) ∧ q_fr S0 S'))) : q_W G X iX3_takeStep (q_w G n ad) (0, 0) 7 [some (.inr (some (0, 0)))] [] S0 := by
  refine q_aload_n F dX3_takeStep_7 rfl ?_
  refine q_aload_n F dX3_takeStep_8 rfl ?_
  refine q_callVi F [] (fun l => t_nextReady l S0 hm8 h5) clX3_128 rfl q_m0 rfl rfl rfl ⟨Nat.le_of_ble_eq_true rfl, Nat.le_of_ble_eq_true rfl⟩ (Nat.le_of_ble_eq_true rfl) ⟨rfl, rfl⟩ ⟨Nat.zero_le _, Nat.zero_le _⟩ dX3_takeStep_9 (fun v1 S1 hv1 => ?_)
  obtain ⟨hv1, hS1⟩ := hv1
  have hS1 := hS1.symm
  subst hS1
  rw [f_st_congr (Q := fun j => K 2 ((k_fm K + j) % 8) = nI 1) (fun j hj => by rw [hm, (hF.2.1.2.1 ((m + j) % 8) (by omega)).1])] at hv1
  rcases f_st_spec (P := fun k => K 2 ((k_fm K + k) % 8) = nI 1) 8 with ⟨hn, -⟩ | ⟨k, hk, hk8, -, -⟩
  · rw [hn] at hv1
    subst hv1
    have hch := k_ch_none hno hn
    have hF2 := q_F_00 (S' := q_up (q_up S0 (0, 0) 5 (-1)) (0, 0) 6 (nI 0)) (K' := (k_ch K).2) (fun j hj => (q_up_other _ _ _ _ _ hj).trans (q_up_other _ _ _ _ _ hj)) (by simp [q_up]) (fun a ha => by rw [hch]; exact k_u_k _ _ _ _ ha) (fun j h12 _ _ => by rw [hch]; exact k_u_ne _ _ _ _ (fun q => h12 q.2)) (k_ch_no hF.1 (by rw [hch])).2.1 ⟨by rw [hch]; simp [q_up, k_u], fun q => absurd (by rw [hch]; simp [k_u]) q⟩ hF
    refine q_top (-1) rfl ?_
    refine q_puti F (k := 5) fkX3_40 fp3_5 q_m0 rfl rfl dX3_takeStep_12 ?_
    refine q_aload_n F dX3_takeStep_15 rfl ?_
    refine q_iconst F (nI 0) dX3_takeStep_16 (by decide) ?_
    refine q_puti F (k := 6) fkX3_43 fp3_6 q_m0 rfl rfl dX3_takeStep_17 ?_
    refine q_aload_n F dX3_takeStep_20 rfl ?_
    refine q_geti F (k := 5) fkX3_40 q_m0 rfl rfl dX3_takeStep_21 ?_
    refine q_top (-1) (by simp [q_up]) ?_
    refine q_iconst F (-1) dX3_takeStep_24 (by decide) ?_
    refine q_icmp_ne F 30 dX3_takeStep_25 (by decide) (fun h25 => ?_) (fun h25 => ?_)
    · exact absurd rfl h25
    · refine q_iconst F (nI 0) dX3_takeStep_28 (by decide) ?_
      refine q_iret F E rfl (by have e : k_s K = (0, (k_ch K).2) := (by unfold k_s; rw [if_neg (by rw [hch]; exact Bool.false_ne_true)]); rw [e]; exact ⟨L, by omega, rfl, q_F_le (Nat.le_succ B) hF2.1, hF2.2⟩) dX3_takeStep_29
  · rw [hk] at hv1
    subst hv1
    have hch := k_ch_some hno hk
    have hq : (m + k) % 8 < 8 := Nat.mod_lt _ (by decide)
    have hF2 := q_F_00 (S' := q_up (q_up S0 (0, 0) 5 (nI ((m + k) % 8))) (0, 0) 6 (nI 0)) (K' := (k_ch K).2) (fun j hj => (q_up_other _ _ _ _ _ hj).trans (q_up_other _ _ _ _ _ hj)) (by simp [q_up]) (fun a ha => by rw [hch]; funext j; simp [k_u, ha]) (fun j h12 h13 _ => by rw [hch]; simp [k_u, h12, h13]) (k_ch_ok hF.1 (by rw [hch])).1 ⟨by rw [hch, hm]; simp [q_up, k_u], fun _ => by rw [hch]; simp [q_up, k_u]; rfl⟩ hF
    refine q_top (nI ((m + k) % 8)) rfl ?_
    refine q_puti F (k := 5) fkX3_40 fp3_5 q_m0 rfl rfl dX3_takeStep_12 ?_
    refine q_aload_n F dX3_takeStep_15 rfl ?_
    refine q_iconst F (nI 0) dX3_takeStep_16 (by decide) ?_
    refine q_puti F (k := 6) fkX3_43 fp3_6 q_m0 rfl rfl dX3_takeStep_17 ?_
    refine q_aload_n F dX3_takeStep_20 rfl ?_
    refine q_geti F (k := 5) fkX3_40 q_m0 rfl rfl dX3_takeStep_21 ?_
    refine q_top (nI ((m + k) % 8)) (by simp [q_up]) ?_
    refine q_iconst F (-1) dX3_takeStep_24 (by decide) ?_
    refine q_icmp_ne F 30 dX3_takeStep_25 (by decide) (fun h25 => ?_) (fun h25 => ?_)
    · exact lp_take_30 F hF hL hB (by rw [hch]) hF2.1 hF2.2 E
    · exact absurd h25 (q_nm1 (by omega))

set_option maxRecDepth 100000 in
set_option maxHeartbeats 4000000 in
theorem t_takeStep {G : q_g} {n : Nat} {ad : q_ix → Nat} (l : Launch) (S0 : q_st) {K : k_t} {L B : Nat} (hF : q_F S0 K n L B) (hL : L + 2 < 2 ^ 30) (hB : B < 2 ^ 30) : q_Ct l G iX3_takeStep [.inr (some (0, 0))] (q_w G n ad) (S0) (q_pi (q_w G n ad) (fun r S' => ∃ L', L' ≤ L + 2 ∧ r = (k_s K).1 ∧ q_F S' (k_s K).2 n L' (B + 1) ∧ q_fr S0 S')) := by
  refine q_enter (by decide) (Nat.le_of_ble_eq_true rfl) (fun X F E => ?_)
  show q_W G X iX3_takeStep (q_w G n ad) (0, 0) 0 [some (.inr (some (0, 0)))] [] (S0)
  obtain ⟨hok, hT0, hC, pg, us, lab, hR, hZ⟩ := id hF
  refine q_aload_n F dX3_takeStep_0 rfl ?_
  rcases hok.2.1 with hcur | ⟨c, hc8, hcur⟩
  · refine q_callVi F [] (fun l => t_rowOff l S0 (hC.1.trans hcur)) clX3_96 rfl q_m0 rfl rfl rfl ⟨Nat.le_of_ble_eq_true rfl, Nat.le_of_ble_eq_true rfl⟩ (Nat.le_of_ble_eq_true rfl) ⟨rfl, rfl⟩ ⟨Nat.zero_le _, Nat.zero_le _⟩ dX3_takeStep_1 (fun v1 S1 hv1 => ?_)
    obtain ⟨rfl, hS1⟩ := hv1
    have hS1 := hS1.symm
    subst hS1
    refine q_ifN_ne F 20 dX3_takeStep_4 (by decide) (by omega) (fun h4 => ?_) (fun h4 => ?_)
    · exact absurd h4 (by decide)
    · exact lp_take_7 F hF hL hB (fun q => q.1 hcur) (m := 0) (by unfold k_fm; rw [if_pos hcur]) (by decide) (by rw [hC.1, hcur]; decide) E
  · refine q_callVi F [] (fun l => t_rowOn l S0 hc8 (hC.1.trans hcur)) clX3_96 rfl q_m0 rfl rfl rfl ⟨Nat.le_of_ble_eq_true rfl, Nat.le_of_ble_eq_true rfl⟩ (Nat.le_of_ble_eq_true rfl) ⟨rfl, rfl⟩ ⟨Nat.zero_le _, Nat.zero_le _⟩ dX3_takeStep_1 (fun v1 S1 hv1 => ?_)
    obtain ⟨hv1, hS1⟩ := hv1
    have hS1 := hS1.symm
    subst hS1
    have hne : ¬ K 0 12 = -1 := by rw [hcur]; exact q_nm1 (by omega)
    have hcn : (K 0 12).toInt.toNat = c := by rw [hcur, nI_toInt (by omega)]; rfl
    have hon : (S0 (5, c) 0 = nI 1 ∧ (S0 (0, 0) 6).toInt < (S0 (0, 0) 4).toInt) ↔ k_on K := by
      unfold k_on
      rw [hcn, (hT0.2.1 c hc8).1, hC.2 hne, hT0.2.2.2.2.2]
      exact ⟨fun q => ⟨hne, q⟩, fun q => q.2⟩
    refine q_if_ne F 20 dX3_takeStep_4 (by decide) (fun h4 => ?_) (fun h4 => ?_)
    · have hch := k_ch_on (hon.mp (q_bl_T hv1 h4))
      refine q_aload_n F dX3_takeStep_20 rfl ?_
      refine q_geti F (k := 5) fkX3_40 q_m0 rfl rfl dX3_takeStep_21 ?_
      refine q_top (nI c) (hC.1.trans hcur) ?_
      refine q_iconst F (-1) dX3_takeStep_24 (by decide) ?_
      refine q_icmp_ne F 30 dX3_takeStep_25 (by decide) (fun h25 => ?_) (fun h25 => ?_)
      · exact lp_take_30 F hF hL hB (by rw [hch]) (by rw [hch]; exact hF) (q_fr_rf S0) E
      · exact absurd h25 (q_nm1 (by omega))
    · exact lp_take_7 F hF hL hB (fun q => q_bl_F hv1 h4 (hon.mpr q)) (m := c + 1) (by unfold k_fm; rw [if_neg hne, hcn]) (by omega) (by rw [hC.1, hcur, nI_1]) E

set_option maxRecDepth 100000 in
set_option maxHeartbeats 4000000 in
theorem t_step {G : q_g} {n : Nat} {ad : q_ix → Nat} (l : Launch) (S0 : q_st) {K : k_t} {L B : Nat} (hF : q_F S0 K n L B) (hL : L + 2 < 2 ^ 30) (hB : B < 2 ^ 30) : q_Ct l G iX3_step [.inr (some (0, 0))] (q_w G n ad) (S0) (q_pi (q_w G n ad) (fun r S' => ∃ L', L' ≤ L + 2 ∧ r = (k_s K).1 ∧ q_F S' (k_s K).2 n L' (B + 1) ∧ q_fr S0 S')) := by
  refine q_enter (by decide) (Nat.le_of_ble_eq_true rfl) (fun X F E => ?_)
  show q_W G X iX3_step (q_w G n ad) (0, 0) 0 [some (.inr (some (0, 0)))] [] (S0)
  refine q_aload_n F dX3_step_0 rfl ?_
  refine q_callVi F [] (fun l => t_takeStep l S0 hF hL hB) clX3_67 rfl q_m0 rfl rfl rfl ⟨Nat.le_of_ble_eq_true rfl, Nat.le_of_ble_eq_true rfl⟩ (Nat.le_of_ble_eq_true rfl) ⟨rfl, rfl⟩ ⟨Nat.zero_le _, Nat.zero_le _⟩ dX3_step_1 (fun v1 S1 hv1 => ?_)
  refine q_iret F E rfl hv1 dX3_step_4

set_option maxRecDepth 100000 in
set_option maxHeartbeats 4000000 in
theorem lp_ksteps {G : q_g} {n : Nat} {ad : q_ix → Nat} {X : q_cx} (F : q_fx G X iX3_steps) {S0 : q_st} {K : k_t} {L B m : Nat} {x : Int32} (hx : x = nI m) (hL : L + 110 < 2 ^ 30) (hB : B + 50 < 2 ^ 30) (hm : m ≤ 50) (E : q_en G X iX3_steps (q_pi (q_w G n ad) (fun r S' => (r = -1 ∧ ¬ (0 ≤ x.toInt ∧ x.toInt ≤ 50) ∧ S' = S0) ∨ (∃ m, m ≤ 50 ∧ x = nI m ∧ r = nI (k_ss m K).1 ∧ ∃ L', L' ≤ L + 2 * m ∧ q_F S' (k_ss m K).2 n L' (B + m) ∧ q_fr S0 S')))) : ∀ k, k ≤ m → (k_ss k K).1 = k → ∀ S L1, L1 ≤ L + 2 * k → q_F S (k_ss k K).2 n L1 (B + k) → q_fr S0 S → q_W G X iX3_steps (q_w G n ad) (0, 0) 14 [some (.inr (some (0, 0))), some (.inl (nI m)), some (.inl (nI k))] [] S := by
  refine q_loop (fun k hk ih => ?_)
  intro hkk S L1 hL1 hF hfr
  refine q_iload_n F dX3_steps_14 rfl ?_
  refine q_iload_n F dX3_steps_15 rfl ?_
  refine q_icmpN_ge F 34 dX3_steps_16 (by decide) (by omega) (by omega) (fun h16 => ?_) (fun h16 => ?_)
  · obtain rfl : k = m := by omega
    refine q_iload_n F dX3_steps_34 rfl ?_
    refine q_iret F E rfl (Or.inr ⟨k, hm, hx, by rw [hkk], L1, hL1, hF, hfr⟩) dX3_steps_35
  · refine q_aload_n F dX3_steps_19 rfl ?_
    refine q_callVi F [] (fun l => t_takeStep l S hF (by omega) (by omega)) clX3_67 rfl q_m0 rfl rfl rfl ⟨Nat.le_of_ble_eq_true rfl, Nat.le_of_ble_eq_true rfl⟩ (Nat.le_of_ble_eq_true rfl) ⟨rfl, rfl⟩ ⟨Nat.zero_le _, Nat.zero_le _⟩ dX3_steps_20 (fun v1 S1 hv1 => ?_)
    obtain ⟨L2, g1, g2, g3, g4⟩ := hv1
    subst g2
    refine q_if_ne F 28 dX3_steps_23 (by decide) (fun h23 => ?_) (fun h23 => ?_)
    · refine q_iinc_2 F _ dX3_steps_28 (q_inc1 _) (by decide) ?_
      have hg := k_ss_go hkk h23
      refine q_goto F 14 dX3_steps_31 (by decide) ?_
      refine ih h16 (by rw [hg]) _ L2 (by omega) ?_ (q_fr_tr hfr g4)
      rw [hg]
      exact q_F_le (by omega) g3
    · have he := k_ss_end hkk h23
      have hst := k_ss_stop (K := K) (m := k + 1) (by rw [he]; exact Nat.lt_succ_self k) (m - (k + 1))
      rw [show k + 1 + (m - (k + 1)) = m by omega, he] at hst
      refine q_iload_n F dX3_steps_26 rfl ?_
      refine q_iret F E rfl (Or.inr ⟨m, hm, hx, by rw [hst], L2, by omega, by rw [hst]; exact q_F_le (by omega) g3, q_fr_tr hfr g4⟩) dX3_steps_27

set_option maxRecDepth 100000 in
set_option maxHeartbeats 4000000 in
theorem t_steps {G : q_g} {n : Nat} {ad : q_ix → Nat} (l : Launch) (S0 : q_st) {K : k_t} {L B : Nat} {x : Int32} (hF : q_F S0 K n L B) (hL : L + 110 < 2 ^ 30) (hB : B + 50 < 2 ^ 30) : q_Ct l G iX3_steps [.inr (some (0, 0)), .inl x] (q_w G n ad) (S0) (q_pi (q_w G n ad) (fun r S' => (r = -1 ∧ ¬ (0 ≤ x.toInt ∧ x.toInt ≤ 50) ∧ S' = S0) ∨ (∃ m, m ≤ 50 ∧ x = nI m ∧ r = nI (k_ss m K).1 ∧ ∃ L', L' ≤ L + 2 * m ∧ q_F S' (k_ss m K).2 n L' (B + m) ∧ q_fr S0 S'))) := by
  refine q_enter (by decide) (Nat.le_of_ble_eq_true rfl) (fun X F E => ?_)
  show q_W G X iX3_steps (q_w G n ad) (0, 0) 0 [some (.inr (some (0, 0))), some (.inl x), none] [] (S0)
  refine q_iload_n F dX3_steps_0 rfl ?_
  refine q_if_lt F 10 dX3_steps_1 (by decide) (fun h1 => ?_) (fun h1 => ?_)
  · refine q_iconst F (-1) dX3_steps_10 (by decide) ?_
    refine q_iret F E rfl (Or.inl ⟨rfl, by omega, rfl⟩) dX3_steps_11
  · refine q_iload_n F dX3_steps_4 rfl ?_
    refine q_bipush F (nI 50) dX3_steps_5 (by decide) ?_
    refine q_icmp_le F 12 dX3_steps_7 (by decide) (fun h7 => ?_) (fun h7 => ?_)
    · rw [nI_toInt (by omega)] at h7
      obtain ⟨m, hm, rfl⟩ := q_ofx (x := x) (m := 51) (by decide) h1 (by omega)
      refine q_iconst F (nI 0) dX3_steps_12 (by decide) ?_
      refine q_istore_n_2 F dX3_steps_13 (by decide) ?_
      exact lp_ksteps F rfl hL hB (by omega) E 0 (Nat.zero_le _) rfl S0 L (by omega) hF (q_fr_rf S0)
    · rw [nI_toInt (by omega)] at h7
      refine q_iconst F (-1) dX3_steps_10 (by decide) ?_
      refine q_iret F E rfl (Or.inl ⟨rfl, by omega, rfl⟩) dX3_steps_11
