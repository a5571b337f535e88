/-! the class: a word read, a word written (rows laid by wip/whole/m53.py) -/
/-- a word is reached: for the class and for the reference alike -/
def q_rho (wr : Bool) (S : q_st) (K : k_t) (n L p : Nat) (x r : Int32) (S' : q_st) : Prop :=
  (r = nI 0 ∧ (k_re K p x wr).1 = true ∧ ∃ (b f : Nat) (pg' : Nat → Option Nat) (us' lab' : Nat → Nat) (L' : Nat), b < 64 ∧ x = nI b ∧ q_R S' (k_re K p x wr).2 n pg' us' lab' L' ∧ q_Zn (k_re K p x wr).2 pg' ∧ L' ≤ L + 1 ∧ q_sm S S' ∧ pg' (8 * p + b / 8) = some f ∧ (wr = true → us' f = 1)) ∨ (¬ r = 0 ∧ (k_re K p x wr).1 = false ∧ (∃ v, ¬ v = 0 ∧ (k_re K p x wr).2 = k_u K 0 14 v ∧ r = v) ∧ S' = S)
theorem q_rho_pg {wr : Bool} {S S' : q_st} {K : k_t} {n L p b : Nat} {r : Int32} {pg : Nat → Option Nat} (hp : p < 8) (hb : b < 64) (hlt : (b : Int) < (K 7 p).toInt) (hlive : ¬ (K 2 p = 0 ∨ K 2 p = nI 3)) (hZ : q_Zn K pg) (h : q_pgo wr S K n pg L (8 * p + b / 8) r S') : q_rho wr S K n L p (nI b) r S' := by
  have e : k_re K p (nI b) wr = k_pg K (8 * p + b / 8) wr := k_re_in hb hlt
  unfold q_rho
  rw [e]
  rcases h with ⟨h1, h2, pg', us', lab', L', h3, h4, h5, h6, h7, f, h8, h9⟩ | ⟨h1, h2, h3, h4⟩
  · refine Or.inl ⟨h1, h2, b, f, pg', us', lab', L', hb, rfl, h3, ?_, h5, h6, h8, h9⟩
    intro q hq hs i hi
    rw [k_pg_k (by decide) (by decide)] at hs
    rw [h7 _ (by intro z; have hqp : q = p := (by omega); subst hqp; exact hlive hs)]
    exact hZ q hq hs i hi
  · exact Or.inr ⟨by rw [h1]; decide, h2, ⟨-13, by decide, h3, h1⟩, h4⟩
theorem q_rho_out {wr : Bool} {S : q_st} {K : k_t} {n L p : Nat} {x : Int32} (h : ¬ (0 ≤ x.toInt ∧ x.toInt < (K 7 p).toInt)) : q_rho wr S K n L p x (-11) S := by
  have e : k_re K p x wr = (false, k_u K 0 14 (-11)) := k_re_out (by omega)
  refine Or.inr ⟨by decide, by rw [e], ⟨-11, by decide, by rw [e], rfl⟩, rfl⟩
theorem k_re_14 {K : k_t} {p : Nat} {x : Int32} {wr : Bool} (h : (k_re K p x wr).1 = true) : (k_re K p x wr).2 0 14 = K 0 14 := by
  unfold k_re at *
  split at h
  · cases h
  next hc =>
    rw [if_neg hc]
    unfold k_pg at *
    split at h
    next h1 => rw [if_pos h1]
    next h1 =>
      rw [if_neg h1]
      unfold k_al at *
      split at h
      · cases h
      next h2 =>
        rw [if_neg h2]
        simp [k_u]
/-- behind a reached word the whole relation holds -/
theorem q_rho_F {wr : Bool} {S S' : q_st} {K : k_t} {n L B p : Nat} {x : Int32} {pg' : Nat → Option Nat} {us' lab' : Nat → Nat} {L' : Nat} (hF : q_F S K n L B) (hR : q_R S' (k_re K p x wr).2 n pg' us' lab' L') (hZ : q_Zn (k_re K p x wr).2 pg') (hs : q_sm S S') : q_F S' (k_re K p x wr).2 n L' B :=
  ⟨k_Ok_re hF.1, q_T_sm hs (q_T_k (fun a h0 _ h9 => k_re_k h0 h9) (fun j h1 h2 => k_re_0 h1 h2) hF.2.1), q_C_sm hs (q_C_k (fun j h1 h2 => k_re_0 h1 h2) hF.2.2.1), pg', us', lab', hR, hZ⟩

theorem q_ld_ok {S0 S1 S' : q_st} {K : k_t} {n L B p a b f L' : Nat} {x : Int32} {pg' : Nat → Option Nat} {us' lab' : Nat → Nat} (hp : p < 8) (ha : a < 8) (hF : q_F S0 K n L B) (h14 : K 0 14 = 0) (hre : (k_re K p x false).1 = true) (hb : b < 64) (hx : x = nI b) (hR : q_R S1 (k_re K p x false).2 n pg' us' lab' L') (hZ : q_Zn (k_re K p x false).2 pg') (hL' : L' ≤ L + 1) (hs : q_sm S0 S1) (hf : pg' (8 * p + b / 8) = some f) (hS : S' = q_up S1 (6, p) a (S1 (2, 0) (8 * f + b % 8))) : ∃ L', L' ≤ L + 1 ∧ nI 1 = (k_s2 K p (nI 1, k_ld K p a x)).1 ∧ q_F S' (k_s2 K p (nI 1, k_ld K p a x)).2 n L' B ∧ q_fr S0 S' := by
  have hw : S1 (2, 0) (8 * f + b % 8) = (k_re K p x false).2 8 (64 * p + x.toInt.toNat) := by
    rw [← hR.2.1.2.2.2.2.2.1 (8 * p + b / 8) f (b % 8) hf (by omega), hx, nI_toInt (by omega), Int.toNat_natCast, show 8 * (8 * p + b / 8) + b % 8 = 64 * p + b by omega]
  have hld : k_ld K p a x = k_u (k_re K p x false).2 5 (8 * p + a) ((k_re K p x false).2 8 (64 * p + x.toInt.toNat)) := by
    unfold k_ld
    rw [if_pos hre]
  have e : k_s2 K p (nI 1, k_ld K p a x) = (nI 1, k_ld K p a x) := by
    unfold k_s2
    rw [if_pos]
    show k_ld K p a x 0 14 = 0
    rw [hld, k_u_ne _ _ _ _ (by simp), k_re_14 hre, h14]
  rw [e]
  refine ⟨L', hL', rfl, ?_, ?_⟩
  · show q_F S' (k_ld K p a x) n L' B
    rw [hld, hS, hw]
    exact q_F_up (q_tcR hp ha) (by simp) (q_rho_F hF hR hZ hs)
  · rw [hS]
    exact q_fr_tr (q_fr_sm hs) (q_fr_up (by simp))
theorem q_so_ok {S0 S1 S' : q_st} {K : k_t} {n L B p a b f L' : Nat} {x : Int32} {pg' : Nat → Option Nat} {us' lab' : Nat → Nat} (hp : p < 8) (ha : a < 8) (hF : q_F S0 K n L B) (h14 : K 0 14 = 0) (hre : (k_re K p x true).1 = true) (hb : b < 64) (hx : x = nI b) (hR : q_R S1 (k_re K p x true).2 n pg' us' lab' L') (hZ : q_Zn (k_re K p x true).2 pg') (hL' : L' ≤ L + 1) (hs : q_sm S0 S1) (hf : pg' (8 * p + b / 8) = some f) (hu : us' f = 1) (hS : S' = q_up S1 (2, 0) (8 * f + b % 8) (S1 (6, p) a)) : ∃ L', L' ≤ L + 1 ∧ nI 1 = (k_s2 K p (nI 1, k_so K p a x)).1 ∧ q_F S' (k_s2 K p (nI 1, k_so K p a x)).2 n L' B ∧ q_fr S0 S' := by
  have hw : S1 (6, p) a = K 5 (8 * p + a) := by
    rw [hs (6, p) (by simp) (by simp) (by simp) (by simp)]
    exact hF.2.1.2.2.1 p a hp ha
  have hso : k_so K p a x = k_u (k_re K p x true).2 8 (64 * p + b) (K 5 (8 * p + a)) := by
    unfold k_so
    rw [if_pos hre, hx, nI_toInt (by omega), Int.toNat_natCast]
  have e : k_s2 K p (nI 1, k_so K p a x) = (nI 1, k_so K p a x) := by
    unfold k_s2
    rw [if_pos]
    show k_so K p a x 0 14 = 0
    rw [hso, k_u_ne _ _ _ _ (by simp), k_re_14 hre, h14]
  rw [e]
  have hF1 := q_rho_F hF hR hZ hs
  refine ⟨L', hL', rfl, ?_, ?_⟩
  · show q_F S' (k_so K p a x) n L' B
    rw [hso, hS, hw]
    refine ⟨k_Ok_u (by decide) hF1.1, ?_, ?_, pg', us', lab', ?_, q_Zn_k (k_u_k _ _ _ _ (by decide)) hZ⟩
    · refine q_T_sm (S := S1) (fun j a b c d => q_up_other _ _ _ _ _ (by rintro rfl; exact b rfl)) (q_T_k (fun a _ h8 _ => k_u_k _ _ _ _ h8) (fun j _ _ => k_u_ne _ _ _ _ (by simp)) hF1.2.1)
    · refine q_C_sm (S := S1) (fun j a b c d => q_up_other _ _ _ _ _ (by rintro rfl; exact b rfl)) (q_C_k (fun j _ _ => k_u_ne _ _ _ _ (by simp)) hF1.2.2.1)
    · refine q_R_put (v := K 5 (8 * p + a)) hR hf hu (k := b % 8) (by omega) (fun x => ?_) (fun i j hi => ?_) (fun x => ?_) (fun a ha => ?_)
      · simp only [q_up, true_and]
      · rw [q_irr _ _ _ _ _ _ (fun q => hi q.1)]
      · simp only [k_u, true_and]
        rw [show 64 * p + b = 8 * (8 * p + b / 8) + b % 8 by omega]
      · exact k_u_k _ _ _ _ ha
  · rw [hS]
    exact q_fr_tr (q_fr_sm hs) (q_fr_up (by simp))
/-- a word that isn't reached ends the process -/
theorem q_no {S0 S' : q_st} {K : k_t} {n L B p : Nat} {r v : Int32} {Q : Int32 × k_t} (hQ : Q.2 = k_u K 0 14 v) (hv : ¬ v = 0) (hr : r = nI 5 ∧ q_F S' (k_en (k_u K 0 14 v) p v) n L B ∧ q_fr S0 S') : ∃ L', L' ≤ L + 1 ∧ r = (k_s2 K p Q).1 ∧ q_F S' (k_s2 K p Q).2 n L' B ∧ q_fr S0 S' := by
  have h1 : k_u K 0 14 v 0 14 = v := k_u_at _ _ _ _
  have e : k_s2 K p Q = (nI 5, k_en (k_u K 0 14 v) p v) := by
    unfold k_s2
    rw [hQ, h1, if_neg hv]
  rw [e]
  exact ⟨L, Nat.le_succ L, hr⟩

set_option maxRecDepth 100000 in
set_option maxHeartbeats 4000000 in
theorem t_readInto {G : q_g} {n : Nat} {ad : q_ix → Nat} (l : Launch) (S0 : q_st) {K : k_t} {p a L B : Nat} {x : Int32} (hp : p < 8) (ha : a < 8) (hF : q_F S0 K n L B) (hL : L + 1 < 2 ^ 30) (hlive : ¬ (K 2 p = 0 ∨ K 2 p = nI 3)) (h14 : K 0 14 = 0) : q_Ct l G iX3_readInto [.inr (some (0, 0)), .inl (nI p), .inl (nI a), .inl x] (q_w G n ad) (S0) (q_pi (q_w G n ad) (fun r S' => ∃ L', L' ≤ L + 1 ∧ r = (k_s2 K p (nI 1, k_ld K p a x)).1 ∧ q_F S' (k_s2 K p (nI 1, k_ld K p a x)).2 n L' B ∧ q_fr S0 S')) := by
  refine q_enter (by decide) (Nat.le_of_ble_eq_true rfl) (fun X F E => ?_)
  show q_W G X iX3_readInto (q_w G n ad) (0, 0) 0 [some (.inr (some (0, 0))), some (.inl (nI p)), some (.inl (nI a)), some (.inl x), none, none] [] (S0)
  obtain ⟨hok, hT0, hC, pg, us, lab, hR, hZ⟩ := id hF
  obtain ⟨b0, hb064, hb0⟩ := (hok.1 p hp).2.2.1
  have hlim : (S0 (5, p) 4).toInt = (K 7 p).toInt := by rw [(hT0.2.1 p hp).2.2.2.2]
  have hb7 : (K 7 p).toInt ≤ 64 := by rw [hb0, nI_toInt (by omega)]; omega
  refine q_aload_n F dX3_readInto_0 rfl ?_
  refine q_getr F (k := 1) fkX3_20 q_m0 rfl rfl dX3_readInto_1 ?_
  refine q_iload_n F dX3_readInto_4 rfl ?_
  refine q_aald F (_) q_m4 rfl rfl (by omega) (by decide) rfl dX3_readInto_5 ?_
  refine q_astore_4 F dX3_readInto_6 (by decide) ?_
  refine q_aload_n F dX3_readInto_8 rfl ?_
  refine q_aload F dX3_readInto_9 rfl ?_
  refine q_iload_n F dX3_readInto_11 rfl ?_
  refine q_callVi F [.inr (some (5, p)), .inl x] (fun l => t_touch l S0 hp (by omega) hR hL) clX3_134 rfl q_m0 rfl rfl rfl ⟨Nat.le_of_ble_eq_true rfl, Nat.le_of_ble_eq_true rfl⟩ (Nat.le_of_ble_eq_true rfl) ⟨rfl, rfl⟩ ⟨Nat.zero_le _, Nat.zero_le _⟩ dX3_readInto_12 (fun r1 S1 h1 => ?_)
  have hrho : q_rho false S0 K n L p x r1 S1 := by
    rcases h1 with ⟨rfl, h1, rfl⟩ | ⟨b, hb, rfl, h1, h2⟩
    · exact q_rho_out (by rw [← hlim]; exact h1)
    · exact q_rho_pg hp hb (by have := h1.2; rw [nI_toInt (by omega)] at this; omega) hlive hZ h2
  rcases hrho with ⟨rfl, hre, b, f, pg1, us1, lab1, L1, hb, rfl, hR1, hZ1, hL1, hs, hf, hu⟩ | ⟨hr0, hre, ⟨v, hv0, hrv, rfl⟩, hSS⟩
  · refine q_istore_5 F dX3_readInto_15 (by decide) ?_
    refine q_iload F dX3_readInto_17 rfl ?_
    refine q_ifN_eq F 30 dX3_readInto_19 (by decide) (by omega) (fun h19 => ?_) (fun h19 => ?_)
    · refine q_aload F dX3_readInto_30 rfl ?_
      refine q_getr F (k := 5) fkX3_103 (q_m5 (by omega)) rfl rfl dX3_readInto_32 ?_
      refine q_iload_n F dX3_readInto_35 rfl ?_
      refine q_aload_n F dX3_readInto_36 rfl ?_
      refine q_aload F dX3_readInto_37 rfl ?_
      refine q_iload_n F dX3_readInto_39 rfl ?_
      refine q_callVi F [.inr (some (5, p)), .inl (nI b)] (fun l => t_wordAt l S1 hp hb (hR1.2.1.1 _ _ hf).1 hR1.1.2 (by rw [hR1.2.2.1 p (b / 8) hp (by omega), hf]; rfl)) clX3_109 rfl q_m0 rfl rfl rfl ⟨Nat.le_of_ble_eq_true rfl, Nat.le_of_ble_eq_true rfl⟩ (Nat.le_of_ble_eq_true rfl) ⟨rfl, rfl⟩ ⟨Nat.zero_le _, Nat.zero_le _⟩ dX3_readInto_40 (fun v2 S2 hv2 => ?_)
      obtain ⟨rfl, rfl⟩ := hv2
      refine q_iast F (_) (q_m6 (by omega)) rfl rfl (by omega) (by omega) dX3_readInto_43 ?_
      refine q_iconst F (nI 1) dX3_readInto_44 (by decide) ?_
      refine q_iret F E rfl (q_ld_ok hp ha hF h14 hre hb rfl hR1 hZ1 hL1 hs hf rfl) dX3_readInto_45
    · exact absurd h19 (by decide)
  · subst hSS
    refine q_istore_5 F dX3_readInto_15 (by decide) ?_
    refine q_iload F dX3_readInto_17 rfl ?_
    refine q_if_eq F 30 dX3_readInto_19 (by decide) (fun h19 => ?_) (fun h19 => ?_)
    · exact absurd h19 hr0
    · refine q_aload_n F dX3_readInto_22 rfl ?_
      refine q_iload_n F dX3_readInto_23 rfl ?_
      refine q_iload F dX3_readInto_24 rfl ?_
      refine q_callVi F [.inl (nI p), .inl r1] (fun l => t_end l _ hp (q_F_14 (v := r1) hF)) clX3_74 rfl q_m0 rfl rfl rfl ⟨Nat.le_of_ble_eq_true rfl, Nat.le_of_ble_eq_true rfl⟩ (Nat.le_of_ble_eq_true rfl) ⟨rfl, rfl⟩ ⟨Nat.zero_le _, Nat.zero_le _⟩ dX3_readInto_26 (fun v2 S2 hv2 => ?_)
      obtain ⟨rfl, hv2⟩ := hv2
      refine q_iret F E rfl (q_no (Q := (nI 1, k_ld K p a x)) (by show k_ld K p a x = _; unfold k_ld; rw [if_neg (by rw [hre]; decide)]; exact hrv) hv0 ⟨rfl, hv2⟩) dX3_readInto_29

set_option maxRecDepth 100000 in
set_option maxHeartbeats 4000000 in
theorem t_writeFrom {G : q_g} {n : Nat} {ad : q_ix → Nat} (l : Launch) (S0 : q_st) {K : k_t} {p a L B : Nat} {x : Int32} (hp : p < 8) (ha : a < 8) (hF : q_F S0 K n L B) (hL : L + 1 < 2 ^ 30) (hlive : ¬ (K 2 p = 0 ∨ K 2 p = nI 3)) (h14 : K 0 14 = 0) : q_Ct l G iX3_writeFrom [.inr (some (0, 0)), .inl (nI p), .inl (nI a), .inl x] (q_w G n ad) (S0) (q_pi (q_w G n ad) (fun r S' => ∃ L', L' ≤ L + 1 ∧ r = (k_s2 K p (nI 1, k_so K p a x)).1 ∧ q_F S' (k_s2 K p (nI 1, k_so K p a x)).2 n L' B ∧ q_fr S0 S')) := by
  refine q_enter (by decide) (Nat.le_of_ble_eq_true rfl) (fun X F E => ?_)
  show q_W G X iX3_writeFrom (q_w G n ad) (0, 0) 0 [some (.inr (some (0, 0))), some (.inl (nI p)), some (.inl (nI a)), some (.inl x), none, none] [] (S0)
  have h14K := h14
  obtain ⟨hok, hT0, hC, pg, us, lab, hR, hZ⟩ := id hF
  obtain ⟨b0, hb064, hb0⟩ := (hok.1 p hp).2.2.1
  have hlim : (S0 (5, p) 4).toInt = (K 7 p).toInt := by rw [(hT0.2.1 p hp).2.2.2.2]
  have hb7 : (K 7 p).toInt ≤ 64 := by rw [hb0, nI_toInt (by omega)]; omega
  refine q_aload_n F dX3_writeFrom_0 rfl ?_
  refine q_getr F (k := 1) fkX3_20 q_m0 rfl rfl dX3_writeFrom_1 ?_
  refine q_iload_n F dX3_writeFrom_4 rfl ?_
  refine q_aald F (_) q_m4 rfl rfl (by omega) (by decide) rfl dX3_writeFrom_5 ?_
  refine q_astore_4 F dX3_writeFrom_6 (by decide) ?_
  refine q_aload F dX3_writeFrom_8 rfl ?_
  refine q_iload_n F dX3_writeFrom_10 rfl ?_
  refine q_callVi F [.inl x] (fun l => t_holds l S0 hp) clX3_106 rfl (q_m5 (by omega)) rfl rfl rfl ⟨Nat.le_of_ble_eq_true rfl, Nat.le_of_ble_eq_true rfl⟩ (Nat.le_of_ble_eq_true rfl) ⟨rfl, rfl⟩ ⟨Nat.zero_le _, Nat.zero_le _⟩ dX3_writeFrom_11 (fun v1 S1 hv1 => ?_)
  obtain ⟨hv1, hS1⟩ := hv1
  have hS1 := hS1.symm
  subst hS1
  refine q_if_eq F 30 dX3_writeFrom_14 (by decide) (fun h14 => ?_) (fun h14 => ?_)
  · have hout := q_bl_F hv1 h14
    refine q_bipush F (-11) dX3_writeFrom_30 (by decide) ?_
    have hrho : q_rho true S0 K n L p x (-11) S0 := q_rho_out (by rw [← hlim]; exact hout)
    rcases hrho with ⟨h, -⟩ | ⟨hr0, hre, ⟨v, hv0, hrv, rfl⟩, -⟩
    · exact absurd h (by decide)
    · refine q_istore_5 F dX3_writeFrom_32 (by decide) ?_
      refine q_iload F dX3_writeFrom_34 rfl ?_
      refine q_if_eq F 47 dX3_writeFrom_36 (by decide) (fun h36 => ?_) (fun h36 => ?_)
      · exact absurd h36 (by decide)
      · refine q_aload_n F dX3_writeFrom_39 rfl ?_
        refine q_iload_n F dX3_writeFrom_40 rfl ?_
        refine q_iload F dX3_writeFrom_41 rfl ?_
        refine q_callVi F [.inl (nI p), .inl (-11)] (fun l => t_end l _ hp (q_F_14 (v := -11) hF)) clX3_74 rfl q_m0 rfl rfl rfl ⟨Nat.le_of_ble_eq_true rfl, Nat.le_of_ble_eq_true rfl⟩ (Nat.le_of_ble_eq_true rfl) ⟨rfl, rfl⟩ ⟨Nat.zero_le _, Nat.zero_le _⟩ dX3_writeFrom_43 (fun v2 S2 hv2 => ?_)
        obtain ⟨rfl, hv2⟩ := hv2
        refine q_iret F E rfl (q_no (Q := (nI 1, k_so K p a x)) (by show k_so K p a x = _; unfold k_so; rw [if_neg (by rw [hre]; decide)]; exact hrv) hv0 ⟨rfl, hv2⟩) dX3_writeFrom_46
  · have h14x := h14
    obtain ⟨h14a, h14b⟩ := q_bl_T hv1 h14x
    obtain ⟨b, hb, rfl⟩ := q_ofx (x := x) (m := 64) (by decide) h14a (by omega)
    rw [nI_toInt (by omega)] at h14a h14b
    refine q_aload_n F dX3_writeFrom_17 rfl ?_
    refine q_aload F dX3_writeFrom_18 rfl ?_
    refine q_iload_n F dX3_writeFrom_20 rfl ?_
    refine q_bipush F (nI 8) dX3_writeFrom_21 (by decide) ?_
    refine q_idivN F dX3_writeFrom_23 (by omega) (by omega) (by omega) ?_
    refine q_callVi F [.inr (some (5, p)), .inl (nI (b / 8))] (fun l => t_own l S0 hp (by omega) hR hL) clX3_59 rfl q_m0 rfl rfl rfl ⟨Nat.le_of_ble_eq_true rfl, Nat.le_of_ble_eq_true rfl⟩ (Nat.le_of_ble_eq_true rfl) ⟨rfl, rfl⟩ ⟨Nat.zero_le _, Nat.zero_le _⟩ dX3_writeFrom_24 (fun r1 S1 h1 => ?_)
    have hrho : q_rho true S0 K n L p (nI b) r1 S1 := q_rho_pg hp hb (by omega) hlive hZ h1
    rcases hrho with ⟨rfl, hre, b1, f, pg1, us1, lab1, L1, hb1, hbe, hR1, hZ1, hL1, hs, hf, hu⟩ | ⟨hr0, hre, ⟨v, hv0, hrv, rfl⟩, hSS⟩
    · refine q_goto F 32 dX3_writeFrom_27 (by decide) ?_
      refine q_istore_5 F dX3_writeFrom_32 (by decide) ?_
      refine q_iload F dX3_writeFrom_34 rfl ?_
      refine q_ifN_eq F 47 dX3_writeFrom_36 (by decide) (by omega) (fun h36 => ?_) (fun h36 => ?_)
      · refine q_aload_n F dX3_writeFrom_47 rfl ?_
        refine q_aload F dX3_writeFrom_48 rfl ?_
        refine q_iload_n F dX3_writeFrom_50 rfl ?_
        refine q_aload F dX3_writeFrom_51 rfl ?_
        refine q_getr F (k := 5) fkX3_103 (q_m5 (by omega)) rfl rfl dX3_writeFrom_53 ?_
        refine q_iload_n F dX3_writeFrom_56 rfl ?_
        refine q_iald F (_) (q_m6 (by omega)) rfl rfl (by omega) (by omega) dX3_writeFrom_57 ?_
        have hbb : b = b1 := (nI_eq (by omega) (by omega)).mp hbe
        subst hbb
        refine q_callVv F [.inr (some (5, p)), .inl (nI b), .inl (S1 (6, p) a)] (fun l => t_putWord l S1 hp hb (hR1.2.1.1 _ _ hf).1 hR1.1.2 (by rw [hR1.2.2.1 p (b / 8) hp (by omega), hf]; rfl)) clX3_63 rfl q_m0 rfl rfl rfl ⟨Nat.le_of_ble_eq_true rfl, Nat.le_of_ble_eq_true rfl⟩ (Nat.le_of_ble_eq_true rfl) ⟨rfl, rfl⟩ ⟨Nat.zero_le _, Nat.zero_le _⟩ dX3_writeFrom_58 (fun S2 hS2 => ?_)
        subst hS2
        refine q_iconst F (nI 1) dX3_writeFrom_61 (by decide) ?_
        refine q_iret F E rfl (q_so_ok hp ha hF h14K hre hb rfl hR1 hZ1 hL1 hs hf (hu rfl) rfl) dX3_writeFrom_62
      · exact absurd h36 (by decide)
    · subst hSS
      refine q_goto F 32 dX3_writeFrom_27 (by decide) ?_
      refine q_istore_5 F dX3_writeFrom_32 (by decide) ?_
      refine q_iload F dX3_writeFrom_34 rfl ?_
      refine q_if_eq F 47 dX3_writeFrom_36 (by decide) (fun h36 => ?_) (fun h36 => ?_)
      · exact absurd h36 hr0
      · refine q_aload_n F dX3_writeFrom_39 rfl ?_
        refine q_iload_n F dX3_writeFrom_40 rfl ?_
        refine q_iload F dX3_writeFrom_41 rfl ?_
        refine q_callVi F [.inl (nI p), .inl r1] (fun l => t_end l _ hp (q_F_14 (v := r1) hF)) clX3_74 rfl q_m0 rfl rfl rfl ⟨Nat.le_of_ble_eq_true rfl, Nat.le_of_ble_eq_true rfl⟩ (Nat.le_of_ble_eq_true rfl) ⟨rfl, rfl⟩ ⟨Nat.zero_le _, Nat.zero_le _⟩ dX3_writeFrom_43 (fun v2 S2 hv2 => ?_)
        obtain ⟨rfl, hv2⟩ := hv2
        refine q_iret F E rfl (q_no (Q := (nI 1, k_so K p a (nI b))) (by show k_so K p a (nI b) = _; unfold k_so; rw [if_neg (by rw [hre]; decide)]; exact hrv) hv0 ⟨rfl, hv2⟩) dX3_writeFrom_46
