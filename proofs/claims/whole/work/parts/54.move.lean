/-! the class: waiting, moving the break (rows laid by wip/whole/m54.py) -/
theorem k_free_u (K : k_t) (z a : Nat) (v : Int32) : k_u (k_free K z) 5 a v = k_free (k_u K 5 a v) z := by
  funext b j
  unfold k_free k_u
  by_cases h5 : b = 5
  · subst h5; simp
  · simp [h5]
/-- a zombie's number becomes free -/
theorem q_F_free {S : q_st} {K : k_t} {n L B z : Nat} (hz : z < 8) (hzz : K 2 z = nI 3) (h : q_F S K n L B) : q_F (q_up (q_up S (5, z) 0 (nI 0)) (5, z) 1 (-1)) (k_free K z) n L B ∧ q_fr S (q_up (q_up S (5, z) 0 (nI 0)) (5, z) 1 (-1)) := by
  obtain ⟨h1, h2, h3, pg, us, lab, h4, h5⟩ := h
  have hsn : q_sn S (q_up (q_up S (5, z) 0 (nI 0)) (5, z) 1 (-1)) := q_sn_tr (q_sn_up (by simp)) (q_sn_up (by simp))
  refine ⟨⟨k_Ok_free h1, q_T_up (q_tcP hz).2.1 (q_T_up (q_tcP hz).1 h2), q_C_sn hsn (q_C_k (fun j _ _ => by simp [k_free, k_u]) h3), pg, us, lab, q_R_sn hsn (by funext j; simp [k_free, k_u]) (by funext j; simp [k_free, k_u]) (by simp [k_free, k_u]) (by simp [k_free, k_u]) h4, ?_⟩, q_fr_sn hsn⟩
  intro q hq hs i hi
  by_cases hqz : q = z
  · subst hqz
    exact h5 q hq (Or.inr hzz) i hi
  · refine h5 q hq ?_ i hi
    simpa [k_free, k_u, hqz] using hs
theorem k_Ok_st {K : k_t} {B p s : Nat} (hs : s < 4) (hs0 : 0 < s) (h : k_Ok K B) : k_Ok (k_u K 2 p (nI s)) B := by
  refine ⟨fun j hj => ?_, k_Gl_same (fun j _ _ => by simp [k_u]) h.2⟩
  by_cases hjp : j = p
  · subst hjp
    obtain ⟨h1, h2, h3, h4⟩ := h.1 j hj
    refine ⟨⟨s, hs, by simp [k_u]⟩, by simpa [k_u] using h2, by simpa [k_u] using h3, fun q => ?_⟩
    simp [k_u] at q
    exact absurd q (nI_ne0 hs0 (by omega))
  · exact k_Pr_same (by simp [k_u, hjp]) (by simp [k_u]) (by simp [k_u]) (h.1 j hj)
/-- a live process's state: ready or waiting -/
theorem q_F_st {S : q_st} {K : k_t} {n L B p s : Nat} (hp : p < 8) (hs : s = 1 ∨ s = 2) (h : q_F S K n L B) : q_F (q_up S (5, p) 0 (nI s)) (k_u K 2 p (nI s)) n L B := by
  obtain ⟨h1, h2, h3, pg, us, lab, h4, h5⟩ := h
  have hsn : q_sn S (q_up S (5, p) 0 (nI s)) := q_sn_up (by simp)
  refine ⟨k_Ok_st (by omega) (by omega) h1, q_T_up (q_tcP hp).1 h2, q_C_sn hsn (q_C_k (fun j _ _ => by simp [k_u]) h3), pg, us, lab, q_R_sn hsn (by funext j; simp [k_u]) (by funext j; simp [k_u]) (by simp [k_u]) (by simp [k_u]) h4, ?_⟩
  intro q hq hss i hi
  by_cases hqp : q = p
  · subst hqp
    rw [k_u_at, q_nI0 (by omega), nI_eq (by omega) (by omega)] at hss
    omega
  · refine h5 q hq ?_ i hi
    simpa [k_u, hqp] using hss
/-- a break -/
theorem q_F_lim {S : q_st} {K : k_t} {n L B p b : Nat} (hp : p < 8) (hb : b ≤ 64) (h : q_F S K n L B) : q_F (q_up S (5, p) 4 (nI b)) (k_u K 7 p (nI b)) n L B := by
  obtain ⟨h1, h2, h3, pg, us, lab, h4, h5⟩ := h
  have hsn : q_sn S (q_up S (5, p) 4 (nI b)) := q_sn_up (by simp)
  refine ⟨⟨fun j hj => ?_, k_Gl_same (fun j _ _ => by simp [k_u]) h1.2⟩, q_T_up (q_tcP hp).2.2.2.2 h2, q_C_sn hsn (q_C_k (fun j _ _ => by simp [k_u]) h3), pg, us, lab, q_R_sn hsn (by funext j; simp [k_u]) (by funext j; simp [k_u]) (by simp [k_u]) (by simp [k_u]) h4, q_Zn_k (k_u_k _ _ _ _ (by decide)) h5⟩
  by_cases hjp : j = p
  · subst hjp
    obtain ⟨t1, t2, t3, t4⟩ := h1.1 j hj
    exact ⟨by simpa [k_u] using t1, by simpa [k_u] using t2, ⟨b, hb, by simp [k_u]⟩, by simpa [k_u] using t4⟩
  · exact k_Pr_same (by simp [k_u]) (by simp [k_u]) (by simp [k_u, hjp]) (h1.1 j hj)

theorem q_zc {S : q_st} {K : k_t} {n L B p : Nat} (hF : q_F S K n L B) : f_st (fun k => S (5, k) 1 = nI p ∧ S (5, k) 0 = nI 3) 8 = f_st (fun k => k_cd K p k ∧ K 2 k = nI 3) 8 := by
  refine f_st_congr (fun k hk => ?_)
  obtain ⟨t0, t1, -⟩ := hF.2.1.2.1 k hk
  rw [t0, t1]
  constructor
  · rintro ⟨q1, q2⟩
    exact ⟨⟨by rw [q2]; decide, q1⟩, q2⟩
  · rintro ⟨⟨-, q1⟩, q2⟩
    exact ⟨q1, q2⟩
theorem q_hc {S : q_st} {K : k_t} {n L B p : Nat} (hp : p < 8) (hF : q_F S K n L B) : (∃ k, k < 8 ∧ S (5, k) 1 = nI p) ↔ ∃ k, k < 8 ∧ k_cd K p k := by
  constructor
  · rintro ⟨k, hk, h⟩
    obtain ⟨t0, t1, -⟩ := hF.2.1.2.1 k hk
    rw [t1] at h
    refine ⟨k, hk, fun q => ?_, h⟩
    have := (hF.1.1 k hk).2.2.2 q
    rw [this] at h
    exact q_nm1 (show p < 2 ^ 31 by omega) h.symm
  · rintro ⟨k, hk, -, h⟩
    obtain ⟨t0, t1, -⟩ := hF.2.1.2.1 k hk
    exact ⟨k, hk, by rw [t1]; exact h⟩

theorem q_wait_fin {S : q_st} {K : k_t} {n L B p : Nat} (hp : p < 8) (hF : q_F S K n L B) : q_F (q_up (q_up S (5, p) 0 (nI 2)) (5, p) 3 (q_up S (5, p) 0 (nI 2) (5, p) 3 - nI 1)) (k_u (k_u K 2 p (nI 2)) 6 p (K 6 p - 1)) n L B := by
  have e : q_up S (5, p) 0 (nI 2) (5, p) 3 - nI 1 = K 6 p - 1 := by
    rw [q_irr _ _ _ _ _ _ (by simp), (hF.2.1.2.1 p hp).2.2.2.1]
    rfl
  rw [e]
  exact q_F_up (q_tcP hp).2.2.2.1 (by simp) (q_F_st hp (Or.inr rfl) hF)

set_option maxRecDepth 100000 in
set_option maxHeartbeats 4000000 in
theorem t_wait {G : q_g} {n : Nat} {ad : q_ix → Nat} (l : Launch) (S0 : q_st) {K : k_t} {p a L B : Nat} (hp : p < 8) (ha : a < 8) (hF : q_F S0 K n L B) : q_Ct l G iX3_waitForChild [.inr (some (0, 0)), .inl (nI p), .inl (nI a)] (q_w G n ad) (S0) (q_pi (q_w G n ad) (fun r S' => r = (k_aw K p a).1 ∧ q_F S' (k_aw K p a).2 n L B ∧ q_fr S0 S')) := by
  refine q_enter (by decide) (Nat.le_of_ble_eq_true rfl) (fun X F E => ?_)
  show q_W G X iX3_waitForChild (q_w G n ad) (0, 0) 0 [some (.inr (some (0, 0))), some (.inl (nI p)), some (.inl (nI a)), none, none] [] (S0)
  refine q_aload_n F dX3_waitForChild_0 rfl ?_
  refine q_getr F (k := 1) fkX3_20 q_m0 rfl rfl dX3_waitForChild_1 ?_
  refine q_iload_n F dX3_waitForChild_4 rfl ?_
  refine q_aald F (_) q_m4 rfl rfl (by omega) (by decide) rfl dX3_waitForChild_5 ?_
  refine q_astore_n_3 F dX3_waitForChild_6 (by decide) ?_
  refine q_aload_n F dX3_waitForChild_7 rfl ?_
  refine q_iload_n F dX3_waitForChild_8 rfl ?_
  refine q_callVi F [.inl (nI p)] (fun l => t_firstZombieChild l S0) clX3_178 rfl q_m0 rfl rfl rfl ⟨Nat.le_of_ble_eq_true rfl, Nat.le_of_ble_eq_true rfl⟩ (Nat.le_of_ble_eq_true rfl) ⟨rfl, rfl⟩ ⟨Nat.zero_le _, Nat.zero_le _⟩ dX3_waitForChild_9 (fun v1 S1 hv1 => ?_)
  obtain ⟨hv1, hS1⟩ := hv1
  have hS1 := hS1.symm
  subst hS1
  rw [q_zc hF] at hv1
  subst hv1
  rcases f_st_spec (P := fun k => k_cd K p k ∧ K 2 k = nI 3) 8 with ⟨hz, hzn⟩ | ⟨z, hz, hz8, hzz, -⟩
  · refine q_top (-1) (by rw [hz]; rfl) ?_
    refine q_istore_4 F dX3_waitForChild_12 (by decide) ?_
    refine q_iload F dX3_waitForChild_14 rfl ?_
    refine q_iconst F (-1) dX3_waitForChild_16 (by decide) ?_
    refine q_icmp_eq F 38 dX3_waitForChild_17 (by decide) (fun h17 => ?_) (fun h17 => ?_)
    · refine q_aload_n F dX3_waitForChild_38 rfl ?_
      refine q_iload_n F dX3_waitForChild_39 rfl ?_
      refine q_callVi F [.inl (nI p)] (fun l => t_hasChild l S0) clX3_181 rfl q_m0 rfl rfl rfl ⟨Nat.le_of_ble_eq_true rfl, Nat.le_of_ble_eq_true rfl⟩ (Nat.le_of_ble_eq_true rfl) ⟨rfl, rfl⟩ ⟨Nat.zero_le _, Nat.zero_le _⟩ dX3_waitForChild_40 (fun v2 S2 hv2 => ?_)
      obtain ⟨hv2, hS2⟩ := hv2
      have hS2 := hS2.symm
      subst hS2
      refine q_if_ne F 55 dX3_waitForChild_43 (by decide) (fun h43 => ?_) (fun h43 => ?_)
      · refine q_aload_n F dX3_waitForChild_55 rfl ?_
        refine q_iconst F (nI 2) dX3_waitForChild_56 (by decide) ?_
        refine q_puti F (k := 0) fkX3_90 fp2_0 (q_m5 (by omega)) rfl rfl dX3_waitForChild_57 ?_
        refine q_aload_n F dX3_waitForChild_60 rfl ?_
        refine q_dup F dX3_waitForChild_61 ?_
        refine q_geti F (k := 3) fkX3_100 (q_m5 (by omega)) rfl rfl dX3_waitForChild_62 ?_
        refine q_iconst F (nI 1) dX3_waitForChild_65 (by decide) ?_
        refine q_isub F dX3_waitForChild_66 ?_
        refine q_puti F (k := 3) fkX3_100 fp2_3 (q_m5 (by omega)) rfl rfl dX3_waitForChild_67 ?_
        refine q_iconst F (nI 4) dX3_waitForChild_70 (by decide) ?_
        refine q_iret F E rfl (by unfold k_aw; rw [hz]; simp only []; rw [if_pos ((q_hc hp hF).mp (q_bl_T hv2 h43))]; exact ⟨rfl, q_wait_fin hp hF, q_fr_tr (q_fr_up (by simp)) (q_fr_up (by simp))⟩) dX3_waitForChild_71
      · refine q_aload_n F dX3_waitForChild_46 rfl ?_
        refine q_getr F (k := 5) fkX3_103 (q_m5 (by omega)) rfl rfl dX3_waitForChild_47 ?_
        refine q_iload_n F dX3_waitForChild_50 rfl ?_
        refine q_iconst F (-1) dX3_waitForChild_51 (by decide) ?_
        refine q_iast F (_) (q_m6 (by omega)) rfl rfl (by omega) (by omega) dX3_waitForChild_52 ?_
        refine q_iconst F (nI 1) dX3_waitForChild_53 (by decide) ?_
        refine q_iret F E rfl (by unfold k_aw; rw [hz]; simp only []; rw [if_neg (fun q => q_bl_F hv2 h43 ((q_hc hp hF).mpr q))]; exact ⟨rfl, q_F_up (q_tcR hp ha) (by simp) hF, q_fr_up (by simp)⟩) dX3_waitForChild_54
    · exact absurd rfl h17
  · refine q_top (nI z) (by rw [hz]; rfl) ?_
    refine q_istore_4 F dX3_waitForChild_12 (by decide) ?_
    refine q_iload F dX3_waitForChild_14 rfl ?_
    refine q_iconst F (-1) dX3_waitForChild_16 (by decide) ?_
    refine q_icmp_eq F 38 dX3_waitForChild_17 (by decide) (fun h17 => ?_) (fun h17 => ?_)
    · exact absurd h17 (q_nm1 (by omega))
    · refine q_aload_n F dX3_waitForChild_20 rfl ?_
      refine q_getr F (k := 5) fkX3_103 (q_m5 (by omega)) rfl rfl dX3_waitForChild_21 ?_
      refine q_iload_n F dX3_waitForChild_24 rfl ?_
      refine q_aload_n F dX3_waitForChild_25 rfl ?_
      refine q_getr F (k := 1) fkX3_20 q_m0 rfl rfl dX3_waitForChild_26 ?_
      refine q_iload F dX3_waitForChild_29 rfl ?_
      refine q_aald F (_) q_m4 rfl rfl (by omega) (by decide) rfl dX3_waitForChild_31 ?_
      refine q_callVi F [] (fun l => t_vacate l S0 hz8) clX3_84 rfl (q_m5 (by omega)) rfl rfl rfl ⟨Nat.le_of_ble_eq_true rfl, Nat.le_of_ble_eq_true rfl⟩ (Nat.le_of_ble_eq_true rfl) ⟨rfl, rfl⟩ ⟨Nat.zero_le _, Nat.zero_le _⟩ dX3_waitForChild_32 (fun v2 S2 hv2 => ?_)
      obtain ⟨rfl, rfl⟩ := hv2
      refine q_iast F (_) (q_m6 (by omega)) rfl rfl (by omega) (by omega) dX3_waitForChild_35 ?_
      refine q_iconst F (nI 1) dX3_waitForChild_36 (by decide) ?_
      refine q_iret F E rfl (by unfold k_aw; rw [hz]; show nI 1 = nI 1 ∧ q_F _ (k_free (k_u K 5 (8 * p + a) (K 4 z)) z) n L B ∧ _; rw [← k_free_u]; have e4 := (hF.2.1.2.1 z hz8).2.2.1; rw [← e4]; exact ⟨rfl, q_F_up (q_tcR hp ha) (by simp) (q_F_free hz8 hzz.2 hF).1, q_fr_tr (q_F_free hz8 hzz.2 hF).2 (q_fr_up (by simp))⟩) dX3_waitForChild_37

/-- pages given back from a break on -/
theorem q_F_rf {S S' : q_st} {K : k_t} {n L B p b i0 : Nat} {pg : Nat → Option Nat} (hF : q_F S K n L B) (hZ : q_Zn K pg) (hrf : q_rf S K n p b i0 pg L 8 S') : ∃ (pg' : Nat → Option Nat) (us' lab' : Nat → Nat), q_R S' (k_rz K p b 8) n pg' us' lab' L ∧ q_Zn (k_rz K p b 8) pg' ∧ q_sm S S' ∧ (∀ x, pg' x = if x / 8 = p ∧ i0 ≤ x % 8 then none else pg x) ∧ q_F S' (k_rz K p b 8) n L B := by
  obtain ⟨pg', us', lab', hR, hs, hpg⟩ := hrf
  have h2 : ∀ a, a ≠ 8 → a ≠ 9 → k_rz K p b 8 a = K a := fun a h8 h9 => by funext j; simp [k_rz, h8, h9]
  have hZ' : q_Zn (k_rz K p b 8) pg' := by
    intro q hq hs i hi
    rw [h2 2 (by decide) (by decide)] at hs
    rw [hpg]
    split
    · rfl
    · exact hZ q hq hs i hi
  refine ⟨pg', us', lab', hR, hZ', hs, fun x => ?_, k_Ok_same (h2 2 (by decide) (by decide)) (h2 3 (by decide) (by decide)) (h2 7 (by decide) (by decide)) (fun j _ _ => by rw [h2 0 (by decide) (by decide)]) hF.1, q_T_sm hs (q_T_k (fun a _ h8 h9 => h2 a h8 h9) (fun j _ _ => by rw [h2 0 (by decide) (by decide)]) hF.2.1), q_C_sm hs (q_C_k (fun j _ _ => by rw [h2 0 (by decide) (by decide)]) hF.2.2.1), pg', us', lab', hR, hZ'⟩
  rw [hpg]
  repeat' split
  all_goals first | rfl | (exfalso; omega)
theorem k_gr1_eq (K : k_t) (p b : Nat) : k_gr1 K p b = if (k_pg K (8 * p + b / 8) true).1 = true then k_cl (k_pg K (8 * p + b / 8) true).2 p b else (k_pg K (8 * p + b / 8) true).2 := by
  unfold k_gr1
  by_cases h1 : k_sh K (8 * p + b / 8) = 1
  · rw [if_pos h1, k_pg_t (by omega) (Or.inr h1)]
    rfl
  · rw [if_neg h1, k_pg_f (by rintro ⟨-, q | q⟩; cases q; exact h1 q)]
theorem k_pg_14 {K : k_t} {g : Nat} {wr : Bool} (h : (k_pg K g wr).1 = true) : (k_pg K g wr).2 0 14 = K 0 14 := by
  unfold k_pg at *
  split at h
  next h1 => rw [if_pos h1]
  next h1 =>
    rw [if_neg h1]
    unfold k_al at *
    split at h
    · cases h
    next h2 =>
      rw [if_neg h2]
      simp [k_u]

theorem q_gr_same {S0 S' : q_st} {K : k_t} {n L B p a L' : Nat} {c : Int32} {K' : k_t} (e : k_gr K p a c = K') (h14 : K' 0 14 = 0) (hL : L' ≤ L + 1) (hF : q_F S' K' n L' B) (hfr : q_fr S0 S') : ∃ L', L' ≤ L + 1 ∧ nI 1 = (k_s2 K p (nI 1, k_gr K p a c)).1 ∧ q_F S' (k_s2 K p (nI 1, k_gr K p a c)).2 n L' B ∧ q_fr S0 S' := by
  have e2 : k_s2 K p (nI 1, k_gr K p a c) = (nI 1, k_gr K p a c) := by
    unfold k_s2
    rw [if_pos]
    show k_gr K p a c 0 14 = 0
    rw [e, h14]
  rw [e2]
  refine ⟨L', hL, rfl, ?_, hfr⟩
  show q_F S' (k_gr K p a c) n L' B
  rw [e]
  exact hF

theorem q_gr_no {S0 S' : q_st} {K : k_t} {n L B p a b : Nat} {c : Int32} (e : k_gr K p a c = k_u (k_gr0 K p a b) 0 14 (-13)) (hF : q_F S' (k_en (k_u (k_gr0 K p a b) 0 14 (-13)) p (-13)) n L B) (hfr : q_fr S0 S') : ∃ L', L' ≤ L + 1 ∧ nI 5 = (k_s2 K p (nI 1, k_gr K p a c)).1 ∧ q_F S' (k_s2 K p (nI 1, k_gr K p a c)).2 n L' B ∧ q_fr S0 S' := by
  have e2 : k_s2 K p (nI 1, k_gr K p a c) = (nI 5, k_en (k_u (k_gr0 K p a b) 0 14 (-13)) p (-13)) := by
    unfold k_s2
    show (if k_gr K p a c 0 14 = 0 then _ else (nI 5, k_en (k_gr K p a c) p (k_gr K p a c 0 14))) = _
    rw [e, k_u_at, if_neg (by decide)]
  rw [e2]
  exact ⟨L, Nat.le_succ L, rfl, hF, hfr⟩
theorem q_cut_F {S2 S3 S4 : q_st} {K2 : k_t} {n L B p b L3 : Nat} {pg2 pg3 : Nat → Option Nat} {us3 lab3 : Nat → Nat} (hp : p < 8) (hlive : ¬ (K2 2 p = 0 ∨ K2 2 p = nI 3)) (hF2 : q_F S2 K2 n L B) (hZ2 : q_Zn K2 pg2) (hR4 : q_R S4 (k_cl (k_pg K2 (8 * p + b / 8) true).2 p b) n pg3 us3 lab3 L3) (hs3 : q_sm S2 S3) (hs4 : q_sm S3 S4) (hpg : ∀ x, x ≠ 8 * p + b / 8 → pg3 x = pg2 x) (hb : b < 64 := by omega) : q_F S4 (k_cl (k_pg K2 (8 * p + b / 8) true).2 p b) n L3 B := by
  have ha : ∀ a, a ≠ 0 → a ≠ 8 → a ≠ 9 → k_cl (k_pg K2 (8 * p + b / 8) true).2 p b a = K2 a := by
    intro a h0 h8 h9
    rw [← k_pg_k (K := K2) (g := 8 * p + b / 8) (wr := true) h0 h9]
    funext j
    simp [k_cl, h8]
  have h0 : ∀ j, j ≠ 11 → j ≠ 14 → k_cl (k_pg K2 (8 * p + b / 8) true).2 p b 0 j = K2 0 j := by
    intro j h1 h2
    rw [← k_pg_0 (K := K2) (g := 8 * p + b / 8) (wr := true) h1 h2]
    simp [k_cl]
  have hs := q_sm_tr hs3 hs4
  refine ⟨k_Ok_cl (k_Ok_pg hF2.1), q_T_sm hs (q_T_k ha h0 hF2.2.1), q_C_sm hs (q_C_k h0 hF2.2.2.1), pg3, us3, lab3, hR4, ?_⟩
  intro q hq hss i hi
  rw [ha 2 (by decide) (by decide) (by decide)] at hss
  rw [hpg _ (by intro z; have hqp : q = p := (by omega); subst hqp; exact hlive hss)]
  exact hZ2 q hq hss i hi

set_option maxRecDepth 100000 in
set_option maxHeartbeats 4000000 in
theorem t_moveBreak {G : q_g} {n : Nat} {ad : q_ix → Nat} (l : Launch) (S0 : q_st) {K : k_t} {p a L B : Nat} {c : Int32} (hp : p < 8) (ha : a < 8) (hF : q_F S0 K n L B) (hL : L + 1 < 2 ^ 30) (hlive : ¬ (K 2 p = 0 ∨ K 2 p = nI 3)) (h14 : K 0 14 = 0) : q_Ct l G iX3_moveBreak [.inr (some (0, 0)), .inl (nI p), .inl (nI a), .inl c] (q_w G n ad) (S0) (q_pi (q_w G n ad) (fun r S' => ∃ L', L' ≤ L + 1 ∧ r = (k_s2 K p (nI 1, k_gr K p a c)).1 ∧ q_F S' (k_s2 K p (nI 1, k_gr K p a c)).2 n L' B ∧ q_fr S0 S')) := by
  refine q_enter (by decide) (Nat.le_of_ble_eq_true rfl) (fun X F E => ?_)
  show q_W G X iX3_moveBreak (q_w G n ad) (0, 0) 0 [some (.inr (some (0, 0))), some (.inl (nI p)), some (.inl (nI a)), some (.inl c), none, none, none, none, none] [] (S0)
  obtain ⟨hok, hT0, hC, pg, us, lab, hR, hZ⟩ := id hF
  obtain ⟨b0, hb064, hb0⟩ := (hok.1 p hp).2.2.1
  refine q_aload_n F dX3_moveBreak_0 rfl ?_
  refine q_getr F (k := 1) fkX3_20 q_m0 rfl rfl dX3_moveBreak_1 ?_
  refine q_iload_n F dX3_moveBreak_4 rfl ?_
  refine q_aald F (_) q_m4 rfl rfl (by omega) (by decide) rfl dX3_moveBreak_5 ?_
  refine q_astore_4 F dX3_moveBreak_6 (by decide) ?_
  refine q_aload F dX3_moveBreak_8 rfl ?_
  refine q_geti F (k := 4) fkX3_56 (q_m5 (by omega)) rfl rfl dX3_moveBreak_10 ?_
  refine q_top (nI b0) ((hT0.2.1 p hp).2.2.2.2.trans hb0) ?_
  refine q_istore_5 F dX3_moveBreak_13 (by decide) ?_
  refine q_iload F dX3_moveBreak_15 rfl ?_
  refine q_iload_n F dX3_moveBreak_17 rfl ?_
  refine q_iadd F dX3_moveBreak_18 ?_
  refine q_istore_6 F dX3_moveBreak_19 (by decide) ?_
  refine q_iload F dX3_moveBreak_21 rfl ?_
  refine q_if_lt F 33 dX3_moveBreak_23 (by decide) (fun h23 => ?_) (fun h23 => ?_)
  · refine q_aload F dX3_moveBreak_33 rfl ?_
    refine q_getr F (k := 5) fkX3_103 (q_m5 (by omega)) rfl rfl dX3_moveBreak_35 ?_
    refine q_iload_n F dX3_moveBreak_38 rfl ?_
    refine q_iconst F (-1) dX3_moveBreak_39 (by decide) ?_
    refine q_iast F (_) (q_m6 (by omega)) rfl rfl (by omega) (by omega) dX3_moveBreak_40 ?_
    refine q_iconst F (nI 1) dX3_moveBreak_41 (by decide) ?_
    refine q_iret F E rfl (q_gr_same (by unfold k_gr; rw [hb0, if_pos (by omega)]) (by rw [k_u_ne _ _ _ _ (by simp)]; exact h14) (Nat.le_succ L) (q_F_up (q_tcR hp ha) (by simp) hF) (q_fr_up (by simp))) dX3_moveBreak_42
  · refine q_iload F dX3_moveBreak_26 rfl ?_
    refine q_bipush F (nI 64) dX3_moveBreak_28 (by decide) ?_
    refine q_icmp_le F 43 dX3_moveBreak_30 (by decide) (fun h30 => ?_) (fun h30 => ?_)
    · rw [nI_toInt (by omega)] at h30
      obtain ⟨b, hb65, hbe⟩ := q_ofx (x := nI b0 + c) (m := 65) (by decide) h23 (by omega)
      rw [hbe] at h23 h30 ⊢
      refine q_aload F dX3_moveBreak_43 rfl ?_
      refine q_getr F (k := 5) fkX3_103 (q_m5 (by omega)) rfl rfl dX3_moveBreak_45 ?_
      refine q_iload_n F dX3_moveBreak_48 rfl ?_
      refine q_iload F dX3_moveBreak_49 rfl ?_
      refine q_iast F (_) (q_m6 (by omega)) rfl rfl (by omega) (by omega) dX3_moveBreak_51 ?_
      refine q_aload F dX3_moveBreak_52 rfl ?_
      refine q_iload F dX3_moveBreak_54 rfl ?_
      refine q_puti F (k := 4) fkX3_56 fp2_4 (q_m5 (by omega)) rfl rfl dX3_moveBreak_56 ?_
      have hF1 : q_F (q_up (q_up S0 (6, p) a (nI b0)) (5, p) 4 (nI b)) (k_u (k_u K 5 (8 * p + a) (nI b0)) 7 p (nI b)) n L B := q_F_lim hp (by omega) (q_F_up (q_tcR hp ha) (by simp) hF)
      obtain ⟨-, -, -, pg1, us1, lab1, hR1, hZ1⟩ := id hF1
      refine q_aload_n F dX3_moveBreak_59 rfl ?_
      refine q_aload F dX3_moveBreak_60 rfl ?_
      refine q_iload F dX3_moveBreak_62 rfl ?_
      refine q_bipush F (nI 8) dX3_moveBreak_64 (by decide) ?_
      refine q_iaddN F dX3_moveBreak_66 ?_
      refine q_iconst F (nI 1) dX3_moveBreak_67 (by decide) ?_
      refine q_isubN F dX3_moveBreak_68 (by omega) ?_
      refine q_bipush F (nI 8) dX3_moveBreak_69 (by decide) ?_
      refine q_idivN F dX3_moveBreak_71 (by omega) (by omega) (by omega) ?_
      refine q_callVv F [.inr (some (5, p)), .inl (nI ((b + 8 - 1) / 8))] (fun l => t_releaseFrom l _ (b := b) hp (by omega) (fun i hi => by omega) hR1) clX3_171 rfl q_m0 rfl rfl rfl ⟨Nat.le_of_ble_eq_true rfl, Nat.le_of_ble_eq_true rfl⟩ (Nat.le_of_ble_eq_true rfl) ⟨rfl, rfl⟩ ⟨Nat.zero_le _, Nat.zero_le _⟩ dX3_moveBreak_72 (fun S2 hrf => ?_)
      obtain ⟨pg2, us2, lab2, hR2, hZ2, hs2, hpg2, hF2⟩ := q_F_rf hF1 hZ1 hrf
      have ek : k_rz (k_u (k_u K 5 (8 * p + a) (nI b0)) 7 p (nI b)) p b 8 = k_gr0 K p a b := by rw [← hb0, k_gr0_eq]
      rw [ek] at hR2 hZ2 hF2
      have hfr2 : q_fr S0 S2 := q_fr_tr (q_fr_tr (q_fr_up (by simp)) (q_fr_up (by simp))) (q_fr_sm hs2)
      have h214 : k_gr0 K p a b 0 14 = 0 := by simp [k_gr0, k_u]; exact h14
      have egr := k_gr_in (a := a) (c := c) hb0 hbe (show b ≤ 64 by omega)
      have hlab : K 9 (8 * p + b / 8) = nI (lab1 (8 * p + b / 8)) ∨ 63 < b := by
        by_cases hb63 : 63 < b
        · exact Or.inr hb63
        · left; rw [← hR1.2.2.2.2.2.2.2.1 _ (by omega)]; simp [k_u]
      have hlb1 : ∀ g, g < 64 → lab1 g < 2 ^ 30 := fun g hg => by have := hR1.2.1.2.1 g hg; omega
      refine q_iload F dX3_moveBreak_75 rfl ?_
      refine q_bipush F (nI 8) dX3_moveBreak_77 (by decide) ?_
      refine q_idivN F dX3_moveBreak_79 (by omega) (by omega) (by omega) ?_
      refine q_istore_7 F dX3_moveBreak_80 (by decide) ?_
      refine q_iload F dX3_moveBreak_82 rfl ?_
      refine q_iload F dX3_moveBreak_84 rfl ?_
      refine q_icmpN_ge F 101 dX3_moveBreak_86 (by decide) (by omega) (by omega) (fun h86 => ?_) (fun h86 => ?_)
      · have hno : ¬ ((nI b).toInt < (nI b0).toInt ∧ b % 8 ≠ 0 ∧ 0 < (K 9 (8 * p + b / 8)).toInt) := by rw [nI_toInt (n := b) (by omega), nI_toInt (n := b0) (by omega)]; omega
        refine q_iconst F (nI 1) dX3_moveBreak_101 (by decide) ?_
        refine q_iret F E rfl (q_gr_same (egr.trans (if_neg hno)) h214 (Nat.le_succ L) hF2 hfr2) dX3_moveBreak_102
      · refine q_aload F dX3_moveBreak_89 rfl ?_
        refine q_getr F (k := 6) fkX3_112 (q_m5 (by omega)) rfl rfl dX3_moveBreak_91 ?_
        refine q_iload F dX3_moveBreak_94 rfl ?_
        refine q_iald F (_) (q_m7 (by omega)) rfl rfl (by omega) (by omega) dX3_moveBreak_96 ?_
        refine q_iconst F (-1) dX3_moveBreak_97 (by decide) ?_
        refine q_icmp_ne F 103 dX3_moveBreak_98 (by decide) (fun h98 => ?_) (fun h98 => ?_)
        · have hp2 : ¬ pg2 (8 * p + b / 8) = none := fun q => h98 (by show S2 (7, p) (b / 8) = -1; rw [hR2.2.2.1 p (b / 8) hp (by omega), q]; rfl)
          have hb8 : b % 8 ≠ 0 := by
            intro q
            apply hp2
            rw [hpg2, if_pos (by omega)]
          have hyes : (nI b).toInt < (nI b0).toInt ∧ b % 8 ≠ 0 ∧ 0 < (K 9 (8 * p + b / 8)).toInt := by
            refine ⟨by rw [nI_toInt (n := b) (by omega), nI_toInt (n := b0) (by omega)]; omega, hb8, ?_⟩
            rw [hpg2, if_neg (by omega)] at hp2
            have := mt (hR1.2.1.2.2.1 _ (show 8 * p + b / 8 < 64 by omega)).mpr hp2
            rw [hlab.resolve_right (by omega), nI_toInt (by have := hlb1 (8 * p + b / 8) (by omega); omega)]
            omega
          have egy : k_gr K p a c = k_gr1 (k_gr0 K p a b) p b := egr.trans (if_pos hyes)
          rw [k_gr1_eq] at egy
          refine q_aload_n F dX3_moveBreak_103 rfl ?_
          refine q_aload F dX3_moveBreak_104 rfl ?_
          refine q_iload F dX3_moveBreak_106 rfl ?_
          have hlive2 : ¬ (k_gr0 K p a b 2 p = 0 ∨ k_gr0 K p a b 2 p = nI 3) := by simpa [k_gr0, k_u] using hlive
          refine q_callVi F [.inr (some (5, p)), .inl (nI (b / 8))] (fun l => t_own l S2 hp (by omega) hR2 hL) clX3_59 rfl q_m0 rfl rfl rfl ⟨Nat.le_of_ble_eq_true rfl, Nat.le_of_ble_eq_true rfl⟩ (Nat.le_of_ble_eq_true rfl) ⟨rfl, rfl⟩ ⟨Nat.zero_le _, Nat.zero_le _⟩ dX3_moveBreak_108 (fun r1 S3 h1 => ?_)
          rcases h1 with ⟨rfl, hk1, pg3, us3, lab3, L3, hR3, hL3a, hL3, hs3, hpg3, f, hf3, hu3⟩ | ⟨rfl, hk1, hk2, rfl⟩
          · refine q_istore_8 F dX3_moveBreak_111 (by decide) ?_
            refine q_iload F dX3_moveBreak_113 rfl ?_
            refine q_ifN_eq F 126 dX3_moveBreak_115 (by decide) (by omega) (fun h115 => ?_) (fun h115 => ?_)
            · refine q_aload_n F dX3_moveBreak_126 rfl ?_
              refine q_aload F dX3_moveBreak_127 rfl ?_
              refine q_iload F dX3_moveBreak_129 rfl ?_
              refine q_callVv F [.inr (some (5, p)), .inl (nI b)] (fun l => t_clearFrom l S3 hp (by omega) hf3 (hu3 rfl) hR3) clX3_175 rfl q_m0 rfl rfl rfl ⟨Nat.le_of_ble_eq_true rfl, Nat.le_of_ble_eq_true rfl⟩ (Nat.le_of_ble_eq_true rfl) ⟨rfl, rfl⟩ ⟨Nat.zero_le _, Nat.zero_le _⟩ dX3_moveBreak_131 (fun S4 hS4 => ?_)
              obtain ⟨hR4, hs4⟩ := hS4
              rw [if_pos hk1] at egy
              refine q_iconst F (nI 1) dX3_moveBreak_134 (by decide) ?_
              refine q_iret F E rfl (q_gr_same egy (by simp only [k_cl]; rw [if_neg (by simp), k_pg_14 hk1]; exact h214) hL3 (q_cut_F hp hlive2 hF2 hZ2 hR4 hs3 hs4 hpg3) (q_fr_tr hfr2 (q_fr_tr (q_fr_sm hs3) (q_fr_sm hs4)))) dX3_moveBreak_135
            · exact absurd h115 (by decide)
          · refine q_istore_8 F dX3_moveBreak_111 (by decide) ?_
            refine q_iload F dX3_moveBreak_113 rfl ?_
            refine q_if_eq F 126 dX3_moveBreak_115 (by decide) (fun h115 => ?_) (fun h115 => ?_)
            · exact absurd h115 (by decide)
            · refine q_aload_n F dX3_moveBreak_118 rfl ?_
              refine q_iload_n F dX3_moveBreak_119 rfl ?_
              refine q_iload F dX3_moveBreak_120 rfl ?_
              refine q_callVi F [.inl (nI p), .inl (-13)] (fun l => t_end l _ hp (q_F_14 (v := -13) hF2)) clX3_74 rfl q_m0 rfl rfl rfl ⟨Nat.le_of_ble_eq_true rfl, Nat.le_of_ble_eq_true rfl⟩ (Nat.le_of_ble_eq_true rfl) ⟨rfl, rfl⟩ ⟨Nat.zero_le _, Nat.zero_le _⟩ dX3_moveBreak_122 (fun v2 S4 hv2 => ?_)
              obtain ⟨rfl, hv2, hv3⟩ := hv2
              rw [if_neg (by rw [hk1]; decide), hk2] at egy
              refine q_iret F E rfl (q_gr_no egy hv2 (q_fr_tr hfr2 hv3)) dX3_moveBreak_125
        · have hp2 : pg2 (8 * p + b / 8) = none := q_fe_none (o := pg2 (8 * p + b / 8)) (by rw [← hR2.2.2.1 p (b / 8) hp (by omega)]; exact h98) (fun f hf => by have h1 := (hR2.2.1.1 _ _ hf).1; have h2 := hR2.1.2; omega)
          have hno : ¬ ((nI b).toInt < (nI b0).toInt ∧ b % 8 ≠ 0 ∧ 0 < (K 9 (8 * p + b / 8)).toInt) := by
            rintro ⟨-, q2, q3⟩
            rw [hpg2, if_neg (by omega)] at hp2
            have := (hR1.2.1.2.2.1 _ (by omega)).mp hp2
            rw [hlab.resolve_right (by omega), nI_toInt (by have := hlb1 (8 * p + b / 8) (by omega); omega)] at q3
            omega
          refine q_iconst F (nI 1) dX3_moveBreak_101 (by decide) ?_
          refine q_iret F E rfl (q_gr_same (egr.trans (if_neg hno)) h214 (Nat.le_succ L) hF2 hfr2) dX3_moveBreak_102
    · rw [nI_toInt (by omega)] at h30
      refine q_aload F dX3_moveBreak_33 rfl ?_
      refine q_getr F (k := 5) fkX3_103 (q_m5 (by omega)) rfl rfl dX3_moveBreak_35 ?_
      refine q_iload_n F dX3_moveBreak_38 rfl ?_
      refine q_iconst F (-1) dX3_moveBreak_39 (by decide) ?_
      refine q_iast F (_) (q_m6 (by omega)) rfl rfl (by omega) (by omega) dX3_moveBreak_40 ?_
      refine q_iconst F (nI 1) dX3_moveBreak_41 (by decide) ?_
      refine q_iret F E rfl (q_gr_same (by unfold k_gr; rw [hb0, if_pos (by omega)]) (by rw [k_u_ne _ _ _ _ (by simp)]; exact h14) (Nat.le_succ L) (q_F_up (q_tcR hp ha) (by simp) hF) (q_fr_up (by simp))) dX3_moveBreak_42
