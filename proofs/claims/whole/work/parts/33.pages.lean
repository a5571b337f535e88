/-! the class's pages (rows laid by wip/whole/m33.py) -/
theorem q_ne_us {S : q_st} {K : k_t} {n : Nat} {pg : Nat → Option Nat} {us lab : Nat → Nat} {L g f f0 : Nat} (h : q_R S K n pg us lab L) (h0 : pg g = some f0) (hf : f < n) (hf0 : S (3, 0) f = 0) : f0 ≠ f := by
  have hpos := q_R_us1 h h0
  obtain ⟨hu, -⟩ := q_R_free h hf hf0
  rintro rfl
  omega
theorem q_up_id (S : q_st) (i : q_ix) (k : Nat) (v : Int32) (h : S i k = v) : q_up S i k v = S := by
  funext j x
  unfold q_up
  split
  next q => rw [q.1, q.2, h]
  next => rfl

theorem q_fe_none {o : Option Nat} (h : q_fe o = -1) (hf : ∀ f, o = some f → f < 2 ^ 31 := by intro f hf; exact Nat.lt_of_lt_of_le (Nat.lt_of_lt_of_le (hR.2.1.1 _ _ hf).1 hR.1.2) (by decide)) : o = none := by
  cases o with
  | none => rfl
  | some f => exact absurd h (q_nm1 (hf f rfl))

set_option maxRecDepth 100000 in
set_option maxHeartbeats 4000000 in
theorem t_own0 {G : q_g} {n : Nat} {ad : q_ix → Nat} (l : Launch) (S : q_st) {p i : Nat} (hp : p < 8) (hi : i < 8) {K : k_t} {pg : Nat → Option Nat} {us lab : Nat → Nat} {L : Nat} (hR : q_R S K n pg us lab L) (hL : L + 1 < 2 ^ 30) (h0 : pg (8 * p + i) = none) : q_Ct l G iX3_ownPage [.inr (some (0, 0)), .inr (some (5, p)), .inl (nI i)] (q_w G n ad) (S) (q_pi (q_w G n ad) (fun r S' => q_pgo true S K n pg L (8 * p + i) r S')) := by
  refine q_enter (by decide) (Nat.le_of_ble_eq_true rfl) (fun X F E => ?_)
  show q_W G X iX3_ownPage (q_w G n ad) (0, 0) 0 [some (.inr (some (0, 0))), some (.inr (some (5, p))), some (.inl (nI i)), none, none] [] (S)
  have hn := hR.1.2
  have h00 := hR.2.2.2.2.2.1
  have hc : ¬ (0 < k_sh K (8 * p + i) ∧ (true = false ∨ k_sh K (8 * p + i) = 1)) := by rw [q_R_sh hR (by omega), h0]; simp
  refine q_aload_n F dX3_ownPage_0 rfl ?_
  refine q_getr F (k := 6) fkX3_112 (q_m5 (by omega)) rfl rfl dX3_ownPage_1 ?_
  refine q_iload_n F dX3_ownPage_4 rfl ?_
  refine q_iald F (_) (q_m7 (by omega)) rfl rfl (by omega) (by omega) dX3_ownPage_5 ?_
  refine q_top (-1) (by rw [hR.2.2.1 p i hp hi, h0]; rfl) ?_
  refine q_istore_n_3 F dX3_ownPage_6 (by decide) ?_
  refine q_iload_n F dX3_ownPage_7 rfl ?_
  refine q_iconst F (-1) dX3_ownPage_8 (by decide) ?_
  refine q_icmp_eq F 27 dX3_ownPage_9 (by decide) (fun h9 => ?_) (fun h9 => ?_)
  · refine q_aload_n F dX3_ownPage_27 rfl ?_
    refine q_getr F (k := 0) fkX3_14 q_m0 rfl rfl dX3_ownPage_28 ?_
    refine q_callVi F [] (fun l => t_take l S hn h00) clX3_184 rfl q_m1 rfl rfl rfl ⟨Nat.le_of_ble_eq_true rfl, Nat.le_of_ble_eq_true rfl⟩ (Nat.le_of_ble_eq_true rfl) ⟨rfl, rfl⟩ ⟨Nat.zero_le _, Nat.zero_le _⟩ dX3_ownPage_31 (fun v S' hv => ?_)
    rcases hv with ⟨f, hf, hf0, -, rfl, rfl⟩ | ⟨hall, rfl, rfl⟩
    · refine q_istore_4 F dX3_ownPage_34 (by decide) ?_
      refine q_iload F dX3_ownPage_36 rfl ?_
      refine q_iconst F (-1) dX3_ownPage_38 (by decide) ?_
      refine q_icmp_ne F 45 dX3_ownPage_39 (by decide) (fun h39 => ?_) (fun h39 => ?_)
      · refine q_iload_n F dX3_ownPage_45 rfl ?_
        refine q_iconst F (-1) dX3_ownPage_46 (by decide) ?_
        refine q_icmp_eq F 68 dX3_ownPage_47 (by decide) (fun h47 => ?_) (fun h47 => ?_)
        · refine q_aload_n F dX3_ownPage_68 rfl ?_
          refine q_getr F (k := 6) fkX3_112 (q_m5 (by omega)) rfl rfl dX3_ownPage_69 ?_
          refine q_iload_n F dX3_ownPage_72 rfl ?_
          refine q_iload F dX3_ownPage_73 rfl ?_
          refine q_iast F (_) (q_m7 (by omega)) rfl rfl (by omega) (by omega) dX3_ownPage_75 ?_
          refine q_iconst F (nI 0) dX3_ownPage_76 (by decide) ?_
          refine q_iret F E rfl (q_fin0 hR hp hi hL h0 hf hf0) dX3_ownPage_77
        · exact absurd rfl h47
      · exact absurd h39 (q_nm1 (by omega))
    · refine q_istore_4 F dX3_ownPage_34 (by decide) ?_
      refine q_iload F dX3_ownPage_36 rfl ?_
      refine q_iconst F (-1) dX3_ownPage_38 (by decide) ?_
      refine q_icmp_ne F 45 dX3_ownPage_39 (by decide) (fun h39 => ?_) (fun h39 => ?_)
      · exact absurd rfl h39
      · refine q_bipush F (-13) dX3_ownPage_42 (by decide) ?_
        refine q_iret F E rfl (q_pgo_fail hR hc hall) dX3_ownPage_44
  · exact absurd rfl h9

set_option maxRecDepth 100000 in
set_option maxHeartbeats 4000000 in
theorem t_own1 {G : q_g} {n : Nat} {ad : q_ix → Nat} (l : Launch) (S : q_st) {p i : Nat} (hp : p < 8) (hi : i < 8) {K : k_t} {pg : Nat → Option Nat} {us lab : Nat → Nat} {L : Nat} (hR : q_R S K n pg us lab L) (hL : L + 1 < 2 ^ 30) {f0 : Nat} (h0 : pg (8 * p + i) = some f0) : q_Ct l G iX3_ownPage [.inr (some (0, 0)), .inr (some (5, p)), .inl (nI i)] (q_w G n ad) (S) (q_pi (q_w G n ad) (fun r S' => q_pgo true S K n pg L (8 * p + i) r S')) := by
  refine q_enter (by decide) (Nat.le_of_ble_eq_true rfl) (fun X F E => ?_)
  show q_W G X iX3_ownPage (q_w G n ad) (0, 0) 0 [some (.inr (some (0, 0))), some (.inr (some (5, p))), some (.inl (nI i)), none, none] [] (S)
  have hn := hR.1.2
  have h00 := hR.2.2.2.2.2.1
  have hff := (hR.2.1.1 _ _ h0).1
  have hus := q_R_us hR hff
  refine q_aload_n F dX3_ownPage_0 rfl ?_
  refine q_getr F (k := 6) fkX3_112 (q_m5 (by omega)) rfl rfl dX3_ownPage_1 ?_
  refine q_iload_n F dX3_ownPage_4 rfl ?_
  refine q_iald F (_) (q_m7 (by omega)) rfl rfl (by omega) (by omega) dX3_ownPage_5 ?_
  refine q_top (nI f0) (by rw [hR.2.2.1 p i hp hi, h0]; rfl) ?_
  refine q_istore_n_3 F dX3_ownPage_6 (by decide) ?_
  refine q_iload_n F dX3_ownPage_7 rfl ?_
  refine q_iconst F (-1) dX3_ownPage_8 (by decide) ?_
  refine q_icmp_eq F 27 dX3_ownPage_9 (by decide) (fun h9 => ?_) (fun h9 => ?_)
  · exact absurd h9 (q_nm1 (by omega))
  · refine q_aload_n F dX3_ownPage_12 rfl ?_
    refine q_getr F (k := 0) fkX3_14 q_m0 rfl rfl dX3_ownPage_13 ?_
    refine q_getr F (k := 2) fkX3_115 q_m1 rfl rfl dX3_ownPage_16 ?_
    refine q_iload_n F dX3_ownPage_19 rfl ?_
    refine q_iald F (_) q_m3 rfl rfl (by omega) (by omega) dX3_ownPage_20 ?_
    refine q_top (nI (us f0)) (hR.2.2.2.1 f0 hff) ?_
    refine q_iconst F (nI 1) dX3_ownPage_21 (by decide) ?_
    refine q_icmpN_ne F 27 dX3_ownPage_22 (by decide) (by omega) (by omega) (fun h22 => ?_) (fun h22 => ?_)
    · have hc : ¬ (0 < k_sh K (8 * p + i) ∧ (true = false ∨ k_sh K (8 * p + i) = 1)) := by rw [q_R_sh hR (by omega), h0]; simp; intro _; exact h22
      refine q_aload_n F dX3_ownPage_27 rfl ?_
      refine q_getr F (k := 0) fkX3_14 q_m0 rfl rfl dX3_ownPage_28 ?_
      refine q_callVi F [] (fun l => t_take l S hn h00) clX3_184 rfl q_m1 rfl rfl rfl ⟨Nat.le_of_ble_eq_true rfl, Nat.le_of_ble_eq_true rfl⟩ (Nat.le_of_ble_eq_true rfl) ⟨rfl, rfl⟩ ⟨Nat.zero_le _, Nat.zero_le _⟩ dX3_ownPage_31 (fun v S' hv => ?_)
      rcases hv with ⟨f, hf, hf0, -, rfl, rfl⟩ | ⟨hall, rfl, rfl⟩
      · refine q_istore_4 F dX3_ownPage_34 (by decide) ?_
        refine q_iload F dX3_ownPage_36 rfl ?_
        refine q_iconst F (-1) dX3_ownPage_38 (by decide) ?_
        refine q_icmp_ne F 45 dX3_ownPage_39 (by decide) (fun h39 => ?_) (fun h39 => ?_)
        · refine q_iload_n F dX3_ownPage_45 rfl ?_
          refine q_iconst F (-1) dX3_ownPage_46 (by decide) ?_
          refine q_icmp_eq F 68 dX3_ownPage_47 (by decide) (fun h47 => ?_) (fun h47 => ?_)
          · exact absurd h47 (q_nm1 (by omega))
          · refine q_aload_n F dX3_ownPage_50 rfl ?_
            refine q_getr F (k := 0) fkX3_14 q_m0 rfl rfl dX3_ownPage_51 ?_
            refine q_iload_n F dX3_ownPage_54 rfl ?_
            refine q_iload F dX3_ownPage_55 rfl ?_
            refine q_callVv F [.inl (nI f0), .inl (nI f)] (fun l => t_copy l (c_tk S f) hff hf (q_ne_us hR h0 hf hf0) hn) clX3_187 rfl q_m1 rfl rfl rfl ⟨Nat.le_of_ble_eq_true rfl, Nat.le_of_ble_eq_true rfl⟩ (Nat.le_of_ble_eq_true rfl) ⟨rfl, rfl⟩ ⟨Nat.zero_le _, Nat.zero_le _⟩ dX3_ownPage_57 (fun S2 hS2 => ?_)
            subst hS2
            refine q_aload_n F dX3_ownPage_60 rfl ?_
            refine q_getr F (k := 0) fkX3_14 q_m0 rfl rfl dX3_ownPage_61 ?_
            refine q_iload_n F dX3_ownPage_64 rfl ?_
            refine q_callVv F [.inl (nI f0)] (fun l => t_leave l _ hff hn) clX3_191 rfl q_m1 rfl rfl rfl ⟨Nat.le_of_ble_eq_true rfl, Nat.le_of_ble_eq_true rfl⟩ (Nat.le_of_ble_eq_true rfl) ⟨rfl, rfl⟩ ⟨Nat.zero_le _, Nat.zero_le _⟩ dX3_ownPage_65 (fun S2 hS2 => ?_)
            subst hS2
            refine q_aload_n F dX3_ownPage_68 rfl ?_
            refine q_getr F (k := 6) fkX3_112 (q_m5 (by omega)) rfl rfl dX3_ownPage_69 ?_
            refine q_iload_n F dX3_ownPage_72 rfl ?_
            refine q_iload F dX3_ownPage_73 rfl ?_
            refine q_iast F (_) (q_m7 (by omega)) rfl rfl (by omega) (by omega) dX3_ownPage_75 ?_
            refine q_iconst F (nI 0) dX3_ownPage_76 (by decide) ?_
            refine q_iret F E rfl (q_fin1 hR hp hi hL h0 h22 hf hf0) dX3_ownPage_77
        · exact absurd h39 (q_nm1 (by omega))
      · refine q_istore_4 F dX3_ownPage_34 (by decide) ?_
        refine q_iload F dX3_ownPage_36 rfl ?_
        refine q_iconst F (-1) dX3_ownPage_38 (by decide) ?_
        refine q_icmp_ne F 45 dX3_ownPage_39 (by decide) (fun h39 => ?_) (fun h39 => ?_)
        · exact absurd rfl h39
        · refine q_bipush F (-13) dX3_ownPage_42 (by decide) ?_
          refine q_iret F E rfl (q_pgo_fail hR hc hall) dX3_ownPage_44
    · refine q_iconst F (nI 0) dX3_ownPage_25 (by decide) ?_
      refine q_iret F E rfl (q_pgo_old hR h0 (fun _ => h22)) dX3_ownPage_26

set_option maxRecDepth 100000 in
set_option maxHeartbeats 4000000 in
theorem t_own {G : q_g} {n : Nat} {ad : q_ix → Nat} (l : Launch) (S : q_st) {p i : Nat} (hp : p < 8) (hi : i < 8) {K : k_t} {pg : Nat → Option Nat} {us lab : Nat → Nat} {L : Nat} (hR : q_R S K n pg us lab L) (hL : L + 1 < 2 ^ 30) : q_Ct l G iX3_ownPage [.inr (some (0, 0)), .inr (some (5, p)), .inl (nI i)] (q_w G n ad) S (q_pi (q_w G n ad) (fun r S' => q_pgo true S K n pg L (8 * p + i) r S')) := by
  cases h0 : pg (8 * p + i) with
  | none => exact t_own0 l S hp hi hR hL h0
  | some f0 => exact t_own1 l S hp hi hR hL h0

set_option maxRecDepth 100000 in
set_option maxHeartbeats 4000000 in
theorem t_touch {G : q_g} {n : Nat} {ad : q_ix → Nat} (l : Launch) (S : q_st) {p : Nat} (hp : p < 8) {a : Int32} (hlim : (S (5, p) 4).toInt ≤ 64) {K : k_t} {pg : Nat → Option Nat} {us lab : Nat → Nat} {L : Nat} (hR : q_R S K n pg us lab L) (hL : L + 1 < 2 ^ 30) : q_Ct l G iX3_touchToRead [.inr (some (0, 0)), .inr (some (5, p)), .inl a] (q_w G n ad) (S) (q_pi (q_w G n ad) (fun r S' => (r = -11 ∧ ¬ (0 ≤ a.toInt ∧ a.toInt < (S (5, p) 4).toInt) ∧ S' = S) ∨ (∃ b, b < 64 ∧ a = nI b ∧ (0 ≤ a.toInt ∧ a.toInt < (S (5, p) 4).toInt) ∧ q_pgo false S K n pg L (8 * p + b / 8) r S'))) := by
  refine q_enter (by decide) (Nat.le_of_ble_eq_true rfl) (fun X F E => ?_)
  show q_W G X iX3_touchToRead (q_w G n ad) (0, 0) 0 [some (.inr (some (0, 0))), some (.inr (some (5, p))), some (.inl a), none] [] (S)
  have hn := hR.1.2
  have h00 := hR.2.2.2.2.2.1
  refine q_aload_n F dX3_touchToRead_0 rfl ?_
  refine q_iload_n F dX3_touchToRead_1 rfl ?_
  refine q_callVi F [.inl a] (fun l => t_holds l S hp) clX3_106 rfl (q_m5 (by omega)) rfl rfl rfl ⟨Nat.le_of_ble_eq_true rfl, Nat.le_of_ble_eq_true rfl⟩ (Nat.le_of_ble_eq_true rfl) ⟨rfl, rfl⟩ ⟨Nat.zero_le _, Nat.zero_le _⟩ dX3_touchToRead_2 (fun v S' hv => ?_)
  obtain ⟨hv, hS⟩ := hv
  have hS := hS.symm
  subst hS
  refine q_if_ne F 11 dX3_touchToRead_5 (by decide) (fun h5 => ?_) (fun h5 => ?_)
  · obtain ⟨h5a, h5b⟩ := q_bl_T hv h5
    obtain ⟨b, hb, rfl⟩ := q_ofx (m := 64) (by decide) h5a (by omega)
    rw [nI_toInt (by omega)] at h5a h5b
    refine q_iload_n F dX3_touchToRead_11 rfl ?_
    refine q_bipush F (nI 8) dX3_touchToRead_12 (by decide) ?_
    refine q_idivN F dX3_touchToRead_14 (by omega) (by omega) (by omega) ?_
    refine q_istore_n_3 F dX3_touchToRead_15 (by decide) ?_
    refine q_aload_n F dX3_touchToRead_16 rfl ?_
    refine q_getr F (k := 6) fkX3_112 (q_m5 (by omega)) rfl rfl dX3_touchToRead_17 ?_
    refine q_iload_n F dX3_touchToRead_20 rfl ?_
    refine q_iald F (_) (q_m7 (by omega)) rfl rfl (by omega) (by omega) dX3_touchToRead_21 ?_
    refine q_iconst F (-1) dX3_touchToRead_22 (by decide) ?_
    refine q_icmp_ne F 39 dX3_touchToRead_23 (by decide) (fun h23 => ?_) (fun h23 => ?_)
    · cases h0 : pg (8 * p + b / 8) with
      | none => exact absurd (by rw [hR.2.2.1 p (b / 8) hp (by omega), h0]; rfl) h23
      | some f0 =>
      refine q_aload_n F dX3_touchToRead_39 rfl ?_
      refine q_getr F (k := 6) fkX3_112 (q_m5 (by omega)) rfl rfl dX3_touchToRead_40 ?_
      refine q_iload_n F dX3_touchToRead_43 rfl ?_
      refine q_iald F (_) (q_m7 (by omega)) rfl rfl (by omega) (by omega) dX3_touchToRead_44 ?_
      refine q_iconst F (-1) dX3_touchToRead_45 (by decide) ?_
      refine q_icmp_ne F 54 dX3_touchToRead_46 (by decide) (fun h46 => ?_) (fun h46 => ?_)
      · refine q_iconst F (nI 0) dX3_touchToRead_54 (by decide) ?_
        refine q_iret F E rfl (Or.inr ⟨b, hb, rfl, ⟨by rw [nI_toInt (by omega)]; exact h5a, by rw [nI_toInt (by omega)]; exact h5b⟩, q_pgo_old hR h0 (fun q => by cases q)⟩) dX3_touchToRead_55
      · exact absurd h46 h23
    · have h0 : pg (8 * p + b / 8) = none := q_fe_none (by rw [← hR.2.2.1 p (b / 8) hp (by omega)]; exact h23)
      have hc : ¬ (0 < k_sh K (8 * p + b / 8) ∧ (false = false ∨ k_sh K (8 * p + b / 8) = 1)) := by rw [q_R_sh hR (by omega), h0]; simp
      refine q_aload_n F dX3_touchToRead_26 rfl ?_
      refine q_getr F (k := 6) fkX3_112 (q_m5 (by omega)) rfl rfl dX3_touchToRead_27 ?_
      refine q_iload_n F dX3_touchToRead_30 rfl ?_
      refine q_aload_n F dX3_touchToRead_31 rfl ?_
      refine q_getr F (k := 0) fkX3_14 q_m0 rfl rfl dX3_touchToRead_32 ?_
      refine q_callVi F [] (fun l => t_take l S hn h00) clX3_184 rfl q_m1 rfl rfl rfl ⟨Nat.le_of_ble_eq_true rfl, Nat.le_of_ble_eq_true rfl⟩ (Nat.le_of_ble_eq_true rfl) ⟨rfl, rfl⟩ ⟨Nat.zero_le _, Nat.zero_le _⟩ dX3_touchToRead_35 (fun v S' hv => ?_)
      rcases hv with ⟨f, hf, hf0, -, rfl, rfl⟩ | ⟨hall, rfl, rfl⟩
      · refine q_iast F (_) (q_m7 (by omega)) rfl rfl (by omega) (by omega) dX3_touchToRead_38 ?_
        refine q_aload_n F dX3_touchToRead_39 rfl ?_
        refine q_getr F (k := 6) fkX3_112 (q_m5 (by omega)) rfl rfl dX3_touchToRead_40 ?_
        refine q_iload_n F dX3_touchToRead_43 rfl ?_
        refine q_iald F (_) (q_m7 (by omega)) rfl rfl (by omega) (by omega) dX3_touchToRead_44 ?_
        refine q_iconst F (-1) dX3_touchToRead_45 (by decide) ?_
        refine q_icmp_ne F 54 dX3_touchToRead_46 (by decide) (fun h46 => ?_) (fun h46 => ?_)
        · refine q_iconst F (nI 0) dX3_touchToRead_54 (by decide) ?_
          refine q_iret F E rfl (Or.inr ⟨b, hb, rfl, ⟨by rw [nI_toInt (by omega)]; exact h5a, by rw [nI_toInt (by omega)]; exact h5b⟩, q_fin0 hR hp (by omega) hL h0 hf hf0⟩) dX3_touchToRead_55
        · rw [q_irs] at h46
          exact absurd h46 (q_nm1 (by omega))
      · refine q_iast F (_) (q_m7 (by omega)) rfl rfl (by omega) (by omega) dX3_touchToRead_38 ?_
        rw [q_up_id _ _ _ _ h23]
        refine q_aload_n F dX3_touchToRead_39 rfl ?_
        refine q_getr F (k := 6) fkX3_112 (q_m5 (by omega)) rfl rfl dX3_touchToRead_40 ?_
        refine q_iload_n F dX3_touchToRead_43 rfl ?_
        refine q_iald F (_) (q_m7 (by omega)) rfl rfl (by omega) (by omega) dX3_touchToRead_44 ?_
        refine q_iconst F (-1) dX3_touchToRead_45 (by decide) ?_
        refine q_icmp_ne F 54 dX3_touchToRead_46 (by decide) (fun h46 => ?_) (fun h46 => ?_)
        · exact absurd h23 h46
        · refine q_bipush F (-13) dX3_touchToRead_49 (by decide) ?_
          refine q_goto F 55 dX3_touchToRead_51 (by decide) ?_
          refine q_iret F E rfl (Or.inr ⟨b, hb, rfl, ⟨by rw [nI_toInt (by omega)]; exact h5a, by rw [nI_toInt (by omega)]; exact h5b⟩, q_pgo_fail hR hc hall⟩) dX3_touchToRead_55
  · have hx := q_bl_F hv h5
    refine q_bipush F (-11) dX3_touchToRead_8 (by decide) ?_
    refine q_iret F E rfl (Or.inl ⟨rfl, hx, rfl⟩) dX3_touchToRead_10
