/-! the reference: grow, await (rows laid by wip/whole/m43.py) -/
theorem k_gr0_eq (K : k_t) (p a b : Nat) : k_rz (k_u (k_u K 5 (8 * p + a) (K 7 p)) 7 p (nI b)) p b 8 = k_gr0 K p a b := by
  funext c j
  unfold k_rz k_gr0
  repeat' split
  all_goals first | rfl | (exfalso; omega)
theorem k_cl_eq (K : k_t) (p b : Nat) : k_fill K 8 (64 * p + b) (8 * (b / 8 + 1) - b) (fun _ => 0) = k_cl K p b := by
  funext c j
  unfold k_fill k_cl
  repeat' split
  all_goals first | rfl | (exfalso; omega)

set_option maxRecDepth 100000 in
set_option maxHeartbeats 4000000 in
theorem lp_grow_181 {G : q_g} {n : Nat} {ad : q_ix → Nat} {X : q_cx} (F : q_fx G X iX4_grow) {S : q_st} {K : k_t} {p a b0 b : Nat} {c : Int32} {z : Option q_v} {Q : q_st → Prop} (hp : p < 8) (hb : b < 64) (h8 : ¬ b % 8 = 0) (E : q_en G X iX4_grow (q_pv (q_w G n ad) Q)) (hQ : Q (q_put S (k_cl K p b))) : ∀ t, t ≤ 8 * (b / 8 + 1) - b → q_W G X iX4_grow (q_w G n ad) (0, 0) 181 [some (.inr (some (20, 0))), some (.inl (nI p)), some (.inl (nI a)), some (.inl c), some (.inl (nI b0)), some (.inl (nI b)), z, some (.inl (nI (b + t)))] [] (q_put S (k_fill K 8 (64 * p + b) t (fun _ => 0))) := by
  refine q_loop (fun t ht ih => ?_)
  refine q_iload F dX4_grow_181 rfl ?_
  refine q_bipush F (nI 8) dX4_grow_183 (by decide) ?_
  refine q_iremN F dX4_grow_185 (by omega) (by omega) (by omega) ?_
  refine q_ifN_eq F 208 dX4_grow_186 (by decide) (by omega) (fun h186 => ?_) (fun h186 => ?_)
  · obtain rfl : t = 8 * (b / 8 + 1) - b := by omega
    refine q_vret F E rfl (by rw [k_cl_eq]; exact hQ) dX4_grow_208
  · refine q_aload_n F dX4_grow_189 rfl ?_
    refine q_getr F (k := 9) fkX4_31 q_m20 rfl rfl dX4_grow_190 ?_
    refine q_bipush F (nI 64) dX4_grow_193 (by decide) ?_
    refine q_iload_n F dX4_grow_195 rfl ?_
    refine q_imulN F dX4_grow_196 ?_
    refine q_iload F dX4_grow_197 rfl ?_
    refine q_iaddN F dX4_grow_199 ?_
    refine q_iconst F (nI 0) dX4_grow_200 (by decide) ?_
    refine q_kast F 8 (64 * p + b + t) q_m28 rfl rfl (by rw [Nat.add_assoc]) (by omega) (by decide) dX4_grow_201 ?_
    rw [k_fill_s _ _ _ _ (fun _ => 0) (nI 0) rfl]
    refine q_iinc_7 F _ dX4_grow_202 (q_inc1 _) (by decide) ?_
    exact q_goto F 181 dX4_grow_205 (by decide) (ih (by omega))

set_option maxRecDepth 100000 in
set_option maxHeartbeats 4000000 in
theorem lp_grow_103 {G : q_g} {n : Nat} {ad : q_ix → Nat} {X : q_cx} (F : q_fx G X iX4_grow) {S : q_st} {K : k_t} {p a b0 b : Nat} {c v : Int32} (hp : p < 8) (hb : b ≤ 64) (kk : q_W G X iX4_grow (q_w G n ad) (0, 0) 137 [some (.inr (some (20, 0))), some (.inl (nI p)), some (.inl (nI a)), some (.inl c), some (.inl (nI b0)), some (.inl (nI b)), some (.inl v), none] [] (q_put S (k_rz K p b 8))) : ∀ i, i ≤ 8 → q_W G X iX4_grow (q_w G n ad) (0, 0) 103 [some (.inr (some (20, 0))), some (.inl (nI p)), some (.inl (nI a)), some (.inl c), some (.inl (nI b0)), some (.inl (nI b)), some (.inl v), some (.inl (nI i))] [] (q_put S (k_rz K p b i)) := by
  refine q_loop (fun i hi ih => ?_)
  refine q_iload F dX4_grow_103 rfl ?_
  refine q_bipush F (nI 8) dX4_grow_105 (by decide) ?_
  refine q_icmpN_ge F 137 dX4_grow_107 (by decide) (by omega) (by omega) (fun h107 => ?_) (fun h107 => ?_)
  · obtain rfl : i = 8 := by omega
    exact q_drop_7 kk
  · refine q_bipush F (nI 8) dX4_grow_110 (by decide) ?_
    refine q_iload F dX4_grow_112 rfl ?_
    refine q_imulN F dX4_grow_114 ?_
    refine q_iload F dX4_grow_115 rfl ?_
    refine q_icmpN_lt F 131 dX4_grow_117 (by decide) (by omega) (by omega) (fun h117 => ?_) (fun h117 => ?_)
    · rw [k_rz_n _ _ _ _ h107 h117]
      refine q_iinc_7 F _ dX4_grow_131 (q_inc1 _) (by decide) ?_
      exact q_goto F 103 dX4_grow_134 (by decide) (ih h107)
    · refine q_aload_n F dX4_grow_120 rfl ?_
      refine q_bipush F (nI 8) dX4_grow_121 (by decide) ?_
      refine q_iload_n F dX4_grow_123 rfl ?_
      refine q_imulN F dX4_grow_124 ?_
      refine q_iload F dX4_grow_125 rfl ?_
      refine q_iaddN F dX4_grow_127 ?_
      refine q_callVv F [.inl (nI (8 * p + i))] (fun l => t_release l S _ (by omega)) clX4_74 rfl q_m20 rfl rfl rfl ⟨Nat.le_of_ble_eq_true rfl, Nat.le_of_ble_eq_true rfl⟩ (Nat.le_of_ble_eq_true rfl) ⟨rfl, rfl⟩ ⟨Nat.zero_le _, Nat.zero_le _⟩ dX4_grow_128 (fun S' hS => ?_)
      subst hS
      rw [k_rz_s _ _ _ _ h107 h117]
      refine q_iinc_7 F _ dX4_grow_131 (q_inc1 _) (by decide) ?_
      exact q_goto F 103 dX4_grow_134 (by decide) (ih h107)

theorem k_gr_in {K : k_t} {p a b0 b : Nat} {c : Int32} (hb0 : K 7 p = nI b0) (hbe : nI b0 + c = nI b) (hb : b ≤ 64) : k_gr K p a c = @ite _ ((nI b).toInt < (nI b0).toInt ∧ b % 8 ≠ 0 ∧ 0 < (K 9 (8 * p + b / 8)).toInt) (Classical.propDecidable _) (k_gr1 (k_gr0 K p a b) p b) (k_gr0 K p a b) := by
  unfold k_gr
  rw [hb0, hbe, nI_toInt (n := b) (by omega), Int.toNat_natCast, if_neg (by omega)]

set_option maxRecDepth 100000 in
set_option maxHeartbeats 4000000 in
theorem lp_grow_137a {G : q_g} {n : Nat} {ad : q_ix → Nat} {X : q_cx} (F : q_fx G X iX4_grow) {S : q_st} {K : k_t} {p a b0 b : Nat} {c : Int32} (hp : p < 8) (hb0 : K 7 p = nI b0) (hbe : nI b0 + c = nI b) (hb : b ≤ 64) (E : q_en G X iX4_grow (q_pv (q_w G n ad) (fun S' => S' = q_put S (k_gr K p a c)))) (hno : ¬ ((nI b).toInt < (nI b0).toInt ∧ b % 8 ≠ 0 ∧ 0 < (K 9 (8 * p + b / 8)).toInt)) : q_W G X iX4_grow (q_w G n ad) (0, 0) 137 [some (.inr (some (20, 0))), some (.inl (nI p)), some (.inl (nI a)), some (.inl c), some (.inl (nI b0)), some (.inl (nI b)), some (.inl (nI 0)), none] [] (q_put S (k_gr0 K p a b)) := by
  refine q_iload F dX4_grow_137 rfl ?_
  refine q_ifN_eq F 208 dX4_grow_139 (by decide) (by omega) (fun h139 => ?_) (fun h139 => ?_)
  · refine q_vret F E rfl (by rw [k_gr_in hb0 hbe hb, if_neg hno]) dX4_grow_208
  · exact absurd h139 (by decide)

set_option maxRecDepth 100000 in
set_option maxHeartbeats 4000000 in
theorem lp_grow_137b {G : q_g} {n : Nat} {ad : q_ix → Nat} {X : q_cx} (F : q_fx G X iX4_grow) {S : q_st} {K : k_t} {p a b0 b : Nat} {c : Int32} (hp : p < 8) (hb0 : K 7 p = nI b0) (hbe : nI b0 + c = nI b) (hb : b ≤ 64) (E : q_en G X iX4_grow (q_pv (q_w G n ad) (fun S' => S' = q_put S (k_gr K p a c)))) (hb64 : b < 64) (hyes : (nI b).toInt < (nI b0).toInt ∧ b % 8 ≠ 0 ∧ 0 < (K 9 (8 * p + b / 8)).toInt) : q_W G X iX4_grow (q_w G n ad) (0, 0) 137 [some (.inr (some (20, 0))), some (.inl (nI p)), some (.inl (nI a)), some (.inl c), some (.inl (nI b0)), some (.inl (nI b)), some (.inl (nI 1)), none] [] (q_put S (k_gr0 K p a b)) := by
  have e := k_gr_in (a := a) hb0 hbe hb
  rw [if_pos hyes] at e
  refine q_iload F dX4_grow_137 rfl ?_
  refine q_ifN_eq F 208 dX4_grow_139 (by decide) (by omega) (fun h139 => ?_) (fun h139 => ?_)
  · exact absurd h139 (by decide)
  · refine q_aload_n F dX4_grow_142 rfl ?_
    refine q_bipush F (nI 8) dX4_grow_143 (by decide) ?_
    refine q_iload_n F dX4_grow_145 rfl ?_
    refine q_imulN F dX4_grow_146 ?_
    refine q_iload F dX4_grow_147 rfl ?_
    refine q_bipush F (nI 8) dX4_grow_149 (by decide) ?_
    refine q_idivN F dX4_grow_151 (by omega) (by omega) (by omega) ?_
    refine q_iaddN F dX4_grow_152 ?_
    refine q_callVi F [.inl (nI (8 * p + b / 8))] (fun l => t_sharers l S _ (by omega)) clX4_60 rfl q_m20 rfl rfl rfl ⟨Nat.le_of_ble_eq_true rfl, Nat.le_of_ble_eq_true rfl⟩ (Nat.le_of_ble_eq_true rfl) ⟨rfl, rfl⟩ ⟨Nat.zero_le _, Nat.zero_le _⟩ dX4_grow_153 (fun v S' hv => ?_)
    obtain ⟨hv, hS⟩ := hv
    subst hS
    subst hv
    have hsh : k_sh (k_gr0 K p a b) (8 * p + b / 8) ≤ 64 := c_n_le _ _
    refine q_iconst F (nI 1) dX4_grow_156 (by decide) ?_
    refine q_icmpN_eq F 177 dX4_grow_157 (by decide) (by omega) (by omega) (fun h157 => ?_) (fun h157 => ?_)
    · refine q_iload F dX4_grow_177 rfl ?_
      refine q_istore_7 F dX4_grow_179 (by decide) ?_
      have h := lp_grow_181 (a := a) (b0 := b0) (c := c) (z := some (.inl (nI 1))) F hp hb64 hyes.2.1 E (show _ = _ from by rw [e]; unfold k_gr1; rw [if_pos h157]) 0 (Nat.zero_le _)
      rw [k_fill_0] at h
      exact h
    · refine q_aload_n F dX4_grow_160 rfl ?_
      refine q_bipush F (nI 8) dX4_grow_161 (by decide) ?_
      refine q_iload_n F dX4_grow_163 rfl ?_
      refine q_imulN F dX4_grow_164 ?_
      refine q_iload F dX4_grow_165 rfl ?_
      refine q_bipush F (nI 8) dX4_grow_167 (by decide) ?_
      refine q_idivN F dX4_grow_169 (by omega) (by omega) (by omega) ?_
      refine q_iaddN F dX4_grow_170 ?_
      refine q_callVi F [.inl (nI (8 * p + b / 8))] (fun l => t_alone l S _ (by omega)) clX4_64 rfl q_m20 rfl rfl rfl ⟨Nat.le_of_ble_eq_true rfl, Nat.le_of_ble_eq_true rfl⟩ (Nat.le_of_ble_eq_true rfl) ⟨rfl, rfl⟩ ⟨Nat.zero_le _, Nat.zero_le _⟩ dX4_grow_171 (fun v S' hv => ?_)
      obtain ⟨hv, hS⟩ := hv
      subst hS
      rcases hv with ⟨rfl, hal⟩ | ⟨rfl, hal⟩
      · refine q_ifN_eq F 208 dX4_grow_174 (by decide) (by omega) (fun h174 => ?_) (fun h174 => ?_)
        · refine q_vret F E rfl (by rw [e]; unfold k_gr1; rw [if_neg h157, hal]; rfl) dX4_grow_208
        · exact absurd h174 (by decide)
      · refine q_ifN_eq F 208 dX4_grow_174 (by decide) (by omega) (fun h174 => ?_) (fun h174 => ?_)
        · exact absurd h174 (by decide)
        · refine q_iload F dX4_grow_177 rfl ?_
          refine q_istore_7 F dX4_grow_179 (by decide) ?_
          have h := lp_grow_181 (a := a) (b0 := b0) (c := c) (z := some (.inl (nI 1))) F hp hb64 hyes.2.1 E (show _ = _ from by rw [e]; unfold k_gr1; rw [if_neg h157, if_pos hal]) 0 (Nat.zero_le _)
          rw [k_fill_0] at h
          exact h

set_option maxRecDepth 100000 in
set_option maxHeartbeats 4000000 in
theorem t_mgrow {G : q_g} {n : Nat} {ad : q_ix → Nat} (l : Launch) (S : q_st) (K : k_t) {p a b0 : Nat} {c : Int32} (hp : p < 8) (ha : a < 8) (hb0 : K 7 p = nI b0) (hb064 : b0 ≤ 64) : q_Ct l G iX4_grow [.inr (some (20, 0)), .inl (nI p), .inl (nI a), .inl c] (q_w G n ad) (q_put S K) (q_pv (q_w G n ad) (fun S' => S' = q_put S (k_gr K p a c))) := by
  refine q_enter (by decide) (Nat.le_of_ble_eq_true rfl) (fun X F E => ?_)
  show q_W G X iX4_grow (q_w G n ad) (0, 0) 0 [some (.inr (some (20, 0))), some (.inl (nI p)), some (.inl (nI a)), some (.inl c), none, none, none, none] [] (q_put S K)
  refine q_aload_n F dX4_grow_0 rfl ?_
  refine q_getr F (k := 8) fkX4_28 q_m20 rfl rfl dX4_grow_1 ?_
  refine q_iload_n F dX4_grow_4 rfl ?_
  refine q_kald F 7 (_) q_m27 rfl rfl rfl (by omega) (by decide) dX4_grow_5 ?_
  refine q_top (nI b0) hb0 ?_
  refine q_istore_4 F dX4_grow_6 (by decide) ?_
  refine q_iload F dX4_grow_8 rfl ?_
  refine q_iload_n F dX4_grow_10 rfl ?_
  refine q_iadd F dX4_grow_11 ?_
  refine q_istore_5 F dX4_grow_12 (by decide) ?_
  refine q_iload F dX4_grow_14 rfl ?_
  refine q_if_lt F 26 dX4_grow_16 (by decide) (fun h16 => ?_) (fun h16 => ?_)
  · refine q_aload_n F dX4_grow_26 rfl ?_
    refine q_getr F (k := 6) fkX4_22 q_m20 rfl rfl dX4_grow_27 ?_
    refine q_bipush F (nI 8) dX4_grow_30 (by decide) ?_
    refine q_iload_n F dX4_grow_32 rfl ?_
    refine q_imulN F dX4_grow_33 ?_
    refine q_iload_n F dX4_grow_34 rfl ?_
    refine q_iaddN F dX4_grow_35 ?_
    refine q_iconst F (-1) dX4_grow_36 (by decide) ?_
    refine q_kast F 5 (_) q_m25 rfl rfl rfl (by omega) (by decide) dX4_grow_37 ?_
    refine q_vret F E rfl (by unfold k_gr; rw [hb0, if_pos (by omega)]) dX4_grow_38
  · refine q_iload F dX4_grow_19 rfl ?_
    refine q_bipush F (nI 64) dX4_grow_21 (by decide) ?_
    refine q_icmp_le F 39 dX4_grow_23 (by decide) (fun h23 => ?_) (fun h23 => ?_)
    · rw [nI_toInt (by omega)] at h23
      obtain ⟨b, hb65, hbe⟩ := q_ofx (x := nI b0 + c) (m := 65) (by decide) h16 (by omega)
      rw [hbe] at h16 h23 ⊢
      refine q_aload_n F dX4_grow_39 rfl ?_
      refine q_getr F (k := 6) fkX4_22 q_m20 rfl rfl dX4_grow_40 ?_
      refine q_bipush F (nI 8) dX4_grow_43 (by decide) ?_
      refine q_iload_n F dX4_grow_45 rfl ?_
      refine q_imulN F dX4_grow_46 ?_
      refine q_iload_n F dX4_grow_47 rfl ?_
      refine q_iaddN F dX4_grow_48 ?_
      refine q_iload F dX4_grow_49 rfl ?_
      refine q_kast F 5 (_) q_m25 rfl rfl rfl (by omega) (by decide) dX4_grow_51 ?_
      refine q_iload F dX4_grow_52 rfl ?_
      refine q_iload F dX4_grow_54 rfl ?_
      refine q_icmpN_ge F 89 dX4_grow_56 (by decide) (by omega) (by omega) (fun h56 => ?_) (fun h56 => ?_)
      · have hno : ¬ ((nI b).toInt < (nI b0).toInt ∧ b % 8 ≠ 0 ∧ 0 < (K 9 (8 * p + b / 8)).toInt) := by rw [nI_toInt (n := b) (by omega), nI_toInt (n := b0) (by omega)]; omega
        refine q_iconst F (nI 0) dX4_grow_89 (by decide) ?_
        refine q_istore_6 F dX4_grow_90 (by decide) ?_
        refine q_aload_n F dX4_grow_92 rfl ?_
        refine q_getr F (k := 8) fkX4_28 q_m20 rfl rfl dX4_grow_93 ?_
        refine q_iload_n F dX4_grow_96 rfl ?_
        refine q_iload F dX4_grow_97 rfl ?_
        refine q_kast F 7 (_) q_m27 rfl rfl rfl (by omega) (by decide) dX4_grow_99 ?_
        refine q_iconst F (nI 0) dX4_grow_100 (by decide) ?_
        refine q_istore_7 F dX4_grow_101 (by decide) ?_
        have h := lp_grow_103 (a := a) (b0 := b0) (c := c) (v := nI 0) F hp (show b ≤ 64 by omega) (K := k_u (k_u K 5 (8 * p + a) (nI b0)) 7 p (nI b)) (S := S) (by have e0 := k_gr0_eq K p a b; rw [hb0] at e0; rw [e0]; exact q_drop_7 (lp_grow_137a F hp hb0 hbe (by omega) E hno)) 0 (by decide)
        rw [k_rz_0] at h
        exact h
      · refine q_iload F dX4_grow_59 rfl ?_
        refine q_bipush F (nI 8) dX4_grow_61 (by decide) ?_
        refine q_iremN F dX4_grow_63 (by omega) (by omega) (by omega) ?_
        refine q_ifN_eq F 89 dX4_grow_64 (by decide) (by omega) (fun h64 => ?_) (fun h64 => ?_)
        · have hno : ¬ ((nI b).toInt < (nI b0).toInt ∧ b % 8 ≠ 0 ∧ 0 < (K 9 (8 * p + b / 8)).toInt) := fun q => q.2.1 h64
          refine q_iconst F (nI 0) dX4_grow_89 (by decide) ?_
          refine q_istore_6 F dX4_grow_90 (by decide) ?_
          refine q_aload_n F dX4_grow_92 rfl ?_
          refine q_getr F (k := 8) fkX4_28 q_m20 rfl rfl dX4_grow_93 ?_
          refine q_iload_n F dX4_grow_96 rfl ?_
          refine q_iload F dX4_grow_97 rfl ?_
          refine q_kast F 7 (_) q_m27 rfl rfl rfl (by omega) (by decide) dX4_grow_99 ?_
          refine q_iconst F (nI 0) dX4_grow_100 (by decide) ?_
          refine q_istore_7 F dX4_grow_101 (by decide) ?_
          have h := lp_grow_103 (a := a) (b0 := b0) (c := c) (v := nI 0) F hp (show b ≤ 64 by omega) (K := k_u (k_u K 5 (8 * p + a) (nI b0)) 7 p (nI b)) (S := S) (by have e0 := k_gr0_eq K p a b; rw [hb0] at e0; rw [e0]; exact q_drop_7 (lp_grow_137a F hp hb0 hbe (by omega) E hno)) 0 (by decide)
          rw [k_rz_0] at h
          exact h
        · refine q_aload_n F dX4_grow_67 rfl ?_
          refine q_getr F (k := 10) fkX4_34 q_m20 rfl rfl dX4_grow_68 ?_
          refine q_bipush F (nI 8) dX4_grow_71 (by decide) ?_
          refine q_iload_n F dX4_grow_73 rfl ?_
          refine q_imulN F dX4_grow_74 ?_
          refine q_iload F dX4_grow_75 rfl ?_
          refine q_bipush F (nI 8) dX4_grow_77 (by decide) ?_
          refine q_idivN F dX4_grow_79 (by omega) (by omega) (by omega) ?_
          refine q_iaddN F dX4_grow_80 ?_
          refine q_kald F 9 (_) q_m29 rfl rfl rfl (by omega) (by decide) dX4_grow_81 ?_
          refine q_top (K 9 (8 * p + b / 8)) (by simp [k_u]) ?_
          refine q_if_le F 89 dX4_grow_82 (by decide) (fun h82 => ?_) (fun h82 => ?_)
          · have hno : ¬ ((nI b).toInt < (nI b0).toInt ∧ b % 8 ≠ 0 ∧ 0 < (K 9 (8 * p + b / 8)).toInt) := fun q => by have := q.2.2; omega
            refine q_iconst F (nI 0) dX4_grow_89 (by decide) ?_
            refine q_istore_6 F dX4_grow_90 (by decide) ?_
            refine q_aload_n F dX4_grow_92 rfl ?_
            refine q_getr F (k := 8) fkX4_28 q_m20 rfl rfl dX4_grow_93 ?_
            refine q_iload_n F dX4_grow_96 rfl ?_
            refine q_iload F dX4_grow_97 rfl ?_
            refine q_kast F 7 (_) q_m27 rfl rfl rfl (by omega) (by decide) dX4_grow_99 ?_
            refine q_iconst F (nI 0) dX4_grow_100 (by decide) ?_
            refine q_istore_7 F dX4_grow_101 (by decide) ?_
            have h := lp_grow_103 (a := a) (b0 := b0) (c := c) (v := nI 0) F hp (show b ≤ 64 by omega) (K := k_u (k_u K 5 (8 * p + a) (nI b0)) 7 p (nI b)) (S := S) (by have e0 := k_gr0_eq K p a b; rw [hb0] at e0; rw [e0]; exact q_drop_7 (lp_grow_137a F hp hb0 hbe (by omega) E hno)) 0 (by decide)
            rw [k_rz_0] at h
            exact h
          · have hyes : (nI b).toInt < (nI b0).toInt ∧ b % 8 ≠ 0 ∧ 0 < (K 9 (8 * p + b / 8)).toInt := ⟨by rw [nI_toInt (n := b) (by omega), nI_toInt (n := b0) (by omega)]; omega, h64, h82⟩
            refine q_iconst F (nI 1) dX4_grow_85 (by decide) ?_
            refine q_goto F 90 dX4_grow_86 (by decide) ?_
            refine q_istore_6 F dX4_grow_90 (by decide) ?_
            refine q_aload_n F dX4_grow_92 rfl ?_
            refine q_getr F (k := 8) fkX4_28 q_m20 rfl rfl dX4_grow_93 ?_
            refine q_iload_n F dX4_grow_96 rfl ?_
            refine q_iload F dX4_grow_97 rfl ?_
            refine q_kast F 7 (_) q_m27 rfl rfl rfl (by omega) (by decide) dX4_grow_99 ?_
            refine q_iconst F (nI 0) dX4_grow_100 (by decide) ?_
            refine q_istore_7 F dX4_grow_101 (by decide) ?_
            have h := lp_grow_103 (a := a) (b0 := b0) (c := c) (v := nI 1) F hp (show b ≤ 64 by omega) (K := k_u (k_u K 5 (8 * p + a) (nI b0)) 7 p (nI b)) (S := S) (by have e0 := k_gr0_eq K p a b; rw [hb0] at e0; rw [e0]; exact q_drop_7 (lp_grow_137b F hp hb0 hbe (by omega) E (by omega) hyes)) 0 (by decide)
            rw [k_rz_0] at h
            exact h
    · rw [nI_toInt (by omega)] at h23
      refine q_aload_n F dX4_grow_26 rfl ?_
      refine q_getr F (k := 6) fkX4_22 q_m20 rfl rfl dX4_grow_27 ?_
      refine q_bipush F (nI 8) dX4_grow_30 (by decide) ?_
      refine q_iload_n F dX4_grow_32 rfl ?_
      refine q_imulN F dX4_grow_33 ?_
      refine q_iload_n F dX4_grow_34 rfl ?_
      refine q_iaddN F dX4_grow_35 ?_
      refine q_iconst F (-1) dX4_grow_36 (by decide) ?_
      refine q_kast F 5 (_) q_m25 rfl rfl rfl (by omega) (by decide) dX4_grow_37 ?_
      refine q_vret F E rfl (by unfold k_gr; rw [hb0, if_pos (by omega)]) dX4_grow_38

/-- the first from k on -/
def f_dn (P : Nat → Prop) (k : Nat) (o : Option Nat) : Prop := (o = none ∧ ∀ i, k ≤ i → i < 8 → ¬ P i) ∨ ∃ z, o = some z ∧ k ≤ z ∧ z < 8 ∧ P z ∧ ∀ i, k ≤ i → i < z → ¬ P i
theorem f_dn_yes {P : Nat → Prop} {k : Nat} (hk : k < 8) (h : P k) : f_dn P k (some k) := Or.inr ⟨k, rfl, Nat.le_refl _, hk, h, fun i h1 h2 => by omega⟩
theorem f_dn_no {P : Nat → Prop} {k : Nat} {o : Option Nat} (hd : f_dn P (k + 1) o) (h : ¬ P k) : f_dn P k o := by
  rcases hd with ⟨h1, h2⟩ | ⟨z, h1, h2, h3, h4, h5⟩
  · refine Or.inl ⟨h1, fun i hi hi8 => ?_⟩
    by_cases hik : i = k
    · subst hik; exact h
    · exact h2 i (by omega) hi8
  · refine Or.inr ⟨z, h1, by omega, h3, h4, fun i hi hi8 => ?_⟩
    by_cases hik : i = k
    · subst hik; exact h
    · exact h5 i (by omega) hi8
theorem f_dn_0 {P : Nat → Prop} {o : Option Nat} (hd : f_dn P 0 o) : f_st P 8 = o := by
  rcases hd with ⟨h1, h2⟩ | ⟨z, h1, h2, h3, h4, h5⟩
  · rw [h1]
    exact f_st_none (fun i hi => h2 i (Nat.zero_le _) hi)
  · rw [h1]
    exact f_st_some h4 (fun i hi => h5 i (Nat.zero_le _) hi) h3
theorem q_dec1 (k : Nat) : nI (k + 1) + Int32.ofInt (-1) = nI k := pk_m1 k

set_option maxRecDepth 100000 in
set_option maxHeartbeats 4000000 in
theorem lp_await_88 {G : q_g} {n : Nat} {ad : q_ix → Nat} {X : q_cx} (F : q_fx G X iX4_await) {S : q_st} {K : k_t} {p a : Nat} (hp : p < 8) (ha : a < 8) (E : q_en G X iX4_await (q_pi (q_w G n ad) (fun r S' => r = (k_aw K p a).1 ∧ S' = q_put S (k_aw K p a).2))) {v : Int32} {z : Option Nat} {u : Option q_v} (hv : q_bl v (∃ i, 0 ≤ i ∧ i < 8 ∧ k_cd K p i)) (hz : f_dn (fun k => k_cd K p k ∧ K 2 k = nI 3) 0 z) : q_W G X iX4_await (q_w G n ad) (0, 0) 88 [some (.inr (some (20, 0))), some (.inl (nI p)), some (.inl (nI a)), some (.inl v), some (.inl (q_fe z)), u, none] [] (q_put S K) := by
  have hz0 := f_dn_0 hz
  have hv' : q_bl v (∃ k, k < 8 ∧ k_cd K p k) := by
    rcases hv with ⟨h1, i, -, h2⟩ | ⟨h1, h2⟩
    · exact Or.inl ⟨h1, i, h2⟩
    · exact Or.inr ⟨h1, fun ⟨i, q⟩ => h2 ⟨i, Nat.zero_le _, q⟩⟩
  refine q_iload F dX4_await_88 rfl ?_
  refine q_iconst F (-1) dX4_await_90 (by decide) ?_
  refine q_icmp_eq F 120 dX4_await_91 (by decide) (fun h91 => ?_) (fun h91 => ?_)
  · obtain rfl : z = none := by
      rcases hz with ⟨h1, -⟩ | ⟨w, h1, -, h3, -⟩
      · exact h1
      · rw [h1] at h91; exact absurd h91 (q_nm1 (show w < 2 ^ 31 by omega))
    refine q_iload_n F dX4_await_120 rfl ?_
    refine q_if_ne F 138 dX4_await_121 (by decide) (fun h121 => ?_) (fun h121 => ?_)
    · refine q_aload_n F dX4_await_138 rfl ?_
      refine q_getr F (k := 3) fkX4_13 q_m20 rfl rfl dX4_await_139 ?_
      refine q_iload_n F dX4_await_142 rfl ?_
      refine q_iconst F (nI 2) dX4_await_143 (by decide) ?_
      refine q_kast F 2 (_) q_m22 rfl rfl rfl (by omega) (by decide) dX4_await_144 ?_
      refine q_aload_n F dX4_await_145 rfl ?_
      refine q_getr F (k := 7) fkX4_25 q_m20 rfl rfl dX4_await_146 ?_
      refine q_iload_n F dX4_await_149 rfl ?_
      refine q_dup2 F dX4_await_150 ?_
      refine q_kald F 6 (_) q_m26 rfl rfl rfl (by omega) (by decide) dX4_await_151 ?_
      refine q_top (K 6 p) (by simp [k_u]) ?_
      refine q_iconst F (nI 1) dX4_await_152 (by decide) ?_
      refine q_isub F dX4_await_153 ?_
      refine q_kast F 6 (_) q_m26 rfl rfl rfl (by omega) (by decide) dX4_await_154 ?_
      refine q_iconst F (nI 4) dX4_await_155 (by decide) ?_
      refine q_iret F E rfl (by unfold k_aw; rw [hz0]; simp only []; rw [if_pos (q_bl_T hv' h121)]; exact ⟨rfl, rfl⟩) dX4_await_156
    · refine q_aload_n F dX4_await_124 rfl ?_
      refine q_getr F (k := 6) fkX4_22 q_m20 rfl rfl dX4_await_125 ?_
      refine q_bipush F (nI 8) dX4_await_128 (by decide) ?_
      refine q_iload_n F dX4_await_130 rfl ?_
      refine q_imulN F dX4_await_131 ?_
      refine q_iload_n F dX4_await_132 rfl ?_
      refine q_iaddN F dX4_await_133 ?_
      refine q_iconst F (-1) dX4_await_134 (by decide) ?_
      refine q_kast F 5 (_) q_m25 rfl rfl rfl (by omega) (by decide) dX4_await_135 ?_
      refine q_iconst F (nI 1) dX4_await_136 (by decide) ?_
      refine q_iret F E rfl (by unfold k_aw; rw [hz0]; simp only []; rw [if_neg (q_bl_F hv' h121)]; exact ⟨rfl, rfl⟩) dX4_await_137
  · obtain ⟨w, rfl, hw8⟩ : ∃ w, z = some w ∧ w < 8 := by
      rcases hz with ⟨h1, -⟩ | ⟨w, h1, -, h3, -⟩
      · rw [h1] at h91; exact absurd rfl h91
      · exact ⟨w, h1, h3⟩
    refine q_aload_n F dX4_await_94 rfl ?_
    refine q_getr F (k := 6) fkX4_22 q_m20 rfl rfl dX4_await_95 ?_
    refine q_bipush F (nI 8) dX4_await_98 (by decide) ?_
    refine q_iload_n F dX4_await_100 rfl ?_
    refine q_imulN F dX4_await_101 ?_
    refine q_iload_n F dX4_await_102 rfl ?_
    refine q_iaddN F dX4_await_103 ?_
    refine q_aload_n F dX4_await_104 rfl ?_
    refine q_getr F (k := 5) fkX4_19 q_m20 rfl rfl dX4_await_105 ?_
    refine q_iload F dX4_await_108 rfl ?_
    refine q_kald F 4 (w) q_m24 rfl rfl rfl (by omega) (by decide) dX4_await_110 ?_
    refine q_kast F 5 (_) q_m25 rfl rfl rfl (by omega) (by decide) dX4_await_111 ?_
    refine q_aload_n F dX4_await_112 rfl ?_
    refine q_iload F dX4_await_113 rfl ?_
    refine q_callVv F [.inl (nI w)] (fun l => t_mfree l S _ hw8) clX4_85 rfl q_m20 rfl rfl rfl ⟨Nat.le_of_ble_eq_true rfl, Nat.le_of_ble_eq_true rfl⟩ (Nat.le_of_ble_eq_true rfl) ⟨rfl, rfl⟩ ⟨Nat.zero_le _, Nat.zero_le _⟩ dX4_await_115 (fun S' hS => ?_)
    subst hS
    refine q_iconst F (nI 1) dX4_await_118 (by decide) ?_
    refine q_iret F E rfl (by unfold k_aw; rw [hz0]; exact ⟨rfl, rfl⟩) dX4_await_119

set_option maxRecDepth 100000 in
set_option maxHeartbeats 4000000 in
theorem lp_await {G : q_g} {n : Nat} {ad : q_ix → Nat} {X : q_cx} (F : q_fx G X iX4_await) {S : q_st} {K : k_t} {p a : Nat} (hp : p < 8) (ha : a < 8) (E : q_en G X iX4_await (q_pi (q_w G n ad) (fun r S' => r = (k_aw K p a).1 ∧ S' = q_put S (k_aw K p a).2))) : ∀ k, k ≤ 8 → ∀ (v : Int32) (z : Option Nat) (cc : Int32), cc = nI k + Int32.ofInt (-1) → q_bl v (∃ i, k ≤ i ∧ i < 8 ∧ k_cd K p i) → f_dn (fun k => k_cd K p k ∧ K 2 k = nI 3) k z → q_W G X iX4_await (q_w G n ad) (0, 0) 9 [some (.inr (some (20, 0))), some (.inl (nI p)), some (.inl (nI a)), some (.inl v), some (.inl (q_fe z)), some (.inl cc), none] [] (q_put S K) := by
  intro k
  induction k with
  | zero =>
    intro _ v z cc hcc hv hz
    subst hcc
    refine q_iload F dX4_await_9 rfl ?_
    refine q_if_lt F 88 dX4_await_11 (by decide) (fun h11 => ?_) (fun h11 => ?_)
    · exact lp_await_88 F hp ha E hv hz
    · exact absurd h11 (by decide)
  | succ k ih =>
    intro hk8 v z cc hcc hv hz
    rw [q_dec1] at hcc
    subst hcc
    refine q_iload F dX4_await_9 rfl ?_
    refine q_ifN_lt F 88 dX4_await_11 (by decide) (by omega) (fun h11 => ?_) (fun h11 => ?_)
    · exfalso; omega
    · refine q_aload_n F dX4_await_14 rfl ?_
      refine q_getr F (k := 3) fkX4_13 q_m20 rfl rfl dX4_await_15 ?_
      refine q_iload F dX4_await_18 rfl ?_
      refine q_kald F 2 (_) q_m22 rfl rfl rfl (by omega) (by decide) dX4_await_20 ?_
      refine q_if_eq F 39 dX4_await_21 (by decide) (fun h21 => ?_) (fun h21 => ?_)
      · refine q_iconst F (nI 0) dX4_await_39 (by decide) ?_
        refine q_istore_6 F dX4_await_40 (by decide) ?_
        refine q_iload_n F dX4_await_42 rfl ?_
        refine q_if_ne F 51 dX4_await_43 (by decide) (fun h43 => ?_) (fun h43 => ?_)
        · refine q_iconst F (nI 1) dX4_await_51 (by decide) ?_
          refine q_goto F 56 dX4_await_52 (by decide) ?_
          refine q_istore_n_3 F dX4_await_56 (by decide) ?_
          refine q_iload F dX4_await_57 rfl ?_
          refine q_ifN_eq F 78 dX4_await_59 (by decide) (by omega) (fun h59 => ?_) (fun h59 => ?_)
          · refine q_iload F dX4_await_78 rfl ?_
            refine q_istore_4 F dX4_await_80 (by decide) ?_
            refine q_iinc_5 F _ dX4_await_82 rfl (by decide) ?_
            refine q_goto F 9 dX4_await_85 (by decide) (q_drop_6 (ih (by omega) _ _ _ rfl ?_ ?_))
            · first | exact q_bl_1 ⟨k, Nat.le_refl _, by omega, h21, h32⟩ | exact q_bl_1 (by obtain ⟨i, h1, h2⟩ := q_bl_T hv h43; exact ⟨i, by omega, h2⟩) | exact q_bl_0 (by rintro ⟨i, h1, h2, h3⟩; by_cases hik : i = k; (subst hik; first | exact h3.1 h21 | exact h32 h3.2); exact q_bl_F hv h43 ⟨i, by omega, h2, h3⟩)
            · first | exact f_dn_yes (by omega) ⟨⟨h21, h32⟩, h70⟩ | exact f_dn_no hz (fun q => h70 q.2) | exact f_dn_no hz (fun q => q.1.1 h21) | exact f_dn_no hz (fun q => h32 q.1.2)
          · exact absurd h59 (by decide)
        · refine q_iload F dX4_await_46 rfl ?_
          refine q_ifN_eq F 55 dX4_await_48 (by decide) (by omega) (fun h48 => ?_) (fun h48 => ?_)
          · refine q_iconst F (nI 0) dX4_await_55 (by decide) ?_
            refine q_istore_n_3 F dX4_await_56 (by decide) ?_
            refine q_iload F dX4_await_57 rfl ?_
            refine q_ifN_eq F 78 dX4_await_59 (by decide) (by omega) (fun h59 => ?_) (fun h59 => ?_)
            · refine q_iload F dX4_await_78 rfl ?_
              refine q_istore_4 F dX4_await_80 (by decide) ?_
              refine q_iinc_5 F _ dX4_await_82 rfl (by decide) ?_
              refine q_goto F 9 dX4_await_85 (by decide) (q_drop_6 (ih (by omega) _ _ _ rfl ?_ ?_))
              · first | exact q_bl_1 ⟨k, Nat.le_refl _, by omega, h21, h32⟩ | exact q_bl_1 (by obtain ⟨i, h1, h2⟩ := q_bl_T hv h43; exact ⟨i, by omega, h2⟩) | exact q_bl_0 (by rintro ⟨i, h1, h2, h3⟩; by_cases hik : i = k; (subst hik; first | exact h3.1 h21 | exact h32 h3.2); exact q_bl_F hv h43 ⟨i, by omega, h2, h3⟩)
              · first | exact f_dn_yes (by omega) ⟨⟨h21, h32⟩, h70⟩ | exact f_dn_no hz (fun q => h70 q.2) | exact f_dn_no hz (fun q => q.1.1 h21) | exact f_dn_no hz (fun q => h32 q.1.2)
            · exact absurd h59 (by decide)
          · exact absurd h48 (by decide)
      · refine q_aload_n F dX4_await_24 rfl ?_
        refine q_getr F (k := 4) fkX4_16 q_m20 rfl rfl dX4_await_25 ?_
        refine q_iload F dX4_await_28 rfl ?_
        refine q_kald F 3 (_) q_m23 rfl rfl rfl (by omega) (by decide) dX4_await_30 ?_
        refine q_iload_n F dX4_await_31 rfl ?_
        refine q_icmp_ne F 39 dX4_await_32 (by decide) (fun h32 => ?_) (fun h32 => ?_)
        · refine q_iconst F (nI 0) dX4_await_39 (by decide) ?_
          refine q_istore_6 F dX4_await_40 (by decide) ?_
          refine q_iload_n F dX4_await_42 rfl ?_
          refine q_if_ne F 51 dX4_await_43 (by decide) (fun h43 => ?_) (fun h43 => ?_)
          · refine q_iconst F (nI 1) dX4_await_51 (by decide) ?_
            refine q_goto F 56 dX4_await_52 (by decide) ?_
            refine q_istore_n_3 F dX4_await_56 (by decide) ?_
            refine q_iload F dX4_await_57 rfl ?_
            refine q_ifN_eq F 78 dX4_await_59 (by decide) (by omega) (fun h59 => ?_) (fun h59 => ?_)
            · refine q_iload F dX4_await_78 rfl ?_
              refine q_istore_4 F dX4_await_80 (by decide) ?_
              refine q_iinc_5 F _ dX4_await_82 rfl (by decide) ?_
              refine q_goto F 9 dX4_await_85 (by decide) (q_drop_6 (ih (by omega) _ _ _ rfl ?_ ?_))
              · first | exact q_bl_1 ⟨k, Nat.le_refl _, by omega, h21, h32⟩ | exact q_bl_1 (by obtain ⟨i, h1, h2⟩ := q_bl_T hv h43; exact ⟨i, by omega, h2⟩) | exact q_bl_0 (by rintro ⟨i, h1, h2, h3⟩; by_cases hik : i = k; (subst hik; first | exact h3.1 h21 | exact h32 h3.2); exact q_bl_F hv h43 ⟨i, by omega, h2, h3⟩)
              · first | exact f_dn_yes (by omega) ⟨⟨h21, h32⟩, h70⟩ | exact f_dn_no hz (fun q => h70 q.2) | exact f_dn_no hz (fun q => q.1.1 h21) | exact f_dn_no hz (fun q => h32 q.1.2)
            · exact absurd h59 (by decide)
          · refine q_iload F dX4_await_46 rfl ?_
            refine q_ifN_eq F 55 dX4_await_48 (by decide) (by omega) (fun h48 => ?_) (fun h48 => ?_)
            · refine q_iconst F (nI 0) dX4_await_55 (by decide) ?_
              refine q_istore_n_3 F dX4_await_56 (by decide) ?_
              refine q_iload F dX4_await_57 rfl ?_
              refine q_ifN_eq F 78 dX4_await_59 (by decide) (by omega) (fun h59 => ?_) (fun h59 => ?_)
              · refine q_iload F dX4_await_78 rfl ?_
                refine q_istore_4 F dX4_await_80 (by decide) ?_
                refine q_iinc_5 F _ dX4_await_82 rfl (by decide) ?_
                refine q_goto F 9 dX4_await_85 (by decide) (q_drop_6 (ih (by omega) _ _ _ rfl ?_ ?_))
                · first | exact q_bl_1 ⟨k, Nat.le_refl _, by omega, h21, h32⟩ | exact q_bl_1 (by obtain ⟨i, h1, h2⟩ := q_bl_T hv h43; exact ⟨i, by omega, h2⟩) | exact q_bl_0 (by rintro ⟨i, h1, h2, h3⟩; by_cases hik : i = k; (subst hik; first | exact h3.1 h21 | exact h32 h3.2); exact q_bl_F hv h43 ⟨i, by omega, h2, h3⟩)
                · first | exact f_dn_yes (by omega) ⟨⟨h21, h32⟩, h70⟩ | exact f_dn_no hz (fun q => h70 q.2) | exact f_dn_no hz (fun q => q.1.1 h21) | exact f_dn_no hz (fun q => h32 q.1.2)
              · exact absurd h59 (by decide)
            · exact absurd h48 (by decide)
        · refine q_iconst F (nI 1) dX4_await_35 (by decide) ?_
          refine q_goto F 40 dX4_await_36 (by decide) ?_
          refine q_istore_6 F dX4_await_40 (by decide) ?_
          refine q_iload_n F dX4_await_42 rfl ?_
          refine q_if_ne F 51 dX4_await_43 (by decide) (fun h43 => ?_) (fun h43 => ?_)
          · refine q_iconst F (nI 1) dX4_await_51 (by decide) ?_
            refine q_goto F 56 dX4_await_52 (by decide) ?_
            refine q_istore_n_3 F dX4_await_56 (by decide) ?_
            refine q_iload F dX4_await_57 rfl ?_
            refine q_ifN_eq F 78 dX4_await_59 (by decide) (by omega) (fun h59 => ?_) (fun h59 => ?_)
            · exact absurd h59 (by decide)
            · refine q_aload_n F dX4_await_62 rfl ?_
              refine q_getr F (k := 3) fkX4_13 q_m20 rfl rfl dX4_await_63 ?_
              refine q_iload F dX4_await_66 rfl ?_
              refine q_kald F 2 (_) q_m22 rfl rfl rfl (by omega) (by decide) dX4_await_68 ?_
              refine q_iconst F (nI 3) dX4_await_69 (by decide) ?_
              refine q_icmp_ne F 78 dX4_await_70 (by decide) (fun h70 => ?_) (fun h70 => ?_)
              · refine q_iload F dX4_await_78 rfl ?_
                refine q_istore_4 F dX4_await_80 (by decide) ?_
                refine q_iinc_5 F _ dX4_await_82 rfl (by decide) ?_
                refine q_goto F 9 dX4_await_85 (by decide) (q_drop_6 (ih (by omega) _ _ _ rfl ?_ ?_))
                · first | exact q_bl_1 ⟨k, Nat.le_refl _, by omega, h21, h32⟩ | exact q_bl_1 (by obtain ⟨i, h1, h2⟩ := q_bl_T hv h43; exact ⟨i, by omega, h2⟩) | exact q_bl_0 (by rintro ⟨i, h1, h2, h3⟩; by_cases hik : i = k; (subst hik; first | exact h3.1 h21 | exact h32 h3.2); exact q_bl_F hv h43 ⟨i, by omega, h2, h3⟩)
                · first | exact f_dn_yes (by omega) ⟨⟨h21, h32⟩, h70⟩ | exact f_dn_no hz (fun q => h70 q.2) | exact f_dn_no hz (fun q => q.1.1 h21) | exact f_dn_no hz (fun q => h32 q.1.2)
              · refine q_iload F dX4_await_73 rfl ?_
                refine q_top (q_fe (some k)) rfl ?_
                refine q_goto F 80 dX4_await_75 (by decide) ?_
                refine q_istore_4 F dX4_await_80 (by decide) ?_
                refine q_iinc_5 F _ dX4_await_82 rfl (by decide) ?_
                refine q_goto F 9 dX4_await_85 (by decide) (q_drop_6 (ih (by omega) _ _ _ rfl ?_ ?_))
                · first | exact q_bl_1 ⟨k, Nat.le_refl _, by omega, h21, h32⟩ | exact q_bl_1 (by obtain ⟨i, h1, h2⟩ := q_bl_T hv h43; exact ⟨i, by omega, h2⟩) | exact q_bl_0 (by rintro ⟨i, h1, h2, h3⟩; by_cases hik : i = k; (subst hik; first | exact h3.1 h21 | exact h32 h3.2); exact q_bl_F hv h43 ⟨i, by omega, h2, h3⟩)
                · first | exact f_dn_yes (by omega) ⟨⟨h21, h32⟩, h70⟩ | exact f_dn_no hz (fun q => h70 q.2) | exact f_dn_no hz (fun q => q.1.1 h21) | exact f_dn_no hz (fun q => h32 q.1.2)
          · refine q_iload F dX4_await_46 rfl ?_
            refine q_ifN_eq F 55 dX4_await_48 (by decide) (by omega) (fun h48 => ?_) (fun h48 => ?_)
            · exact absurd h48 (by decide)
            · refine q_iconst F (nI 1) dX4_await_51 (by decide) ?_
              refine q_goto F 56 dX4_await_52 (by decide) ?_
              refine q_istore_n_3 F dX4_await_56 (by decide) ?_
              refine q_iload F dX4_await_57 rfl ?_
              refine q_ifN_eq F 78 dX4_await_59 (by decide) (by omega) (fun h59 => ?_) (fun h59 => ?_)
              · exact absurd h59 (by decide)
              · refine q_aload_n F dX4_await_62 rfl ?_
                refine q_getr F (k := 3) fkX4_13 q_m20 rfl rfl dX4_await_63 ?_
                refine q_iload F dX4_await_66 rfl ?_
                refine q_kald F 2 (_) q_m22 rfl rfl rfl (by omega) (by decide) dX4_await_68 ?_
                refine q_iconst F (nI 3) dX4_await_69 (by decide) ?_
                refine q_icmp_ne F 78 dX4_await_70 (by decide) (fun h70 => ?_) (fun h70 => ?_)
                · refine q_iload F dX4_await_78 rfl ?_
                  refine q_istore_4 F dX4_await_80 (by decide) ?_
                  refine q_iinc_5 F _ dX4_await_82 rfl (by decide) ?_
                  refine q_goto F 9 dX4_await_85 (by decide) (q_drop_6 (ih (by omega) _ _ _ rfl ?_ ?_))
                  · first | exact q_bl_1 ⟨k, Nat.le_refl _, by omega, h21, h32⟩ | exact q_bl_1 (by obtain ⟨i, h1, h2⟩ := q_bl_T hv h43; exact ⟨i, by omega, h2⟩) | exact q_bl_0 (by rintro ⟨i, h1, h2, h3⟩; by_cases hik : i = k; (subst hik; first | exact h3.1 h21 | exact h32 h3.2); exact q_bl_F hv h43 ⟨i, by omega, h2, h3⟩)
                  · first | exact f_dn_yes (by omega) ⟨⟨h21, h32⟩, h70⟩ | exact f_dn_no hz (fun q => h70 q.2) | exact f_dn_no hz (fun q => q.1.1 h21) | exact f_dn_no hz (fun q => h32 q.1.2)
                · refine q_iload F dX4_await_73 rfl ?_
                  refine q_top (q_fe (some k)) rfl ?_
                  refine q_goto F 80 dX4_await_75 (by decide) ?_
                  refine q_istore_4 F dX4_await_80 (by decide) ?_
                  refine q_iinc_5 F _ dX4_await_82 rfl (by decide) ?_
                  refine q_goto F 9 dX4_await_85 (by decide) (q_drop_6 (ih (by omega) _ _ _ rfl ?_ ?_))
                  · first | exact q_bl_1 ⟨k, Nat.le_refl _, by omega, h21, h32⟩ | exact q_bl_1 (by obtain ⟨i, h1, h2⟩ := q_bl_T hv h43; exact ⟨i, by omega, h2⟩) | exact q_bl_0 (by rintro ⟨i, h1, h2, h3⟩; by_cases hik : i = k; (subst hik; first | exact h3.1 h21 | exact h32 h3.2); exact q_bl_F hv h43 ⟨i, by omega, h2, h3⟩)
                  · first | exact f_dn_yes (by omega) ⟨⟨h21, h32⟩, h70⟩ | exact f_dn_no hz (fun q => h70 q.2) | exact f_dn_no hz (fun q => q.1.1 h21) | exact f_dn_no hz (fun q => h32 q.1.2)

set_option maxRecDepth 100000 in
set_option maxHeartbeats 4000000 in
theorem t_mawait {G : q_g} {n : Nat} {ad : q_ix → Nat} (l : Launch) (S : q_st) (K : k_t) {p a : Nat} (hp : p < 8) (ha : a < 8) : q_Ct l G iX4_await [.inr (some (20, 0)), .inl (nI p), .inl (nI a)] (q_w G n ad) (q_put S K) (q_pi (q_w G n ad) (fun r S' => r = (k_aw K p a).1 ∧ S' = q_put S (k_aw K p a).2)) := by
  refine q_enter (by decide) (Nat.le_of_ble_eq_true rfl) (fun X F E => ?_)
  show q_W G X iX4_await (q_w G n ad) (0, 0) 0 [some (.inr (some (20, 0))), some (.inl (nI p)), some (.inl (nI a)), none, none, none, none] [] (q_put S K)
  refine q_iconst F (nI 0) dX4_await_0 (by decide) ?_
  refine q_istore_n_3 F dX4_await_1 (by decide) ?_
  refine q_iconst F (-1) dX4_await_2 (by decide) ?_
  refine q_istore_4 F dX4_await_3 (by decide) ?_
  refine q_bipush F (nI 7) dX4_await_5 (by decide) ?_
  refine q_istore_5 F dX4_await_7 (by decide) ?_
  exact lp_await F hp ha E 8 (by decide) (nI 0) none _ (by decide) (q_bl_0 (by rintro ⟨i, h1, h2, -⟩; omega)) (Or.inl ⟨rfl, fun i h1 h2 => by omega⟩)
