/-! the reference: ops, step, steps (rows laid by wip/whole/m44.py) -/
theorem k_al_k {K : k_t} {g a : Nat} (h0 : a ≠ 0) (h9 : a ≠ 9) : (k_al K g).2 a = K a := by
  unfold k_al
  split
  · funext j; simp [k_u, h0]
  · funext j; simp [k_u, h0, h9]
theorem k_pg_k {K : k_t} {g a : Nat} {wr : Bool} (h0 : a ≠ 0) (h9 : a ≠ 9) : (k_pg K g wr).2 a = K a := by
  unfold k_pg
  split
  · rfl
  · exact k_al_k h0 h9
theorem k_re_k {K : k_t} {p a : Nat} {x : Int32} {wr : Bool} (h0 : a ≠ 0) (h9 : a ≠ 9) : (k_re K p x wr).2 a = K a := by
  unfold k_re
  split
  · funext j; simp [k_u, h0]
  · exact k_pg_k h0 h9
theorem k_re_ok {K : k_t} {p : Nat} {x : Int32} {wr : Bool} (h : (k_re K p x wr).1 = true) (hb : (K 7 p).toInt ≤ 64) : ∃ t, t < 64 ∧ x = nI t := by
  unfold k_re at h
  split at h
  · cases h
  next hc => exact q_ofx (m := 64) (by decide) (by omega) (by omega)
theorem k_al_0 {K : k_t} {g j : Nat} (h11 : j ≠ 11) (h14 : j ≠ 14) : (k_al K g).2 0 j = K 0 j := by
  unfold k_al
  split
  · simp [k_u, h14]
  · simp [k_u, h11]
theorem k_pg_0 {K : k_t} {g j : Nat} {wr : Bool} (h11 : j ≠ 11) (h14 : j ≠ 14) : (k_pg K g wr).2 0 j = K 0 j := by
  unfold k_pg
  split
  · rfl
  · exact k_al_0 h11 h14
theorem k_re_0 {K : k_t} {p j : Nat} {x : Int32} {wr : Bool} (h11 : j ≠ 11) (h14 : j ≠ 14) : (k_re K p x wr).2 0 j = K 0 j := by
  unfold k_re
  split
  · simp [k_u, h14]
  · exact k_pg_0 h11 h14

theorem k_u_id (K : k_t) (a i : Nat) (v : Int32) (h : K a i = v) : k_u K a i v = K := by
  rw [← h]
  exact k_u_self K a i

set_option maxRecDepth 100000 in
set_option maxHeartbeats 4000000 in
theorem t_simple0 {G : q_g} {n : Nat} {ad : q_ix → Nat} (l : Launch) (S : q_st) (K : k_t) {p a b : Nat} {c : Int32} (hp : p < 8) (ha : a < 8) (hb : b < 8) (hbr : (K 7 p).toInt ≤ 64) : q_Ct l G iX4_simple [.inr (some (20, 0)), .inl (nI p), .inl (nI 0), .inl (nI a), .inl (nI b), .inl c] (q_w G n ad) (q_put S K) (q_pi (q_w G n ad) (fun r S' => r = (k_op K p 0 a b c).1 ∧ S' = q_put S (k_op K p 0 a b c).2)) := by
  refine q_enter (by decide) (Nat.le_of_ble_eq_true rfl) (fun X F E => ?_)
  show q_W G X iX4_simple (q_w G n ad) (0, 0) 0 [some (.inr (some (20, 0))), some (.inl (nI p)), some (.inl (nI 0)), some (.inl (nI a)), some (.inl (nI b)), some (.inl c), none, none, none] [] (q_put S K)
  refine q_aload_n F dX4_simple_0 rfl ?_
  refine q_getr F (k := 6) fkX4_22 q_m20 rfl rfl dX4_simple_1 ?_
  refine q_bipush F (nI 8) dX4_simple_4 (by decide) ?_
  refine q_iload_n F dX4_simple_6 rfl ?_
  refine q_imulN F dX4_simple_7 ?_
  refine q_iload_n F dX4_simple_8 rfl ?_
  refine q_iaddN F dX4_simple_9 ?_
  refine q_kald F 5 (_) q_m25 rfl rfl rfl (by omega) (by decide) dX4_simple_10 ?_
  refine q_istore_6 F dX4_simple_11 (by decide) ?_
  refine q_aload_n F dX4_simple_13 rfl ?_
  refine q_getr F (k := 6) fkX4_22 q_m20 rfl rfl dX4_simple_14 ?_
  refine q_bipush F (nI 8) dX4_simple_17 (by decide) ?_
  refine q_iload_n F dX4_simple_19 rfl ?_
  refine q_imulN F dX4_simple_20 ?_
  refine q_iload F dX4_simple_21 rfl ?_
  refine q_iaddN F dX4_simple_23 ?_
  refine q_kald F 5 (_) q_m25 rfl rfl rfl (by omega) (by decide) dX4_simple_24 ?_
  refine q_istore_7 F dX4_simple_25 (by decide) ?_
  refine q_iload F dX4_simple_27 rfl ?_
  refine q_istore_8 F dX4_simple_29 (by decide) ?_
  refine q_iload_n F dX4_simple_31 rfl ?_
  refine q_tsw_in F 76 dX4_simple_32 (by decide) (by decide) rfl (by decide) ?_
  refine q_iload F dX4_simple_76 rfl ?_
  refine q_istore_8 F dX4_simple_78 (by decide) ?_
  refine q_goto F 255 dX4_simple_80 (by decide) ?_
  refine q_aload_n F dX4_simple_255 rfl ?_
  refine q_getr F (k := 6) fkX4_22 q_m20 rfl rfl dX4_simple_256 ?_
  refine q_bipush F (nI 8) dX4_simple_259 (by decide) ?_
  refine q_iload_n F dX4_simple_261 rfl ?_
  refine q_imulN F dX4_simple_262 ?_
  refine q_iload_n F dX4_simple_263 rfl ?_
  refine q_iaddN F dX4_simple_264 ?_
  refine q_iload F dX4_simple_265 rfl ?_
  refine q_kast F 5 (_) q_m25 rfl rfl rfl (by omega) (by decide) dX4_simple_267 ?_
  refine q_iload_n F dX4_simple_268 rfl ?_
  refine q_bipush F (nI 7) dX4_simple_269 (by decide) ?_
  refine q_icmpN_ne F 278 dX4_simple_271 (by decide) (by omega) (by omega) (fun h271 => ?_) (fun h271 => ?_)
  · refine q_iconst F (nI 1) dX4_simple_278 (by decide) ?_
    refine q_iret F E rfl ⟨rfl, rfl⟩ dX4_simple_279
  · exact absurd h271 (by decide)

set_option maxRecDepth 100000 in
set_option maxHeartbeats 4000000 in
theorem t_simple1 {G : q_g} {n : Nat} {ad : q_ix → Nat} (l : Launch) (S : q_st) (K : k_t) {p a b : Nat} {c : Int32} (hp : p < 8) (ha : a < 8) (hb : b < 8) (hbr : (K 7 p).toInt ≤ 64) : q_Ct l G iX4_simple [.inr (some (20, 0)), .inl (nI p), .inl (nI 1), .inl (nI a), .inl (nI b), .inl c] (q_w G n ad) (q_put S K) (q_pi (q_w G n ad) (fun r S' => r = (k_op K p 1 a b c).1 ∧ S' = q_put S (k_op K p 1 a b c).2)) := by
  refine q_enter (by decide) (Nat.le_of_ble_eq_true rfl) (fun X F E => ?_)
  show q_W G X iX4_simple (q_w G n ad) (0, 0) 0 [some (.inr (some (20, 0))), some (.inl (nI p)), some (.inl (nI 1)), some (.inl (nI a)), some (.inl (nI b)), some (.inl c), none, none, none] [] (q_put S K)
  refine q_aload_n F dX4_simple_0 rfl ?_
  refine q_getr F (k := 6) fkX4_22 q_m20 rfl rfl dX4_simple_1 ?_
  refine q_bipush F (nI 8) dX4_simple_4 (by decide) ?_
  refine q_iload_n F dX4_simple_6 rfl ?_
  refine q_imulN F dX4_simple_7 ?_
  refine q_iload_n F dX4_simple_8 rfl ?_
  refine q_iaddN F dX4_simple_9 ?_
  refine q_kald F 5 (_) q_m25 rfl rfl rfl (by omega) (by decide) dX4_simple_10 ?_
  refine q_istore_6 F dX4_simple_11 (by decide) ?_
  refine q_aload_n F dX4_simple_13 rfl ?_
  refine q_getr F (k := 6) fkX4_22 q_m20 rfl rfl dX4_simple_14 ?_
  refine q_bipush F (nI 8) dX4_simple_17 (by decide) ?_
  refine q_iload_n F dX4_simple_19 rfl ?_
  refine q_imulN F dX4_simple_20 ?_
  refine q_iload F dX4_simple_21 rfl ?_
  refine q_iaddN F dX4_simple_23 ?_
  refine q_kald F 5 (_) q_m25 rfl rfl rfl (by omega) (by decide) dX4_simple_24 ?_
  refine q_istore_7 F dX4_simple_25 (by decide) ?_
  refine q_iload F dX4_simple_27 rfl ?_
  refine q_istore_8 F dX4_simple_29 (by decide) ?_
  refine q_iload_n F dX4_simple_31 rfl ?_
  refine q_tsw_in F 83 dX4_simple_32 (by decide) (by decide) rfl (by decide) ?_
  refine q_iload F dX4_simple_83 rfl ?_
  refine q_iload F dX4_simple_85 rfl ?_
  refine q_iadd F dX4_simple_87 ?_
  refine q_iload F dX4_simple_88 rfl ?_
  refine q_iadd F dX4_simple_90 ?_
  refine q_istore_8 F dX4_simple_91 (by decide) ?_
  refine q_goto F 255 dX4_simple_93 (by decide) ?_
  refine q_aload_n F dX4_simple_255 rfl ?_
  refine q_getr F (k := 6) fkX4_22 q_m20 rfl rfl dX4_simple_256 ?_
  refine q_bipush F (nI 8) dX4_simple_259 (by decide) ?_
  refine q_iload_n F dX4_simple_261 rfl ?_
  refine q_imulN F dX4_simple_262 ?_
  refine q_iload_n F dX4_simple_263 rfl ?_
  refine q_iaddN F dX4_simple_264 ?_
  refine q_iload F dX4_simple_265 rfl ?_
  refine q_kast F 5 (_) q_m25 rfl rfl rfl (by omega) (by decide) dX4_simple_267 ?_
  refine q_iload_n F dX4_simple_268 rfl ?_
  refine q_bipush F (nI 7) dX4_simple_269 (by decide) ?_
  refine q_icmpN_ne F 278 dX4_simple_271 (by decide) (by omega) (by omega) (fun h271 => ?_) (fun h271 => ?_)
  · refine q_iconst F (nI 1) dX4_simple_278 (by decide) ?_
    refine q_iret F E rfl ⟨rfl, rfl⟩ dX4_simple_279
  · exact absurd h271 (by decide)

set_option maxRecDepth 100000 in
set_option maxHeartbeats 4000000 in
theorem t_simple2 {G : q_g} {n : Nat} {ad : q_ix → Nat} (l : Launch) (S : q_st) (K : k_t) {p a b : Nat} {c : Int32} (hp : p < 8) (ha : a < 8) (hb : b < 8) (hbr : (K 7 p).toInt ≤ 64) : q_Ct l G iX4_simple [.inr (some (20, 0)), .inl (nI p), .inl (nI 2), .inl (nI a), .inl (nI b), .inl c] (q_w G n ad) (q_put S K) (q_pi (q_w G n ad) (fun r S' => r = (k_op K p 2 a b c).1 ∧ S' = q_put S (k_op K p 2 a b c).2)) := by
  refine q_enter (by decide) (Nat.le_of_ble_eq_true rfl) (fun X F E => ?_)
  show q_W G X iX4_simple (q_w G n ad) (0, 0) 0 [some (.inr (some (20, 0))), some (.inl (nI p)), some (.inl (nI 2)), some (.inl (nI a)), some (.inl (nI b)), some (.inl c), none, none, none] [] (q_put S K)
  refine q_aload_n F dX4_simple_0 rfl ?_
  refine q_getr F (k := 6) fkX4_22 q_m20 rfl rfl dX4_simple_1 ?_
  refine q_bipush F (nI 8) dX4_simple_4 (by decide) ?_
  refine q_iload_n F dX4_simple_6 rfl ?_
  refine q_imulN F dX4_simple_7 ?_
  refine q_iload_n F dX4_simple_8 rfl ?_
  refine q_iaddN F dX4_simple_9 ?_
  refine q_kald F 5 (_) q_m25 rfl rfl rfl (by omega) (by decide) dX4_simple_10 ?_
  refine q_istore_6 F dX4_simple_11 (by decide) ?_
  refine q_aload_n F dX4_simple_13 rfl ?_
  refine q_getr F (k := 6) fkX4_22 q_m20 rfl rfl dX4_simple_14 ?_
  refine q_bipush F (nI 8) dX4_simple_17 (by decide) ?_
  refine q_iload_n F dX4_simple_19 rfl ?_
  refine q_imulN F dX4_simple_20 ?_
  refine q_iload F dX4_simple_21 rfl ?_
  refine q_iaddN F dX4_simple_23 ?_
  refine q_kald F 5 (_) q_m25 rfl rfl rfl (by omega) (by decide) dX4_simple_24 ?_
  refine q_istore_7 F dX4_simple_25 (by decide) ?_
  refine q_iload F dX4_simple_27 rfl ?_
  refine q_istore_8 F dX4_simple_29 (by decide) ?_
  refine q_iload_n F dX4_simple_31 rfl ?_
  refine q_tsw_in F 96 dX4_simple_32 (by decide) (by decide) rfl (by decide) ?_
  refine q_iload F dX4_simple_96 rfl ?_
  refine q_iload F dX4_simple_98 rfl ?_
  refine q_isub F dX4_simple_100 ?_
  refine q_istore_8 F dX4_simple_101 (by decide) ?_
  refine q_goto F 255 dX4_simple_103 (by decide) ?_
  refine q_aload_n F dX4_simple_255 rfl ?_
  refine q_getr F (k := 6) fkX4_22 q_m20 rfl rfl dX4_simple_256 ?_
  refine q_bipush F (nI 8) dX4_simple_259 (by decide) ?_
  refine q_iload_n F dX4_simple_261 rfl ?_
  refine q_imulN F dX4_simple_262 ?_
  refine q_iload_n F dX4_simple_263 rfl ?_
  refine q_iaddN F dX4_simple_264 ?_
  refine q_iload F dX4_simple_265 rfl ?_
  refine q_kast F 5 (_) q_m25 rfl rfl rfl (by omega) (by decide) dX4_simple_267 ?_
  refine q_iload_n F dX4_simple_268 rfl ?_
  refine q_bipush F (nI 7) dX4_simple_269 (by decide) ?_
  refine q_icmpN_ne F 278 dX4_simple_271 (by decide) (by omega) (by omega) (fun h271 => ?_) (fun h271 => ?_)
  · refine q_iconst F (nI 1) dX4_simple_278 (by decide) ?_
    refine q_iret F E rfl ⟨rfl, rfl⟩ dX4_simple_279
  · exact absurd h271 (by decide)

set_option maxRecDepth 100000 in
set_option maxHeartbeats 4000000 in
theorem t_simple3 {G : q_g} {n : Nat} {ad : q_ix → Nat} (l : Launch) (S : q_st) (K : k_t) {p a b : Nat} {c : Int32} (hp : p < 8) (ha : a < 8) (hb : b < 8) (hbr : (K 7 p).toInt ≤ 64) : q_Ct l G iX4_simple [.inr (some (20, 0)), .inl (nI p), .inl (nI 3), .inl (nI a), .inl (nI b), .inl c] (q_w G n ad) (q_put S K) (q_pi (q_w G n ad) (fun r S' => r = (k_op K p 3 a b c).1 ∧ S' = q_put S (k_op K p 3 a b c).2)) := by
  refine q_enter (by decide) (Nat.le_of_ble_eq_true rfl) (fun X F E => ?_)
  show q_W G X iX4_simple (q_w G n ad) (0, 0) 0 [some (.inr (some (20, 0))), some (.inl (nI p)), some (.inl (nI 3)), some (.inl (nI a)), some (.inl (nI b)), some (.inl c), none, none, none] [] (q_put S K)
  refine q_aload_n F dX4_simple_0 rfl ?_
  refine q_getr F (k := 6) fkX4_22 q_m20 rfl rfl dX4_simple_1 ?_
  refine q_bipush F (nI 8) dX4_simple_4 (by decide) ?_
  refine q_iload_n F dX4_simple_6 rfl ?_
  refine q_imulN F dX4_simple_7 ?_
  refine q_iload_n F dX4_simple_8 rfl ?_
  refine q_iaddN F dX4_simple_9 ?_
  refine q_kald F 5 (_) q_m25 rfl rfl rfl (by omega) (by decide) dX4_simple_10 ?_
  refine q_istore_6 F dX4_simple_11 (by decide) ?_
  refine q_aload_n F dX4_simple_13 rfl ?_
  refine q_getr F (k := 6) fkX4_22 q_m20 rfl rfl dX4_simple_14 ?_
  refine q_bipush F (nI 8) dX4_simple_17 (by decide) ?_
  refine q_iload_n F dX4_simple_19 rfl ?_
  refine q_imulN F dX4_simple_20 ?_
  refine q_iload F dX4_simple_21 rfl ?_
  refine q_iaddN F dX4_simple_23 ?_
  refine q_kald F 5 (_) q_m25 rfl rfl rfl (by omega) (by decide) dX4_simple_24 ?_
  refine q_istore_7 F dX4_simple_25 (by decide) ?_
  refine q_iload F dX4_simple_27 rfl ?_
  refine q_istore_8 F dX4_simple_29 (by decide) ?_
  refine q_iload_n F dX4_simple_31 rfl ?_
  refine q_tsw_in F 106 dX4_simple_32 (by decide) (by decide) rfl (by decide) ?_
  refine q_aload_n F dX4_simple_106 rfl ?_
  refine q_iload_n F dX4_simple_107 rfl ?_
  refine q_iload F dX4_simple_108 rfl ?_
  refine q_iload F dX4_simple_110 rfl ?_
  refine q_iadd F dX4_simple_112 ?_
  refine q_iconst F (nI 0) dX4_simple_113 (by decide) ?_
  refine q_callVi F [.inl (nI p), .inl (K 5 (8 * p + b) + c), .inl (nI 0)] (fun l => t_reach l S K hp (wr := false) (q_bl_0 (by decide)) hbr) clX4_91 rfl q_m20 rfl rfl rfl ⟨Nat.le_of_ble_eq_true rfl, Nat.le_of_ble_eq_true rfl⟩ (Nat.le_of_ble_eq_true rfl) ⟨rfl, rfl⟩ ⟨Nat.zero_le _, Nat.zero_le _⟩ dX4_simple_114 (fun v S' hv => ?_)
  obtain ⟨hv, hS⟩ := hv
  subst hS
  rcases hv with ⟨rfl, hre⟩ | ⟨rfl, hre⟩
  · refine q_ifN_eq F 138 dX4_simple_117 (by decide) (by omega) (fun h117 => ?_) (fun h117 => ?_)
    · refine q_iload F dX4_simple_138 rfl ?_
      refine q_istore_8 F dX4_simple_140 (by decide) ?_
      refine q_goto F 255 dX4_simple_142 (by decide) ?_
      refine q_aload_n F dX4_simple_255 rfl ?_
      refine q_getr F (k := 6) fkX4_22 q_m20 rfl rfl dX4_simple_256 ?_
      refine q_bipush F (nI 8) dX4_simple_259 (by decide) ?_
      refine q_iload_n F dX4_simple_261 rfl ?_
      refine q_imulN F dX4_simple_262 ?_
      refine q_iload_n F dX4_simple_263 rfl ?_
      refine q_iaddN F dX4_simple_264 ?_
      refine q_iload F dX4_simple_265 rfl ?_
      refine q_kast F 5 (_) q_m25 rfl rfl rfl (by omega) (by decide) dX4_simple_267 ?_
      refine q_iload_n F dX4_simple_268 rfl ?_
      refine q_bipush F (nI 7) dX4_simple_269 (by decide) ?_
      refine q_icmpN_ne F 278 dX4_simple_271 (by decide) (by omega) (by omega) (fun h271 => ?_) (fun h271 => ?_)
      · refine q_iconst F (nI 1) dX4_simple_278 (by decide) ?_
        refine q_iret F E rfl ⟨rfl, by show _ = q_put S (k_ld K p a (K 5 (8 * p + b) + c)); unfold k_ld; rw [hre, k_u_id _ _ _ _ (congrFun (k_re_k (by decide) (by decide)) _)]; rfl⟩ dX4_simple_279
      · exact absurd h271 (by decide)
    · exact absurd h117 (by decide)
  · refine q_ifN_eq F 138 dX4_simple_117 (by decide) (by omega) (fun h117 => ?_) (fun h117 => ?_)
    · exact absurd h117 (by decide)
    · obtain ⟨t, ht, hte⟩ := k_re_ok hre hbr
      have htn : (K 5 (8 * p + b) + c).toInt.toNat = t := by rw [hte, nI_toInt (by omega)]; rfl
      refine q_aload_n F dX4_simple_120 rfl ?_
      refine q_getr F (k := 9) fkX4_31 q_m20 rfl rfl dX4_simple_121 ?_
      refine q_bipush F (nI 64) dX4_simple_124 (by decide) ?_
      refine q_iload_n F dX4_simple_126 rfl ?_
      refine q_imulN F dX4_simple_127 ?_
      refine q_iload F dX4_simple_128 rfl ?_
      refine q_iadd F dX4_simple_130 ?_
      refine q_iload F dX4_simple_131 rfl ?_
      refine q_iadd F dX4_simple_133 ?_
      refine q_kald F 8 (64 * p + t) q_m28 rfl rfl (by rw [Int32.add_assoc, hte, nI_add]) (by omega) (by decide) dX4_simple_134 ?_
      refine q_goto F 140 dX4_simple_135 (by decide) ?_
      refine q_istore_8 F dX4_simple_140 (by decide) ?_
      refine q_goto F 255 dX4_simple_142 (by decide) ?_
      refine q_aload_n F dX4_simple_255 rfl ?_
      refine q_getr F (k := 6) fkX4_22 q_m20 rfl rfl dX4_simple_256 ?_
      refine q_bipush F (nI 8) dX4_simple_259 (by decide) ?_
      refine q_iload_n F dX4_simple_261 rfl ?_
      refine q_imulN F dX4_simple_262 ?_
      refine q_iload_n F dX4_simple_263 rfl ?_
      refine q_iaddN F dX4_simple_264 ?_
      refine q_iload F dX4_simple_265 rfl ?_
      refine q_kast F 5 (_) q_m25 rfl rfl rfl (by omega) (by decide) dX4_simple_267 ?_
      refine q_iload_n F dX4_simple_268 rfl ?_
      refine q_bipush F (nI 7) dX4_simple_269 (by decide) ?_
      refine q_icmpN_ne F 278 dX4_simple_271 (by decide) (by omega) (by omega) (fun h271 => ?_) (fun h271 => ?_)
      · refine q_iconst F (nI 1) dX4_simple_278 (by decide) ?_
        refine q_iret F E rfl ⟨rfl, by show _ = q_put S (k_ld K p a (K 5 (8 * p + b) + c)); unfold k_ld; rw [if_pos hre, htn]⟩ dX4_simple_279
      · exact absurd h271 (by decide)

set_option maxRecDepth 100000 in
set_option maxHeartbeats 4000000 in
theorem t_simple4 {G : q_g} {n : Nat} {ad : q_ix → Nat} (l : Launch) (S : q_st) (K : k_t) {p a b : Nat} {c : Int32} (hp : p < 8) (ha : a < 8) (hb : b < 8) (hbr : (K 7 p).toInt ≤ 64) : q_Ct l G iX4_simple [.inr (some (20, 0)), .inl (nI p), .inl (nI 4), .inl (nI a), .inl (nI b), .inl c] (q_w G n ad) (q_put S K) (q_pi (q_w G n ad) (fun r S' => r = (k_op K p 4 a b c).1 ∧ S' = q_put S (k_op K p 4 a b c).2)) := by
  refine q_enter (by decide) (Nat.le_of_ble_eq_true rfl) (fun X F E => ?_)
  show q_W G X iX4_simple (q_w G n ad) (0, 0) 0 [some (.inr (some (20, 0))), some (.inl (nI p)), some (.inl (nI 4)), some (.inl (nI a)), some (.inl (nI b)), some (.inl c), none, none, none] [] (q_put S K)
  refine q_aload_n F dX4_simple_0 rfl ?_
  refine q_getr F (k := 6) fkX4_22 q_m20 rfl rfl dX4_simple_1 ?_
  refine q_bipush F (nI 8) dX4_simple_4 (by decide) ?_
  refine q_iload_n F dX4_simple_6 rfl ?_
  refine q_imulN F dX4_simple_7 ?_
  refine q_iload_n F dX4_simple_8 rfl ?_
  refine q_iaddN F dX4_simple_9 ?_
  refine q_kald F 5 (_) q_m25 rfl rfl rfl (by omega) (by decide) dX4_simple_10 ?_
  refine q_istore_6 F dX4_simple_11 (by decide) ?_
  refine q_aload_n F dX4_simple_13 rfl ?_
  refine q_getr F (k := 6) fkX4_22 q_m20 rfl rfl dX4_simple_14 ?_
  refine q_bipush F (nI 8) dX4_simple_17 (by decide) ?_
  refine q_iload_n F dX4_simple_19 rfl ?_
  refine q_imulN F dX4_simple_20 ?_
  refine q_iload F dX4_simple_21 rfl ?_
  refine q_iaddN F dX4_simple_23 ?_
  refine q_kald F 5 (_) q_m25 rfl rfl rfl (by omega) (by decide) dX4_simple_24 ?_
  refine q_istore_7 F dX4_simple_25 (by decide) ?_
  refine q_iload F dX4_simple_27 rfl ?_
  refine q_istore_8 F dX4_simple_29 (by decide) ?_
  refine q_iload_n F dX4_simple_31 rfl ?_
  refine q_tsw_in F 145 dX4_simple_32 (by decide) (by decide) rfl (by decide) ?_
  refine q_aload_n F dX4_simple_145 rfl ?_
  refine q_iload_n F dX4_simple_146 rfl ?_
  refine q_iload F dX4_simple_147 rfl ?_
  refine q_iload F dX4_simple_149 rfl ?_
  refine q_iadd F dX4_simple_151 ?_
  refine q_iconst F (nI 1) dX4_simple_152 (by decide) ?_
  refine q_callVi F [.inl (nI p), .inl (K 5 (8 * p + b) + c), .inl (nI 1)] (fun l => t_reach l S K hp (wr := true) (q_bl_1 rfl) hbr) clX4_91 rfl q_m20 rfl rfl rfl ⟨Nat.le_of_ble_eq_true rfl, Nat.le_of_ble_eq_true rfl⟩ (Nat.le_of_ble_eq_true rfl) ⟨rfl, rfl⟩ ⟨Nat.zero_le _, Nat.zero_le _⟩ dX4_simple_153 (fun v S' hv => ?_)
  obtain ⟨hv, hS⟩ := hv
  subst hS
  rcases hv with ⟨rfl, hre⟩ | ⟨rfl, hre⟩
  · refine q_ifN_eq F 255 dX4_simple_156 (by decide) (by omega) (fun h156 => ?_) (fun h156 => ?_)
    · refine q_aload_n F dX4_simple_255 rfl ?_
      refine q_getr F (k := 6) fkX4_22 q_m20 rfl rfl dX4_simple_256 ?_
      refine q_bipush F (nI 8) dX4_simple_259 (by decide) ?_
      refine q_iload_n F dX4_simple_261 rfl ?_
      refine q_imulN F dX4_simple_262 ?_
      refine q_iload_n F dX4_simple_263 rfl ?_
      refine q_iaddN F dX4_simple_264 ?_
      refine q_iload F dX4_simple_265 rfl ?_
      refine q_kast F 5 (_) q_m25 rfl rfl rfl (by omega) (by decide) dX4_simple_267 ?_
      refine q_iload_n F dX4_simple_268 rfl ?_
      refine q_bipush F (nI 7) dX4_simple_269 (by decide) ?_
      refine q_icmpN_ne F 278 dX4_simple_271 (by decide) (by omega) (by omega) (fun h271 => ?_) (fun h271 => ?_)
      · refine q_iconst F (nI 1) dX4_simple_278 (by decide) ?_
        refine q_iret F E rfl ⟨rfl, by show _ = q_put S (k_so K p a (K 5 (8 * p + b) + c)); unfold k_so; rw [hre, k_u_id _ _ _ _ (congrFun (k_re_k (by decide) (by decide)) _)]; rfl⟩ dX4_simple_279
      · exact absurd h271 (by decide)
    · exact absurd h156 (by decide)
  · refine q_ifN_eq F 255 dX4_simple_156 (by decide) (by omega) (fun h156 => ?_) (fun h156 => ?_)
    · exact absurd h156 (by decide)
    · obtain ⟨t, ht, hte⟩ := k_re_ok hre hbr
      have htn : (K 5 (8 * p + b) + c).toInt.toNat = t := by rw [hte, nI_toInt (by omega)]; rfl
      refine q_aload_n F dX4_simple_159 rfl ?_
      refine q_getr F (k := 9) fkX4_31 q_m20 rfl rfl dX4_simple_160 ?_
      refine q_bipush F (nI 64) dX4_simple_163 (by decide) ?_
      refine q_iload_n F dX4_simple_165 rfl ?_
      refine q_imulN F dX4_simple_166 ?_
      refine q_iload F dX4_simple_167 rfl ?_
      refine q_iadd F dX4_simple_169 ?_
      refine q_iload F dX4_simple_170 rfl ?_
      refine q_iadd F dX4_simple_172 ?_
      refine q_iload F dX4_simple_173 rfl ?_
      refine q_kast F 8 (64 * p + t) q_m28 rfl rfl (by rw [Int32.add_assoc, hte, nI_add]) (by omega) (by decide) dX4_simple_175 ?_
      refine q_goto F 255 dX4_simple_176 (by decide) ?_
      refine q_aload_n F dX4_simple_255 rfl ?_
      refine q_getr F (k := 6) fkX4_22 q_m20 rfl rfl dX4_simple_256 ?_
      refine q_bipush F (nI 8) dX4_simple_259 (by decide) ?_
      refine q_iload_n F dX4_simple_261 rfl ?_
      refine q_imulN F dX4_simple_262 ?_
      refine q_iload_n F dX4_simple_263 rfl ?_
      refine q_iaddN F dX4_simple_264 ?_
      refine q_iload F dX4_simple_265 rfl ?_
      refine q_kast F 5 (_) q_m25 rfl rfl rfl (by omega) (by decide) dX4_simple_267 ?_
      refine q_iload_n F dX4_simple_268 rfl ?_
      refine q_bipush F (nI 7) dX4_simple_269 (by decide) ?_
      refine q_icmpN_ne F 278 dX4_simple_271 (by decide) (by omega) (by omega) (fun h271 => ?_) (fun h271 => ?_)
      · refine q_iconst F (nI 1) dX4_simple_278 (by decide) ?_
        refine q_iret F E rfl ⟨rfl, by show _ = q_put S (k_so K p a (K 5 (8 * p + b) + c)); unfold k_so; rw [if_pos hre, htn, k_u_id _ _ _ _ (by rw [k_u_ne _ _ _ _ (by simp)]; exact congrFun (k_re_k (by decide) (by decide)) _)]⟩ dX4_simple_279
      · exact absurd h271 (by decide)

set_option maxRecDepth 100000 in
set_option maxHeartbeats 4000000 in
theorem t_simple5 {G : q_g} {n : Nat} {ad : q_ix → Nat} (l : Launch) (S : q_st) (K : k_t) {p a b : Nat} {c : Int32} (hp : p < 8) (ha : a < 8) (hb : b < 8) (hbr : (K 7 p).toInt ≤ 64) : q_Ct l G iX4_simple [.inr (some (20, 0)), .inl (nI p), .inl (nI 5), .inl (nI a), .inl (nI b), .inl c] (q_w G n ad) (q_put S K) (q_pi (q_w G n ad) (fun r S' => r = (k_op K p 5 a b c).1 ∧ S' = q_put S (k_op K p 5 a b c).2)) := by
  refine q_enter (by decide) (Nat.le_of_ble_eq_true rfl) (fun X F E => ?_)
  show q_W G X iX4_simple (q_w G n ad) (0, 0) 0 [some (.inr (some (20, 0))), some (.inl (nI p)), some (.inl (nI 5)), some (.inl (nI a)), some (.inl (nI b)), some (.inl c), none, none, none] [] (q_put S K)
  refine q_aload_n F dX4_simple_0 rfl ?_
  refine q_getr F (k := 6) fkX4_22 q_m20 rfl rfl dX4_simple_1 ?_
  refine q_bipush F (nI 8) dX4_simple_4 (by decide) ?_
  refine q_iload_n F dX4_simple_6 rfl ?_
  refine q_imulN F dX4_simple_7 ?_
  refine q_iload_n F dX4_simple_8 rfl ?_
  refine q_iaddN F dX4_simple_9 ?_
  refine q_kald F 5 (_) q_m25 rfl rfl rfl (by omega) (by decide) dX4_simple_10 ?_
  refine q_istore_6 F dX4_simple_11 (by decide) ?_
  refine q_aload_n F dX4_simple_13 rfl ?_
  refine q_getr F (k := 6) fkX4_22 q_m20 rfl rfl dX4_simple_14 ?_
  refine q_bipush F (nI 8) dX4_simple_17 (by decide) ?_
  refine q_iload_n F dX4_simple_19 rfl ?_
  refine q_imulN F dX4_simple_20 ?_
  refine q_iload F dX4_simple_21 rfl ?_
  refine q_iaddN F dX4_simple_23 ?_
  refine q_kald F 5 (_) q_m25 rfl rfl rfl (by omega) (by decide) dX4_simple_24 ?_
  refine q_istore_7 F dX4_simple_25 (by decide) ?_
  refine q_iload F dX4_simple_27 rfl ?_
  refine q_istore_8 F dX4_simple_29 (by decide) ?_
  refine q_iload_n F dX4_simple_31 rfl ?_
  refine q_tsw_in F 179 dX4_simple_32 (by decide) (by decide) rfl (by decide) ?_
  refine q_aload_n F dX4_simple_179 rfl ?_
  refine q_getr F (k := 7) fkX4_25 q_m20 rfl rfl dX4_simple_180 ?_
  refine q_iload_n F dX4_simple_183 rfl ?_
  refine q_iload F dX4_simple_184 rfl ?_
  refine q_if_eq F 194 dX4_simple_186 (by decide) (fun h186 => ?_) (fun h186 => ?_)
  · refine q_aload_n F dX4_simple_194 rfl ?_
    refine q_getr F (k := 7) fkX4_25 q_m20 rfl rfl dX4_simple_195 ?_
    refine q_iload_n F dX4_simple_198 rfl ?_
    refine q_kald F 6 (_) q_m26 rfl rfl rfl (by omega) (by decide) dX4_simple_199 ?_
    refine q_kast F 6 (_) q_m26 rfl rfl rfl (by omega) (by decide) dX4_simple_200 ?_
    refine q_goto F 255 dX4_simple_201 (by decide) ?_
    refine q_aload_n F dX4_simple_255 rfl ?_
    refine q_getr F (k := 6) fkX4_22 q_m20 rfl rfl dX4_simple_256 ?_
    refine q_bipush F (nI 8) dX4_simple_259 (by decide) ?_
    refine q_iload_n F dX4_simple_261 rfl ?_
    refine q_imulN F dX4_simple_262 ?_
    refine q_iload_n F dX4_simple_263 rfl ?_
    refine q_iaddN F dX4_simple_264 ?_
    refine q_iload F dX4_simple_265 rfl ?_
    refine q_kast F 5 (_) q_m25 rfl rfl rfl (by omega) (by decide) dX4_simple_267 ?_
    refine q_iload_n F dX4_simple_268 rfl ?_
    refine q_bipush F (nI 7) dX4_simple_269 (by decide) ?_
    refine q_icmpN_ne F 278 dX4_simple_271 (by decide) (by omega) (by omega) (fun h271 => ?_) (fun h271 => ?_)
    · refine q_iconst F (nI 1) dX4_simple_278 (by decide) ?_
      refine q_iret F E rfl ⟨rfl, by show _ = q_put S (if K 5 (8 * p + a) ≠ 0 then k_u K 6 p c else K); first | (rw [if_pos h186, k_u_id _ _ _ _ (k_u_ne _ _ _ _ (by simp))]; done) | (rw [if_neg (fun q => q h186), k_u_self, k_u_self]; done)⟩ dX4_simple_279
    · exact absurd h271 (by decide)
  · refine q_iload F dX4_simple_189 rfl ?_
    refine q_goto F 200 dX4_simple_191 (by decide) ?_
    refine q_kast F 6 (_) q_m26 rfl rfl rfl (by omega) (by decide) dX4_simple_200 ?_
    refine q_goto F 255 dX4_simple_201 (by decide) ?_
    refine q_aload_n F dX4_simple_255 rfl ?_
    refine q_getr F (k := 6) fkX4_22 q_m20 rfl rfl dX4_simple_256 ?_
    refine q_bipush F (nI 8) dX4_simple_259 (by decide) ?_
    refine q_iload_n F dX4_simple_261 rfl ?_
    refine q_imulN F dX4_simple_262 ?_
    refine q_iload_n F dX4_simple_263 rfl ?_
    refine q_iaddN F dX4_simple_264 ?_
    refine q_iload F dX4_simple_265 rfl ?_
    refine q_kast F 5 (_) q_m25 rfl rfl rfl (by omega) (by decide) dX4_simple_267 ?_
    refine q_iload_n F dX4_simple_268 rfl ?_
    refine q_bipush F (nI 7) dX4_simple_269 (by decide) ?_
    refine q_icmpN_ne F 278 dX4_simple_271 (by decide) (by omega) (by omega) (fun h271 => ?_) (fun h271 => ?_)
    · refine q_iconst F (nI 1) dX4_simple_278 (by decide) ?_
      refine q_iret F E rfl ⟨rfl, by show _ = q_put S (if K 5 (8 * p + a) ≠ 0 then k_u K 6 p c else K); first | (rw [if_pos h186, k_u_id _ _ _ _ (k_u_ne _ _ _ _ (by simp))]; done) | (rw [if_neg (fun q => q h186), k_u_self, k_u_self]; done)⟩ dX4_simple_279
    · exact absurd h271 (by decide)

set_option maxRecDepth 100000 in
set_option maxHeartbeats 4000000 in
theorem t_simple6 {G : q_g} {n : Nat} {ad : q_ix → Nat} (l : Launch) (S : q_st) (K : k_t) {p a b : Nat} {c : Int32} (hp : p < 8) (ha : a < 8) (hb : b < 8) (hbr : (K 7 p).toInt ≤ 64) : q_Ct l G iX4_simple [.inr (some (20, 0)), .inl (nI p), .inl (nI 6), .inl (nI a), .inl (nI b), .inl c] (q_w G n ad) (q_put S K) (q_pi (q_w G n ad) (fun r S' => r = (k_op K p 6 a b c).1 ∧ S' = q_put S (k_op K p 6 a b c).2)) := by
  refine q_enter (by decide) (Nat.le_of_ble_eq_true rfl) (fun X F E => ?_)
  show q_W G X iX4_simple (q_w G n ad) (0, 0) 0 [some (.inr (some (20, 0))), some (.inl (nI p)), some (.inl (nI 6)), some (.inl (nI a)), some (.inl (nI b)), some (.inl c), none, none, none] [] (q_put S K)
  refine q_aload_n F dX4_simple_0 rfl ?_
  refine q_getr F (k := 6) fkX4_22 q_m20 rfl rfl dX4_simple_1 ?_
  refine q_bipush F (nI 8) dX4_simple_4 (by decide) ?_
  refine q_iload_n F dX4_simple_6 rfl ?_
  refine q_imulN F dX4_simple_7 ?_
  refine q_iload_n F dX4_simple_8 rfl ?_
  refine q_iaddN F dX4_simple_9 ?_
  refine q_kald F 5 (_) q_m25 rfl rfl rfl (by omega) (by decide) dX4_simple_10 ?_
  refine q_istore_6 F dX4_simple_11 (by decide) ?_
  refine q_aload_n F dX4_simple_13 rfl ?_
  refine q_getr F (k := 6) fkX4_22 q_m20 rfl rfl dX4_simple_14 ?_
  refine q_bipush F (nI 8) dX4_simple_17 (by decide) ?_
  refine q_iload_n F dX4_simple_19 rfl ?_
  refine q_imulN F dX4_simple_20 ?_
  refine q_iload F dX4_simple_21 rfl ?_
  refine q_iaddN F dX4_simple_23 ?_
  refine q_kald F 5 (_) q_m25 rfl rfl rfl (by omega) (by decide) dX4_simple_24 ?_
  refine q_istore_7 F dX4_simple_25 (by decide) ?_
  refine q_iload F dX4_simple_27 rfl ?_
  refine q_istore_8 F dX4_simple_29 (by decide) ?_
  refine q_iload_n F dX4_simple_31 rfl ?_
  refine q_tsw_in F 204 dX4_simple_32 (by decide) (by decide) rfl (by decide) ?_
  refine q_aload_n F dX4_simple_204 rfl ?_
  refine q_getr F (k := 7) fkX4_25 q_m20 rfl rfl dX4_simple_205 ?_
  refine q_iload_n F dX4_simple_208 rfl ?_
  refine q_iload F dX4_simple_209 rfl ?_
  refine q_iload F dX4_simple_211 rfl ?_
  refine q_icmp_ge F 221 dX4_simple_213 (by decide) (fun h213 => ?_) (fun h213 => ?_)
  · refine q_aload_n F dX4_simple_221 rfl ?_
    refine q_getr F (k := 7) fkX4_25 q_m20 rfl rfl dX4_simple_222 ?_
    refine q_iload_n F dX4_simple_225 rfl ?_
    refine q_kald F 6 (_) q_m26 rfl rfl rfl (by omega) (by decide) dX4_simple_226 ?_
    refine q_kast F 6 (_) q_m26 rfl rfl rfl (by omega) (by decide) dX4_simple_227 ?_
    refine q_goto F 255 dX4_simple_228 (by decide) ?_
    refine q_aload_n F dX4_simple_255 rfl ?_
    refine q_getr F (k := 6) fkX4_22 q_m20 rfl rfl dX4_simple_256 ?_
    refine q_bipush F (nI 8) dX4_simple_259 (by decide) ?_
    refine q_iload_n F dX4_simple_261 rfl ?_
    refine q_imulN F dX4_simple_262 ?_
    refine q_iload_n F dX4_simple_263 rfl ?_
    refine q_iaddN F dX4_simple_264 ?_
    refine q_iload F dX4_simple_265 rfl ?_
    refine q_kast F 5 (_) q_m25 rfl rfl rfl (by omega) (by decide) dX4_simple_267 ?_
    refine q_iload_n F dX4_simple_268 rfl ?_
    refine q_bipush F (nI 7) dX4_simple_269 (by decide) ?_
    refine q_icmpN_ne F 278 dX4_simple_271 (by decide) (by omega) (by omega) (fun h271 => ?_) (fun h271 => ?_)
    · refine q_iconst F (nI 1) dX4_simple_278 (by decide) ?_
      refine q_iret F E rfl ⟨rfl, by show _ = q_put S (if (K 5 (8 * p + a)).toInt < (K 5 (8 * p + b)).toInt then k_u K 6 p c else K); first | (rw [if_pos h213, k_u_id _ _ _ _ (k_u_ne _ _ _ _ (by simp))]; done) | (rw [if_neg (by omega), k_u_self, k_u_self]; done)⟩ dX4_simple_279
    · exact absurd h271 (by decide)
  · refine q_iload F dX4_simple_216 rfl ?_
    refine q_goto F 227 dX4_simple_218 (by decide) ?_
    refine q_kast F 6 (_) q_m26 rfl rfl rfl (by omega) (by decide) dX4_simple_227 ?_
    refine q_goto F 255 dX4_simple_228 (by decide) ?_
    refine q_aload_n F dX4_simple_255 rfl ?_
    refine q_getr F (k := 6) fkX4_22 q_m20 rfl rfl dX4_simple_256 ?_
    refine q_bipush F (nI 8) dX4_simple_259 (by decide) ?_
    refine q_iload_n F dX4_simple_261 rfl ?_
    refine q_imulN F dX4_simple_262 ?_
    refine q_iload_n F dX4_simple_263 rfl ?_
    refine q_iaddN F dX4_simple_264 ?_
    refine q_iload F dX4_simple_265 rfl ?_
    refine q_kast F 5 (_) q_m25 rfl rfl rfl (by omega) (by decide) dX4_simple_267 ?_
    refine q_iload_n F dX4_simple_268 rfl ?_
    refine q_bipush F (nI 7) dX4_simple_269 (by decide) ?_
    refine q_icmpN_ne F 278 dX4_simple_271 (by decide) (by omega) (by omega) (fun h271 => ?_) (fun h271 => ?_)
    · refine q_iconst F (nI 1) dX4_simple_278 (by decide) ?_
      refine q_iret F E rfl ⟨rfl, by show _ = q_put S (if (K 5 (8 * p + a)).toInt < (K 5 (8 * p + b)).toInt then k_u K 6 p c else K); first | (rw [if_pos h213, k_u_id _ _ _ _ (k_u_ne _ _ _ _ (by simp))]; done) | (rw [if_neg (by omega), k_u_self, k_u_self]; done)⟩ dX4_simple_279
    · exact absurd h271 (by decide)

set_option maxRecDepth 100000 in
set_option maxHeartbeats 4000000 in
theorem t_simple7 {G : q_g} {n : Nat} {ad : q_ix → Nat} (l : Launch) (S : q_st) (K : k_t) {p a b : Nat} {c : Int32} (hp : p < 8) (ha : a < 8) (hb : b < 8) (hbr : (K 7 p).toInt ≤ 64) {m : Nat} (hm : K 0 15 = nI m) (hm2 : m < 2 ^ 30) : q_Ct l G iX4_simple [.inr (some (20, 0)), .inl (nI p), .inl (nI 7), .inl (nI a), .inl (nI b), .inl c] (q_w G n ad) (q_put S K) (q_pi (q_w G n ad) (fun r S' => r = (k_op K p 7 a b c).1 ∧ S' = q_put S (k_op K p 7 a b c).2)) := by
  refine q_enter (by decide) (Nat.le_of_ble_eq_true rfl) (fun X F E => ?_)
  show q_W G X iX4_simple (q_w G n ad) (0, 0) 0 [some (.inr (some (20, 0))), some (.inl (nI p)), some (.inl (nI 7)), some (.inl (nI a)), some (.inl (nI b)), some (.inl c), none, none, none] [] (q_put S K)
  refine q_aload_n F dX4_simple_0 rfl ?_
  refine q_getr F (k := 6) fkX4_22 q_m20 rfl rfl dX4_simple_1 ?_
  refine q_bipush F (nI 8) dX4_simple_4 (by decide) ?_
  refine q_iload_n F dX4_simple_6 rfl ?_
  refine q_imulN F dX4_simple_7 ?_
  refine q_iload_n F dX4_simple_8 rfl ?_
  refine q_iaddN F dX4_simple_9 ?_
  refine q_kald F 5 (_) q_m25 rfl rfl rfl (by omega) (by decide) dX4_simple_10 ?_
  refine q_istore_6 F dX4_simple_11 (by decide) ?_
  refine q_aload_n F dX4_simple_13 rfl ?_
  refine q_getr F (k := 6) fkX4_22 q_m20 rfl rfl dX4_simple_14 ?_
  refine q_bipush F (nI 8) dX4_simple_17 (by decide) ?_
  refine q_iload_n F dX4_simple_19 rfl ?_
  refine q_imulN F dX4_simple_20 ?_
  refine q_iload F dX4_simple_21 rfl ?_
  refine q_iaddN F dX4_simple_23 ?_
  refine q_kald F 5 (_) q_m25 rfl rfl rfl (by omega) (by decide) dX4_simple_24 ?_
  refine q_istore_7 F dX4_simple_25 (by decide) ?_
  refine q_iload F dX4_simple_27 rfl ?_
  refine q_istore_8 F dX4_simple_29 (by decide) ?_
  refine q_iload_n F dX4_simple_31 rfl ?_
  refine q_tsw_out F 231 dX4_simple_32 (by decide) (by decide) ?_
  refine q_aload_n F dX4_simple_231 rfl ?_
  refine q_getr F (k := 16) fkX4_41 q_m20 rfl rfl dX4_simple_232 ?_
  refine q_aload_n F dX4_simple_235 rfl ?_
  refine q_kgeti F (k := 15) fkX4_95 rfl dX4_simple_236 ?_
  refine q_top (nI m) hm ?_
  refine q_bipush F (nI 32) dX4_simple_239 (by decide) ?_
  refine q_iremN F dX4_simple_241 (by omega) (by omega) (by omega) ?_
  refine q_iload F dX4_simple_242 rfl ?_
  refine q_kast F 10 (_) q_m30 rfl rfl rfl (by omega) (by decide) dX4_simple_244 ?_
  refine q_aload_n F dX4_simple_245 rfl ?_
  refine q_dup F dX4_simple_246 ?_
  refine q_kgeti F (k := 15) fkX4_95 rfl dX4_simple_247 ?_
  refine q_top (nI m) (by rw [k_u_ne _ _ _ _ (by simp)]; exact hm) ?_
  refine q_iconst F (nI 1) dX4_simple_250 (by decide) ?_
  refine q_iaddN F dX4_simple_251 ?_
  refine q_kputi F (k := 15) fkX4_95 fp4_15 rfl dX4_simple_252 ?_
  refine q_aload_n F dX4_simple_255 rfl ?_
  refine q_getr F (k := 6) fkX4_22 q_m20 rfl rfl dX4_simple_256 ?_
  refine q_bipush F (nI 8) dX4_simple_259 (by decide) ?_
  refine q_iload_n F dX4_simple_261 rfl ?_
  refine q_imulN F dX4_simple_262 ?_
  refine q_iload_n F dX4_simple_263 rfl ?_
  refine q_iaddN F dX4_simple_264 ?_
  refine q_iload F dX4_simple_265 rfl ?_
  refine q_kast F 5 (_) q_m25 rfl rfl rfl (by omega) (by decide) dX4_simple_267 ?_
  refine q_iload_n F dX4_simple_268 rfl ?_
  refine q_bipush F (nI 7) dX4_simple_269 (by decide) ?_
  refine q_icmpN_ne F 278 dX4_simple_271 (by decide) (by omega) (by omega) (fun h271 => ?_) (fun h271 => ?_)
  · exact absurd h271 (by decide)
  · refine q_iconst F (nI 2) dX4_simple_274 (by decide) ?_
    refine q_goto F 279 dX4_simple_275 (by decide) ?_
    refine q_iret F E rfl ⟨rfl, by show _ = q_put S (k_pr K (K 5 (8 * p + a))); unfold k_pr; rw [hm, nI_toInt (by omega), Int.toNat_natCast, k_u_id _ _ _ _ (by rw [k_u_ne _ _ _ _ (by simp), k_u_ne _ _ _ _ (by simp)]), nI_1]⟩ dX4_simple_279

set_option maxRecDepth 100000 in
set_option maxHeartbeats 4000000 in
theorem t_simple {G : q_g} {n : Nat} {ad : q_ix → Nat} (l : Launch) (S : q_st) (K : k_t) {p a b : Nat} {c : Int32} (hp : p < 8) (ha : a < 8) (hb : b < 8) (hbr : (K 7 p).toInt ≤ 64) {op : Nat} (hop : op < 8) {m : Nat} (hm : K 0 15 = nI m) (hm2 : m < 2 ^ 30) : q_Ct l G iX4_simple [.inr (some (20, 0)), .inl (nI p), .inl (nI op), .inl (nI a), .inl (nI b), .inl c] (q_w G n ad) (q_put S K) (q_pi (q_w G n ad) (fun r S' => r = (k_op K p op a b c).1 ∧ S' = q_put S (k_op K p op a b c).2)) := by
  rcases (show op = 0 ∨ op = 1 ∨ op = 2 ∨ op = 3 ∨ op = 4 ∨ op = 5 ∨ op = 6 ∨ op = 7 by omega) with rfl | rfl | rfl | rfl | rfl | rfl | rfl | rfl
  · exact t_simple0 l S K hp ha hb hbr
  · exact t_simple1 l S K hp ha hb hbr
  · exact t_simple2 l S K hp ha hb hbr
  · exact t_simple3 l S K hp ha hb hbr
  · exact t_simple4 l S K hp ha hb hbr
  · exact t_simple5 l S K hp ha hb hbr
  · exact t_simple6 l S K hp ha hb hbr
  · exact t_simple7 l S K hp ha hb hbr hm hm2

theorem q_and15 (w : Int32) : ∃ j, j < 16 ∧ w &&& nI 15 = nI j ∧ (w &&& 15).toInt.toNat = j := by
  obtain ⟨j, hj, h⟩ := pk_andE w (m := 15) 4 (by decide)
  have h2 : w &&& 15 = nI j := h
  exact ⟨j, hj, h, by rw [h2, nI_toInt (by omega)]; rfl⟩
theorem q_and7 (w : Int32) : ∃ j, j < 8 ∧ w &&& nI 7 = nI j ∧ (w &&& 7).toInt.toNat = j := by
  obtain ⟨j, hj, h⟩ := pk_andE w (m := 7) 3 (by decide)
  have h2 : w &&& 7 = nI j := h
  exact ⟨j, hj, h, by rw [h2, nI_toInt (by omega)]; rfl⟩
def k_Par (K : k_t) : Prop := ∀ j, j < 8 → K 3 j = -1 ∨ ∃ r, r < 8 ∧ K 3 j = nI r

set_option maxRecDepth 100000 in
set_option maxHeartbeats 4000000 in
theorem lp_perform8 {G : q_g} {n : Nat} {ad : q_ix → Nat} {X : q_cx} (F : q_fx G X iX4_perform) {S : q_st} {K : k_t} {p a b : Nat} {w : Int32} (hp : p < 8) (ha : a < 8) (hb : b < 8) {b0 : Nat} (hb0 : K 7 p = nI b0) (hb064 : b0 ≤ 64) (hpar : k_Par K) (hst : ¬ K 2 p = 0) (E : q_en G X iX4_perform (q_pi (q_w G n ad) (fun r S' => r = (k_dn K p w).1 ∧ S' = q_put S (k_dn K p w).2))) (hdn : k_dn K p w = k_op K p 8 a b (w >>> 10)) : q_W G X iX4_perform (q_w G n ad) (0, 0) 28 [some (.inr (some (20, 0))), some (.inl (nI p)), some (.inl w), some (.inl (nI 8)), some (.inl (nI a)), some (.inl (nI b)), some (.inl (w >>> 10))] [] (q_put S K) := by
  refine q_iload_n F dX4_perform_28 rfl ?_
  refine q_bipush F (nI 8) dX4_perform_29 (by decide) ?_
  refine q_icmpN_ge F 47 dX4_perform_31 (by decide) (by omega) (by omega) (fun h31 => ?_) (fun h31 => ?_)
  · refine q_iload_n F dX4_perform_47 rfl ?_
    refine q_bipush F (nI 8) dX4_perform_48 (by decide) ?_
    refine q_icmpN_ne F 61 dX4_perform_50 (by decide) (by omega) (by omega) (fun h50 => ?_) (fun h50 => ?_)
    · exact absurd h50 (by decide)
    · refine q_aload_n F dX4_perform_53 rfl ?_
      refine q_iload_n F dX4_perform_54 rfl ?_
      refine q_iload F dX4_perform_55 rfl ?_
      refine q_callVi F [.inl (nI p), .inl (nI a)] (fun l => t_mfork l S K hp ha hst) clX4_102 rfl q_m20 rfl rfl rfl ⟨Nat.le_of_ble_eq_true rfl, Nat.le_of_ble_eq_true rfl⟩ (Nat.le_of_ble_eq_true rfl) ⟨rfl, rfl⟩ ⟨Nat.zero_le _, Nat.zero_le _⟩ dX4_perform_57 (fun v S' hv => ?_)
      obtain ⟨hv, hS⟩ := hv
      subst hS
      subst hv
      refine q_iret F E rfl (by rw [hdn]; exact ⟨rfl, rfl⟩) dX4_perform_60
  · exact absurd h31 (by decide)

set_option maxRecDepth 100000 in
set_option maxHeartbeats 4000000 in
theorem lp_perform9 {G : q_g} {n : Nat} {ad : q_ix → Nat} {X : q_cx} (F : q_fx G X iX4_perform) {S : q_st} {K : k_t} {p a b : Nat} {w : Int32} (hp : p < 8) (ha : a < 8) (hb : b < 8) {b0 : Nat} (hb0 : K 7 p = nI b0) (hb064 : b0 ≤ 64) (hpar : k_Par K) (hst : ¬ K 2 p = 0) (E : q_en G X iX4_perform (q_pi (q_w G n ad) (fun r S' => r = (k_dn K p w).1 ∧ S' = q_put S (k_dn K p w).2))) (hdn : k_dn K p w = k_op K p 9 a b (w >>> 10)) : q_W G X iX4_perform (q_w G n ad) (0, 0) 28 [some (.inr (some (20, 0))), some (.inl (nI p)), some (.inl w), some (.inl (nI 9)), some (.inl (nI a)), some (.inl (nI b)), some (.inl (w >>> 10))] [] (q_put S K) := by
  refine q_iload_n F dX4_perform_28 rfl ?_
  refine q_bipush F (nI 8) dX4_perform_29 (by decide) ?_
  refine q_icmpN_ge F 47 dX4_perform_31 (by decide) (by omega) (by omega) (fun h31 => ?_) (fun h31 => ?_)
  · refine q_iload_n F dX4_perform_47 rfl ?_
    refine q_bipush F (nI 8) dX4_perform_48 (by decide) ?_
    refine q_icmpN_ne F 61 dX4_perform_50 (by decide) (by omega) (by omega) (fun h50 => ?_) (fun h50 => ?_)
    · refine q_iload_n F dX4_perform_61 rfl ?_
      refine q_bipush F (nI 9) dX4_perform_62 (by decide) ?_
      refine q_icmpN_ne F 76 dX4_perform_64 (by decide) (by omega) (by omega) (fun h64 => ?_) (fun h64 => ?_)
      · exact absurd h64 (by decide)
      · refine q_aload_n F dX4_perform_67 rfl ?_
        refine q_iload_n F dX4_perform_68 rfl ?_
        refine q_iload F dX4_perform_69 rfl ?_
        refine q_iload F dX4_perform_71 rfl ?_
        refine q_callVv F [.inl (nI p), .inl (nI a), .inl (w >>> 10)] (fun l => t_mgrow l S K hp ha hb0 hb064) clX4_106 rfl q_m20 rfl rfl rfl ⟨Nat.le_of_ble_eq_true rfl, Nat.le_of_ble_eq_true rfl⟩ (Nat.le_of_ble_eq_true rfl) ⟨rfl, rfl⟩ ⟨Nat.zero_le _, Nat.zero_le _⟩ dX4_perform_73 (fun S' hS => ?_)
        subst hS
        refine q_iload_n F dX4_perform_76 rfl ?_
        refine q_bipush F (nI 11) dX4_perform_77 (by decide) ?_
        refine q_icmpN_ne F 90 dX4_perform_79 (by decide) (by omega) (by omega) (fun h79 => ?_) (fun h79 => ?_)
        · refine q_iload_n F dX4_perform_90 rfl ?_
          refine q_bipush F (nI 12) dX4_perform_91 (by decide) ?_
          refine q_icmpN_ne F 104 dX4_perform_93 (by decide) (by omega) (by omega) (fun h93 => ?_) (fun h93 => ?_)
          · refine q_iload_n F dX4_perform_104 rfl ?_
            refine q_bipush F (nI 13) dX4_perform_105 (by decide) ?_
            refine q_icmpN_ne F 123 dX4_perform_107 (by decide) (by omega) (by omega) (fun h107 => ?_) (fun h107 => ?_)
            · refine q_iload_n F dX4_perform_123 rfl ?_
              refine q_bipush F (nI 13) dX4_perform_124 (by decide) ?_
              refine q_icmpN_le F 135 dX4_perform_126 (by decide) (by omega) (by omega) (fun h126 => ?_) (fun h126 => ?_)
              · refine q_iload_n F dX4_perform_135 rfl ?_
                refine q_bipush F (nI 10) dX4_perform_136 (by decide) ?_
                refine q_icmpN_ne F 160 dX4_perform_138 (by decide) (by omega) (by omega) (fun h138 => ?_) (fun h138 => ?_)
                · refine q_iconst F (nI 1) dX4_perform_160 (by decide) ?_
                  refine q_iret F E rfl (by rw [hdn]; exact ⟨rfl, rfl⟩) dX4_perform_161
                · exact absurd h138 (by decide)
              · exact absurd h126 (by decide)
            · exact absurd h107 (by decide)
          · exact absurd h93 (by decide)
        · exact absurd h79 (by decide)
    · exact absurd h50 (by decide)
  · exact absurd h31 (by decide)

set_option maxRecDepth 100000 in
set_option maxHeartbeats 4000000 in
theorem lp_perform10 {G : q_g} {n : Nat} {ad : q_ix → Nat} {X : q_cx} (F : q_fx G X iX4_perform) {S : q_st} {K : k_t} {p a b : Nat} {w : Int32} (hp : p < 8) (ha : a < 8) (hb : b < 8) {b0 : Nat} (hb0 : K 7 p = nI b0) (hb064 : b0 ≤ 64) (hpar : k_Par K) (hst : ¬ K 2 p = 0) (E : q_en G X iX4_perform (q_pi (q_w G n ad) (fun r S' => r = (k_dn K p w).1 ∧ S' = q_put S (k_dn K p w).2))) (hdn : k_dn K p w = k_op K p 10 a b (w >>> 10)) : q_W G X iX4_perform (q_w G n ad) (0, 0) 28 [some (.inr (some (20, 0))), some (.inl (nI p)), some (.inl w), some (.inl (nI 10)), some (.inl (nI a)), some (.inl (nI b)), some (.inl (w >>> 10))] [] (q_put S K) := by
  refine q_iload_n F dX4_perform_28 rfl ?_
  refine q_bipush F (nI 8) dX4_perform_29 (by decide) ?_
  refine q_icmpN_ge F 47 dX4_perform_31 (by decide) (by omega) (by omega) (fun h31 => ?_) (fun h31 => ?_)
  · refine q_iload_n F dX4_perform_47 rfl ?_
    refine q_bipush F (nI 8) dX4_perform_48 (by decide) ?_
    refine q_icmpN_ne F 61 dX4_perform_50 (by decide) (by omega) (by omega) (fun h50 => ?_) (fun h50 => ?_)
    · refine q_iload_n F dX4_perform_61 rfl ?_
      refine q_bipush F (nI 9) dX4_perform_62 (by decide) ?_
      refine q_icmpN_ne F 76 dX4_perform_64 (by decide) (by omega) (by omega) (fun h64 => ?_) (fun h64 => ?_)
      · refine q_iload_n F dX4_perform_76 rfl ?_
        refine q_bipush F (nI 11) dX4_perform_77 (by decide) ?_
        refine q_icmpN_ne F 90 dX4_perform_79 (by decide) (by omega) (by omega) (fun h79 => ?_) (fun h79 => ?_)
        · refine q_iload_n F dX4_perform_90 rfl ?_
          refine q_bipush F (nI 12) dX4_perform_91 (by decide) ?_
          refine q_icmpN_ne F 104 dX4_perform_93 (by decide) (by omega) (by omega) (fun h93 => ?_) (fun h93 => ?_)
          · refine q_iload_n F dX4_perform_104 rfl ?_
            refine q_bipush F (nI 13) dX4_perform_105 (by decide) ?_
            refine q_icmpN_ne F 123 dX4_perform_107 (by decide) (by omega) (by omega) (fun h107 => ?_) (fun h107 => ?_)
            · refine q_iload_n F dX4_perform_123 rfl ?_
              refine q_bipush F (nI 13) dX4_perform_124 (by decide) ?_
              refine q_icmpN_le F 135 dX4_perform_126 (by decide) (by omega) (by omega) (fun h126 => ?_) (fun h126 => ?_)
              · refine q_iload_n F dX4_perform_135 rfl ?_
                refine q_bipush F (nI 10) dX4_perform_136 (by decide) ?_
                refine q_icmpN_ne F 160 dX4_perform_138 (by decide) (by omega) (by omega) (fun h138 => ?_) (fun h138 => ?_)
                · exact absurd h138 (by decide)
                · refine q_aload_n F dX4_perform_141 rfl ?_
                  refine q_iload_n F dX4_perform_142 rfl ?_
                  refine q_aload_n F dX4_perform_143 rfl ?_
                  refine q_getr F (k := 6) fkX4_22 q_m20 rfl rfl dX4_perform_144 ?_
                  refine q_bipush F (nI 8) dX4_perform_147 (by decide) ?_
                  refine q_iload_n F dX4_perform_149 rfl ?_
                  refine q_imulN F dX4_perform_150 ?_
                  refine q_iload F dX4_perform_151 rfl ?_
                  refine q_iaddN F dX4_perform_153 ?_
                  refine q_kald F 5 (_) q_m25 rfl rfl rfl (by omega) (by decide) dX4_perform_154 ?_
                  refine q_callVv F [.inl (nI p), .inl (K 5 (8 * p + a))] (fun l => t_mend l S K hp hpar) clX4_81 rfl q_m20 rfl rfl rfl ⟨Nat.le_of_ble_eq_true rfl, Nat.le_of_ble_eq_true rfl⟩ (Nat.le_of_ble_eq_true rfl) ⟨rfl, rfl⟩ ⟨Nat.zero_le _, Nat.zero_le _⟩ dX4_perform_155 (fun S' hS => ?_)
                  subst hS
                  refine q_iconst F (nI 5) dX4_perform_158 (by decide) ?_
                  refine q_iret F E rfl (by rw [hdn]; exact ⟨rfl, rfl⟩) dX4_perform_159
              · exact absurd h126 (by decide)
            · exact absurd h107 (by decide)
          · exact absurd h93 (by decide)
        · exact absurd h79 (by decide)
      · exact absurd h64 (by decide)
    · exact absurd h50 (by decide)
  · exact absurd h31 (by decide)

set_option maxRecDepth 100000 in
set_option maxHeartbeats 4000000 in
theorem lp_perform11 {G : q_g} {n : Nat} {ad : q_ix → Nat} {X : q_cx} (F : q_fx G X iX4_perform) {S : q_st} {K : k_t} {p a b : Nat} {w : Int32} (hp : p < 8) (ha : a < 8) (hb : b < 8) {b0 : Nat} (hb0 : K 7 p = nI b0) (hb064 : b0 ≤ 64) (hpar : k_Par K) (hst : ¬ K 2 p = 0) (E : q_en G X iX4_perform (q_pi (q_w G n ad) (fun r S' => r = (k_dn K p w).1 ∧ S' = q_put S (k_dn K p w).2))) (hdn : k_dn K p w = k_op K p 11 a b (w >>> 10)) : q_W G X iX4_perform (q_w G n ad) (0, 0) 28 [some (.inr (some (20, 0))), some (.inl (nI p)), some (.inl w), some (.inl (nI 11)), some (.inl (nI a)), some (.inl (nI b)), some (.inl (w >>> 10))] [] (q_put S K) := by
  refine q_iload_n F dX4_perform_28 rfl ?_
  refine q_bipush F (nI 8) dX4_perform_29 (by decide) ?_
  refine q_icmpN_ge F 47 dX4_perform_31 (by decide) (by omega) (by omega) (fun h31 => ?_) (fun h31 => ?_)
  · refine q_iload_n F dX4_perform_47 rfl ?_
    refine q_bipush F (nI 8) dX4_perform_48 (by decide) ?_
    refine q_icmpN_ne F 61 dX4_perform_50 (by decide) (by omega) (by omega) (fun h50 => ?_) (fun h50 => ?_)
    · refine q_iload_n F dX4_perform_61 rfl ?_
      refine q_bipush F (nI 9) dX4_perform_62 (by decide) ?_
      refine q_icmpN_ne F 76 dX4_perform_64 (by decide) (by omega) (by omega) (fun h64 => ?_) (fun h64 => ?_)
      · refine q_iload_n F dX4_perform_76 rfl ?_
        refine q_bipush F (nI 11) dX4_perform_77 (by decide) ?_
        refine q_icmpN_ne F 90 dX4_perform_79 (by decide) (by omega) (by omega) (fun h79 => ?_) (fun h79 => ?_)
        · exact absurd h79 (by decide)
        · refine q_aload_n F dX4_perform_82 rfl ?_
          refine q_iload_n F dX4_perform_83 rfl ?_
          refine q_iload F dX4_perform_84 rfl ?_
          refine q_callVi F [.inl (nI p), .inl (nI a)] (fun l => t_mawait l S K hp ha) clX4_110 rfl q_m20 rfl rfl rfl ⟨Nat.le_of_ble_eq_true rfl, Nat.le_of_ble_eq_true rfl⟩ (Nat.le_of_ble_eq_true rfl) ⟨rfl, rfl⟩ ⟨Nat.zero_le _, Nat.zero_le _⟩ dX4_perform_86 (fun v S' hv => ?_)
          obtain ⟨hv, hS⟩ := hv
          subst hS
          subst hv
          refine q_iret F E rfl (by rw [hdn]; exact ⟨rfl, rfl⟩) dX4_perform_89
      · exact absurd h64 (by decide)
    · exact absurd h50 (by decide)
  · exact absurd h31 (by decide)

set_option maxRecDepth 100000 in
set_option maxHeartbeats 4000000 in
theorem lp_perform12 {G : q_g} {n : Nat} {ad : q_ix → Nat} {X : q_cx} (F : q_fx G X iX4_perform) {S : q_st} {K : k_t} {p a b : Nat} {w : Int32} (hp : p < 8) (ha : a < 8) (hb : b < 8) {b0 : Nat} (hb0 : K 7 p = nI b0) (hb064 : b0 ≤ 64) (hpar : k_Par K) (hst : ¬ K 2 p = 0) (E : q_en G X iX4_perform (q_pi (q_w G n ad) (fun r S' => r = (k_dn K p w).1 ∧ S' = q_put S (k_dn K p w).2))) (hdn : k_dn K p w = k_op K p 12 a b (w >>> 10)) : q_W G X iX4_perform (q_w G n ad) (0, 0) 28 [some (.inr (some (20, 0))), some (.inl (nI p)), some (.inl w), some (.inl (nI 12)), some (.inl (nI a)), some (.inl (nI b)), some (.inl (w >>> 10))] [] (q_put S K) := by
  refine q_iload_n F dX4_perform_28 rfl ?_
  refine q_bipush F (nI 8) dX4_perform_29 (by decide) ?_
  refine q_icmpN_ge F 47 dX4_perform_31 (by decide) (by omega) (by omega) (fun h31 => ?_) (fun h31 => ?_)
  · refine q_iload_n F dX4_perform_47 rfl ?_
    refine q_bipush F (nI 8) dX4_perform_48 (by decide) ?_
    refine q_icmpN_ne F 61 dX4_perform_50 (by decide) (by omega) (by omega) (fun h50 => ?_) (fun h50 => ?_)
    · refine q_iload_n F dX4_perform_61 rfl ?_
      refine q_bipush F (nI 9) dX4_perform_62 (by decide) ?_
      refine q_icmpN_ne F 76 dX4_perform_64 (by decide) (by omega) (by omega) (fun h64 => ?_) (fun h64 => ?_)
      · refine q_iload_n F dX4_perform_76 rfl ?_
        refine q_bipush F (nI 11) dX4_perform_77 (by decide) ?_
        refine q_icmpN_ne F 90 dX4_perform_79 (by decide) (by omega) (by omega) (fun h79 => ?_) (fun h79 => ?_)
        · refine q_iload_n F dX4_perform_90 rfl ?_
          refine q_bipush F (nI 12) dX4_perform_91 (by decide) ?_
          refine q_icmpN_ne F 104 dX4_perform_93 (by decide) (by omega) (by omega) (fun h93 => ?_) (fun h93 => ?_)
          · exact absurd h93 (by decide)
          · refine q_aload_n F dX4_perform_96 rfl ?_
            refine q_aload_n F dX4_perform_97 rfl ?_
            refine q_kgeti F (k := 1) fkX4_47 rfl dX4_perform_98 ?_
            refine q_kputi F (k := 13) fkX4_88 fp4_13 rfl dX4_perform_101 ?_
            refine q_iload_n F dX4_perform_104 rfl ?_
            refine q_bipush F (nI 13) dX4_perform_105 (by decide) ?_
            refine q_icmpN_ne F 123 dX4_perform_107 (by decide) (by omega) (by omega) (fun h107 => ?_) (fun h107 => ?_)
            · refine q_iload_n F dX4_perform_123 rfl ?_
              refine q_bipush F (nI 13) dX4_perform_124 (by decide) ?_
              refine q_icmpN_le F 135 dX4_perform_126 (by decide) (by omega) (by omega) (fun h126 => ?_) (fun h126 => ?_)
              · refine q_iload_n F dX4_perform_135 rfl ?_
                refine q_bipush F (nI 10) dX4_perform_136 (by decide) ?_
                refine q_icmpN_ne F 160 dX4_perform_138 (by decide) (by omega) (by omega) (fun h138 => ?_) (fun h138 => ?_)
                · refine q_iconst F (nI 1) dX4_perform_160 (by decide) ?_
                  refine q_iret F E rfl (by rw [hdn]; exact ⟨rfl, rfl⟩) dX4_perform_161
                · exact absurd h138 (by decide)
              · exact absurd h126 (by decide)
            · exact absurd h107 (by decide)
        · exact absurd h79 (by decide)
      · exact absurd h64 (by decide)
    · exact absurd h50 (by decide)
  · exact absurd h31 (by decide)

set_option maxRecDepth 100000 in
set_option maxHeartbeats 4000000 in
theorem lp_perform13 {G : q_g} {n : Nat} {ad : q_ix → Nat} {X : q_cx} (F : q_fx G X iX4_perform) {S : q_st} {K : k_t} {p a b : Nat} {w : Int32} (hp : p < 8) (ha : a < 8) (hb : b < 8) {b0 : Nat} (hb0 : K 7 p = nI b0) (hb064 : b0 ≤ 64) (hpar : k_Par K) (hst : ¬ K 2 p = 0) (E : q_en G X iX4_perform (q_pi (q_w G n ad) (fun r S' => r = (k_dn K p w).1 ∧ S' = q_put S (k_dn K p w).2))) (hdn : k_dn K p w = k_op K p 13 a b (w >>> 10)) : q_W G X iX4_perform (q_w G n ad) (0, 0) 28 [some (.inr (some (20, 0))), some (.inl (nI p)), some (.inl w), some (.inl (nI 13)), some (.inl (nI a)), some (.inl (nI b)), some (.inl (w >>> 10))] [] (q_put S K) := by
  refine q_iload_n F dX4_perform_28 rfl ?_
  refine q_bipush F (nI 8) dX4_perform_29 (by decide) ?_
  refine q_icmpN_ge F 47 dX4_perform_31 (by decide) (by omega) (by omega) (fun h31 => ?_) (fun h31 => ?_)
  · refine q_iload_n F dX4_perform_47 rfl ?_
    refine q_bipush F (nI 8) dX4_perform_48 (by decide) ?_
    refine q_icmpN_ne F 61 dX4_perform_50 (by decide) (by omega) (by omega) (fun h50 => ?_) (fun h50 => ?_)
    · refine q_iload_n F dX4_perform_61 rfl ?_
      refine q_bipush F (nI 9) dX4_perform_62 (by decide) ?_
      refine q_icmpN_ne F 76 dX4_perform_64 (by decide) (by omega) (by omega) (fun h64 => ?_) (fun h64 => ?_)
      · refine q_iload_n F dX4_perform_76 rfl ?_
        refine q_bipush F (nI 11) dX4_perform_77 (by decide) ?_
        refine q_icmpN_ne F 90 dX4_perform_79 (by decide) (by omega) (by omega) (fun h79 => ?_) (fun h79 => ?_)
        · refine q_iload_n F dX4_perform_90 rfl ?_
          refine q_bipush F (nI 12) dX4_perform_91 (by decide) ?_
          refine q_icmpN_ne F 104 dX4_perform_93 (by decide) (by omega) (by omega) (fun h93 => ?_) (fun h93 => ?_)
          · refine q_iload_n F dX4_perform_104 rfl ?_
            refine q_bipush F (nI 13) dX4_perform_105 (by decide) ?_
            refine q_icmpN_ne F 123 dX4_perform_107 (by decide) (by omega) (by omega) (fun h107 => ?_) (fun h107 => ?_)
            · exact absurd h107 (by decide)
            · refine q_aload_n F dX4_perform_110 rfl ?_
              refine q_getr F (k := 6) fkX4_22 q_m20 rfl rfl dX4_perform_111 ?_
              refine q_bipush F (nI 8) dX4_perform_114 (by decide) ?_
              refine q_iload_n F dX4_perform_116 rfl ?_
              refine q_imulN F dX4_perform_117 ?_
              refine q_iload F dX4_perform_118 rfl ?_
              refine q_iaddN F dX4_perform_120 ?_
              refine q_iload_n F dX4_perform_121 rfl ?_
              refine q_kast F 5 (_) q_m25 rfl rfl rfl (by omega) (by decide) dX4_perform_122 ?_
              refine q_iload_n F dX4_perform_123 rfl ?_
              refine q_bipush F (nI 13) dX4_perform_124 (by decide) ?_
              refine q_icmpN_le F 135 dX4_perform_126 (by decide) (by omega) (by omega) (fun h126 => ?_) (fun h126 => ?_)
              · refine q_iload_n F dX4_perform_135 rfl ?_
                refine q_bipush F (nI 10) dX4_perform_136 (by decide) ?_
                refine q_icmpN_ne F 160 dX4_perform_138 (by decide) (by omega) (by omega) (fun h138 => ?_) (fun h138 => ?_)
                · refine q_iconst F (nI 1) dX4_perform_160 (by decide) ?_
                  refine q_iret F E rfl (by rw [hdn]; exact ⟨rfl, rfl⟩) dX4_perform_161
                · exact absurd h138 (by decide)
              · exact absurd h126 (by decide)
          · exact absurd h93 (by decide)
        · exact absurd h79 (by decide)
      · exact absurd h64 (by decide)
    · exact absurd h50 (by decide)
  · exact absurd h31 (by decide)

set_option maxRecDepth 100000 in
set_option maxHeartbeats 4000000 in
theorem lp_perform14 {G : q_g} {n : Nat} {ad : q_ix → Nat} {X : q_cx} (F : q_fx G X iX4_perform) {S : q_st} {K : k_t} {p a b : Nat} {w : Int32} (hp : p < 8) (ha : a < 8) (hb : b < 8) {b0 : Nat} (hb0 : K 7 p = nI b0) (hb064 : b0 ≤ 64) (hpar : k_Par K) (hst : ¬ K 2 p = 0) (E : q_en G X iX4_perform (q_pi (q_w G n ad) (fun r S' => r = (k_dn K p w).1 ∧ S' = q_put S (k_dn K p w).2))) (hdn : k_dn K p w = k_op K p 14 a b (w >>> 10)) : q_W G X iX4_perform (q_w G n ad) (0, 0) 28 [some (.inr (some (20, 0))), some (.inl (nI p)), some (.inl w), some (.inl (nI 14)), some (.inl (nI a)), some (.inl (nI b)), some (.inl (w >>> 10))] [] (q_put S K) := by
  refine q_iload_n F dX4_perform_28 rfl ?_
  refine q_bipush F (nI 8) dX4_perform_29 (by decide) ?_
  refine q_icmpN_ge F 47 dX4_perform_31 (by decide) (by omega) (by omega) (fun h31 => ?_) (fun h31 => ?_)
  · refine q_iload_n F dX4_perform_47 rfl ?_
    refine q_bipush F (nI 8) dX4_perform_48 (by decide) ?_
    refine q_icmpN_ne F 61 dX4_perform_50 (by decide) (by omega) (by omega) (fun h50 => ?_) (fun h50 => ?_)
    · refine q_iload_n F dX4_perform_61 rfl ?_
      refine q_bipush F (nI 9) dX4_perform_62 (by decide) ?_
      refine q_icmpN_ne F 76 dX4_perform_64 (by decide) (by omega) (by omega) (fun h64 => ?_) (fun h64 => ?_)
      · refine q_iload_n F dX4_perform_76 rfl ?_
        refine q_bipush F (nI 11) dX4_perform_77 (by decide) ?_
        refine q_icmpN_ne F 90 dX4_perform_79 (by decide) (by omega) (by omega) (fun h79 => ?_) (fun h79 => ?_)
        · refine q_iload_n F dX4_perform_90 rfl ?_
          refine q_bipush F (nI 12) dX4_perform_91 (by decide) ?_
          refine q_icmpN_ne F 104 dX4_perform_93 (by decide) (by omega) (by omega) (fun h93 => ?_) (fun h93 => ?_)
          · refine q_iload_n F dX4_perform_104 rfl ?_
            refine q_bipush F (nI 13) dX4_perform_105 (by decide) ?_
            refine q_icmpN_ne F 123 dX4_perform_107 (by decide) (by omega) (by omega) (fun h107 => ?_) (fun h107 => ?_)
            · refine q_iload_n F dX4_perform_123 rfl ?_
              refine q_bipush F (nI 13) dX4_perform_124 (by decide) ?_
              refine q_icmpN_le F 135 dX4_perform_126 (by decide) (by omega) (by omega) (fun h126 => ?_) (fun h126 => ?_)
              · exact absurd h126 (by decide)
              · refine q_aload_n F dX4_perform_129 rfl ?_
                refine q_bipush F (-12) dX4_perform_130 (by decide) ?_
                refine q_kputi F (k := 14) fkX4_54 fp4_14 rfl dX4_perform_132 ?_
                refine q_iload_n F dX4_perform_135 rfl ?_
                refine q_bipush F (nI 10) dX4_perform_136 (by decide) ?_
                refine q_icmpN_ne F 160 dX4_perform_138 (by decide) (by omega) (by omega) (fun h138 => ?_) (fun h138 => ?_)
                · refine q_iconst F (nI 1) dX4_perform_160 (by decide) ?_
                  refine q_iret F E rfl (by rw [hdn]; exact ⟨rfl, rfl⟩) dX4_perform_161
                · exact absurd h138 (by decide)
            · exact absurd h107 (by decide)
          · exact absurd h93 (by decide)
        · exact absurd h79 (by decide)
      · exact absurd h64 (by decide)
    · exact absurd h50 (by decide)
  · exact absurd h31 (by decide)

set_option maxRecDepth 100000 in
set_option maxHeartbeats 4000000 in
theorem lp_perform15 {G : q_g} {n : Nat} {ad : q_ix → Nat} {X : q_cx} (F : q_fx G X iX4_perform) {S : q_st} {K : k_t} {p a b : Nat} {w : Int32} (hp : p < 8) (ha : a < 8) (hb : b < 8) {b0 : Nat} (hb0 : K 7 p = nI b0) (hb064 : b0 ≤ 64) (hpar : k_Par K) (hst : ¬ K 2 p = 0) (E : q_en G X iX4_perform (q_pi (q_w G n ad) (fun r S' => r = (k_dn K p w).1 ∧ S' = q_put S (k_dn K p w).2))) (hdn : k_dn K p w = k_op K p 15 a b (w >>> 10)) : q_W G X iX4_perform (q_w G n ad) (0, 0) 28 [some (.inr (some (20, 0))), some (.inl (nI p)), some (.inl w), some (.inl (nI 15)), some (.inl (nI a)), some (.inl (nI b)), some (.inl (w >>> 10))] [] (q_put S K) := by
  refine q_iload_n F dX4_perform_28 rfl ?_
  refine q_bipush F (nI 8) dX4_perform_29 (by decide) ?_
  refine q_icmpN_ge F 47 dX4_perform_31 (by decide) (by omega) (by omega) (fun h31 => ?_) (fun h31 => ?_)
  · refine q_iload_n F dX4_perform_47 rfl ?_
    refine q_bipush F (nI 8) dX4_perform_48 (by decide) ?_
    refine q_icmpN_ne F 61 dX4_perform_50 (by decide) (by omega) (by omega) (fun h50 => ?_) (fun h50 => ?_)
    · refine q_iload_n F dX4_perform_61 rfl ?_
      refine q_bipush F (nI 9) dX4_perform_62 (by decide) ?_
      refine q_icmpN_ne F 76 dX4_perform_64 (by decide) (by omega) (by omega) (fun h64 => ?_) (fun h64 => ?_)
      · refine q_iload_n F dX4_perform_76 rfl ?_
        refine q_bipush F (nI 11) dX4_perform_77 (by decide) ?_
        refine q_icmpN_ne F 90 dX4_perform_79 (by decide) (by omega) (by omega) (fun h79 => ?_) (fun h79 => ?_)
        · refine q_iload_n F dX4_perform_90 rfl ?_
          refine q_bipush F (nI 12) dX4_perform_91 (by decide) ?_
          refine q_icmpN_ne F 104 dX4_perform_93 (by decide) (by omega) (by omega) (fun h93 => ?_) (fun h93 => ?_)
          · refine q_iload_n F dX4_perform_104 rfl ?_
            refine q_bipush F (nI 13) dX4_perform_105 (by decide) ?_
            refine q_icmpN_ne F 123 dX4_perform_107 (by decide) (by omega) (by omega) (fun h107 => ?_) (fun h107 => ?_)
            · refine q_iload_n F dX4_perform_123 rfl ?_
              refine q_bipush F (nI 13) dX4_perform_124 (by decide) ?_
              refine q_icmpN_le F 135 dX4_perform_126 (by decide) (by omega) (by omega) (fun h126 => ?_) (fun h126 => ?_)
              · exact absurd h126 (by decide)
              · refine q_aload_n F dX4_perform_129 rfl ?_
                refine q_bipush F (-12) dX4_perform_130 (by decide) ?_
                refine q_kputi F (k := 14) fkX4_54 fp4_14 rfl dX4_perform_132 ?_
                refine q_iload_n F dX4_perform_135 rfl ?_
                refine q_bipush F (nI 10) dX4_perform_136 (by decide) ?_
                refine q_icmpN_ne F 160 dX4_perform_138 (by decide) (by omega) (by omega) (fun h138 => ?_) (fun h138 => ?_)
                · refine q_iconst F (nI 1) dX4_perform_160 (by decide) ?_
                  refine q_iret F E rfl (by rw [hdn]; exact ⟨rfl, rfl⟩) dX4_perform_161
                · exact absurd h138 (by decide)
            · exact absurd h107 (by decide)
          · exact absurd h93 (by decide)
        · exact absurd h79 (by decide)
      · exact absurd h64 (by decide)
    · exact absurd h50 (by decide)
  · exact absurd h31 (by decide)

set_option maxRecDepth 100000 in
set_option maxHeartbeats 4000000 in
theorem lp_performS {G : q_g} {n : Nat} {ad : q_ix → Nat} {X : q_cx} (F : q_fx G X iX4_perform) {S : q_st} {K : k_t} {p a b j : Nat} {w : Int32} (hp : p < 8) (ha : a < 8) (hb : b < 8) {b0 : Nat} (hb0 : K 7 p = nI b0) (hb064 : b0 ≤ 64) {m : Nat} (hm : K 0 15 = nI m) (hm2 : m < 2 ^ 30) (h8 : j < 8) (E : q_en G X iX4_perform (q_pi (q_w G n ad) (fun r S' => r = (k_dn K p w).1 ∧ S' = q_put S (k_dn K p w).2))) (hdn : k_dn K p w = k_op K p j a b (w >>> 10)) : q_W G X iX4_perform (q_w G n ad) (0, 0) 28 [some (.inr (some (20, 0))), some (.inl (nI p)), some (.inl w), some (.inl (nI j)), some (.inl (nI a)), some (.inl (nI b)), some (.inl (w >>> 10))] [] (q_put S K) := by
  have hbr : (K 7 p).toInt ≤ 64 := by rw [hb0, nI_toInt (by omega)]; omega
  refine q_iload_n F dX4_perform_28 rfl ?_
  refine q_bipush F (nI 8) dX4_perform_29 (by decide) ?_
  refine q_icmpN_ge F 47 dX4_perform_31 (by decide) (by omega) (by omega) (fun h31 => ?_) (fun h31 => ?_)
  · exfalso; omega
  · refine q_aload_n F dX4_perform_34 rfl ?_
    refine q_iload_n F dX4_perform_35 rfl ?_
    refine q_iload_n F dX4_perform_36 rfl ?_
    refine q_iload F dX4_perform_37 rfl ?_
    refine q_iload F dX4_perform_39 rfl ?_
    refine q_iload F dX4_perform_41 rfl ?_
    refine q_callVi F [.inl (nI p), .inl (nI j), .inl (nI a), .inl (nI b), .inl (w >>> 10)] (fun l => t_simple l S K hp ha hb hbr h8 hm hm2) clX4_98 rfl q_m20 rfl rfl rfl ⟨Nat.le_of_ble_eq_true rfl, Nat.le_of_ble_eq_true rfl⟩ (Nat.le_of_ble_eq_true rfl) ⟨rfl, rfl⟩ ⟨Nat.zero_le _, Nat.zero_le _⟩ dX4_perform_43 (fun v S' hv => ?_)
    obtain ⟨hv, hS⟩ := hv
    subst hS
    subst hv
    refine q_iret F E rfl (by rw [hdn]; exact ⟨rfl, rfl⟩) dX4_perform_46

set_option maxRecDepth 100000 in
set_option maxHeartbeats 4000000 in
theorem t_perform {G : q_g} {n : Nat} {ad : q_ix → Nat} (l : Launch) (S : q_st) (K : k_t) {p : Nat} {w : Int32} (hp : p < 8) {b0 : Nat} (hb0 : K 7 p = nI b0) (hb064 : b0 ≤ 64) (hpar : k_Par K) (hst : ¬ K 2 p = 0) {m : Nat} (hm : K 0 15 = nI m) (hm2 : m < 2 ^ 30) : q_Ct l G iX4_perform [.inr (some (20, 0)), .inl (nI p), .inl w] (q_w G n ad) (q_put S K) (q_pi (q_w G n ad) (fun r S' => r = (k_dn K p w).1 ∧ S' = q_put S (k_dn K p w).2)) := by
  refine q_enter (by decide) (Nat.le_of_ble_eq_true rfl) (fun X F E => ?_)
  show q_W G X iX4_perform (q_w G n ad) (0, 0) 0 [some (.inr (some (20, 0))), some (.inl (nI p)), some (.inl w), none, none, none, none] [] (q_put S K)
  obtain ⟨j, hj16, hj, hjn⟩ := q_and15 w
  obtain ⟨a, ha8, ha, han⟩ := q_and7 (w >>> 4)
  obtain ⟨b, hb8, hb, hbn⟩ := q_and7 (w >>> 7)
  refine q_iload_n F dX4_perform_0 rfl ?_
  refine q_bipush F (nI 15) dX4_perform_1 (by decide) ?_
  refine q_iand F dX4_perform_3 ?_
  refine q_top (nI j) hj ?_
  refine q_istore_n_3 F dX4_perform_4 (by decide) ?_
  refine q_iload_n F dX4_perform_5 rfl ?_
  refine q_iconst F (nI 4) dX4_perform_6 (by decide) ?_
  refine q_ishr F dX4_perform_7 ?_
  refine q_top (w >>> 4) (by rw [show (nI 4 &&& 31 : Int32) = 4 by decide]) ?_
  refine q_bipush F (nI 7) dX4_perform_8 (by decide) ?_
  refine q_iand F dX4_perform_10 ?_
  refine q_top (nI a) ha ?_
  refine q_istore_4 F dX4_perform_11 (by decide) ?_
  refine q_iload_n F dX4_perform_13 rfl ?_
  refine q_bipush F (nI 7) dX4_perform_14 (by decide) ?_
  refine q_ishr F dX4_perform_16 ?_
  refine q_top (w >>> 7) (by rw [show (nI 7 &&& 31 : Int32) = 7 by decide]) ?_
  refine q_bipush F (nI 7) dX4_perform_17 (by decide) ?_
  refine q_iand F dX4_perform_19 ?_
  refine q_top (nI b) hb ?_
  refine q_istore_5 F dX4_perform_20 (by decide) ?_
  refine q_iload_n F dX4_perform_22 rfl ?_
  refine q_bipush F (nI 10) dX4_perform_23 (by decide) ?_
  refine q_ishr F dX4_perform_25 ?_
  refine q_top (w >>> 10) (by rw [show (nI 10 &&& 31 : Int32) = 10 by decide]) ?_
  refine q_istore_6 F dX4_perform_26 (by decide) ?_
  have hdn : k_dn K p w = k_op K p j a b (w >>> 10) := by unfold k_dn; rw [hjn, han, hbn]
  by_cases h8 : j < 8
  · exact lp_performS F hp ha8 hb8 hb0 hb064 hm hm2 h8 E hdn
  · rcases (show j = 8 ∨ j = 9 ∨ j = 10 ∨ j = 11 ∨ j = 12 ∨ j = 13 ∨ j = 14 ∨ j = 15 by omega) with rfl | rfl | rfl | rfl | rfl | rfl | rfl | rfl
    · exact lp_perform8 F hp ha8 hb8 hb0 hb064 hpar hst E hdn
    · exact lp_perform9 F hp ha8 hb8 hb0 hb064 hpar hst E hdn
    · exact lp_perform10 F hp ha8 hb8 hb0 hb064 hpar hst E hdn
    · exact lp_perform11 F hp ha8 hb8 hb0 hb064 hpar hst E hdn
    · exact lp_perform12 F hp ha8 hb8 hb0 hb064 hpar hst E hdn
    · exact lp_perform13 F hp ha8 hb8 hb0 hb064 hpar hst E hdn
    · exact lp_perform14 F hp ha8 hb8 hb0 hb064 hpar hst E hdn
    · exact lp_perform15 F hp ha8 hb8 hb0 hb064 hpar hst E hdn
