/-! the class: its ops (rows laid by wip/whole/m57.py) -/
theorem q_F_le {S : q_st} {K : k_t} {n L B B' : Nat} (h : B ≤ B') (hF : q_F S K n L B) : q_F S K n L B' := ⟨k_Ok_le h hF.1, hF.2⟩
/-- an op's answer and what it leaves, with the end that a fault brings -/
def q_op (S0 : q_st) (K : k_t) (n L B p : Nat) (Q : Int32 × k_t) (r : Int32) (S' : q_st) : Prop := ∃ L', L' ≤ L + 1 ∧ r = (k_s2 K p Q).1 ∧ q_F S' (k_s2 K p Q).2 n L' (B + 1) ∧ q_fr S0 S'
theorem q_op_of {S0 S' : q_st} {K : k_t} {n L B p : Nat} {Q : Int32 × k_t} {r : Int32} (h : ∃ L', L' ≤ L + 1 ∧ r = (k_s2 K p Q).1 ∧ q_F S' (k_s2 K p Q).2 n L' B ∧ q_fr S0 S') : q_op S0 K n L B p Q r S' := by
  obtain ⟨L', h1, h2, h3, h4⟩ := h
  exact ⟨L', h1, h2, q_F_le (Nat.le_succ B) h3, h4⟩
theorem q_op_id {S0 S' : q_st} {K : k_t} {n L B p : Nat} {Q : Int32 × k_t} (h14 : Q.2 0 14 = 0) (hF : q_F S' Q.2 n L (B + 1)) (hfr : q_fr S0 S') : q_op S0 K n L B p Q Q.1 S' := by
  have e : k_s2 K p Q = Q := by
    unfold k_s2
    rw [if_pos h14]
  refine ⟨L, Nat.le_succ L, by rw [e], by rw [e]; exact hF, hfr⟩
theorem q_op_id' {S0 S' : q_st} {K : k_t} {n L B p : Nat} {Q : Int32 × k_t} {r : Int32} (hr : r = Q.1) (h14 : Q.2 0 14 = 0) (hF : q_F S' Q.2 n L B) (hfr : q_fr S0 S') : q_op S0 K n L B p Q r S' := by
  rw [hr]
  exact q_op_id h14 (q_F_le (Nat.le_succ B) hF) hfr
theorem q_op_reg {S0 : q_st} {K : k_t} {n L B p a : Nat} {v : Int32} (hp : p < 8) (ha : a < 8) (hF : q_F S0 K n L B) (h14 : K 0 14 = 0) : q_op S0 K n L B p (nI 1, k_u K 5 (8 * p + a) v) (nI 1) (q_up S0 (6, p) a v) :=
  q_op_id' rfl (by show k_u K 5 (8 * p + a) v 0 14 = 0; rw [k_u_ne _ _ _ _ (by simp)]; exact h14) (q_F_up (q_tcR hp ha) (by simp) hF) (q_fr_up (by simp))
theorem q_F_pr {S : q_st} {K : k_t} {n L B m : Nat} {x : Int32} (hm : K 0 15 = nI m) (hm2 : m < 2 ^ 30) (h : q_F S K n L B) : q_F (q_up (q_up S (9, 0) (m % 32) x) (8, 0) 1 (nI (m + 1))) (k_pr K x) n L (B + 1) := by
  obtain ⟨h1, h2, h3, pg, us, lab, h4, h5⟩ := h
  have e : k_pr K x = k_u (k_u K 10 (m % 32) x) 0 15 (nI (m + 1)) := by
    unfold k_pr
    rw [hm, nI_toInt (by omega), Int.toNat_natCast, nI_1]
  have hsn : q_sn S (q_up (q_up S (9, 0) (m % 32) x) (8, 0) 1 (nI (m + 1))) := q_sn_tr (q_sn_up (by simp)) (q_sn_up (by simp))
  refine ⟨k_Ok_pr h1, ?_, ?_, pg, us, lab, ?_, ?_⟩
  · rw [e]
    exact q_T_up (Or.inr (Or.inr (Or.inr (Or.inr ⟨rfl, rfl, rfl, rfl⟩)))) (q_T_up (Or.inr (Or.inr (Or.inr (Or.inl ⟨rfl, rfl, rfl⟩)))) h2)
  · refine q_C_sn hsn ?_
    unfold q_C at *
    rw [e, k_u_ne _ _ _ _ (by simp), k_u_ne _ _ _ _ (by simp), k_u_ne _ _ _ _ (by simp), k_u_ne _ _ _ _ (by simp)]
    exact h3
  · refine q_R_sn hsn ?_ ?_ ?_ ?_ h4 <;> rw [e]
    · rw [k_u_k _ _ _ _ (by decide), k_u_k _ _ _ _ (by decide)]
    · rw [k_u_k _ _ _ _ (by decide), k_u_k _ _ _ _ (by decide)]
    · rw [k_u_ne _ _ _ _ (by simp), k_u_ne _ _ _ _ (by simp)]
    · rw [k_u_ne _ _ _ _ (by simp), k_u_ne _ _ _ _ (by simp)]
  · refine q_Zn_k ?_ h5
    rw [e, k_u_k _ _ _ _ (by decide), k_u_k _ _ _ _ (by decide)]
theorem q_F_yield {S : q_st} {K : k_t} {n L B : Nat} (h : q_F S K n L B) : q_F (q_up S (0, 0) 6 (S (0, 0) 4)) (k_u K 0 13 (K 0 1)) n L B ∧ q_fr S (q_up S (0, 0) 6 (S (0, 0) 4)) := by
  obtain ⟨h1, h2, h3, pg, us, lab, h4, h5⟩ := h
  have hq := h2.2.2.2.2.2
  refine ⟨⟨k_Ok_yield h1, ?_, ?_, pg, us, lab, ?_, q_Zn_k (k_u_k _ _ _ _ (by decide)) h5⟩, q_fr_up (by simp)⟩
  · obtain ⟨t1, t2, t3, t4, t5, t6⟩ := h2
    refine ⟨fun i hi => ?_, fun q hq => ?_, fun q r hq hr => ?_, ?_, fun i hi => ?_, ?_⟩
    · simp [q_up, k_u]; exact t1 i hi
    · simp [q_up, k_u]; exact t2 q hq
    · simp [q_up, k_u]; exact t3 q r hq hr
    · simp [q_up, k_u]; exact t4
    · simp [q_up, k_u]; exact t5 i hi
    · simp [q_up, k_u]; exact t6
  · unfold q_C at *
    simp [q_up, k_u, hq]
    exact h3.1
  · obtain ⟨hn, hM, h7, hh3, hh1, h0, hK0, h9, hl, hL0⟩ := h4
    refine ⟨hn, ?_, fun p i hp hi => ?_, fun f hf => ?_, ?_, ?_, ?_, ?_, ?_, hL0⟩
    · rw [q_up_other _ _ _ _ _ (by simp), k_u_k _ _ _ _ (by decide)]; exact hM
    · rw [q_up_other _ _ _ _ _ (by simp)]; exact h7 p i hp hi
    · rw [q_up_other _ _ _ _ _ (by simp)]; exact hh3 f hf
    · rw [q_up_other _ _ _ _ _ (by simp)]; exact hh1
    · rw [q_up_other _ _ _ _ _ (by simp)]; exact h0
    · rw [k_u_ne _ _ _ _ (by simp)]; exact hK0
    · rw [k_u_k _ _ _ _ (by decide)]; exact h9
    · rw [k_u_ne _ _ _ _ (by simp)]; exact hl

set_option maxRecDepth 100000 in
set_option maxHeartbeats 4000000 in
theorem t_ownOp0 {G : q_g} {n : Nat} {ad : q_ix → Nat} (l : Launch) (S0 : q_st) {K : k_t} {p a b L B : Nat} {c : Int32} (hp : p < 8) (ha : a < 8) (hb : b < 8) (hF : q_F S0 K n L B) (hL : L + 1 < 2 ^ 30) (hB : B < 2 ^ 30) (hlive : ¬ (K 2 p = 0 ∨ K 2 p = nI 3)) (h14 : K 0 14 = 0) : q_Ct l G iX3_doOwnOp [.inr (some (0, 0)), .inl (nI p), .inl (nI 0), .inl (nI a), .inl (nI b), .inl c] (q_w G n ad) (S0) (q_pi (q_w G n ad) (fun r S' => q_op S0 K n L B p (k_op K p 0 a b c) r S')) := by
  refine q_enter (by decide) (Nat.le_of_ble_eq_true rfl) (fun X F E => ?_)
  show q_W G X iX3_doOwnOp (q_w G n ad) (0, 0) 0 [some (.inr (some (0, 0))), some (.inl (nI p)), some (.inl (nI 0)), some (.inl (nI a)), some (.inl (nI b)), some (.inl c), none, none] [] (S0)
  refine q_aload_n F dX3_doOwnOp_0 rfl ?_
  refine q_getr F (k := 1) fkX3_20 q_m0 rfl rfl dX3_doOwnOp_1 ?_
  refine q_iload_n F dX3_doOwnOp_4 rfl ?_
  refine q_aald F (_) q_m4 rfl rfl (by omega) (by decide) rfl dX3_doOwnOp_5 ?_
  refine q_astore_6 F dX3_doOwnOp_6 (by decide) ?_
  refine q_aload F dX3_doOwnOp_8 rfl ?_
  refine q_getr F (k := 5) fkX3_103 (q_m5 (by omega)) rfl rfl dX3_doOwnOp_10 ?_
  refine q_astore_7 F dX3_doOwnOp_13 (by decide) ?_
  refine q_iload_n F dX3_doOwnOp_15 rfl ?_
  refine q_tsw_in F 60 dX3_doOwnOp_16 (by decide) (by decide) rfl (by decide) ?_
  refine q_aload F dX3_doOwnOp_60 rfl ?_
  refine q_iload_n F dX3_doOwnOp_62 rfl ?_
  refine q_iload F dX3_doOwnOp_63 rfl ?_
  refine q_iast F (_) (q_m6 (by omega)) rfl rfl (by omega) (by omega) dX3_doOwnOp_65 ?_
  refine q_iconst F (nI 1) dX3_doOwnOp_66 (by decide) ?_
  refine q_iret F E rfl (q_op_reg hp ha hF h14) dX3_doOwnOp_67

set_option maxRecDepth 100000 in
set_option maxHeartbeats 4000000 in
theorem t_ownOp1 {G : q_g} {n : Nat} {ad : q_ix → Nat} (l : Launch) (S0 : q_st) {K : k_t} {p a b L B : Nat} {c : Int32} (hp : p < 8) (ha : a < 8) (hb : b < 8) (hF : q_F S0 K n L B) (hL : L + 1 < 2 ^ 30) (hB : B < 2 ^ 30) (hlive : ¬ (K 2 p = 0 ∨ K 2 p = nI 3)) (h14 : K 0 14 = 0) : q_Ct l G iX3_doOwnOp [.inr (some (0, 0)), .inl (nI p), .inl (nI 1), .inl (nI a), .inl (nI b), .inl c] (q_w G n ad) (S0) (q_pi (q_w G n ad) (fun r S' => q_op S0 K n L B p (k_op K p 1 a b c) r S')) := by
  refine q_enter (by decide) (Nat.le_of_ble_eq_true rfl) (fun X F E => ?_)
  show q_W G X iX3_doOwnOp (q_w G n ad) (0, 0) 0 [some (.inr (some (0, 0))), some (.inl (nI p)), some (.inl (nI 1)), some (.inl (nI a)), some (.inl (nI b)), some (.inl c), none, none] [] (S0)
  refine q_aload_n F dX3_doOwnOp_0 rfl ?_
  refine q_getr F (k := 1) fkX3_20 q_m0 rfl rfl dX3_doOwnOp_1 ?_
  refine q_iload_n F dX3_doOwnOp_4 rfl ?_
  refine q_aald F (_) q_m4 rfl rfl (by omega) (by decide) rfl dX3_doOwnOp_5 ?_
  refine q_astore_6 F dX3_doOwnOp_6 (by decide) ?_
  refine q_aload F dX3_doOwnOp_8 rfl ?_
  refine q_getr F (k := 5) fkX3_103 (q_m5 (by omega)) rfl rfl dX3_doOwnOp_10 ?_
  refine q_astore_7 F dX3_doOwnOp_13 (by decide) ?_
  refine q_iload_n F dX3_doOwnOp_15 rfl ?_
  refine q_tsw_in F 68 dX3_doOwnOp_16 (by decide) (by decide) rfl (by decide) ?_
  refine q_aload F dX3_doOwnOp_68 rfl ?_
  refine q_iload_n F dX3_doOwnOp_70 rfl ?_
  refine q_aload F dX3_doOwnOp_71 rfl ?_
  refine q_iload_n F dX3_doOwnOp_73 rfl ?_
  refine q_iald F (_) (q_m6 (by omega)) rfl rfl (by omega) (by omega) dX3_doOwnOp_74 ?_
  refine q_top (K 5 (8 * p + a)) (hF.2.1.2.2.1 p a hp ha) ?_
  refine q_aload F dX3_doOwnOp_75 rfl ?_
  refine q_iload F dX3_doOwnOp_77 rfl ?_
  refine q_iald F (_) (q_m6 (by omega)) rfl rfl (by omega) (by omega) dX3_doOwnOp_79 ?_
  refine q_top (K 5 (8 * p + b)) (hF.2.1.2.2.1 p b hp hb) ?_
  refine q_iadd F dX3_doOwnOp_80 ?_
  refine q_iload F dX3_doOwnOp_81 rfl ?_
  refine q_iadd F dX3_doOwnOp_83 ?_
  refine q_iast F (_) (q_m6 (by omega)) rfl rfl (by omega) (by omega) dX3_doOwnOp_84 ?_
  refine q_iconst F (nI 1) dX3_doOwnOp_85 (by decide) ?_
  refine q_iret F E rfl (q_op_reg hp ha hF h14) dX3_doOwnOp_86

set_option maxRecDepth 100000 in
set_option maxHeartbeats 4000000 in
theorem t_ownOp2 {G : q_g} {n : Nat} {ad : q_ix → Nat} (l : Launch) (S0 : q_st) {K : k_t} {p a b L B : Nat} {c : Int32} (hp : p < 8) (ha : a < 8) (hb : b < 8) (hF : q_F S0 K n L B) (hL : L + 1 < 2 ^ 30) (hB : B < 2 ^ 30) (hlive : ¬ (K 2 p = 0 ∨ K 2 p = nI 3)) (h14 : K 0 14 = 0) : q_Ct l G iX3_doOwnOp [.inr (some (0, 0)), .inl (nI p), .inl (nI 2), .inl (nI a), .inl (nI b), .inl c] (q_w G n ad) (S0) (q_pi (q_w G n ad) (fun r S' => q_op S0 K n L B p (k_op K p 2 a b c) r S')) := by
  refine q_enter (by decide) (Nat.le_of_ble_eq_true rfl) (fun X F E => ?_)
  show q_W G X iX3_doOwnOp (q_w G n ad) (0, 0) 0 [some (.inr (some (0, 0))), some (.inl (nI p)), some (.inl (nI 2)), some (.inl (nI a)), some (.inl (nI b)), some (.inl c), none, none] [] (S0)
  refine q_aload_n F dX3_doOwnOp_0 rfl ?_
  refine q_getr F (k := 1) fkX3_20 q_m0 rfl rfl dX3_doOwnOp_1 ?_
  refine q_iload_n F dX3_doOwnOp_4 rfl ?_
  refine q_aald F (_) q_m4 rfl rfl (by omega) (by decide) rfl dX3_doOwnOp_5 ?_
  refine q_astore_6 F dX3_doOwnOp_6 (by decide) ?_
  refine q_aload F dX3_doOwnOp_8 rfl ?_
  refine q_getr F (k := 5) fkX3_103 (q_m5 (by omega)) rfl rfl dX3_doOwnOp_10 ?_
  refine q_astore_7 F dX3_doOwnOp_13 (by decide) ?_
  refine q_iload_n F dX3_doOwnOp_15 rfl ?_
  refine q_tsw_in F 87 dX3_doOwnOp_16 (by decide) (by decide) rfl (by decide) ?_
  refine q_aload F dX3_doOwnOp_87 rfl ?_
  refine q_iload_n F dX3_doOwnOp_89 rfl ?_
  refine q_aload F dX3_doOwnOp_90 rfl ?_
  refine q_iload_n F dX3_doOwnOp_92 rfl ?_
  refine q_iald F (_) (q_m6 (by omega)) rfl rfl (by omega) (by omega) dX3_doOwnOp_93 ?_
  refine q_top (K 5 (8 * p + a)) (hF.2.1.2.2.1 p a hp ha) ?_
  refine q_aload F dX3_doOwnOp_94 rfl ?_
  refine q_iload F dX3_doOwnOp_96 rfl ?_
  refine q_iald F (_) (q_m6 (by omega)) rfl rfl (by omega) (by omega) dX3_doOwnOp_98 ?_
  refine q_top (K 5 (8 * p + b)) (hF.2.1.2.2.1 p b hp hb) ?_
  refine q_isub F dX3_doOwnOp_99 ?_
  refine q_iast F (_) (q_m6 (by omega)) rfl rfl (by omega) (by omega) dX3_doOwnOp_100 ?_
  refine q_iconst F (nI 1) dX3_doOwnOp_101 (by decide) ?_
  refine q_iret F E rfl (q_op_reg hp ha hF h14) dX3_doOwnOp_102

set_option maxRecDepth 100000 in
set_option maxHeartbeats 4000000 in
theorem t_ownOp3 {G : q_g} {n : Nat} {ad : q_ix → Nat} (l : Launch) (S0 : q_st) {K : k_t} {p a b L B : Nat} {c : Int32} (hp : p < 8) (ha : a < 8) (hb : b < 8) (hF : q_F S0 K n L B) (hL : L + 1 < 2 ^ 30) (hB : B < 2 ^ 30) (hlive : ¬ (K 2 p = 0 ∨ K 2 p = nI 3)) (h14 : K 0 14 = 0) : q_Ct l G iX3_doOwnOp [.inr (some (0, 0)), .inl (nI p), .inl (nI 3), .inl (nI a), .inl (nI b), .inl c] (q_w G n ad) (S0) (q_pi (q_w G n ad) (fun r S' => q_op S0 K n L B p (k_op K p 3 a b c) r S')) := by
  refine q_enter (by decide) (Nat.le_of_ble_eq_true rfl) (fun X F E => ?_)
  show q_W G X iX3_doOwnOp (q_w G n ad) (0, 0) 0 [some (.inr (some (0, 0))), some (.inl (nI p)), some (.inl (nI 3)), some (.inl (nI a)), some (.inl (nI b)), some (.inl c), none, none] [] (S0)
  refine q_aload_n F dX3_doOwnOp_0 rfl ?_
  refine q_getr F (k := 1) fkX3_20 q_m0 rfl rfl dX3_doOwnOp_1 ?_
  refine q_iload_n F dX3_doOwnOp_4 rfl ?_
  refine q_aald F (_) q_m4 rfl rfl (by omega) (by decide) rfl dX3_doOwnOp_5 ?_
  refine q_astore_6 F dX3_doOwnOp_6 (by decide) ?_
  refine q_aload F dX3_doOwnOp_8 rfl ?_
  refine q_getr F (k := 5) fkX3_103 (q_m5 (by omega)) rfl rfl dX3_doOwnOp_10 ?_
  refine q_astore_7 F dX3_doOwnOp_13 (by decide) ?_
  refine q_iload_n F dX3_doOwnOp_15 rfl ?_
  refine q_tsw_in F 103 dX3_doOwnOp_16 (by decide) (by decide) rfl (by decide) ?_
  refine q_aload_n F dX3_doOwnOp_103 rfl ?_
  refine q_iload_n F dX3_doOwnOp_104 rfl ?_
  refine q_iload_n F dX3_doOwnOp_105 rfl ?_
  refine q_aload F dX3_doOwnOp_106 rfl ?_
  refine q_iload F dX3_doOwnOp_108 rfl ?_
  refine q_iald F (_) (q_m6 (by omega)) rfl rfl (by omega) (by omega) dX3_doOwnOp_110 ?_
  refine q_top (K 5 (8 * p + b)) (hF.2.1.2.2.1 p b hp hb) ?_
  refine q_iload F dX3_doOwnOp_111 rfl ?_
  refine q_iadd F dX3_doOwnOp_113 ?_
  refine q_callVi F [.inl (nI p), .inl (nI a), .inl (K 5 (8 * p + b) + c)] (fun l => t_readInto l S0 hp ha hF hL hlive h14) clX3_145 rfl q_m0 rfl rfl rfl ⟨Nat.le_of_ble_eq_true rfl, Nat.le_of_ble_eq_true rfl⟩ (Nat.le_of_ble_eq_true rfl) ⟨rfl, rfl⟩ ⟨Nat.zero_le _, Nat.zero_le _⟩ dX3_doOwnOp_114 (fun v1 S1 hv1 => ?_)
  refine q_iret F E rfl (q_op_of hv1) dX3_doOwnOp_117

set_option maxRecDepth 100000 in
set_option maxHeartbeats 4000000 in
theorem t_ownOp4 {G : q_g} {n : Nat} {ad : q_ix → Nat} (l : Launch) (S0 : q_st) {K : k_t} {p a b L B : Nat} {c : Int32} (hp : p < 8) (ha : a < 8) (hb : b < 8) (hF : q_F S0 K n L B) (hL : L + 1 < 2 ^ 30) (hB : B < 2 ^ 30) (hlive : ¬ (K 2 p = 0 ∨ K 2 p = nI 3)) (h14 : K 0 14 = 0) : q_Ct l G iX3_doOwnOp [.inr (some (0, 0)), .inl (nI p), .inl (nI 4), .inl (nI a), .inl (nI b), .inl c] (q_w G n ad) (S0) (q_pi (q_w G n ad) (fun r S' => q_op S0 K n L B p (k_op K p 4 a b c) r S')) := by
  refine q_enter (by decide) (Nat.le_of_ble_eq_true rfl) (fun X F E => ?_)
  show q_W G X iX3_doOwnOp (q_w G n ad) (0, 0) 0 [some (.inr (some (0, 0))), some (.inl (nI p)), some (.inl (nI 4)), some (.inl (nI a)), some (.inl (nI b)), some (.inl c), none, none] [] (S0)
  refine q_aload_n F dX3_doOwnOp_0 rfl ?_
  refine q_getr F (k := 1) fkX3_20 q_m0 rfl rfl dX3_doOwnOp_1 ?_
  refine q_iload_n F dX3_doOwnOp_4 rfl ?_
  refine q_aald F (_) q_m4 rfl rfl (by omega) (by decide) rfl dX3_doOwnOp_5 ?_
  refine q_astore_6 F dX3_doOwnOp_6 (by decide) ?_
  refine q_aload F dX3_doOwnOp_8 rfl ?_
  refine q_getr F (k := 5) fkX3_103 (q_m5 (by omega)) rfl rfl dX3_doOwnOp_10 ?_
  refine q_astore_7 F dX3_doOwnOp_13 (by decide) ?_
  refine q_iload_n F dX3_doOwnOp_15 rfl ?_
  refine q_tsw_in F 118 dX3_doOwnOp_16 (by decide) (by decide) rfl (by decide) ?_
  refine q_aload_n F dX3_doOwnOp_118 rfl ?_
  refine q_iload_n F dX3_doOwnOp_119 rfl ?_
  refine q_iload_n F dX3_doOwnOp_120 rfl ?_
  refine q_aload F dX3_doOwnOp_121 rfl ?_
  refine q_iload F dX3_doOwnOp_123 rfl ?_
  refine q_iald F (_) (q_m6 (by omega)) rfl rfl (by omega) (by omega) dX3_doOwnOp_125 ?_
  refine q_top (K 5 (8 * p + b)) (hF.2.1.2.2.1 p b hp hb) ?_
  refine q_iload F dX3_doOwnOp_126 rfl ?_
  refine q_iadd F dX3_doOwnOp_128 ?_
  refine q_callVi F [.inl (nI p), .inl (nI a), .inl (K 5 (8 * p + b) + c)] (fun l => t_writeFrom l S0 hp ha hF hL hlive h14) clX3_149 rfl q_m0 rfl rfl rfl ⟨Nat.le_of_ble_eq_true rfl, Nat.le_of_ble_eq_true rfl⟩ (Nat.le_of_ble_eq_true rfl) ⟨rfl, rfl⟩ ⟨Nat.zero_le _, Nat.zero_le _⟩ dX3_doOwnOp_129 (fun v1 S1 hv1 => ?_)
  refine q_iret F E rfl (q_op_of hv1) dX3_doOwnOp_132

theorem q_jump {S0 S' : q_st} {K : k_t} {n L B p : Nat} {c v r : Int32} {d : Prop} {dd : Decidable d} (hp : p < 8) (hF : q_F S0 K n L B) (h14 : K 0 14 = 0) (hv : q_bl v d) (h : r = nI 1 ∧ S' = if v = 0 then S0 else q_up S0 (5, p) 3 c) : q_op S0 K n L B p (nI 1, @ite _ d dd (k_u K 6 p c) K) r S' := by
  obtain ⟨rfl, rfl⟩ := h
  rcases hv with ⟨rfl, hd⟩ | ⟨rfl, hd⟩
  · rw [if_pos hd, if_neg (show ¬ nI 1 = 0 by decide)]
    exact q_op_id' (Q := (nI 1, k_u K 6 p c)) rfl (by show k_u K 6 p c 0 14 = 0; rw [k_u_ne _ _ _ _ (by simp)]; exact h14) (q_F_up (q_tcP hp).2.2.2.1 (by simp) hF) (q_fr_up (by simp))
  · rw [if_neg hd, if_pos (show nI 0 = 0 by decide)]
    exact q_op_id' (Q := (nI 1, K)) rfl h14 hF (q_fr_rf S0)

set_option maxRecDepth 100000 in
set_option maxHeartbeats 4000000 in
theorem t_ownOp5 {G : q_g} {n : Nat} {ad : q_ix → Nat} (l : Launch) (S0 : q_st) {K : k_t} {p a b L B : Nat} {c : Int32} (hp : p < 8) (ha : a < 8) (hb : b < 8) (hF : q_F S0 K n L B) (hL : L + 1 < 2 ^ 30) (hB : B < 2 ^ 30) (hlive : ¬ (K 2 p = 0 ∨ K 2 p = nI 3)) (h14 : K 0 14 = 0) : q_Ct l G iX3_doOwnOp [.inr (some (0, 0)), .inl (nI p), .inl (nI 5), .inl (nI a), .inl (nI b), .inl c] (q_w G n ad) (S0) (q_pi (q_w G n ad) (fun r S' => q_op S0 K n L B p (k_op K p 5 a b c) r S')) := by
  refine q_enter (by decide) (Nat.le_of_ble_eq_true rfl) (fun X F E => ?_)
  show q_W G X iX3_doOwnOp (q_w G n ad) (0, 0) 0 [some (.inr (some (0, 0))), some (.inl (nI p)), some (.inl (nI 5)), some (.inl (nI a)), some (.inl (nI b)), some (.inl c), none, none] [] (S0)
  refine q_aload_n F dX3_doOwnOp_0 rfl ?_
  refine q_getr F (k := 1) fkX3_20 q_m0 rfl rfl dX3_doOwnOp_1 ?_
  refine q_iload_n F dX3_doOwnOp_4 rfl ?_
  refine q_aald F (_) q_m4 rfl rfl (by omega) (by decide) rfl dX3_doOwnOp_5 ?_
  refine q_astore_6 F dX3_doOwnOp_6 (by decide) ?_
  refine q_aload F dX3_doOwnOp_8 rfl ?_
  refine q_getr F (k := 5) fkX3_103 (q_m5 (by omega)) rfl rfl dX3_doOwnOp_10 ?_
  refine q_astore_7 F dX3_doOwnOp_13 (by decide) ?_
  refine q_iload_n F dX3_doOwnOp_15 rfl ?_
  refine q_tsw_in F 133 dX3_doOwnOp_16 (by decide) (by decide) rfl (by decide) ?_
  refine q_aload F dX3_doOwnOp_133 rfl ?_
  refine q_aload F dX3_doOwnOp_135 rfl ?_
  refine q_iload_n F dX3_doOwnOp_137 rfl ?_
  refine q_iald F (_) (q_m6 (by omega)) rfl rfl (by omega) (by omega) dX3_doOwnOp_138 ?_
  refine q_top (K 5 (8 * p + a)) (hF.2.1.2.2.1 p a hp ha) ?_
  refine q_if_eq F 146 dX3_doOwnOp_139 (by decide) (fun h139 => ?_) (fun h139 => ?_)
  · refine q_iconst F (nI 0) dX3_doOwnOp_146 (by decide) ?_
    refine q_iload F dX3_doOwnOp_147 rfl ?_
    refine q_callSi F [.inr (some (5, p)), .inl (nI 0), .inl c] (fun l => t_jumpIf l S0 hp) clX3_152 rfl rfl ⟨Nat.le_of_ble_eq_true rfl, Nat.le_of_ble_eq_true rfl⟩ (Nat.le_of_ble_eq_true rfl) ⟨rfl, rfl⟩ ⟨Nat.zero_le _, Nat.zero_le _⟩ dX3_doOwnOp_149 (fun v1 S1 hv1 => ?_)
    refine q_iret F E rfl (q_jump hp hF h14 (by first | exact q_bl_1 h139 | exact q_bl_0 (fun q => q h139)) hv1) dX3_doOwnOp_152
  · refine q_iconst F (nI 1) dX3_doOwnOp_142 (by decide) ?_
    refine q_goto F 147 dX3_doOwnOp_143 (by decide) ?_
    refine q_iload F dX3_doOwnOp_147 rfl ?_
    refine q_callSi F [.inr (some (5, p)), .inl (nI 1), .inl c] (fun l => t_jumpIf l S0 hp) clX3_152 rfl rfl ⟨Nat.le_of_ble_eq_true rfl, Nat.le_of_ble_eq_true rfl⟩ (Nat.le_of_ble_eq_true rfl) ⟨rfl, rfl⟩ ⟨Nat.zero_le _, Nat.zero_le _⟩ dX3_doOwnOp_149 (fun v1 S1 hv1 => ?_)
    refine q_iret F E rfl (q_jump hp hF h14 (by first | exact q_bl_1 h139 | exact q_bl_0 (fun q => q h139)) hv1) dX3_doOwnOp_152

set_option maxRecDepth 100000 in
set_option maxHeartbeats 4000000 in
theorem t_ownOp6 {G : q_g} {n : Nat} {ad : q_ix → Nat} (l : Launch) (S0 : q_st) {K : k_t} {p a b L B : Nat} {c : Int32} (hp : p < 8) (ha : a < 8) (hb : b < 8) (hF : q_F S0 K n L B) (hL : L + 1 < 2 ^ 30) (hB : B < 2 ^ 30) (hlive : ¬ (K 2 p = 0 ∨ K 2 p = nI 3)) (h14 : K 0 14 = 0) : q_Ct l G iX3_doOwnOp [.inr (some (0, 0)), .inl (nI p), .inl (nI 6), .inl (nI a), .inl (nI b), .inl c] (q_w G n ad) (S0) (q_pi (q_w G n ad) (fun r S' => q_op S0 K n L B p (k_op K p 6 a b c) r S')) := by
  refine q_enter (by decide) (Nat.le_of_ble_eq_true rfl) (fun X F E => ?_)
  show q_W G X iX3_doOwnOp (q_w G n ad) (0, 0) 0 [some (.inr (some (0, 0))), some (.inl (nI p)), some (.inl (nI 6)), some (.inl (nI a)), some (.inl (nI b)), some (.inl c), none, none] [] (S0)
  refine q_aload_n F dX3_doOwnOp_0 rfl ?_
  refine q_getr F (k := 1) fkX3_20 q_m0 rfl rfl dX3_doOwnOp_1 ?_
  refine q_iload_n F dX3_doOwnOp_4 rfl ?_
  refine q_aald F (_) q_m4 rfl rfl (by omega) (by decide) rfl dX3_doOwnOp_5 ?_
  refine q_astore_6 F dX3_doOwnOp_6 (by decide) ?_
  refine q_aload F dX3_doOwnOp_8 rfl ?_
  refine q_getr F (k := 5) fkX3_103 (q_m5 (by omega)) rfl rfl dX3_doOwnOp_10 ?_
  refine q_astore_7 F dX3_doOwnOp_13 (by decide) ?_
  refine q_iload_n F dX3_doOwnOp_15 rfl ?_
  refine q_tsw_in F 153 dX3_doOwnOp_16 (by decide) (by decide) rfl (by decide) ?_
  refine q_aload F dX3_doOwnOp_153 rfl ?_
  refine q_aload F dX3_doOwnOp_155 rfl ?_
  refine q_iload_n F dX3_doOwnOp_157 rfl ?_
  refine q_iald F (_) (q_m6 (by omega)) rfl rfl (by omega) (by omega) dX3_doOwnOp_158 ?_
  refine q_top (K 5 (8 * p + a)) (hF.2.1.2.2.1 p a hp ha) ?_
  refine q_aload F dX3_doOwnOp_159 rfl ?_
  refine q_iload F dX3_doOwnOp_161 rfl ?_
  refine q_iald F (_) (q_m6 (by omega)) rfl rfl (by omega) (by omega) dX3_doOwnOp_163 ?_
  refine q_top (K 5 (8 * p + b)) (hF.2.1.2.2.1 p b hp hb) ?_
  refine q_icmp_ge F 171 dX3_doOwnOp_164 (by decide) (fun h164 => ?_) (fun h164 => ?_)
  · refine q_iconst F (nI 0) dX3_doOwnOp_171 (by decide) ?_
    refine q_iload F dX3_doOwnOp_172 rfl ?_
    refine q_callSi F [.inr (some (5, p)), .inl (nI 0), .inl c] (fun l => t_jumpIf l S0 hp) clX3_152 rfl rfl ⟨Nat.le_of_ble_eq_true rfl, Nat.le_of_ble_eq_true rfl⟩ (Nat.le_of_ble_eq_true rfl) ⟨rfl, rfl⟩ ⟨Nat.zero_le _, Nat.zero_le _⟩ dX3_doOwnOp_174 (fun v1 S1 hv1 => ?_)
    refine q_iret F E rfl (q_jump hp hF h14 (by first | exact q_bl_1 h164 | exact q_bl_0 (by omega)) hv1) dX3_doOwnOp_177
  · refine q_iconst F (nI 1) dX3_doOwnOp_167 (by decide) ?_
    refine q_goto F 172 dX3_doOwnOp_168 (by decide) ?_
    refine q_iload F dX3_doOwnOp_172 rfl ?_
    refine q_callSi F [.inr (some (5, p)), .inl (nI 1), .inl c] (fun l => t_jumpIf l S0 hp) clX3_152 rfl rfl ⟨Nat.le_of_ble_eq_true rfl, Nat.le_of_ble_eq_true rfl⟩ (Nat.le_of_ble_eq_true rfl) ⟨rfl, rfl⟩ ⟨Nat.zero_le _, Nat.zero_le _⟩ dX3_doOwnOp_174 (fun v1 S1 hv1 => ?_)
    refine q_iret F E rfl (q_jump hp hF h14 (by first | exact q_bl_1 h164 | exact q_bl_0 (by omega)) hv1) dX3_doOwnOp_177

set_option maxRecDepth 100000 in
set_option maxHeartbeats 4000000 in
theorem t_ownOp7 {G : q_g} {n : Nat} {ad : q_ix → Nat} (l : Launch) (S0 : q_st) {K : k_t} {p a b L B : Nat} {c : Int32} (hp : p < 8) (ha : a < 8) (hb : b < 8) (hF : q_F S0 K n L B) (hL : L + 1 < 2 ^ 30) (hB : B < 2 ^ 30) (hlive : ¬ (K 2 p = 0 ∨ K 2 p = nI 3)) (h14 : K 0 14 = 0) : q_Ct l G iX3_doOwnOp [.inr (some (0, 0)), .inl (nI p), .inl (nI 7), .inl (nI a), .inl (nI b), .inl c] (q_w G n ad) (S0) (q_pi (q_w G n ad) (fun r S' => q_op S0 K n L B p (k_op K p 7 a b c) r S')) := by
  refine q_enter (by decide) (Nat.le_of_ble_eq_true rfl) (fun X F E => ?_)
  show q_W G X iX3_doOwnOp (q_w G n ad) (0, 0) 0 [some (.inr (some (0, 0))), some (.inl (nI p)), some (.inl (nI 7)), some (.inl (nI a)), some (.inl (nI b)), some (.inl c), none, none] [] (S0)
  refine q_aload_n F dX3_doOwnOp_0 rfl ?_
  refine q_getr F (k := 1) fkX3_20 q_m0 rfl rfl dX3_doOwnOp_1 ?_
  refine q_iload_n F dX3_doOwnOp_4 rfl ?_
  refine q_aald F (_) q_m4 rfl rfl (by omega) (by decide) rfl dX3_doOwnOp_5 ?_
  refine q_astore_6 F dX3_doOwnOp_6 (by decide) ?_
  refine q_aload F dX3_doOwnOp_8 rfl ?_
  refine q_getr F (k := 5) fkX3_103 (q_m5 (by omega)) rfl rfl dX3_doOwnOp_10 ?_
  refine q_astore_7 F dX3_doOwnOp_13 (by decide) ?_
  refine q_iload_n F dX3_doOwnOp_15 rfl ?_
  refine q_tsw_out F 178 dX3_doOwnOp_16 (by decide) (by decide) ?_
  obtain ⟨m, hm, hm1⟩ := hF.1.2.2.1
  refine q_aload_n F dX3_doOwnOp_178 rfl ?_
  refine q_getr F (k := 2) fkX3_28 q_m0 rfl rfl dX3_doOwnOp_179 ?_
  refine q_aload F dX3_doOwnOp_182 rfl ?_
  refine q_iload_n F dX3_doOwnOp_184 rfl ?_
  refine q_iald F (_) (q_m6 (by omega)) rfl rfl (by omega) (by omega) dX3_doOwnOp_185 ?_
  refine q_top (K 5 (8 * p + a)) (hF.2.1.2.2.1 p a hp ha) ?_
  refine q_callVv F [.inl (K 5 (8 * p + a))] (fun l => t_append l S0 (hF.2.1.2.2.2.1.trans hm1) (by omega)) clX3_156 rfl q_m8 rfl rfl rfl ⟨Nat.le_of_ble_eq_true rfl, Nat.le_of_ble_eq_true rfl⟩ (Nat.le_of_ble_eq_true rfl) ⟨rfl, rfl⟩ ⟨Nat.zero_le _, Nat.zero_le _⟩ dX3_doOwnOp_186 (fun S1 hS1 => ?_)
  subst hS1
  refine q_iconst F (nI 2) dX3_doOwnOp_189 (by decide) ?_
  refine q_iret F E rfl (q_op_id (Q := (nI 2, k_pr K (K 5 (8 * p + a)))) (by show k_pr K (K 5 (8 * p + a)) 0 14 = 0; unfold k_pr; rw [k_u_ne _ _ _ _ (by simp), k_u_ne _ _ _ _ (by simp)]; exact h14) (q_F_pr hm1 (by omega) hF) (q_fr_tr (q_fr_up (by simp)) (q_fr_up (by simp)))) dX3_doOwnOp_190

set_option maxRecDepth 100000 in
set_option maxHeartbeats 4000000 in
theorem t_ownOp {G : q_g} {n : Nat} {ad : q_ix → Nat} (l : Launch) (S0 : q_st) {K : k_t} {p a b L B : Nat} {c : Int32} (hp : p < 8) (ha : a < 8) (hb : b < 8) (hF : q_F S0 K n L B) (hL : L + 1 < 2 ^ 30) (hB : B < 2 ^ 30) (hlive : ¬ (K 2 p = 0 ∨ K 2 p = nI 3)) (h14 : K 0 14 = 0) {op : Nat} (hop : op < 8) : q_Ct l G iX3_doOwnOp [.inr (some (0, 0)), .inl (nI p), .inl (nI op), .inl (nI a), .inl (nI b), .inl c] (q_w G n ad) S0 (q_pi (q_w G n ad) (fun r S' => q_op S0 K n L B p (k_op K p op a b c) r S')) := by
  rcases (show op = 0 ∨ op = 1 ∨ op = 2 ∨ op = 3 ∨ op = 4 ∨ op = 5 ∨ op = 6 ∨ op = 7 by omega) with rfl | rfl | rfl | rfl | rfl | rfl | rfl | rfl
  · exact t_ownOp0 l S0 hp ha hb hF hL hB hlive h14
  · exact t_ownOp1 l S0 hp ha hb hF hL hB hlive h14
  · exact t_ownOp2 l S0 hp ha hb hF hL hB hlive h14
  · exact t_ownOp3 l S0 hp ha hb hF hL hB hlive h14
  · exact t_ownOp4 l S0 hp ha hb hF hL hB hlive h14
  · exact t_ownOp5 l S0 hp ha hb hF hL hB hlive h14
  · exact t_ownOp6 l S0 hp ha hb hF hL hB hlive h14
  · exact t_ownOp7 l S0 hp ha hb hF hL hB hlive h14

theorem k_fk_14 (K : k_t) (p a : Nat) : (k_fk K p a).2 0 14 = K 0 14 := by
  unfold k_fk
  split
  · simp [k_u]
  · simp [k_u, k_fk0]
theorem k_aw_14 (K : k_t) (p a : Nat) : (k_aw K p a).2 0 14 = K 0 14 := by
  unfold k_aw
  split
  · simp [k_free, k_u]
  · split
    · simp [k_u]
    · simp [k_u]
theorem k_en_14 (K : k_t) (p : Nat) (code : Int32) : k_en K p code 0 14 = K 0 14 := by
  rw [k_en_k (by decide)]
  simp [k_en0]
theorem q_ill {S0 S' : q_st} {K : k_t} {n L B p : Nat} {r : Int32} (h : r = nI 5 ∧ q_F S' (k_en (k_u K 0 14 (-12)) p (-12)) n L B ∧ q_fr S0 S') : q_op S0 K n L B p (nI 1, k_u K 0 14 (-12)) r S' := q_op_of (q_no (Q := (nI 1, k_u K 0 14 (-12))) rfl (by decide) h)

set_option maxRecDepth 100000 in
set_option maxHeartbeats 4000000 in
theorem t_kerOp8 {G : q_g} {n : Nat} {ad : q_ix → Nat} (l : Launch) (S0 : q_st) {K : k_t} {p a b L B : Nat} {c : Int32} (hp : p < 8) (ha : a < 8) (hb : b < 8) (hF : q_F S0 K n L B) (hL : L + 1 < 2 ^ 30) (hB : B < 2 ^ 30) (hlive : ¬ (K 2 p = 0 ∨ K 2 p = nI 3)) (h14 : K 0 14 = 0) : q_Ct l G iX3_doKernelOp [.inr (some (0, 0)), .inl (nI p), .inl (nI 8), .inl (nI a), .inl c] (q_w G n ad) (S0) (q_pi (q_w G n ad) (fun r S' => q_op S0 K n L B p (k_op K p 8 a b c) r S')) := by
  refine q_enter (by decide) (Nat.le_of_ble_eq_true rfl) (fun X F E => ?_)
  show q_W G X iX3_doKernelOp (q_w G n ad) (0, 0) 0 [some (.inr (some (0, 0))), some (.inl (nI p)), some (.inl (nI 8)), some (.inl (nI a)), some (.inl c), none] [] (S0)
  refine q_aload_n F dX3_doKernelOp_0 rfl ?_
  refine q_getr F (k := 1) fkX3_20 q_m0 rfl rfl dX3_doKernelOp_1 ?_
  refine q_iload_n F dX3_doKernelOp_4 rfl ?_
  refine q_aald F (_) q_m4 rfl rfl (by omega) (by decide) rfl dX3_doKernelOp_5 ?_
  refine q_astore_5 F dX3_doKernelOp_6 (by decide) ?_
  refine q_iload_n F dX3_doKernelOp_8 rfl ?_
  refine q_tsw_in F 48 dX3_doKernelOp_9 (by decide) (by decide) rfl (by decide) ?_
  refine q_aload_n F dX3_doKernelOp_48 rfl ?_
  refine q_iload_n F dX3_doKernelOp_49 rfl ?_
  refine q_iload_n F dX3_doKernelOp_50 rfl ?_
  refine q_callVi F [.inl (nI p), .inl (nI a)] (fun l => t_fork l S0 hp ha hF hlive) clX3_159 rfl q_m0 rfl rfl rfl ⟨Nat.le_of_ble_eq_true rfl, Nat.le_of_ble_eq_true rfl⟩ (Nat.le_of_ble_eq_true rfl) ⟨rfl, rfl⟩ ⟨Nat.zero_le _, Nat.zero_le _⟩ dX3_doKernelOp_51 (fun v1 S1 hv1 => ?_)
  refine q_iret F E rfl (q_op_id' (Q := k_fk K p a) hv1.1 ((k_fk_14 K p a).trans h14) hv1.2.1 hv1.2.2) dX3_doKernelOp_54

set_option maxRecDepth 100000 in
set_option maxHeartbeats 4000000 in
theorem t_kerOp9 {G : q_g} {n : Nat} {ad : q_ix → Nat} (l : Launch) (S0 : q_st) {K : k_t} {p a b L B : Nat} {c : Int32} (hp : p < 8) (ha : a < 8) (hb : b < 8) (hF : q_F S0 K n L B) (hL : L + 1 < 2 ^ 30) (hB : B < 2 ^ 30) (hlive : ¬ (K 2 p = 0 ∨ K 2 p = nI 3)) (h14 : K 0 14 = 0) : q_Ct l G iX3_doKernelOp [.inr (some (0, 0)), .inl (nI p), .inl (nI 9), .inl (nI a), .inl c] (q_w G n ad) (S0) (q_pi (q_w G n ad) (fun r S' => q_op S0 K n L B p (k_op K p 9 a b c) r S')) := by
  refine q_enter (by decide) (Nat.le_of_ble_eq_true rfl) (fun X F E => ?_)
  show q_W G X iX3_doKernelOp (q_w G n ad) (0, 0) 0 [some (.inr (some (0, 0))), some (.inl (nI p)), some (.inl (nI 9)), some (.inl (nI a)), some (.inl c), none] [] (S0)
  refine q_aload_n F dX3_doKernelOp_0 rfl ?_
  refine q_getr F (k := 1) fkX3_20 q_m0 rfl rfl dX3_doKernelOp_1 ?_
  refine q_iload_n F dX3_doKernelOp_4 rfl ?_
  refine q_aald F (_) q_m4 rfl rfl (by omega) (by decide) rfl dX3_doKernelOp_5 ?_
  refine q_astore_5 F dX3_doKernelOp_6 (by decide) ?_
  refine q_iload_n F dX3_doKernelOp_8 rfl ?_
  refine q_tsw_in F 55 dX3_doKernelOp_9 (by decide) (by decide) rfl (by decide) ?_
  refine q_aload_n F dX3_doKernelOp_55 rfl ?_
  refine q_iload_n F dX3_doKernelOp_56 rfl ?_
  refine q_iload_n F dX3_doKernelOp_57 rfl ?_
  refine q_iload F dX3_doKernelOp_58 rfl ?_
  refine q_callVi F [.inl (nI p), .inl (nI a), .inl c] (fun l => t_moveBreak l S0 hp ha hF hL hlive h14) clX3_162 rfl q_m0 rfl rfl rfl ⟨Nat.le_of_ble_eq_true rfl, Nat.le_of_ble_eq_true rfl⟩ (Nat.le_of_ble_eq_true rfl) ⟨rfl, rfl⟩ ⟨Nat.zero_le _, Nat.zero_le _⟩ dX3_doKernelOp_60 (fun v1 S1 hv1 => ?_)
  refine q_iret F E rfl (q_op_of hv1) dX3_doKernelOp_63

set_option maxRecDepth 100000 in
set_option maxHeartbeats 4000000 in
theorem t_kerOp10 {G : q_g} {n : Nat} {ad : q_ix → Nat} (l : Launch) (S0 : q_st) {K : k_t} {p a b L B : Nat} {c : Int32} (hp : p < 8) (ha : a < 8) (hb : b < 8) (hF : q_F S0 K n L B) (hL : L + 1 < 2 ^ 30) (hB : B < 2 ^ 30) (hlive : ¬ (K 2 p = 0 ∨ K 2 p = nI 3)) (h14 : K 0 14 = 0) : q_Ct l G iX3_doKernelOp [.inr (some (0, 0)), .inl (nI p), .inl (nI 10), .inl (nI a), .inl c] (q_w G n ad) (S0) (q_pi (q_w G n ad) (fun r S' => q_op S0 K n L B p (k_op K p 10 a b c) r S')) := by
  refine q_enter (by decide) (Nat.le_of_ble_eq_true rfl) (fun X F E => ?_)
  show q_W G X iX3_doKernelOp (q_w G n ad) (0, 0) 0 [some (.inr (some (0, 0))), some (.inl (nI p)), some (.inl (nI 10)), some (.inl (nI a)), some (.inl c), none] [] (S0)
  refine q_aload_n F dX3_doKernelOp_0 rfl ?_
  refine q_getr F (k := 1) fkX3_20 q_m0 rfl rfl dX3_doKernelOp_1 ?_
  refine q_iload_n F dX3_doKernelOp_4 rfl ?_
  refine q_aald F (_) q_m4 rfl rfl (by omega) (by decide) rfl dX3_doKernelOp_5 ?_
  refine q_astore_5 F dX3_doKernelOp_6 (by decide) ?_
  refine q_iload_n F dX3_doKernelOp_8 rfl ?_
  refine q_tsw_in F 64 dX3_doKernelOp_9 (by decide) (by decide) rfl (by decide) ?_
  refine q_aload_n F dX3_doKernelOp_64 rfl ?_
  refine q_iload_n F dX3_doKernelOp_65 rfl ?_
  refine q_aload F dX3_doKernelOp_66 rfl ?_
  refine q_getr F (k := 5) fkX3_103 (q_m5 (by omega)) rfl rfl dX3_doKernelOp_68 ?_
  refine q_iload_n F dX3_doKernelOp_71 rfl ?_
  refine q_iald F (_) (q_m6 (by omega)) rfl rfl (by omega) (by omega) dX3_doKernelOp_72 ?_
  refine q_top (K 5 (8 * p + a)) (hF.2.1.2.2.1 p a hp ha) ?_
  refine q_callVi F [.inl (nI p), .inl (K 5 (8 * p + a))] (fun l => t_end l S0 hp hF) clX3_74 rfl q_m0 rfl rfl rfl ⟨Nat.le_of_ble_eq_true rfl, Nat.le_of_ble_eq_true rfl⟩ (Nat.le_of_ble_eq_true rfl) ⟨rfl, rfl⟩ ⟨Nat.zero_le _, Nat.zero_le _⟩ dX3_doKernelOp_73 (fun v1 S1 hv1 => ?_)
  refine q_iret F E rfl (q_op_id' (Q := (nI 5, k_en K p (K 5 (8 * p + a)))) hv1.1 ((k_en_14 _ _ _).trans h14) hv1.2.1 hv1.2.2) dX3_doKernelOp_76

set_option maxRecDepth 100000 in
set_option maxHeartbeats 4000000 in
theorem t_kerOp11 {G : q_g} {n : Nat} {ad : q_ix → Nat} (l : Launch) (S0 : q_st) {K : k_t} {p a b L B : Nat} {c : Int32} (hp : p < 8) (ha : a < 8) (hb : b < 8) (hF : q_F S0 K n L B) (hL : L + 1 < 2 ^ 30) (hB : B < 2 ^ 30) (hlive : ¬ (K 2 p = 0 ∨ K 2 p = nI 3)) (h14 : K 0 14 = 0) : q_Ct l G iX3_doKernelOp [.inr (some (0, 0)), .inl (nI p), .inl (nI 11), .inl (nI a), .inl c] (q_w G n ad) (S0) (q_pi (q_w G n ad) (fun r S' => q_op S0 K n L B p (k_op K p 11 a b c) r S')) := by
  refine q_enter (by decide) (Nat.le_of_ble_eq_true rfl) (fun X F E => ?_)
  show q_W G X iX3_doKernelOp (q_w G n ad) (0, 0) 0 [some (.inr (some (0, 0))), some (.inl (nI p)), some (.inl (nI 11)), some (.inl (nI a)), some (.inl c), none] [] (S0)
  refine q_aload_n F dX3_doKernelOp_0 rfl ?_
  refine q_getr F (k := 1) fkX3_20 q_m0 rfl rfl dX3_doKernelOp_1 ?_
  refine q_iload_n F dX3_doKernelOp_4 rfl ?_
  refine q_aald F (_) q_m4 rfl rfl (by omega) (by decide) rfl dX3_doKernelOp_5 ?_
  refine q_astore_5 F dX3_doKernelOp_6 (by decide) ?_
  refine q_iload_n F dX3_doKernelOp_8 rfl ?_
  refine q_tsw_in F 77 dX3_doKernelOp_9 (by decide) (by decide) rfl (by decide) ?_
  refine q_aload_n F dX3_doKernelOp_77 rfl ?_
  refine q_iload_n F dX3_doKernelOp_78 rfl ?_
  refine q_iload_n F dX3_doKernelOp_79 rfl ?_
  refine q_callVi F [.inl (nI p), .inl (nI a)] (fun l => t_wait l S0 hp ha hF) clX3_165 rfl q_m0 rfl rfl rfl ⟨Nat.le_of_ble_eq_true rfl, Nat.le_of_ble_eq_true rfl⟩ (Nat.le_of_ble_eq_true rfl) ⟨rfl, rfl⟩ ⟨Nat.zero_le _, Nat.zero_le _⟩ dX3_doKernelOp_80 (fun v1 S1 hv1 => ?_)
  refine q_iret F E rfl (q_op_id' (Q := k_aw K p a) hv1.1 ((k_aw_14 K p a).trans h14) hv1.2.1 hv1.2.2) dX3_doKernelOp_83

set_option maxRecDepth 100000 in
set_option maxHeartbeats 4000000 in
theorem t_kerOp12 {G : q_g} {n : Nat} {ad : q_ix → Nat} (l : Launch) (S0 : q_st) {K : k_t} {p a b L B : Nat} {c : Int32} (hp : p < 8) (ha : a < 8) (hb : b < 8) (hF : q_F S0 K n L B) (hL : L + 1 < 2 ^ 30) (hB : B < 2 ^ 30) (hlive : ¬ (K 2 p = 0 ∨ K 2 p = nI 3)) (h14 : K 0 14 = 0) : q_Ct l G iX3_doKernelOp [.inr (some (0, 0)), .inl (nI p), .inl (nI 12), .inl (nI a), .inl c] (q_w G n ad) (S0) (q_pi (q_w G n ad) (fun r S' => q_op S0 K n L B p (k_op K p 12 a b c) r S')) := by
  refine q_enter (by decide) (Nat.le_of_ble_eq_true rfl) (fun X F E => ?_)
  show q_W G X iX3_doKernelOp (q_w G n ad) (0, 0) 0 [some (.inr (some (0, 0))), some (.inl (nI p)), some (.inl (nI 12)), some (.inl (nI a)), some (.inl c), none] [] (S0)
  refine q_aload_n F dX3_doKernelOp_0 rfl ?_
  refine q_getr F (k := 1) fkX3_20 q_m0 rfl rfl dX3_doKernelOp_1 ?_
  refine q_iload_n F dX3_doKernelOp_4 rfl ?_
  refine q_aald F (_) q_m4 rfl rfl (by omega) (by decide) rfl dX3_doKernelOp_5 ?_
  refine q_astore_5 F dX3_doKernelOp_6 (by decide) ?_
  refine q_iload_n F dX3_doKernelOp_8 rfl ?_
  refine q_tsw_in F 84 dX3_doKernelOp_9 (by decide) (by decide) rfl (by decide) ?_
  refine q_aload_n F dX3_doKernelOp_84 rfl ?_
  refine q_aload_n F dX3_doKernelOp_85 rfl ?_
  refine q_geti F (k := 4) fkX3_36 q_m0 rfl rfl dX3_doKernelOp_86 ?_
  refine q_puti F (k := 6) fkX3_43 fp3_6 q_m0 rfl rfl dX3_doKernelOp_89 ?_
  refine q_iconst F (nI 1) dX3_doKernelOp_92 (by decide) ?_
  refine q_iret F E rfl (q_op_id' (Q := (nI 1, k_u K 0 13 (K 0 1))) rfl (by show k_u K 0 13 (K 0 1) 0 14 = 0; rw [k_u_ne _ _ _ _ (by simp)]; exact h14) (q_F_yield hF).1 (q_F_yield hF).2) dX3_doKernelOp_93

set_option maxRecDepth 100000 in
set_option maxHeartbeats 4000000 in
theorem t_kerOp13 {G : q_g} {n : Nat} {ad : q_ix → Nat} (l : Launch) (S0 : q_st) {K : k_t} {p a b L B : Nat} {c : Int32} (hp : p < 8) (ha : a < 8) (hb : b < 8) (hF : q_F S0 K n L B) (hL : L + 1 < 2 ^ 30) (hB : B < 2 ^ 30) (hlive : ¬ (K 2 p = 0 ∨ K 2 p = nI 3)) (h14 : K 0 14 = 0) : q_Ct l G iX3_doKernelOp [.inr (some (0, 0)), .inl (nI p), .inl (nI 13), .inl (nI a), .inl c] (q_w G n ad) (S0) (q_pi (q_w G n ad) (fun r S' => q_op S0 K n L B p (k_op K p 13 a b c) r S')) := by
  refine q_enter (by decide) (Nat.le_of_ble_eq_true rfl) (fun X F E => ?_)
  show q_W G X iX3_doKernelOp (q_w G n ad) (0, 0) 0 [some (.inr (some (0, 0))), some (.inl (nI p)), some (.inl (nI 13)), some (.inl (nI a)), some (.inl c), none] [] (S0)
  refine q_aload_n F dX3_doKernelOp_0 rfl ?_
  refine q_getr F (k := 1) fkX3_20 q_m0 rfl rfl dX3_doKernelOp_1 ?_
  refine q_iload_n F dX3_doKernelOp_4 rfl ?_
  refine q_aald F (_) q_m4 rfl rfl (by omega) (by decide) rfl dX3_doKernelOp_5 ?_
  refine q_astore_5 F dX3_doKernelOp_6 (by decide) ?_
  refine q_iload_n F dX3_doKernelOp_8 rfl ?_
  refine q_tsw_in F 94 dX3_doKernelOp_9 (by decide) (by decide) rfl (by decide) ?_
  refine q_aload F dX3_doKernelOp_94 rfl ?_
  refine q_getr F (k := 5) fkX3_103 (q_m5 (by omega)) rfl rfl dX3_doKernelOp_96 ?_
  refine q_iload_n F dX3_doKernelOp_99 rfl ?_
  refine q_iload_n F dX3_doKernelOp_100 rfl ?_
  refine q_iast F (_) (q_m6 (by omega)) rfl rfl (by omega) (by omega) dX3_doKernelOp_101 ?_
  refine q_iconst F (nI 1) dX3_doKernelOp_102 (by decide) ?_
  refine q_iret F E rfl (q_op_reg hp ha hF h14) dX3_doKernelOp_103

set_option maxRecDepth 100000 in
set_option maxHeartbeats 4000000 in
theorem t_kerOp14 {G : q_g} {n : Nat} {ad : q_ix → Nat} (l : Launch) (S0 : q_st) {K : k_t} {p a b L B : Nat} {c : Int32} (hp : p < 8) (ha : a < 8) (hb : b < 8) (hF : q_F S0 K n L B) (hL : L + 1 < 2 ^ 30) (hB : B < 2 ^ 30) (hlive : ¬ (K 2 p = 0 ∨ K 2 p = nI 3)) (h14 : K 0 14 = 0) : q_Ct l G iX3_doKernelOp [.inr (some (0, 0)), .inl (nI p), .inl (nI 14), .inl (nI a), .inl c] (q_w G n ad) (S0) (q_pi (q_w G n ad) (fun r S' => q_op S0 K n L B p (k_op K p 14 a b c) r S')) := by
  refine q_enter (by decide) (Nat.le_of_ble_eq_true rfl) (fun X F E => ?_)
  show q_W G X iX3_doKernelOp (q_w G n ad) (0, 0) 0 [some (.inr (some (0, 0))), some (.inl (nI p)), some (.inl (nI 14)), some (.inl (nI a)), some (.inl c), none] [] (S0)
  refine q_aload_n F dX3_doKernelOp_0 rfl ?_
  refine q_getr F (k := 1) fkX3_20 q_m0 rfl rfl dX3_doKernelOp_1 ?_
  refine q_iload_n F dX3_doKernelOp_4 rfl ?_
  refine q_aald F (_) q_m4 rfl rfl (by omega) (by decide) rfl dX3_doKernelOp_5 ?_
  refine q_astore_5 F dX3_doKernelOp_6 (by decide) ?_
  refine q_iload_n F dX3_doKernelOp_8 rfl ?_
  refine q_tsw_out F 104 dX3_doKernelOp_9 (by decide) (by decide) ?_
  refine q_aload_n F dX3_doKernelOp_104 rfl ?_
  refine q_iload_n F dX3_doKernelOp_105 rfl ?_
  refine q_bipush F (-12) dX3_doKernelOp_106 (by decide) ?_
  refine q_callVi F [.inl (nI p), .inl (-12)] (fun l => t_end l S0 hp (q_F_14 (v := -12) hF)) clX3_74 rfl q_m0 rfl rfl rfl ⟨Nat.le_of_ble_eq_true rfl, Nat.le_of_ble_eq_true rfl⟩ (Nat.le_of_ble_eq_true rfl) ⟨rfl, rfl⟩ ⟨Nat.zero_le _, Nat.zero_le _⟩ dX3_doKernelOp_108 (fun v1 S1 hv1 => ?_)
  refine q_iret F E rfl (q_ill hv1) dX3_doKernelOp_111

set_option maxRecDepth 100000 in
set_option maxHeartbeats 4000000 in
theorem t_kerOp15 {G : q_g} {n : Nat} {ad : q_ix → Nat} (l : Launch) (S0 : q_st) {K : k_t} {p a b L B : Nat} {c : Int32} (hp : p < 8) (ha : a < 8) (hb : b < 8) (hF : q_F S0 K n L B) (hL : L + 1 < 2 ^ 30) (hB : B < 2 ^ 30) (hlive : ¬ (K 2 p = 0 ∨ K 2 p = nI 3)) (h14 : K 0 14 = 0) : q_Ct l G iX3_doKernelOp [.inr (some (0, 0)), .inl (nI p), .inl (nI 15), .inl (nI a), .inl c] (q_w G n ad) (S0) (q_pi (q_w G n ad) (fun r S' => q_op S0 K n L B p (k_op K p 15 a b c) r S')) := by
  refine q_enter (by decide) (Nat.le_of_ble_eq_true rfl) (fun X F E => ?_)
  show q_W G X iX3_doKernelOp (q_w G n ad) (0, 0) 0 [some (.inr (some (0, 0))), some (.inl (nI p)), some (.inl (nI 15)), some (.inl (nI a)), some (.inl c), none] [] (S0)
  refine q_aload_n F dX3_doKernelOp_0 rfl ?_
  refine q_getr F (k := 1) fkX3_20 q_m0 rfl rfl dX3_doKernelOp_1 ?_
  refine q_iload_n F dX3_doKernelOp_4 rfl ?_
  refine q_aald F (_) q_m4 rfl rfl (by omega) (by decide) rfl dX3_doKernelOp_5 ?_
  refine q_astore_5 F dX3_doKernelOp_6 (by decide) ?_
  refine q_iload_n F dX3_doKernelOp_8 rfl ?_
  refine q_tsw_out F 104 dX3_doKernelOp_9 (by decide) (by decide) ?_
  refine q_aload_n F dX3_doKernelOp_104 rfl ?_
  refine q_iload_n F dX3_doKernelOp_105 rfl ?_
  refine q_bipush F (-12) dX3_doKernelOp_106 (by decide) ?_
  refine q_callVi F [.inl (nI p), .inl (-12)] (fun l => t_end l S0 hp (q_F_14 (v := -12) hF)) clX3_74 rfl q_m0 rfl rfl rfl ⟨Nat.le_of_ble_eq_true rfl, Nat.le_of_ble_eq_true rfl⟩ (Nat.le_of_ble_eq_true rfl) ⟨rfl, rfl⟩ ⟨Nat.zero_le _, Nat.zero_le _⟩ dX3_doKernelOp_108 (fun v1 S1 hv1 => ?_)
  refine q_iret F E rfl (q_ill hv1) dX3_doKernelOp_111

set_option maxRecDepth 100000 in
set_option maxHeartbeats 4000000 in
theorem t_kerOp {G : q_g} {n : Nat} {ad : q_ix → Nat} (l : Launch) (S0 : q_st) {K : k_t} {p a b L B : Nat} {c : Int32} (hp : p < 8) (ha : a < 8) (hb : b < 8) (hF : q_F S0 K n L B) (hL : L + 1 < 2 ^ 30) (hB : B < 2 ^ 30) (hlive : ¬ (K 2 p = 0 ∨ K 2 p = nI 3)) (h14 : K 0 14 = 0) {op : Nat} (hop : op < 16) (hop8 : 8 ≤ op) : q_Ct l G iX3_doKernelOp [.inr (some (0, 0)), .inl (nI p), .inl (nI op), .inl (nI a), .inl c] (q_w G n ad) S0 (q_pi (q_w G n ad) (fun r S' => q_op S0 K n L B p (k_op K p op a b c) r S')) := by
  rcases (show op = 8 ∨ op = 9 ∨ op = 10 ∨ op = 11 ∨ op = 12 ∨ op = 13 ∨ op = 14 ∨ op = 15 by omega) with rfl | rfl | rfl | rfl | rfl | rfl | rfl | rfl
  · exact t_kerOp8 l S0 hp ha hb hF hL hB hlive h14
  · exact t_kerOp9 l S0 hp ha hb hF hL hB hlive h14
  · exact t_kerOp10 l S0 hp ha hb hF hL hB hlive h14
  · exact t_kerOp11 l S0 hp ha hb hF hL hB hlive h14
  · exact t_kerOp12 l S0 hp ha hb hF hL hB hlive h14
  · exact t_kerOp13 l S0 hp ha hb hF hL hB hlive h14
  · exact t_kerOp14 l S0 hp ha hb hF hL hB hlive h14
  · exact t_kerOp15 l S0 hp ha hb hF hL hB hlive h14
