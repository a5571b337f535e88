/-! the class's frames, its log, its processes: leaves (rows laid by wip/whole/m30.py) -/
theorem q_nm1 {f : Nat} (h : f < 2 ^ 31) : ¬ nI f = -1 := by
  intro q
  have h2 := congrArg Int32.toInt q
  rw [nI_toInt h, show (-1 : Int32).toInt = -1 from rfl] at h2
  omega
theorem q_irr (S : q_st) (i : q_ix) (k : Nat) (v : Int32) (j : q_ix) (m : Nat) (h : ¬ (j = i ∧ m = k)) : q_up S i k v j m = S j m := by
  unfold q_up
  rw [if_neg h]
theorem q_irs (S : q_st) (i : q_ix) (k : Nat) (v : Int32) : q_up S i k v i k = v := by simp [q_up]
/-- a truth value as an answer -/
def q_bl (r : Int32) (c : Prop) : Prop := (r = nI 1 ∧ c) ∨ (r = nI 0 ∧ ¬ c)
theorem q_bl_1 {c : Prop} (h : c) : q_bl (nI 1) c := Or.inl ⟨rfl, h⟩
theorem q_bl_0 {c : Prop} (h : ¬ c) : q_bl (nI 0) c := Or.inr ⟨rfl, h⟩
theorem q_bl_T {v : Int32} {c : Prop} (h : q_bl v c) (h0 : ¬ v = 0) : c := by
  rcases h with ⟨-, h⟩ | ⟨h, -⟩
  · exact h
  · exact absurd h h0
theorem q_bl_F {v : Int32} {c : Prop} (h : q_bl v c) (h0 : v = 0) : ¬ c := by
  rcases h with ⟨h, -⟩ | ⟨-, h⟩
  · rw [h] at h0
    exact absurd h0 (by decide)
  · exact h
def c_tk (S : q_st) (f : Nat) : q_st := q_fill (q_up (q_up S (3, 0) f (nI 1)) (1, 0) 3 (S (1, 0) 3 + nI 1)) (2, 0) (8 * f) 8 (fun _ => 0)
def c_lv (S : q_st) (f : Nat) : q_st := if S (3, 0) f - nI 1 = 0 then q_up (q_up S (3, 0) f (S (3, 0) f - nI 1)) (1, 0) 3 (S (1, 0) 3 - nI 1) else q_up S (3, 0) f (S (3, 0) f - nI 1)

set_option maxRecDepth 100000 in
set_option maxHeartbeats 4000000 in
theorem t_unused {G : q_g} {n : Nat} {ad : q_ix → Nat} (l : Launch) (S : q_st) : q_Ct l G iX0_unused [.inr (some (1, 0))] (q_w G n ad) (S) (q_pi (q_w G n ad) (fun r S' => r = S (1, 0) 0 - S (1, 0) 3 ∧ S' = S)) := by
  refine q_enter (by decide) (Nat.le_of_ble_eq_true rfl) (fun X F E => ?_)
  show q_W G X iX0_unused (q_w G n ad) (0, 0) 0 [some (.inr (some (1, 0)))] [] (S)
  refine q_aload_n F dX0_unused_0 rfl ?_
  refine q_geti F (k := 0) fkX0_15 q_m1 rfl rfl dX0_unused_1 ?_
  refine q_aload_n F dX0_unused_4 rfl ?_
  refine q_geti F (k := 3) fkX0_9 q_m1 rfl rfl dX0_unused_5 ?_
  refine q_isub F dX0_unused_8 ?_
  refine q_iret F E rfl ⟨rfl, rfl⟩ dX0_unused_9

set_option maxRecDepth 100000 in
set_option maxHeartbeats 4000000 in
theorem lp_take_in {G : q_g} {n : Nat} {ad : q_ix → Nat} {X : q_cx} (F : q_fx G X iX0_take) {f : Nat} (hf : f < n) (hn : n ≤ 32) (S1 : q_st) (kk : q_W G X iX0_take (q_w G n ad) (0, 0) 62 [some (.inr (some (1, 0))), some (.inl (nI f)), none] [] (q_fill S1 (2, 0) (8 * f) 8 (fun _ => 0))) : ∀ k, k ≤ 8 → q_W G X iX0_take (q_w G n ad) (0, 0) 38 [some (.inr (some (1, 0))), some (.inl (nI f)), some (.inl (nI k))] [] (q_fill S1 (2, 0) (8 * f) k (fun _ => 0)) := by
  refine q_loop (fun k hk ih => ?_)
  refine q_iload_n F dX0_take_38 rfl ?_
  refine q_bipush F (nI 8) dX0_take_39 (by decide) ?_
  refine q_icmpN_ge F 62 dX0_take_41 (by decide) (by omega) (by omega) (fun h41 => ?_) (fun h41 => ?_)
  · obtain rfl : k = 8 := by omega
    exact q_drop_2 kk
  · refine q_aload_n F dX0_take_44 rfl ?_
    refine q_getr F (k := 1) fkX0_18 q_m1 rfl rfl dX0_take_45 ?_
    refine q_iload_n F dX0_take_48 rfl ?_
    refine q_bipush F (nI 8) dX0_take_49 (by decide) ?_
    refine q_imulN F dX0_take_51 ?_
    refine q_iload_n F dX0_take_52 rfl ?_
    refine q_iaddN F dX0_take_53 ?_
    refine q_iconst F (nI 0) dX0_take_54 (by decide) ?_
    refine q_iast F (8 * f + k) q_m2 rfl (by rw [Nat.mul_comm]) (by omega) (by omega) dX0_take_55 ?_
    rw [q_fill_s _ _ _ _ (fun _ => 0) (nI 0) rfl]
    refine q_iinc_2 F _ dX0_take_56 (q_inc1 _) (by decide) ?_
    exact q_goto F 38 dX0_take_59 (by decide) (ih h41)

set_option maxRecDepth 100000 in
set_option maxHeartbeats 4000000 in
theorem lp_take {G : q_g} {n : Nat} {ad : q_ix → Nat} {X : q_cx} (F : q_fx G X iX0_take) (hn : n ≤ 32) {S : q_st} (h0 : S (1, 0) 0 = nI n) (E : q_en G X iX0_take (q_pi (q_w G n ad) (fun r S' => (∃ f, f < n ∧ S (3, 0) f = 0 ∧ (∀ x, x < f → ¬ S (3, 0) x = 0) ∧ r = nI f ∧ S' = c_tk S f) ∨ ((∀ f, f < n → ¬ S (3, 0) f = 0) ∧ r = -1 ∧ S' = S)))) : ∀ f, f ≤ n → (∀ x, x < f → ¬ S (3, 0) x = 0) → q_W G X iX0_take (q_w G n ad) (0, 0) 2 [some (.inr (some (1, 0))), some (.inl (nI f)), none] [] S := by
  refine q_loop (fun f hf ih => ?_)
  intro hall
  refine q_iload_n F dX0_take_2 rfl ?_
  refine q_aload_n F dX0_take_3 rfl ?_
  refine q_geti F (k := 0) fkX0_15 q_m1 rfl rfl dX0_take_4 ?_
  refine q_top (nI n) h0 ?_
  refine q_icmpN_ge F 70 dX0_take_7 (by decide) (by omega) (by omega) (fun h7 => ?_) (fun h7 => ?_)
  · obtain rfl : f = n := by omega
    refine q_iconst F (-1) dX0_take_70 (by decide) ?_
    refine q_iret F E rfl (Or.inr ⟨hall, rfl, rfl⟩) dX0_take_71
  · refine q_aload_n F dX0_take_10 rfl ?_
    refine q_getr F (k := 2) fkX0_22 q_m1 rfl rfl dX0_take_11 ?_
    refine q_iload_n F dX0_take_14 rfl ?_
    refine q_iald F (_) q_m3 rfl rfl (by omega) (by omega) dX0_take_15 ?_
    refine q_if_ne F 64 dX0_take_16 (by decide) (fun h16 => ?_) (fun h16 => ?_)
    · refine q_iinc_1 F _ dX0_take_64 (q_inc1 _) (by decide) ?_
      exact q_goto F 2 dX0_take_67 (by decide) (ih h7 (lt_s hall h16))
    · refine q_aload_n F dX0_take_19 rfl ?_
      refine q_getr F (k := 2) fkX0_22 q_m1 rfl rfl dX0_take_20 ?_
      refine q_iload_n F dX0_take_23 rfl ?_
      refine q_iconst F (nI 1) dX0_take_24 (by decide) ?_
      refine q_iast F (_) q_m3 rfl rfl (by omega) (by omega) dX0_take_25 ?_
      refine q_aload_n F dX0_take_26 rfl ?_
      refine q_dup F dX0_take_27 ?_
      refine q_geti F (k := 3) fkX0_9 q_m1 rfl rfl dX0_take_28 ?_
      refine q_iconst F (nI 1) dX0_take_31 (by decide) ?_
      refine q_iadd F dX0_take_32 ?_
      refine q_puti F (k := 3) fkX0_9 fp0_3 q_m1 rfl rfl dX0_take_33 ?_
      rw [q_irr S (3, 0) f (nI 1) (1, 0) 3 (by simp)]
      refine q_iconst F (nI 0) dX0_take_36 (by decide) ?_
      refine q_istore_n_2 F dX0_take_37 (by decide) ?_
      rw [← q_fill_0 (q_up (q_up S (3, 0) f (nI 1)) (1, 0) 3 (S (1, 0) 3 + nI 1)) (2, 0) (8 * f) (fun _ => 0)]
      refine lp_take_in F (by omega) hn _ ?_ 0 (by decide)
      refine q_iload_n F dX0_take_62 rfl ?_
      exact q_iret F E rfl (Or.inl ⟨f, by omega, h16, hall, rfl, rfl⟩) dX0_take_63

set_option maxRecDepth 100000 in
set_option maxHeartbeats 4000000 in
theorem t_take {G : q_g} {n : Nat} {ad : q_ix → Nat} (l : Launch) (S : q_st) (hn : n ≤ 32) (h0 : S (1, 0) 0 = nI n) : q_Ct l G iX0_take [.inr (some (1, 0))] (q_w G n ad) (S) (q_pi (q_w G n ad) (fun r S' => (∃ f, f < n ∧ S (3, 0) f = 0 ∧ (∀ x, x < f → ¬ S (3, 0) x = 0) ∧ r = nI f ∧ S' = c_tk S f) ∨ ((∀ f, f < n → ¬ S (3, 0) f = 0) ∧ r = -1 ∧ S' = S))) := by
  refine q_enter (by decide) (Nat.le_of_ble_eq_true rfl) (fun X F E => ?_)
  show q_W G X iX0_take (q_w G n ad) (0, 0) 0 [some (.inr (some (1, 0))), none, none] [] (S)
  refine q_iconst F (nI 0) dX0_take_0 (by decide) ?_
  refine q_istore_n_1 F dX0_take_1 (by decide) ?_
  exact lp_take F hn h0 E 0 (Nat.zero_le _) (fun x hx => absurd hx (Nat.not_lt_zero x))

set_option maxRecDepth 100000 in
set_option maxHeartbeats 4000000 in
theorem t_join0 {G : q_g} {n : Nat} {ad : q_ix → Nat} (l : Launch) (S : q_st) : q_Ct l G iX0_join [.inr (some (1, 0)), .inl (-1)] (q_w G n ad) (S) (q_pv (q_w G n ad) (fun S' => S' = S)) := by
  refine q_enter (by decide) (Nat.le_of_ble_eq_true rfl) (fun X F E => ?_)
  show q_W G X iX0_join (q_w G n ad) (0, 0) 0 [some (.inr (some (1, 0))), some (.inl (-1))] [] (S)
  refine q_iload_n F dX0_join_0 rfl ?_
  refine q_iconst F (-1) dX0_join_1 (by decide) ?_
  refine q_icmp_eq F 15 dX0_join_2 (by decide) (fun h2 => ?_) (fun h2 => ?_)
  · refine q_vret F E rfl rfl dX0_join_15
  · exact absurd rfl h2

set_option maxRecDepth 100000 in
set_option maxHeartbeats 4000000 in
theorem t_join {G : q_g} {n : Nat} {ad : q_ix → Nat} (l : Launch) (S : q_st) {f : Nat} (hf : f < n) (hn : n ≤ 32) : q_Ct l G iX0_join [.inr (some (1, 0)), .inl (nI f)] (q_w G n ad) (S) (q_pv (q_w G n ad) (fun S' => S' = q_up S (3, 0) f (S (3, 0) f + nI 1))) := by
  refine q_enter (by decide) (Nat.le_of_ble_eq_true rfl) (fun X F E => ?_)
  show q_W G X iX0_join (q_w G n ad) (0, 0) 0 [some (.inr (some (1, 0))), some (.inl (nI f))] [] (S)
  refine q_iload_n F dX0_join_0 rfl ?_
  refine q_iconst F (-1) dX0_join_1 (by decide) ?_
  refine q_icmp_eq F 15 dX0_join_2 (by decide) (fun h2 => ?_) (fun h2 => ?_)
  · exact absurd h2 (q_nm1 (by omega))
  · refine q_aload_n F dX0_join_5 rfl ?_
    refine q_getr F (k := 2) fkX0_22 q_m1 rfl rfl dX0_join_6 ?_
    refine q_iload_n F dX0_join_9 rfl ?_
    refine q_dup2 F dX0_join_10 ?_
    refine q_iald F (_) q_m3 rfl rfl (by omega) (by omega) dX0_join_11 ?_
    refine q_iconst F (nI 1) dX0_join_12 (by decide) ?_
    refine q_iadd F dX0_join_13 ?_
    refine q_iast F (_) q_m3 rfl rfl (by omega) (by omega) dX0_join_14 ?_
    refine q_vret F E rfl rfl dX0_join_15

set_option maxRecDepth 100000 in
set_option maxHeartbeats 4000000 in
theorem t_leave0 {G : q_g} {n : Nat} {ad : q_ix → Nat} (l : Launch) (S : q_st) : q_Ct l G iX0_leave [.inr (some (1, 0)), .inl (-1)] (q_w G n ad) (S) (q_pv (q_w G n ad) (fun S' => S' = S)) := by
  refine q_enter (by decide) (Nat.le_of_ble_eq_true rfl) (fun X F E => ?_)
  show q_W G X iX0_leave (q_w G n ad) (0, 0) 0 [some (.inr (some (1, 0))), some (.inl (-1))] [] (S)
  refine q_iload_n F dX0_leave_0 rfl ?_
  refine q_iconst F (-1) dX0_leave_1 (by decide) ?_
  refine q_icmp_ne F 6 dX0_leave_2 (by decide) (fun h2 => ?_) (fun h2 => ?_)
  · exact absurd rfl h2
  · refine q_vret F E rfl rfl dX0_leave_5

set_option maxRecDepth 100000 in
set_option maxHeartbeats 4000000 in
theorem t_leave {G : q_g} {n : Nat} {ad : q_ix → Nat} (l : Launch) (S : q_st) {f : Nat} (hf : f < n) (hn : n ≤ 32) : q_Ct l G iX0_leave [.inr (some (1, 0)), .inl (nI f)] (q_w G n ad) (S) (q_pv (q_w G n ad) (fun S' => S' = c_lv S f)) := by
  refine q_enter (by decide) (Nat.le_of_ble_eq_true rfl) (fun X F E => ?_)
  show q_W G X iX0_leave (q_w G n ad) (0, 0) 0 [some (.inr (some (1, 0))), some (.inl (nI f))] [] (S)
  refine q_iload_n F dX0_leave_0 rfl ?_
  refine q_iconst F (-1) dX0_leave_1 (by decide) ?_
  refine q_icmp_ne F 6 dX0_leave_2 (by decide) (fun h2 => ?_) (fun h2 => ?_)
  · refine q_aload_n F dX0_leave_6 rfl ?_
    refine q_getr F (k := 2) fkX0_22 q_m1 rfl rfl dX0_leave_7 ?_
    refine q_iload_n F dX0_leave_10 rfl ?_
    refine q_dup2 F dX0_leave_11 ?_
    refine q_iald F (_) q_m3 rfl rfl (by omega) (by omega) dX0_leave_12 ?_
    refine q_iconst F (nI 1) dX0_leave_13 (by decide) ?_
    refine q_isub F dX0_leave_14 ?_
    refine q_iast F (_) q_m3 rfl rfl (by omega) (by omega) dX0_leave_15 ?_
    refine q_aload_n F dX0_leave_16 rfl ?_
    refine q_getr F (k := 2) fkX0_22 q_m1 rfl rfl dX0_leave_17 ?_
    refine q_iload_n F dX0_leave_20 rfl ?_
    refine q_iald F (_) q_m3 rfl rfl (by omega) (by omega) dX0_leave_21 ?_
    refine q_top (S (3, 0) f - nI 1) (q_irs _ _ _ _) ?_
    refine q_if_ne F 35 dX0_leave_22 (by decide) (fun h22 => ?_) (fun h22 => ?_)
    · refine q_vret F E rfl (by unfold c_lv; first | rw [if_pos h22] | rw [if_neg h22]) dX0_leave_35
    · refine q_aload_n F dX0_leave_25 rfl ?_
      refine q_dup F dX0_leave_26 ?_
      refine q_geti F (k := 3) fkX0_9 q_m1 rfl rfl dX0_leave_27 ?_
      rw [q_irr S (3, 0) f (S (3, 0) f - nI 1) (1, 0) 3 (by simp)]
      refine q_iconst F (nI 1) dX0_leave_30 (by decide) ?_
      refine q_isub F dX0_leave_31 ?_
      refine q_puti F (k := 3) fkX0_9 fp0_3 q_m1 rfl rfl dX0_leave_32 ?_
      refine q_vret F E rfl (by unfold c_lv; first | rw [if_pos h22] | rw [if_neg h22]) dX0_leave_35
  · exact absurd h2 (q_nm1 (by omega))

set_option maxRecDepth 100000 in
set_option maxHeartbeats 4000000 in
theorem lp_copy {G : q_g} {n : Nat} {ad : q_ix → Nat} {X : q_cx} (F : q_fx G X iX0_copyWords) {a b : Nat} (ha : a < n) (hb : b < n) (hab : a ≠ b) (hn : n ≤ 32) {S : q_st} (E : q_en G X iX0_copyWords (q_pv (q_w G n ad) (fun S' => S' = q_fill S (2, 0) (8 * b) 8 (fun x => S (2, 0) (8 * a + (x - 8 * b)))))) : ∀ k, k ≤ 8 → q_W G X iX0_copyWords (q_w G n ad) (0, 0) 2 [some (.inr (some (1, 0))), some (.inl (nI a)), some (.inl (nI b)), some (.inl (nI k))] [] (q_fill S (2, 0) (8 * b) k (fun x => S (2, 0) (8 * a + (x - 8 * b)))) := by
  refine q_loop (fun k hk ih => ?_)
  refine q_iload_n F dX0_copyWords_2 rfl ?_
  refine q_bipush F (nI 8) dX0_copyWords_3 (by decide) ?_
  refine q_icmpN_ge F 36 dX0_copyWords_5 (by decide) (by omega) (by omega) (fun h5 => ?_) (fun h5 => ?_)
  · obtain rfl : k = 8 := by omega
    refine q_vret F E rfl rfl dX0_copyWords_36
  · refine q_aload_n F dX0_copyWords_8 rfl ?_
    refine q_getr F (k := 1) fkX0_18 q_m1 rfl rfl dX0_copyWords_9 ?_
    refine q_iload_n F dX0_copyWords_12 rfl ?_
    refine q_bipush F (nI 8) dX0_copyWords_13 (by decide) ?_
    refine q_imulN F dX0_copyWords_15 ?_
    refine q_iload_n F dX0_copyWords_16 rfl ?_
    refine q_iaddN F dX0_copyWords_17 ?_
    refine q_aload_n F dX0_copyWords_18 rfl ?_
    refine q_getr F (k := 1) fkX0_18 q_m1 rfl rfl dX0_copyWords_19 ?_
    refine q_iload_n F dX0_copyWords_22 rfl ?_
    refine q_bipush F (nI 8) dX0_copyWords_23 (by decide) ?_
    refine q_imulN F dX0_copyWords_25 ?_
    refine q_iload_n F dX0_copyWords_26 rfl ?_
    refine q_iaddN F dX0_copyWords_27 ?_
    refine q_iald F (8 * a + k) q_m2 rfl (by rw [Nat.mul_comm]) (by omega) (by omega) dX0_copyWords_28 ?_
    rw [q_fill_out _ _ _ _ _ _ (by omega)]
    refine q_iast F (8 * b + k) q_m2 rfl (by rw [Nat.mul_comm]) (by omega) (by omega) dX0_copyWords_29 ?_
    rw [q_fill_s _ _ _ _ (fun x => S (2, 0) (8 * a + (x - 8 * b))) _ (by rw [show 8 * b + k - 8 * b = k by omega])]
    refine q_iinc_3 F _ dX0_copyWords_30 (q_inc1 _) (by decide) ?_
    exact q_goto F 2 dX0_copyWords_33 (by decide) (ih h5)

set_option maxRecDepth 100000 in
set_option maxHeartbeats 4000000 in
theorem t_copy {G : q_g} {n : Nat} {ad : q_ix → Nat} (l : Launch) (S : q_st) {a b : Nat} (ha : a < n) (hb : b < n) (hab : a ≠ b) (hn : n ≤ 32) : q_Ct l G iX0_copyWords [.inr (some (1, 0)), .inl (nI a), .inl (nI b)] (q_w G n ad) (S) (q_pv (q_w G n ad) (fun S' => S' = q_fill S (2, 0) (8 * b) 8 (fun x => S (2, 0) (8 * a + (x - 8 * b))))) := by
  refine q_enter (by decide) (Nat.le_of_ble_eq_true rfl) (fun X F E => ?_)
  show q_W G X iX0_copyWords (q_w G n ad) (0, 0) 0 [some (.inr (some (1, 0))), some (.inl (nI a)), some (.inl (nI b)), none] [] (S)
  refine q_iconst F (nI 0) dX0_copyWords_0 (by decide) ?_
  refine q_istore_n_3 F dX0_copyWords_1 (by decide) ?_
  have h := lp_copy F ha hb hab hn E 0 (by decide)
  rw [q_fill_0] at h
  exact h

set_option maxRecDepth 100000 in
set_option maxHeartbeats 4000000 in
theorem t_append {G : q_g} {n : Nat} {ad : q_ix → Nat} (l : Launch) (S : q_st) {c : Nat} {v : Int32} (hc : S (8, 0) 1 = nI c) (hc2 : c < 2 ^ 30) : q_Ct l G iX1_append [.inr (some (8, 0)), .inl v] (q_w G n ad) (S) (q_pv (q_w G n ad) (fun S' => S' = q_up (q_up S (9, 0) (c % 32) v) (8, 0) 1 (nI (c + 1)))) := by
  refine q_enter (by decide) (Nat.le_of_ble_eq_true rfl) (fun X F E => ?_)
  show q_W G X iX1_append (q_w G n ad) (0, 0) 0 [some (.inr (some (8, 0))), some (.inl v)] [] (S)
  refine q_aload_n F dX1_append_0 rfl ?_
  refine q_getr F (k := 0) fkX1_9 q_m8 rfl rfl dX1_append_1 ?_
  refine q_aload_n F dX1_append_4 rfl ?_
  refine q_geti F (k := 1) fkX1_15 q_m8 rfl rfl dX1_append_5 ?_
  refine q_top (nI c) hc ?_
  refine q_bipush F (nI 32) dX1_append_8 (by decide) ?_
  refine q_iremN F dX1_append_10 (by omega) (by omega) (by omega) ?_
  refine q_iload_n F dX1_append_11 rfl ?_
  refine q_iast F (_) q_m9 rfl rfl (by omega) (by omega) dX1_append_12 ?_
  refine q_aload_n F dX1_append_13 rfl ?_
  refine q_dup F dX1_append_14 ?_
  refine q_geti F (k := 1) fkX1_15 q_m8 rfl rfl dX1_append_15 ?_
  refine q_top (nI c) (by rw [q_irr _ _ _ _ _ _ (by simp)]; exact hc) ?_
  refine q_iconst F (nI 1) dX1_append_18 (by decide) ?_
  refine q_iaddN F dX1_append_19 ?_
  refine q_puti F (k := 1) fkX1_15 fp1_1 q_m8 rfl rfl dX1_append_20 ?_
  refine q_vret F E rfl rfl dX1_append_23

set_option maxRecDepth 100000 in
set_option maxHeartbeats 4000000 in
theorem t_latest {G : q_g} {n : Nat} {ad : q_ix → Nat} (l : Launch) (S : q_st) {c : Nat} {k : Int32} (hc : S (8, 0) 1 = nI c) (hc2 : c < 2 ^ 30) : q_Ct l G iX1_latest [.inr (some (8, 0)), .inl k] (q_w G n ad) (S) (q_pi (q_w G n ad) (fun r S' => (r = if 0 ≤ k.toInt ∧ k.toInt < 32 ∧ k.toInt < c then S (9, 0) ((c - 1 - k.toInt.toNat) % 32) else 0) ∧ S' = S)) := by
  refine q_enter (by decide) (Nat.le_of_ble_eq_true rfl) (fun X F E => ?_)
  show q_W G X iX1_latest (q_w G n ad) (0, 0) 0 [some (.inr (some (8, 0))), some (.inl k)] [] (S)
  refine q_iload_n F dX1_latest_0 rfl ?_
  refine q_if_lt F 18 dX1_latest_1 (by decide) (fun h1 => ?_) (fun h1 => ?_)
  · refine q_iconst F (nI 0) dX1_latest_18 (by decide) ?_
    exact q_iret F E rfl ⟨by rw [if_neg (by omega)]; rfl, rfl⟩ dX1_latest_19
  · refine q_iload_n F dX1_latest_4 rfl ?_
    refine q_bipush F (nI 32) dX1_latest_5 (by decide) ?_
    refine q_icmp_ge F 18 dX1_latest_7 (by decide) (fun h7 => ?_) (fun h7 => ?_)
    · rw [nI_toInt (by omega)] at h7
      refine q_iconst F (nI 0) dX1_latest_18 (by decide) ?_
      exact q_iret F E rfl ⟨by rw [if_neg (by omega)]; rfl, rfl⟩ dX1_latest_19
    · rw [nI_toInt (by omega)] at h7
      refine q_iload_n F dX1_latest_10 rfl ?_
      refine q_aload_n F dX1_latest_11 rfl ?_
      refine q_geti F (k := 1) fkX1_15 q_m8 rfl rfl dX1_latest_12 ?_
      refine q_top (nI c) hc ?_
      refine q_icmp_lt F 20 dX1_latest_15 (by decide) (fun h15 => ?_) (fun h15 => ?_)
      · rw [nI_toInt (by omega)] at h15
        obtain ⟨j, hj, rfl⟩ : ∃ j : Nat, j < 32 ∧ k = nI j := ⟨k.toInt.toNat, by omega, by rw [← Int32.toInt_inj, nI_toInt (by omega)]; omega⟩
        rw [nI_toInt (by omega)] at h1 h7 h15
        have hjc : j < c := by omega
        refine q_aload_n F dX1_latest_20 rfl ?_
        refine q_getr F (k := 0) fkX1_9 q_m8 rfl rfl dX1_latest_21 ?_
        refine q_aload_n F dX1_latest_24 rfl ?_
        refine q_geti F (k := 1) fkX1_15 q_m8 rfl rfl dX1_latest_25 ?_
        refine q_top (nI c) hc ?_
        refine q_iconst F (nI 1) dX1_latest_28 (by decide) ?_
        refine q_isubN F dX1_latest_29 (by omega) ?_
        refine q_iload_n F dX1_latest_30 rfl ?_
        refine q_isubN F dX1_latest_31 (by omega) ?_
        refine q_bipush F (nI 32) dX1_latest_32 (by decide) ?_
        refine q_iremN F dX1_latest_34 (by omega) (by omega) (by omega) ?_
        refine q_iald F (_) q_m9 rfl rfl (by omega) (by omega) dX1_latest_35 ?_
        refine q_iret F E rfl ⟨by rw [nI_toInt (by omega), if_pos ⟨by omega, by omega, by omega⟩, Int.toNat_natCast], rfl⟩ dX1_latest_36
      · rw [nI_toInt (by omega)] at h15
        refine q_iconst F (nI 0) dX1_latest_18 (by decide) ?_
        exact q_iret F E rfl ⟨by rw [if_neg (by omega)]; rfl, rfl⟩ dX1_latest_19

set_option maxRecDepth 100000 in
set_option maxHeartbeats 4000000 in
theorem t_holds {G : q_g} {n : Nat} {ad : q_ix → Nat} (l : Launch) (S : q_st) {p : Nat} (hp : p < 8) {a : Int32} : q_Ct l G iX2_holds [.inr (some (5, p)), .inl a] (q_w G n ad) (S) (q_pi (q_w G n ad) (fun r S' => q_bl r (0 ≤ a.toInt ∧ a.toInt < (S (5, p) 4).toInt) ∧ S' = S)) := by
  refine q_enter (by decide) (Nat.le_of_ble_eq_true rfl) (fun X F E => ?_)
  show q_W G X iX2_holds (q_w G n ad) (0, 0) 0 [some (.inr (some (5, p))), some (.inl a)] [] (S)
  refine q_iload_n F dX2_holds_0 rfl ?_
  refine q_if_lt F 16 dX2_holds_1 (by decide) (fun h1 => ?_) (fun h1 => ?_)
  · refine q_iconst F (nI 0) dX2_holds_16 (by decide) ?_
    refine q_zret F E rfl (by decide) ⟨by first | exact q_bl_1 ⟨by omega, by omega⟩ | exact q_bl_0 (by omega), rfl⟩ dX2_holds_17
  · refine q_iload_n F dX2_holds_4 rfl ?_
    refine q_aload_n F dX2_holds_5 rfl ?_
    refine q_geti F (k := 4) fkX2_24 (q_m5 (by omega)) rfl rfl dX2_holds_6 ?_
    refine q_icmp_ge F 16 dX2_holds_9 (by decide) (fun h9 => ?_) (fun h9 => ?_)
    · refine q_iconst F (nI 0) dX2_holds_16 (by decide) ?_
      refine q_zret F E rfl (by decide) ⟨by first | exact q_bl_1 ⟨by omega, by omega⟩ | exact q_bl_0 (by omega), rfl⟩ dX2_holds_17
    · refine q_iconst F (nI 1) dX2_holds_12 (by decide) ?_
      refine q_goto F 17 dX2_holds_13 (by decide) ?_
      refine q_zret F E rfl (by decide) ⟨by first | exact q_bl_1 ⟨by omega, by omega⟩ | exact q_bl_0 (by omega), rfl⟩ dX2_holds_17

set_option maxRecDepth 100000 in
set_option maxHeartbeats 4000000 in
theorem lp_begin {G : q_g} {n : Nat} {ad : q_ix → Nat} {X : q_cx} (F : q_fx G X iX2_begin) {p : Nat} (hp : p < 8) {v : Int32} {S S1 : q_st} (E : q_en G X iX2_begin (q_pv (q_w G n ad) (fun S' => S' = q_fill (q_up (q_up (q_up S (5, p) 0 (nI 1)) (5, p) 1 v) (5, p) 3 (nI 0)) (6, p) 0 8 (fun _ => 0)))) (h1 : S1 = q_up (q_up (q_up S (5, p) 0 (nI 1)) (5, p) 1 v) (5, p) 3 (nI 0)) : ∀ k, k ≤ 8 → q_W G X iX2_begin (q_w G n ad) (0, 0) 17 [some (.inr (some (5, p))), some (.inl v), some (.inl (nI k))] [] (q_fill S1 (6, p) 0 k (fun _ => 0)) := by
  refine q_loop (fun k hk ih => ?_)
  refine q_iload_n F dX2_begin_17 rfl ?_
  refine q_bipush F (nI 8) dX2_begin_18 (by decide) ?_
  refine q_icmpN_ge F 36 dX2_begin_20 (by decide) (by omega) (by omega) (fun h20 => ?_) (fun h20 => ?_)
  · obtain rfl : k = 8 := by omega
    refine q_vret F E rfl (by rw [h1]) dX2_begin_36
  · refine q_aload_n F dX2_begin_23 rfl ?_
    refine q_getr F (k := 5) fkX2_27 (q_m5 (by omega)) rfl rfl dX2_begin_24 ?_
    refine q_iload_n F dX2_begin_27 rfl ?_
    refine q_iconst F (nI 0) dX2_begin_28 (by decide) ?_
    refine q_iast F (0 + k) (q_m6 (by omega)) rfl (by rw [Nat.zero_add]) (by omega) (by omega) dX2_begin_29 ?_
    rw [q_fill_s _ _ _ _ (fun _ => 0) (nI 0) rfl]
    refine q_iinc_2 F _ dX2_begin_30 (q_inc1 _) (by decide) ?_
    exact q_goto F 17 dX2_begin_33 (by decide) (ih h20)

set_option maxRecDepth 100000 in
set_option maxHeartbeats 4000000 in
theorem t_begin {G : q_g} {n : Nat} {ad : q_ix → Nat} (l : Launch) (S : q_st) {p : Nat} (hp : p < 8) {v : Int32} : q_Ct l G iX2_begin [.inr (some (5, p)), .inl v] (q_w G n ad) (S) (q_pv (q_w G n ad) (fun S' => S' = q_fill (q_up (q_up (q_up S (5, p) 0 (nI 1)) (5, p) 1 v) (5, p) 3 (nI 0)) (6, p) 0 8 (fun _ => 0))) := by
  refine q_enter (by decide) (Nat.le_of_ble_eq_true rfl) (fun X F E => ?_)
  show q_W G X iX2_begin (q_w G n ad) (0, 0) 0 [some (.inr (some (5, p))), some (.inl v), none] [] (S)
  refine q_aload_n F dX2_begin_0 rfl ?_
  refine q_iconst F (nI 1) dX2_begin_1 (by decide) ?_
  refine q_puti F (k := 0) fkX2_9 fp2_0 (q_m5 (by omega)) rfl rfl dX2_begin_2 ?_
  refine q_aload_n F dX2_begin_5 rfl ?_
  refine q_iload_n F dX2_begin_6 rfl ?_
  refine q_puti F (k := 1) fkX2_15 fp2_1 (q_m5 (by omega)) rfl rfl dX2_begin_7 ?_
  refine q_aload_n F dX2_begin_10 rfl ?_
  refine q_iconst F (nI 0) dX2_begin_11 (by decide) ?_
  refine q_puti F (k := 3) fkX2_21 fp2_3 (q_m5 (by omega)) rfl rfl dX2_begin_12 ?_
  refine q_iconst F (nI 0) dX2_begin_15 (by decide) ?_
  refine q_istore_n_2 F dX2_begin_16 (by decide) ?_
  have h := lp_begin F hp E rfl 0 (by decide)
  rw [q_fill_0] at h
  exact h

set_option maxRecDepth 100000 in
set_option maxHeartbeats 4000000 in
theorem t_vacate {G : q_g} {n : Nat} {ad : q_ix → Nat} (l : Launch) (S : q_st) {p : Nat} (hp : p < 8) : q_Ct l G iX2_vacate [.inr (some (5, p))] (q_w G n ad) (S) (q_pi (q_w G n ad) (fun r S' => r = S (5, p) 2 ∧ S' = q_up (q_up S (5, p) 0 (nI 0)) (5, p) 1 (-1))) := by
  refine q_enter (by decide) (Nat.le_of_ble_eq_true rfl) (fun X F E => ?_)
  show q_W G X iX2_vacate (q_w G n ad) (0, 0) 0 [some (.inr (some (5, p)))] [] (S)
  refine q_aload_n F dX2_vacate_0 rfl ?_
  refine q_iconst F (nI 0) dX2_vacate_1 (by decide) ?_
  refine q_puti F (k := 0) fkX2_9 fp2_0 (q_m5 (by omega)) rfl rfl dX2_vacate_2 ?_
  refine q_aload_n F dX2_vacate_5 rfl ?_
  refine q_iconst F (-1) dX2_vacate_6 (by decide) ?_
  refine q_puti F (k := 1) fkX2_15 fp2_1 (q_m5 (by omega)) rfl rfl dX2_vacate_7 ?_
  refine q_aload_n F dX2_vacate_10 rfl ?_
  refine q_geti F (k := 2) fkX2_18 (q_m5 (by omega)) rfl rfl dX2_vacate_11 ?_
  refine q_iret F E rfl ⟨by rw [q_irr _ _ _ _ _ _ (by simp), q_irr _ _ _ _ _ _ (by simp)], rfl⟩ dX2_vacate_14
