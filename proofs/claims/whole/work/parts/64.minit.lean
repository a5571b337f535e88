/-! the reference's constructor (rows laid by wip/whole/m64.py) -/
/-- the ints of a new reference -/
def k_i0 (lim q : Int32) : k_t := fun a j => if a = 0 ∧ j = 0 then lim else if a = 0 ∧ j = 1 then q else if a = 0 ∧ j = 12 then -1 else if a = 3 ∧ j < 8 then -1 else 0
set_option maxRecDepth 100000 in
set_option maxHeartbeats 4000000 in
theorem lp_minit {G : q_g} {X : q_cx} {w : q_wd} {cn : Nat × Nat} {S : q_st} {fl : List (Option (Option q_ix))} {a1 a2 : Option q_v} (F : q_fx G X iX4_init) (hm : (20, 0) ∈ w.1) (hs : w.2.2 (20, 0) = .inl (4, fl)) (hfl : fl[4]? = some (some (some (23, 0)))) (hm7 : (23, 0) ∈ w.1) (hs7 : w.2.2 (23, 0) = .inr (.inl (G.2.1, 8))) (kk : q_W G X iX4_init w cn 152 [some (.inr (some (20, 0))), a1, a2, none] [] (q_fill S (23, 0) 0 8 (fun _ => -1))) : ∀ k, k ≤ 8 → q_W G X iX4_init w cn 133 [some (.inr (some (20, 0))), a1, a2, some (.inl (nI k))] [] (q_fill S (23, 0) 0 k (fun _ => -1)) := by
  refine q_loop (fun k hk ih => ?_)
  refine q_iload_n F dX4_init_133 rfl ?_
  refine q_bipush F (nI 8) dX4_init_134 (by decide) ?_
  refine q_icmpN_ge F 152 dX4_init_136 (by decide) (by omega) (by omega) (fun h50 => ?_) (fun h50 => ?_)
  · obtain rfl : k = 8 := by omega
    exact q_drop_3 kk
  · refine q_aload_n F dX4_init_139 rfl ?_
    refine q_getr F (k := 4) fkX4_16 hm hs hfl dX4_init_140 ?_
    refine q_iload_n F dX4_init_143 rfl ?_
    refine q_iconst F (-1) dX4_init_144 (by decide) ?_
    refine q_iast F (0 + k) hm7 hs7 (by rw [Nat.zero_add]) (by omega) (by decide) dX4_init_145 ?_
    rw [q_fill_s _ _ _ _ (fun _ => -1) (-1) rfl]
    refine q_iinc_3 F _ dX4_init_146 (q_inc1 _) (by decide) ?_
    exact q_goto F 133 dX4_init_149 (by decide) (ih h50)
set_option maxRecDepth 100000 in
set_option maxHeartbeats 4000000 in
theorem t_minit {G : q_g} {w : q_wd} {S : q_st} {x y : Int32} (l : Launch) (hm : (20, 0) ∈ w.1) (hs : w.2.2 (20, 0) = .inl (4, wi_fl4)) (h21 : (21, 0) ∉ w.1) (h22 : (22, 0) ∉ w.1) (h23 : (23, 0) ∉ w.1) (h24 : (24, 0) ∉ w.1) (h25 : (25, 0) ∉ w.1) (h26 : (26, 0) ∉ w.1) (h27 : (27, 0) ∉ w.1) (h28 : (28, 0) ∉ w.1) (h29 : (29, 0) ∉ w.1) (h30 : (30, 0) ∉ w.1) (hcl : q_clo w) (hz : ∀ j k, 20 ≤ j.1 → S j k = 0) : q_Ct l G iX4_init [.inr (some (20, 0)), .inl x, .inl y] w S (fun r w' S' => r = none ∧ q_ext w w' [(21, 0), (22, 0), (23, 0), (24, 0), (25, 0), (26, 0), (27, 0), (28, 0), (29, 0), (30, 0)] (20, 0) ∧ w'.2.2 (20, 0) = .inl (4, [none, none, some (some (21, 0)), some (some (22, 0)), some (some (23, 0)), some (some (24, 0)), some (some (25, 0)), some (some (26, 0)), some (some (27, 0)), some (some (28, 0)), some (some (29, 0)), none, none, none, none, none, some (some (30, 0))]) ∧ (w'.2.2 (21, 0) = .inr (.inl (G.2.1, 64)) ∧ w'.2.2 (22, 0) = .inr (.inl (G.2.1, 8)) ∧ w'.2.2 (23, 0) = .inr (.inl (G.2.1, 8)) ∧ w'.2.2 (24, 0) = .inr (.inl (G.2.1, 8)) ∧ w'.2.2 (25, 0) = .inr (.inl (G.2.1, 64)) ∧ w'.2.2 (26, 0) = .inr (.inl (G.2.1, 8)) ∧ w'.2.2 (27, 0) = .inr (.inl (G.2.1, 8)) ∧ w'.2.2 (28, 0) = .inr (.inl (G.2.1, 512)) ∧ w'.2.2 (29, 0) = .inr (.inl (G.2.1, 64)) ∧ w'.2.2 (30, 0) = .inr (.inl (G.2.1, 32))) ∧ S' = q_put S (k_i0 (if 2 ≤ x.toInt ∧ x.toInt ≤ 32 then x else nI 12) (if 1 ≤ y.toInt ∧ y.toInt ≤ 20 then y else nI 3))) := by
  refine q_enter (by decide) (Nat.le_of_ble_eq_true rfl) (fun X F E => ?_)
  show q_W G X iX4_init w (0, 0) 0 [some (.inr (some (20, 0))), some (.inl x), some (.inl y), none] [] S
  refine q_aload_n F dX4_init_0 rfl ?_
  refine q_obj F wi_olX4 wi_oi wi_oc ⟨Nat.le_of_ble_eq_true rfl, Nat.le_of_ble_eq_true rfl⟩ dX4_init_1 ?_
  refine q_aload_n F dX4_init_4 rfl ?_
  refine q_bipush F (nI 64) dX4_init_5 (by decide) ?_
  refine q_newf F (21, 0) (N := 64) (k := 2) fkX4_7 fp4_2 (Or.inr ⟨_, rfl⟩) rfl fc4_2 hm hs (Nat.le_of_ble_eq_true rfl) h21 hcl (fun k => by first | exact hz _ k (by decide) | (simp [q_up]; exact hz _ k (by decide))) (by simp) (by simp) rfl (by decide) ⟨Nat.le_of_ble_eq_true rfl, Nat.le_of_ble_eq_true rfl⟩ dX4_init_7 dX4_init_9 (fun w1 a1 b1 c1 d1 e1 f1 => ?_)
  have hm1 : (20, 0) ∈ w1.1 := by rw [a1]; exact List.mem_append_left _ hm
  refine q_aload_n F dX4_init_12 rfl ?_
  refine q_bipush F (nI 8) dX4_init_13 (by decide) ?_
  refine q_newf F (22, 0) (N := 8) (k := 3) fkX4_13 fp4_3 (Or.inr ⟨_, rfl⟩) rfl fc4_3 hm1 e1 (Nat.le_of_ble_eq_true rfl) (by rw [a1]; simp [h22]) c1 (fun k => by first | exact hz _ k (by decide) | (simp [q_up]; exact hz _ k (by decide))) (by simp) (by simp) rfl (by decide) ⟨Nat.le_of_ble_eq_true rfl, Nat.le_of_ble_eq_true rfl⟩ dX4_init_15 dX4_init_17 (fun w2 a2 b2 c2 d2 e2 f2 => ?_)
  have hm2 : (20, 0) ∈ w2.1 := by rw [a2]; exact List.mem_append_left _ hm1
  refine q_aload_n F dX4_init_20 rfl ?_
  refine q_bipush F (nI 8) dX4_init_21 (by decide) ?_
  refine q_newf F (23, 0) (N := 8) (k := 4) fkX4_16 fp4_4 (Or.inr ⟨_, rfl⟩) rfl fc4_4 hm2 e2 (Nat.le_of_ble_eq_true rfl) (by rw [a2, a1]; simp [h23]) c2 (fun k => by first | exact hz _ k (by decide) | (simp [q_up]; exact hz _ k (by decide))) (by simp) (by simp) rfl (by decide) ⟨Nat.le_of_ble_eq_true rfl, Nat.le_of_ble_eq_true rfl⟩ dX4_init_23 dX4_init_25 (fun w3 a3 b3 c3 d3 e3 f3 => ?_)
  have hm3 : (20, 0) ∈ w3.1 := by rw [a3]; exact List.mem_append_left _ hm2
  refine q_aload_n F dX4_init_28 rfl ?_
  refine q_bipush F (nI 8) dX4_init_29 (by decide) ?_
  refine q_newf F (24, 0) (N := 8) (k := 5) fkX4_19 fp4_5 (Or.inr ⟨_, rfl⟩) rfl fc4_5 hm3 e3 (Nat.le_of_ble_eq_true rfl) (by rw [a3, a2, a1]; simp [h24]) c3 (fun k => by first | exact hz _ k (by decide) | (simp [q_up]; exact hz _ k (by decide))) (by simp) (by simp) rfl (by decide) ⟨Nat.le_of_ble_eq_true rfl, Nat.le_of_ble_eq_true rfl⟩ dX4_init_31 dX4_init_33 (fun w4 a4 b4 c4 d4 e4 f4 => ?_)
  have hm4 : (20, 0) ∈ w4.1 := by rw [a4]; exact List.mem_append_left _ hm3
  refine q_aload_n F dX4_init_36 rfl ?_
  refine q_bipush F (nI 64) dX4_init_37 (by decide) ?_
  refine q_newf F (25, 0) (N := 64) (k := 6) fkX4_22 fp4_6 (Or.inr ⟨_, rfl⟩) rfl fc4_6 hm4 e4 (Nat.le_of_ble_eq_true rfl) (by rw [a4, a3, a2, a1]; simp [h25]) c4 (fun k => by first | exact hz _ k (by decide) | (simp [q_up]; exact hz _ k (by decide))) (by simp) (by simp) rfl (by decide) ⟨Nat.le_of_ble_eq_true rfl, Nat.le_of_ble_eq_true rfl⟩ dX4_init_39 dX4_init_41 (fun w5 a5 b5 c5 d5 e5 f5 => ?_)
  have hm5 : (20, 0) ∈ w5.1 := by rw [a5]; exact List.mem_append_left _ hm4
  refine q_aload_n F dX4_init_44 rfl ?_
  refine q_bipush F (nI 8) dX4_init_45 (by decide) ?_
  refine q_newf F (26, 0) (N := 8) (k := 7) fkX4_25 fp4_7 (Or.inr ⟨_, rfl⟩) rfl fc4_7 hm5 e5 (Nat.le_of_ble_eq_true rfl) (by rw [a5, a4, a3, a2, a1]; simp [h26]) c5 (fun k => by first | exact hz _ k (by decide) | (simp [q_up]; exact hz _ k (by decide))) (by simp) (by simp) rfl (by decide) ⟨Nat.le_of_ble_eq_true rfl, Nat.le_of_ble_eq_true rfl⟩ dX4_init_47 dX4_init_49 (fun w6 a6 b6 c6 d6 e6 f6 => ?_)
  have hm6 : (20, 0) ∈ w6.1 := by rw [a6]; exact List.mem_append_left _ hm5
  refine q_aload_n F dX4_init_52 rfl ?_
  refine q_bipush F (nI 8) dX4_init_53 (by decide) ?_
  refine q_newf F (27, 0) (N := 8) (k := 8) fkX4_28 fp4_8 (Or.inr ⟨_, rfl⟩) rfl fc4_8 hm6 e6 (Nat.le_of_ble_eq_true rfl) (by rw [a6, a5, a4, a3, a2, a1]; simp [h27]) c6 (fun k => by first | exact hz _ k (by decide) | (simp [q_up]; exact hz _ k (by decide))) (by simp) (by simp) rfl (by decide) ⟨Nat.le_of_ble_eq_true rfl, Nat.le_of_ble_eq_true rfl⟩ dX4_init_55 dX4_init_57 (fun w7 a7 b7 c7 d7 e7 f7 => ?_)
  have hm7 : (20, 0) ∈ w7.1 := by rw [a7]; exact List.mem_append_left _ hm6
  refine q_aload_n F dX4_init_60 rfl ?_
  refine q_sipush F (nI 512) dX4_init_61 (by decide) ?_
  refine q_newf F (28, 0) (N := 512) (k := 9) fkX4_31 fp4_9 (Or.inr ⟨_, rfl⟩) rfl fc4_9 hm7 e7 (Nat.le_of_ble_eq_true rfl) (by rw [a7, a6, a5, a4, a3, a2, a1]; simp [h28]) c7 (fun k => by first | exact hz _ k (by decide) | (simp [q_up]; exact hz _ k (by decide))) (by simp) (by simp) rfl (by decide) ⟨Nat.le_of_ble_eq_true rfl, Nat.le_of_ble_eq_true rfl⟩ dX4_init_64 dX4_init_66 (fun w8 a8 b8 c8 d8 e8 f8 => ?_)
  have hm8 : (20, 0) ∈ w8.1 := by rw [a8]; exact List.mem_append_left _ hm7
  refine q_aload_n F dX4_init_69 rfl ?_
  refine q_bipush F (nI 64) dX4_init_70 (by decide) ?_
  refine q_newf F (29, 0) (N := 64) (k := 10) fkX4_34 fp4_10 (Or.inr ⟨_, rfl⟩) rfl fc4_10 hm8 e8 (Nat.le_of_ble_eq_true rfl) (by rw [a8, a7, a6, a5, a4, a3, a2, a1]; simp [h29]) c8 (fun k => by first | exact hz _ k (by decide) | (simp [q_up]; exact hz _ k (by decide))) (by simp) (by simp) rfl (by decide) ⟨Nat.le_of_ble_eq_true rfl, Nat.le_of_ble_eq_true rfl⟩ dX4_init_72 dX4_init_74 (fun w9 a9 b9 c9 d9 e9 f9 => ?_)
  have hm9 : (20, 0) ∈ w9.1 := by rw [a9]; exact List.mem_append_left _ hm8
  refine q_aload_n F dX4_init_77 rfl ?_
  refine q_iconst F (-1) dX4_init_78 (by decide) ?_
  refine q_puti F (k := 12) fkX4_37 fp4_12 hm9 e9 rfl dX4_init_79 ?_
  refine q_aload_n F dX4_init_82 rfl ?_
  refine q_bipush F (nI 32) dX4_init_83 (by decide) ?_
  refine q_newf F (30, 0) (N := 32) (k := 16) fkX4_41 fp4_16 (Or.inr ⟨_, rfl⟩) rfl fc4_16 hm9 e9 (Nat.le_of_ble_eq_true rfl) (by rw [a9, a8, a7, a6, a5, a4, a3, a2, a1]; simp [h30]) c9 (fun k => by first | exact hz _ k (by decide) | (simp [q_up]; exact hz _ k (by decide))) (by simp) (by simp) rfl (by decide) ⟨Nat.le_of_ble_eq_true rfl, Nat.le_of_ble_eq_true rfl⟩ dX4_init_85 dX4_init_87 (fun w10 a10 b10 c10 d10 e10 f10 => ?_)
  have hm10 : (20, 0) ∈ w10.1 := by rw [a10]; exact List.mem_append_left _ hm9
  have hdom : w10.1 = w.1 ++ [(21, 0), (22, 0), (23, 0), (24, 0), (25, 0), (26, 0), (27, 0), (28, 0), (29, 0), (30, 0)] := by rw [a10, a9, a8, a7, a6, a5, a4, a3, a2, a1]; simp
  have hadr : ∀ j, j ∉ [(21, 0), (22, 0), (23, 0), (24, 0), (25, 0), (26, 0), (27, 0), (28, 0), (29, 0), (30, 0)] → w10.2.1 j = w.2.1 j := by
    intro j hj
    simp at hj
    obtain ⟨g1, g2, g3, g4, g5, g6, g7, g8, g9, g10⟩ := hj
    rw [b10 j g10, b9 j g9, b8 j g8, b7 j g7, b6 j g6, b5 j g5, b4 j g4, b3 j g3, b2 j g2, b1 j g1]
  have hshp : ∀ j, j ∉ [(21, 0), (22, 0), (23, 0), (24, 0), (25, 0), (26, 0), (27, 0), (28, 0), (29, 0), (30, 0)] → j ≠ (20, 0) → w10.2.2 j = w.2.2 j := by
    intro j hj hjo
    simp at hj
    obtain ⟨g1, g2, g3, g4, g5, g6, g7, g8, g9, g10⟩ := hj
    rw [f10 j g10 hjo, f9 j g9 hjo, f8 j g8 hjo, f7 j g7 hjo, f6 j g6 hjo, f5 j g5 hjo, f4 j g4 hjo, f3 j g3 hjo, f2 j g2 hjo, f1 j g1 hjo]
  have k1 : w10.2.2 (21, 0) = .inr (.inl (G.2.1, 64)) := by rw [f10 _ (by simp) (by simp), f9 _ (by simp) (by simp), f8 _ (by simp) (by simp), f7 _ (by simp) (by simp), f6 _ (by simp) (by simp), f5 _ (by simp) (by simp), f4 _ (by simp) (by simp), f3 _ (by simp) (by simp), f2 _ (by simp) (by simp)]; exact d1
  have k2 : w10.2.2 (22, 0) = .inr (.inl (G.2.1, 8)) := by rw [f10 _ (by simp) (by simp), f9 _ (by simp) (by simp), f8 _ (by simp) (by simp), f7 _ (by simp) (by simp), f6 _ (by simp) (by simp), f5 _ (by simp) (by simp), f4 _ (by simp) (by simp), f3 _ (by simp) (by simp)]; exact d2
  have k3 : w10.2.2 (23, 0) = .inr (.inl (G.2.1, 8)) := by rw [f10 _ (by simp) (by simp), f9 _ (by simp) (by simp), f8 _ (by simp) (by simp), f7 _ (by simp) (by simp), f6 _ (by simp) (by simp), f5 _ (by simp) (by simp), f4 _ (by simp) (by simp)]; exact d3
  have k4 : w10.2.2 (24, 0) = .inr (.inl (G.2.1, 8)) := by rw [f10 _ (by simp) (by simp), f9 _ (by simp) (by simp), f8 _ (by simp) (by simp), f7 _ (by simp) (by simp), f6 _ (by simp) (by simp), f5 _ (by simp) (by simp)]; exact d4
  have k5 : w10.2.2 (25, 0) = .inr (.inl (G.2.1, 64)) := by rw [f10 _ (by simp) (by simp), f9 _ (by simp) (by simp), f8 _ (by simp) (by simp), f7 _ (by simp) (by simp), f6 _ (by simp) (by simp)]; exact d5
  have k6 : w10.2.2 (26, 0) = .inr (.inl (G.2.1, 8)) := by rw [f10 _ (by simp) (by simp), f9 _ (by simp) (by simp), f8 _ (by simp) (by simp), f7 _ (by simp) (by simp)]; exact d6
  have k7 : w10.2.2 (27, 0) = .inr (.inl (G.2.1, 8)) := by rw [f10 _ (by simp) (by simp), f9 _ (by simp) (by simp), f8 _ (by simp) (by simp)]; exact d7
  have k8 : w10.2.2 (28, 0) = .inr (.inl (G.2.1, 512)) := by rw [f10 _ (by simp) (by simp), f9 _ (by simp) (by simp)]; exact d8
  have k9 : w10.2.2 (29, 0) = .inr (.inl (G.2.1, 64)) := by rw [f10 _ (by simp) (by simp)]; exact d9
  have k10 : w10.2.2 (30, 0) = .inr (.inl (G.2.1, 32)) := d10
  have fin : ∀ (lv qv : Int32), lv = (if 2 ≤ x.toInt ∧ x.toInt ≤ 32 then x else nI 12) → qv = (if 1 ≤ y.toInt ∧ y.toInt ≤ 20 then y else nI 3) → q_W G X iX4_init w10 (10, 776) 131 [some (.inr (some (20, 0))), some (.inl x), some (.inl y), none] [] (q_up (q_up (q_up S (20, 0) 12 (-1)) (20, 0) 0 lv) (20, 0) 1 qv) := by
    intro lv qv hlv hqv
    refine q_iconst F (nI 0) dX4_init_131 (by decide) ?_
    refine q_istore_n_3 F dX4_init_132 (by decide) ?_
    have hlp := lp_minit (a1 := some (.inl x)) (a2 := some (.inl y)) (cn := (10, 776)) (S := q_up (q_up (q_up S (20, 0) 12 (-1)) (20, 0) 0 lv) (20, 0) 1 qv) F hm10 e10 rfl (by rw [hdom]; simp) k3 (q_vret0 F E rfl ⟨Nat.le_of_ble_eq_true rfl, Nat.le_of_ble_eq_true rfl⟩ ⟨rfl, ⟨hdom, hadr, c10, hshp⟩, e10, ⟨k1, k2, k3, k4, k5, k6, k7, k8, k9, k10⟩, ?_⟩ dX4_init_152) 0 (by decide)
    · rw [q_fill_0] at hlp
      exact hlp
    · rw [← hlv, ← hqv]
      funext j k
      obtain ⟨j1, j2⟩ := j
      unfold q_fill q_up q_put k_i0
      by_cases hj : 20 ≤ j1 ∧ j2 = 0
      · obtain ⟨hj1, rfl⟩ := hj
        rw [if_pos (show 20 ≤ (j1, 0).1 ∧ (j1, 0).2 = 0 from ⟨hj1, rfl⟩)]
        have hz' := hz (j1, 0) k hj1
        by_cases h20 : j1 = 20
        · subst h20
          by_cases q0 : k = 0
          · subst q0; simp
          · by_cases q1 : k = 1
            · subst q1; simp
            · by_cases q2 : k = 12
              · subst q2; simp
              · simp [q0, q1, q2, hz']
        · by_cases h23 : j1 = 23
          · subst h23
            by_cases hk : k < 8
            · simp [hk]
            · simp [hk, hz']
          · have g0 : ¬ j1 - 20 = 0 := by omega
            have g3 : ¬ j1 - 20 = 3 := by omega
            simp [h20, h23, g0, g3, hz']
      · rw [if_neg (show ¬ (20 ≤ (j1, j2).1 ∧ (j1, j2).2 = 0) from hj)]
        rw [if_neg (by rintro ⟨q, -⟩; cases q; exact hj ⟨by decide, rfl⟩), if_neg (by rintro ⟨q, -⟩; cases q; exact hj ⟨by decide, rfl⟩), if_neg (by rintro ⟨q, -⟩; cases q; exact hj ⟨by decide, rfl⟩), if_neg (by rintro ⟨q, -⟩; cases q; exact hj ⟨by decide, rfl⟩)]
  have mid : ∀ (lv : Int32), lv = (if 2 ≤ x.toInt ∧ x.toInt ≤ 32 then x else nI 12) → q_W G X iX4_init w10 (10, 776) 111 [some (.inr (some (20, 0))), some (.inl x), some (.inl y), none] [] (q_up (q_up S (20, 0) 12 (-1)) (20, 0) 0 lv) := by
    intro lv hlv
    refine q_aload_n F dX4_init_111 rfl ?_
    refine q_iload_n F dX4_init_112 rfl ?_
    refine q_iconst F (nI 1) dX4_init_113 (by decide) ?_
    refine q_icmp_lt F 123 dX4_init_114 (by decide) (fun h114 => ?_) (fun h114 => ?_)
    · rw [nI_toInt (by decide)] at h114
      refine q_iconst F (nI 3) dX4_init_123 (by decide) ?_
      refine q_goto F 128 dX4_init_124 (by decide) ?_
      refine q_putiF F (k := 1) fkX4_47 fp4_1 rfl fc4_1 hm10 e10 rfl dX4_init_128 ?_
      exact fin lv (nI 3) hlv (by rw [if_neg (by omega)])
    · rw [nI_toInt (by decide)] at h114
      refine q_iload_n F dX4_init_117 rfl ?_
      refine q_bipush F (nI 20) dX4_init_118 (by decide) ?_
      refine q_icmp_le F 127 dX4_init_120 (by decide) (fun h120 => ?_) (fun h120 => ?_)
      · rw [nI_toInt (by decide)] at h120
        refine q_iload_n F dX4_init_127 rfl ?_
        refine q_putiF F (k := 1) fkX4_47 fp4_1 rfl fc4_1 hm10 e10 rfl dX4_init_128 ?_
        exact fin lv y hlv (by rw [if_pos (by omega)])
      · rw [nI_toInt (by decide)] at h120
        refine q_iconst F (nI 3) dX4_init_123 (by decide) ?_
        refine q_goto F 128 dX4_init_124 (by decide) ?_
        refine q_putiF F (k := 1) fkX4_47 fp4_1 rfl fc4_1 hm10 e10 rfl dX4_init_128 ?_
        exact fin lv (nI 3) hlv (by rw [if_neg (by omega)])
  refine q_aload_n F dX4_init_90 rfl ?_
  refine q_iload_n F dX4_init_91 rfl ?_
  refine q_iconst F (nI 2) dX4_init_92 (by decide) ?_
  refine q_icmp_lt F 102 dX4_init_93 (by decide) (fun h93 => ?_) (fun h93 => ?_)
  · rw [nI_toInt (by decide)] at h93
    refine q_bipush F (nI 12) dX4_init_102 (by decide) ?_
    refine q_goto F 108 dX4_init_104 (by decide) ?_
    refine q_putiF F (k := 0) fkX4_44 fp4_0 rfl fc4_0 hm10 e10 rfl dX4_init_108 ?_
    exact mid (nI 12) (by rw [if_neg (by omega)])
  · rw [nI_toInt (by decide)] at h93
    refine q_iload_n F dX4_init_96 rfl ?_
    refine q_bipush F (nI 32) dX4_init_97 (by decide) ?_
    refine q_icmp_le F 107 dX4_init_99 (by decide) (fun h99 => ?_) (fun h99 => ?_)
    · rw [nI_toInt (by decide)] at h99
      refine q_iload_n F dX4_init_107 rfl ?_
      refine q_putiF F (k := 0) fkX4_44 fp4_0 rfl fc4_0 hm10 e10 rfl dX4_init_108 ?_
      exact mid x (by rw [if_pos (by omega)])
    · rw [nI_toInt (by decide)] at h99
      refine q_bipush F (nI 12) dX4_init_102 (by decide) ?_
      refine q_goto F 108 dX4_init_104 (by decide) ?_
      refine q_putiF F (k := 0) fkX4_44 fp4_0 rfl fc4_0 hm10 e10 rfl dX4_init_108 ?_
      exact mid (nI 12) (by rw [if_neg (by omega)])
