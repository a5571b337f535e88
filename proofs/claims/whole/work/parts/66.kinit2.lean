/-! the kernel's constructor -/
theorem q_nm_o {ci : Nat} {fl : List (Option (Option q_ix))} {d : List q_ix} (h : ∀ t : q_ix, some (some t) ∈ fl → t ∈ d) : ∀ j, j ∉ d → q_nm (.inl (ci, fl) : q_sh) j := by
  intro j hj t ht e
  rw [e] at ht
  exact hj (h j ht)
theorem q_kw_0 {G : q_g} {n q1 q4 : Nat} {w w2 : q_wd} (hw1 : w.1 = [(0, 0)]) (hx : q_ext (w.1 ++ [(1, 0)], q_us w.2.1 (1, 0) q1, q_us w.2.2 (1, 0) (.inl (0, [none, some none, some none, none]))) w2 [(2, 0), (3, 0)] (1, 0)) (h1 : w2.2.2 (1, 0) = .inl (0, [none, some (some (2, 0)), some (some (3, 0)), none])) (h2 : w2.2.2 (2, 0) = .inr (.inl (G.2.1, 8 * n))) (h3 : w2.2.2 (3, 0) = .inr (.inl (G.2.1, n))) : q_clo (w2.1, w2.2.1, q_us w2.2.2 (0, 0) (.inl (3, [some (some (1, 0)), some none, some none, some none, none, none, none]))) ∧ q_kw G n 0 (w.2.1 (0, 0)) (w.2.1 (99, 0)) (w2.1 ++ [(4, 0)], q_us w2.2.1 (4, 0) q4, q_us (q_us (q_us w2.2.2 (0, 0) (.inl (3, [some (some (1, 0)), some none, some none, some none, none, none, none]))) (4, 0) (.inr (.inr (G.2.2, 8, fun _ => none)))) (0, 0) (.inl (3, [some (some (1, 0)), some (some (4, 0)), some none, some none, none, none, none]))) := by
  obtain ⟨x1, x2, x3, x4⟩ := hx
  have hd : w2.1 = [(0, 0), (1, 0), (2, 0), (3, 0)] := by rw [x1, hw1]; rfl
  have c1 : q_clo (w2.1, w2.2.1, q_us w2.2.2 (0, 0) (.inl (3, [some (some (1, 0)), some none, some none, some none, none, none, none]))) := by
    refine q_clo_set x3 (q_nm_o ?_)
    intro t ht
    simp at ht
    rw [ht, hd]
    simp
  have c2 : q_clo (w2.1 ++ [(4, 0)], q_us w2.2.1 (4, 0) q4, q_us (q_us w2.2.2 (0, 0) (.inl (3, [some (some (1, 0)), some none, some none, some none, none, none, none]))) (4, 0) (.inr (.inr (G.2.2, 8, fun _ => none)))) := by
    refine q_clo_new (w := (w2.1, w2.2.1, q_us w2.2.2 (0, 0) (.inl (3, [some (some (1, 0)), some none, some none, some none, none, none, none])))) c1 ?_ (fun j _ k e => ?_)
    · show (4, 0) ∉ w2.1
      rw [hd]
      simp
    · cases e
  refine ⟨c1, ?_, ?_, ?_, ?_, ?_, fun k h1k h3k => ?_, ?_, fun k q _ _ hq => absurd hq (Nat.not_lt_zero _)⟩
  · intro i
    obtain ⟨i1, i2⟩ := i
    show (i1, i2) ∈ w2.1 ++ [(4, 0)] ↔ _
    rw [hd]
    simp only [List.cons_append, List.nil_append, List.mem_cons, List.not_mem_nil, or_false, Prod.mk.injEq]
    omega
  · refine q_clo_set (w := (w2.1 ++ [(4, 0)], q_us w2.2.1 (4, 0) q4, q_us (q_us w2.2.2 (0, 0) (.inl (3, [some (some (1, 0)), some none, some none, some none, none, none, none]))) (4, 0) (.inr (.inr (G.2.2, 8, fun _ => none))))) c2 (q_nm_o ?_)
    intro t ht
    simp at ht
    show t ∈ w2.1 ++ [(4, 0)]
    rw [hd]
    rcases ht with rfl | rfl <;> simp
  · show q_us w2.2.1 (4, 0) q4 (0, 0) = _
    rw [q_us_n _ _ _ (by simp), x2 _ (by simp)]
    dsimp only
    rw [q_us_n _ _ _ (by simp)]
  · show q_us w2.2.1 (4, 0) q4 (99, 0) = _
    rw [q_us_n _ _ _ (by simp), x2 _ (by simp)]
    dsimp only
    rw [q_us_n _ _ _ (by simp)]
  · dsimp only
    rw [q_us_s]
  · dsimp only
    rw [q_us_n _ _ _ (by simp; omega), q_us_n _ _ _ (by simp; omega), q_us_n _ _ _ (by simp; omega)]
    rcases (show k = 1 ∨ k = 2 ∨ k = 3 by omega) with rfl | rfl | rfl
    · rw [h1]; rfl
    · rw [h2]; rfl
    · rw [h3]; rfl
  · dsimp only
    rw [q_us_n _ _ _ (by simp), q_us_s]
    simp
/-- the world when the kernel stands -/
def q_kz (G : q_g) (n a0 a9 : Nat) (w : q_wd) : Prop := (∀ i : q_ix, i ∈ w.1 ↔ ((i.2 = 0 ∧ (i.1 ≤ 4 ∨ (8 ≤ i.1 ∧ i.1 ≤ 10))) ∨ (5 ≤ i.1 ∧ i.1 ≤ 7 ∧ i.2 < 8))) ∧ q_clo w ∧ w.2.1 (0, 0) = a0 ∧ w.2.1 (99, 0) = a9 ∧ w.2.2 (4, 0) = .inr (.inr (G.2.2, 8, fun k => if k < 8 then some (5, k) else none)) ∧ ∀ i ∈ w.1, i ≠ (4, 0) → w.2.2 i = q_shp G n i
/-- its ints -/
def q_s0 (n : Nat) (q : Int32) : q_st := fun j k => if j = (0, 0) ∧ k = 4 then q else if j = (0, 0) ∧ k = 5 then -1 else q_si n 8 j k
theorem q_si_z (n p : Nat) {j : q_ix} (h1 : j.1 ≠ 1) (h5 : j.1 ≠ 5 ∨ p ≤ j.2) (h7 : j.1 ≠ 7 ∨ p ≤ j.2) (k : Nat) : q_si n p j k = 0 := by
  unfold q_si
  rw [if_neg (by rintro ⟨rfl, -⟩; exact h1 rfl), if_neg (by rintro ⟨a, b, -⟩; omega), if_neg (by rintro ⟨a, b, -⟩; omega)]
set_option maxRecDepth 100000 in
set_option maxHeartbeats 4000000 in
theorem lp_kinit {G : q_g} {X : q_cx} {n a0 a9 : Nat} {a1 a2 : q_v} (F : q_fx G X iX3_init) (h1 : a1 = .inl (match a1 with | .inl x => x | _ => 0)) (h2 : a2 = .inl (match a2 with | .inl x => x | _ => 0)) (kk : ∀ w, q_kw G n 8 a0 a9 w → q_W G X iX3_init w (28, 484) 68 [some (.inr (some (0, 0))), some a1, some a2, none] [] (q_si n 8)) : ∀ p, p ≤ 8 → ∀ w, q_kw G n p a0 a9 w → q_W G X iX3_init w (4 + 3 * p, 300 + 23 * p) 43 [some (.inr (some (0, 0))), some a1, some a2, some (.inl (nI p))] [] (q_si n p) := by
  refine q_loop (fun p hp ih w hw => ?_)
  refine q_iload_n F dX3_init_43 rfl ?_
  refine q_bipush F (nI 8) dX3_init_44 (by decide) ?_
  refine q_icmpN_ge F 68 dX3_init_46 (by decide) (by omega) (by omega) (fun h50 => ?_) (fun h50 => ?_)
  · obtain rfl : p = 8 := by omega
    exact q_drop_3 (kk w hw)
  · have hw' := hw
    obtain ⟨m1, m2, m3, m4, m5, m6, m7, m8⟩ := hw'
    have hm0 : (0, 0) ∈ w.1 := (m1 (0, 0)).mpr (Or.inl ⟨rfl, by simp⟩)
    have hm4 : (4, 0) ∈ w.1 := (m1 (4, 0)).mpr (Or.inl ⟨rfl, by simp⟩)
    have hm5 : ∀ k, 5 ≤ k → (k, p) ∉ w.1 := by
      intro k hk hm
      rcases (m1 (k, p)).mp hm with ⟨-, h⟩ | ⟨-, -, h⟩
      · simp only at h; omega
      · simp only at h; omega
    refine q_aload_n F dX3_init_49 rfl ?_
    refine q_getr F (k := 1) fkX3_20 hm0 m5 rfl dX3_init_50 ?_
    refine q_iload_n F dX3_init_53 rfl ?_
    refine q_newo F wi_obX3_18 (5, p) (hm5 5 (by omega)) m2 (fun k => q_si_z n p (by simp) (Or.inr (Nat.le_refl _)) (Or.inl (by simp)) k) (q_fresh (by rw [h1, h2]; simp)) (by simp) ⟨by show 4 + 3 * p + 1 ≤ 31; omega, by show 300 + 23 * p + 7 ≤ 582; omega⟩ dX3_init_54 (fun q => ?_)
    refine q_dup F dX3_init_57 ?_
    have hcl1 : q_clo (w.1 ++ [(5, p)], q_us w.2.1 (5, p) q, q_us w.2.2 (5, p) (.inl (2, [none, none, none, none, none, some none, some none]))) := q_clo_new m2 (hm5 5 (by omega)) (q_nm_o (by intro t ht; simp at ht))
    refine q_callI F (st := [.inr (some (5, p)), .inl (nI p), .inr (some (4, 0))]) (av := []) (b := (5, p)) (fun l => t_proc (p := p) l (List.mem_append_right _ (List.mem_singleton.mpr rfl)) (by dsimp only; rw [q_us_s]) ?_ ?_ hcl1 (fun k => q_si_z n p (by simp) (Or.inr (Nat.le_refl _)) (Or.inl (by simp)) k) (fun k => q_si_z n p (by simp) (Or.inl (by simp)) (Or.inl (by simp)) k) (fun k => q_si_z n p (by simp) (Or.inl (by simp)) (Or.inr (Nat.le_refl _)) k)) clX3_24 rfl rfl wi_imX2 rfl rfl ⟨Nat.le_of_ble_eq_true rfl, Nat.le_of_ble_eq_true rfl⟩ (Nat.le_of_ble_eq_true rfl) ⟨by show 4 + 3 * p + 1 + 2 ≤ 31; omega, by show 300 + 23 * p + 7 + 16 ≤ 582; omega⟩ dX3_init_58 ?_ (fun r w2 S2 hpost => ?_)
    · have := hm5 6 (by omega)
      simp [this]
    · have := hm5 7 (by omega)
      simp [this]
    · rintro r w2 S2 ⟨-, hx, -⟩ i hi
      refine hx.2.1 i ?_
      rcases hi with ⟨k, hk⟩ | hi
      · have hk := List.mem_of_getElem? hk
        rw [h1, h2] at hk
        simp at hk
        rw [hk]; simp
      · simp at hi
        rcases hi with rfl | rfl <;> simp
    · obtain ⟨rfl, hx, e5, e6, e7, hS⟩ := hpost
      rw [q_si_s] at hS
      subst hS
      have hx' := hx
      obtain ⟨x1, x2, x3, x4⟩ := hx'
      have hs4 : w2.2.2 (4, 0) = .inr (.inr (G.2.2, 8, fun k => if k < p then some (5, k) else none)) := by
        rw [x4 (4, 0) (by simp) (by simp)]
        dsimp only
        rw [q_us_n _ _ _ (by simp)]
        exact m7
      refine q_aast F (i := (4, 0)) (j := (5, p)) (n := 8) p (by rw [x1]; exact List.mem_append_left _ (List.mem_append_left _ hm4)) hs4 (by rw [x1]; exact List.mem_append_left _ (List.mem_append_right _ (List.mem_singleton.mpr rfl))) e5 rfl h50 (by decide) dX3_init_61 ?_
      refine q_iinc_3 F _ dX3_init_62 (q_inc1 _) (by decide) ?_
      refine q_goto F 43 dX3_init_65 (by decide) ?_
      have hih := ih h50 _ (q_kw_s hw hx e5 e6 e7)
      rw [show 4 + 3 * (p + 1) = 4 + 3 * p + 1 + 2 by omega, show 300 + 23 * (p + 1) = 300 + 23 * p + 7 + 16 by omega] at hih
      exact hih
set_option maxRecDepth 100000 in
set_option maxHeartbeats 4000000 in
theorem en_kinit {G : q_g} {X : q_cx} {n a0 a9 : Nat} {x y : Int32} {w : q_wd} (F : q_fx G X iX3_init) (E : q_en G X iX3_init (fun r w' S' => r = none ∧ q_kz G n a0 a9 w' ∧ S' = q_s0 n (if 1 ≤ y.toInt ∧ y.toInt ≤ 20 then y else nI 3))) (hex : q_exX X) (hw : q_kw G n 8 a0 a9 w) : q_W G X iX3_init w (28, 484) 68 [some (.inr (some (0, 0))), some (.inl x), some (.inl y), none] [] (q_si n 8) := by
  obtain ⟨m1, m2, m3, m4, m5, m6, m7, m8⟩ := hw
  have hm0 : (0, 0) ∈ w.1 := (m1 (0, 0)).mpr (Or.inl ⟨rfl, by simp⟩)
  have hno : ∀ k, 8 ≤ k → (k, 0) ∉ w.1 := by
    intro k hk hm
    rcases (m1 (k, 0)).mp hm with ⟨-, h⟩ | ⟨-, h, -⟩
    · simp only at h; omega
    · simp only at h; omega
  refine q_aload_n F dX3_init_68 rfl ?_
  refine q_newo F wi_obX3_25 (8, 0) (hno 8 (by omega)) m2 (fun k => q_si_z n 8 (by simp) (Or.inl (by simp)) (Or.inl (by simp)) k) (q_fresh (by simp)) (by simp) ⟨Nat.le_of_ble_eq_true rfl, Nat.le_of_ble_eq_true rfl⟩ dX3_init_69 (fun q8 => ?_)
  refine q_dup F dX3_init_72 ?_
  have hcl1 : q_clo (w.1 ++ [(8, 0)], q_us w.2.1 (8, 0) q8, q_us w.2.2 (8, 0) (.inl (1, [some none, none]))) := q_clo_new m2 (hno 8 (by omega)) (q_nm_o (by intro t ht; simp at ht))
  refine q_callN F (st := [.inr (some (8, 0)), .inr (some (0, 0))]) (av := []) (b := (8, 0)) (J := iX1_init) (idx := 27) (host := "BranchingKernel") (by obtain ⟨p, l, e, s, m, args, below, meth, c, A, Qf⟩ := X; exact hex.2) (fun l => t_log l (List.mem_append_right _ (List.mem_singleton.mpr rfl)) (by dsimp only; rw [q_us_s]) ?_ hcl1 (fun k => q_si_z n 8 (by simp) (Or.inl (by simp)) (Or.inl (by simp)) k)) ⟨wi_ini1, wi_c1, by decide, by decide, by decide +kernel⟩ rfl rfl wi_imX1 rfl rfl ⟨Nat.le_of_ble_eq_true rfl, Nat.le_of_ble_eq_true rfl⟩ (Nat.le_of_ble_eq_true rfl) ⟨Nat.le_of_ble_eq_true rfl, Nat.le_of_ble_eq_true rfl⟩ dX3_init_73 ?_ (fun r w2 S2 hpost => ?_)
  · have := hno 9 (by omega)
    simp [this]
  · rintro r w2 S2 ⟨-, hx, -⟩ i hi
    refine hx.2.1 i ?_
    rcases hi with ⟨k, hk⟩ | hi
    · have hk := List.mem_of_getElem? hk
      simp at hk
      rw [hk]; simp
    · simp at hi
      rcases hi with rfl | rfl <;> simp
  · obtain ⟨rfl, ⟨x1, x2, x3, x4⟩, e8, e9, hS⟩ := hpost
    rw [q_up_id _ _ _ _ (show q_si n 8 (8, 0) 1 = nI 0 from q_si_z n 8 (j := (8, 0)) (by simp) (Or.inl (by simp)) (Or.inl (by simp)) 1)] at hS
    subst hS
    dsimp only at x1 x2 x4
    have hw0 : w2.2.2 (0, 0) = .inl (3, [some (some (1, 0)), some (some (4, 0)), some none, some none, none, none, none]) := by
      rw [x4 _ (by simp) (by simp), q_us_n _ _ _ (by simp)]
      exact m5
    have hm02 : (0, 0) ∈ w2.1 := by rw [x1]; exact List.mem_append_left _ (List.mem_append_left _ hm0)
    refine q_putr F (k := 2) fkX3_28 fp3_2 (Or.inl ⟨_, rfl⟩) rfl fc3_2 hm02 hw0 (Nat.le_of_ble_eq_true rfl) dX3_init_76 ?_
    refine q_aload_n F dX3_init_79 rfl ?_
    refine q_bipush F (nI 64) dX3_init_80 (by decide) ?_
    have hcl2 : q_clo (w2.1, w2.2.1, q_us w2.2.2 (0, 0) (.inl (3, [some (some (1, 0)), some (some (4, 0)), some (some (8, 0)), some none, none, none, none]))) := by
      refine q_clo_set x3 (q_nm_o ?_)
      intro t ht
      simp at ht
      rw [x1]
      simp only [List.mem_append, m1]
      rcases ht with rfl | rfl | rfl <;> simp
    have hm10 : (10, 0) ∉ w2.1 := by
      have := hno 10 (by omega)
      rw [x1]
      simp [this]
    refine q_newf F (10, 0) (N := 64) (k := 3) (o := (0, 0)) (fl := [some (some (1, 0)), some (some (4, 0)), some (some (8, 0)), some none, none, none, none]) fkX3_32 fp3_3 (Or.inr ⟨_, rfl⟩) rfl fc3_3 hm02 (by dsimp only; rw [q_us_s]; rfl) (Nat.le_of_ble_eq_true rfl) hm10 hcl2 (fun k => q_si_z n 8 (by simp) (Or.inl (by simp)) (Or.inl (by simp)) k) (by simp) (by simp) rfl (by decide) ⟨Nat.le_of_ble_eq_true rfl, Nat.le_of_ble_eq_true rfl⟩ dX3_init_82 dX3_init_84 (fun w3 b1 b2 b3 b4 b5 b6 => ?_)
    dsimp only at b1 b2 b6
    have hm03 : (0, 0) ∈ w3.1 := by rw [b1]; exact List.mem_append_left _ hm02
    have hkz : q_kz G n a0 a9 w3 := by
      refine ⟨?_, b3, ?_, ?_, ?_, ?_⟩
      · intro i
        obtain ⟨i1, i2⟩ := i
        rw [b1, x1]
        simp only [List.mem_append, List.mem_cons, List.not_mem_nil, or_false, Prod.mk.injEq, m1]
        omega
      · rw [b2 _ (by simp), x2 _ (by simp), q_us_n _ _ _ (by simp)]
        exact m3
      · rw [b2 _ (by simp), x2 _ (by simp), q_us_n _ _ _ (by simp)]
        exact m4
      · rw [b6 _ (by simp) (by simp), q_us_n _ _ _ (by simp), x4 _ (by simp) (by simp), q_us_n _ _ _ (by simp)]
        exact m7
      · intro i hi hi4
        obtain ⟨i1, i2⟩ := i
        rw [b1, x1] at hi
        simp only [List.mem_append, List.mem_cons, List.not_mem_nil, or_false, Prod.mk.injEq, m1] at hi
        by_cases h10 : i1 = 10
        · obtain rfl : i2 = 0 := by omega
          subst h10
          rw [b4]; rfl
        · by_cases h0 : i1 = 0
          · obtain rfl : i2 = 0 := by omega
            subst h0
            rw [b5]; rfl
          · rw [b6 _ (by simp; omega) (by simp; omega), q_us_n _ _ _ (by simp; omega)]
            by_cases h8 : i1 = 8
            · obtain rfl : i2 = 0 := by omega
              subst h8
              rw [e8]; rfl
            · by_cases h9 : i1 = 9
              · obtain rfl : i2 = 0 := by omega
                subst h9
                rw [e9]; rfl
              · rw [x4 _ (by simp; omega) (by simp; omega), q_us_n _ _ _ (by simp; omega)]
                by_cases h4 : i1 ≤ 4
                · obtain rfl : i2 = 0 := by omega
                  have h4' : i1 ≠ 4 := fun e => hi4 (by rw [e])
                  exact m6 i1 (by omega) (by omega)
                · exact m8 i1 i2 (by omega) (by omega) (by omega)
    have fin : ∀ v : Int32, v = (if 1 ≤ y.toInt ∧ y.toInt ≤ 20 then y else nI 3) → q_W G X iX3_init w3 (31, 582) 104 [some (.inr (some (0, 0))), some (.inl x), some (.inl y), none] [.inl v, .inr (some (0, 0))] (q_si n 8) := by
      intro v hv
      refine q_putiF F (k := 4) fkX3_36 fp3_4 rfl fc3_4 hm03 b5 rfl dX3_init_104 ?_
      refine q_aload_n F dX3_init_107 rfl ?_
      refine q_iconst F (-1) dX3_init_108 (by decide) ?_
      refine q_puti F (k := 5) fkX3_40 fp3_5 hm03 b5 rfl dX3_init_109 ?_
      refine q_aload_n F dX3_init_112 rfl ?_
      refine q_iconst F (nI 0) dX3_init_113 (by decide) ?_
      refine q_puti F (k := 6) fkX3_43 fp3_6 hm03 b5 rfl dX3_init_114 ?_
      refine q_vret0 F E rfl ⟨Nat.le_of_ble_eq_true rfl, Nat.le_of_ble_eq_true rfl⟩ ⟨rfl, hkz, ?_⟩ dX3_init_117
      rw [← hv]
      funext j k
      unfold q_s0 q_up
      by_cases hj : j = (0, 0)
      · subst hj
        by_cases k4 : k = 4
        · subst k4; simp
        · by_cases k5 : k = 5
          · subst k5; simp
          · by_cases k6 : k = 6
            · subst k6
              simp
              exact (q_si_z n 8 (by simp) (Or.inl (by simp)) (Or.inl (by simp)) 6).symm
            · simp [k4, k5, k6]
      · simp [hj]
    refine q_aload_n F dX3_init_87 rfl ?_
    refine q_iload_n F dX3_init_88 rfl ?_
    refine q_iconst F (nI 1) dX3_init_89 (by decide) ?_
    refine q_icmp_lt F 103 dX3_init_90 (by decide) (fun h1 => ?_) (fun h1 => ?_)
    · rw [nI_toInt (by decide)] at h1
      refine q_iconst F (nI 3) dX3_init_103 (by decide) ?_
      exact fin _ (by rw [if_neg (by omega)])
    · rw [nI_toInt (by decide)] at h1
      refine q_iload_n F dX3_init_93 rfl ?_
      refine q_bipush F (nI 20) dX3_init_94 (by decide) ?_
      refine q_icmp_gt F 103 dX3_init_96 (by decide) (fun h2 => ?_) (fun h2 => ?_)
      · rw [nI_toInt (by decide)] at h2
        refine q_iconst F (nI 3) dX3_init_103 (by decide) ?_
        exact fin _ (by rw [if_neg (by omega)])
      · rw [nI_toInt (by decide)] at h2
        refine q_iload_n F dX3_init_99 rfl ?_
        refine q_goto F 104 dX3_init_100 (by decide) ?_
        exact fin _ (by rw [if_pos (by omega)])
set_option maxRecDepth 100000 in
set_option maxHeartbeats 4000000 in
theorem t_kinit {G : q_g} {w : q_wd} {n : Nat} {x y : Int32} (l : Launch) (hw1 : w.1 = [(0, 0)]) (hs : w.2.2 (0, 0) = .inl (3, [some none, some none, some none, some none, none, none, none])) (hcl : q_clo w) (hn : nI n = if 2 ≤ x.toInt ∧ x.toInt ≤ 32 then x else nI 12) (hn2 : n ≤ 32) : q_Cx l G iX3_init [.inr (some (0, 0)), .inl x, .inl y] w (fun _ _ => 0) (fun r w' S' => r = none ∧ q_kz G n (w.2.1 (0, 0)) (w.2.1 (99, 0)) w' ∧ S' = q_s0 n (if 1 ≤ y.toInt ∧ y.toInt ≤ 20 then y else nI 3)) := by
  refine q_enterX (by decide) (Nat.le_of_ble_eq_true rfl) (fun X F E hex => ?_)
  show q_W G X iX3_init w (0, 0) 0 [some (.inr (some (0, 0))), some (.inl x), some (.inl y), none] [] (fun _ _ => 0)
  refine q_aload_n F dX3_init_0 rfl ?_
  refine q_obj F wi_olX3 wi_oi wi_oc ⟨Nat.le_of_ble_eq_true rfl, Nat.le_of_ble_eq_true rfl⟩ dX3_init_1 ?_
  refine q_aload_n F dX3_init_4 rfl ?_
  have h01 : (1, 0) ∉ w.1 := by rw [hw1]; simp
  refine q_newo F wi_obX3_9 (1, 0) h01 hcl (fun _ => rfl) (q_fresh (by simp)) (by simp) ⟨Nat.le_of_ble_eq_true rfl, Nat.le_of_ble_eq_true rfl⟩ dX3_init_5 (fun q1 => ?_)
  refine q_dup F dX3_init_8 ?_
  have hcl1 : q_clo (w.1 ++ [(1, 0)], q_us w.2.1 (1, 0) q1, q_us w.2.2 (1, 0) (.inl (0, [none, some none, some none, none]))) := q_clo_new hcl h01 (q_nm_o (by intro t ht; simp at ht))
  have fin : ∀ v : Int32, v = nI n → q_W G X iX3_init (w.1 ++ [(1, 0)], q_us w.2.1 (1, 0) q1, q_us w.2.2 (1, 0) (.inl (0, [none, some none, some none, none]))) (1, 4) 26 [some (.inr (some (0, 0))), some (.inl x), some (.inl y), none] [.inl v, .inr (some (1, 0)), .inr (some (1, 0)), .inr (some (0, 0))] (fun _ _ => 0) := by
    intro v hv
    subst hv
    refine q_callI F (st := [.inr (some (1, 0)), .inr (some (0, 0))]) (av := [.inl (nI n)]) (b := (1, 0)) (fun l => t_pool (n := n) l hn2 (List.mem_append_right _ (List.mem_singleton.mpr rfl)) (by dsimp only; rw [q_us_s]) ?_ ?_ hcl1 (fun _ => rfl) (fun _ => rfl)) clX3_11 rfl rfl wi_imX0 rfl rfl ⟨Nat.le_of_ble_eq_true rfl, Nat.le_of_ble_eq_true rfl⟩ (Nat.le_of_ble_eq_true rfl) ⟨Nat.le_of_ble_eq_true rfl, Nat.le_of_ble_eq_true rfl⟩ dX3_init_26 ?_ (fun r w2 S2 hpost => ?_)
    · rw [hw1]; simp
    · rw [hw1]; simp
    · rintro r w2 S2 ⟨-, hx, -⟩ i hi
      refine hx.2.1 i ?_
      rcases hi with ⟨k, hk⟩ | hi
      · have hk := List.mem_of_getElem? hk
        simp at hk
        rw [hk]; simp
      · simp at hi
        rcases hi with rfl | rfl <;> simp
    · obtain ⟨rfl, hx, e1, e2, e3, hS⟩ := hpost
      have hS2 : S2 = q_si n 0 := by
        rw [hS]
        funext j k
        unfold q_si q_up
        by_cases hj : j = (1, 0)
        · subst hj
          by_cases k0 : k = 0
          · subst k0; simp
          · by_cases k3 : k = 3
            · subst k3; simp; rfl
            · simp [k0, k3]
        · simp [hj]
      subst hS2
      have hx' := hx
      obtain ⟨x1, x2, x3, x4⟩ := hx'
      dsimp only at x1 x2 x4
      have hd : w2.1 = [(0, 0), (1, 0), (2, 0), (3, 0)] := by rw [x1, hw1]; rfl
      have hm0 : (0, 0) ∈ w2.1 := by rw [hd]; simp
      have hs0 : w2.2.2 (0, 0) = .inl (3, [some none, some none, some none, some none, none, none, none]) := by
        rw [x4 _ (by simp) (by simp), q_us_n _ _ _ (by simp)]
        exact hs
      refine q_putr F (k := 0) fkX3_14 fp3_0 (Or.inl ⟨_, rfl⟩) rfl fc3_0 hm0 hs0 (Nat.le_of_ble_eq_true rfl) dX3_init_29 ?_
      refine q_aload_n F dX3_init_32 rfl ?_
      refine q_bipush F (nI 8) dX3_init_33 (by decide) ?_
      refine q_newq F (N := 8) wi_clX3_18 (by obtain ⟨p, l, e, s, m, args, below, meth, c, A, Qf⟩ := X; exact hex.1) (4, 0) (by show (4, 0) ∉ w2.1; rw [hd]; simp) (q_kw_0 (q4 := 0) hw1 hx e1 e2 e3).1 (q_fresh (by simp)) (by simp) rfl (by decide) ⟨Nat.le_of_ble_eq_true rfl, Nat.le_of_ble_eq_true rfl⟩ dX3_init_35 (fun q4 => ?_)
      have hs1 : q_us (q_us w2.2.2 (0, 0) (.inl (3, [some (some (1, 0)), some none, some none, some none, none, none, none]))) (4, 0) (.inr (.inr (G.2.2, 8, fun _ => none))) (0, 0) = .inl (3, [some (some (1, 0)), some none, some none, some none, none, none, none]) := by
        rw [q_us_n _ _ _ (by simp), q_us_s]
      refine q_putr F (k := 1) fkX3_20 fp3_1 (Or.inr ⟨_, rfl⟩) rfl fc3_1 (List.mem_append_left _ hm0) hs1 (Nat.le_of_ble_eq_true rfl) dX3_init_38 ?_
      refine q_iconst F (nI 0) dX3_init_41 (by decide) ?_
      refine q_istore_n_3 F dX3_init_42 (by decide) ?_
      exact lp_kinit (a1 := .inl x) (a2 := .inl y) F rfl rfl (fun w hw => en_kinit F E hex hw) 0 (by decide) _ (q_kw_0 (q4 := q4) hw1 hx e1 e2 e3).2
  refine q_iload_n F dX3_init_9 rfl ?_
  refine q_iconst F (nI 2) dX3_init_10 (by decide) ?_
  refine q_icmp_lt F 24 dX3_init_11 (by decide) (fun h1 => ?_) (fun h1 => ?_)
  · rw [nI_toInt (by decide)] at h1
    refine q_bipush F (nI 12) dX3_init_24 (by decide) ?_
    exact fin _ (by rw [hn, if_neg (by omega)])
  · rw [nI_toInt (by decide)] at h1
    refine q_iload_n F dX3_init_14 rfl ?_
    refine q_bipush F (nI 32) dX3_init_15 (by decide) ?_
    refine q_icmp_gt F 24 dX3_init_17 (by decide) (fun h2 => ?_) (fun h2 => ?_)
    · rw [nI_toInt (by decide)] at h2
      refine q_bipush F (nI 12) dX3_init_24 (by decide) ?_
      exact fin _ (by rw [hn, if_neg (by omega)])
    · rw [nI_toInt (by decide)] at h2
      refine q_iload_n F dX3_init_20 rfl ?_
      refine q_goto F 26 dX3_init_21 (by decide) ?_
      exact fin _ (by rw [hn, if_pos (by omega)])
