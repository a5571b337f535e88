/-! the class: fork (rows laid by wip/whole/m55.py) -/
def k_fT (K : k_t) (p a c : Nat) : k_t := fun b j => if b = 2 ∧ j = c then nI 1 else if b = 3 ∧ j = c then nI p else if b = 6 ∧ j = c then K 6 p else if b = 7 ∧ j = c then K 7 p else if b = 5 ∧ j / 8 = c then (if j % 8 = a then 0 else K 5 (8 * p + j % 8)) else K b j
def k_fs (K : k_t) (p c i : Nat) : k_t := fun b j => if b = 9 ∧ j / 8 = c ∧ j % 8 < i then K 9 (8 * p + j % 8) else if b = 8 ∧ j / 64 = c ∧ j % 64 / 8 < i then K 8 (64 * p + j % 64) else K b j
theorem k_fs_0 (K : k_t) (p c : Nat) : k_fs K p c 0 = K := by
  funext b j
  unfold k_fs
  rw [if_neg (by omega), if_neg (by omega)]
theorem k_fs_8 (K : k_t) (p a c : Nat) : k_fs (k_fT K p a c) p c 8 = k_fk0 K p a c := by
  funext b j
  unfold k_fs k_fk0
  by_cases h9 : b = 9
  · subst h9
    by_cases hj : j / 8 = c
    · rw [if_pos ⟨rfl, hj, by omega⟩]
      simp [k_fT, hj]
    · rw [if_neg (fun q => hj q.2.1)]
      simp [k_fT, hj]
  · by_cases h8 : b = 8
    · subst h8
      rw [if_neg (by simp)]
      by_cases hj : j / 64 = c
      · rw [if_pos ⟨rfl, hj, by omega⟩]
        simp [k_fT, hj]
      · rw [if_neg (fun q => hj q.2.1)]
        simp [k_fT, hj]
    · simp only [h9, h8, false_and, if_false]
      rfl
/-- the child's tables -/
def q_ft (S0 S : q_st) (K : k_t) (p a c : Nat) : Prop := (∀ q s, S (5, q) s = if q = c then (if s = 0 then nI 1 else if s = 1 then nI p else if s = 3 then K 6 p else if s = 4 then K 7 p else S0 (5, q) s) else S0 (5, q) s) ∧ (∀ q r, r < 8 → S (6, q) r = if q = c then (if r = a then 0 else K 5 (8 * p + r)) else S0 (6, q) r) ∧ ∀ j : q_ix, j.1 ≠ 5 → j.1 ≠ 6 → S j = S0 j
theorem q_ft_T {S0 S : q_st} {K : k_t} {p a c : Nat} (hc : c < 8) (h : q_ft S0 S K p a c) (hT : q_T S0 K) : q_T S (k_fT K p a c) := by
  obtain ⟨f5, f6, fo⟩ := h
  obtain ⟨h1, h2, h3, h4, h5, h6⟩ := hT
  refine ⟨fun i hi => ?_, fun q hq => ?_, fun q r hq hr => ?_, ?_, fun i hi => ?_, ?_⟩
  · rw [fo (10, 0) (by simp) (by simp)]; simp [k_fT]; exact h1 i hi
  · obtain ⟨t0, t1, t2, t3, t4⟩ := h2 q hq
    by_cases hqc : q = c
    · subst hqc
      simp [f5, k_fT, t2]
    · simp [f5, k_fT, hqc, t0, t1, t2, t3, t4]
  · rw [f6 q r hr]
    by_cases hqc : q = c
    · subst hqc
      simp [k_fT, show (8 * q + r) / 8 = q by omega, show (8 * q + r) % 8 = r by omega]
    · rw [if_neg hqc, h3 q r hq hr]
      simp [k_fT, show ¬ (8 * q + r) / 8 = c by omega]
  · rw [fo (8, 0) (by simp) (by simp)]; simp [k_fT]; exact h4
  · rw [fo (9, 0) (by simp) (by simp)]; simp [k_fT]; exact h5 i hi
  · rw [fo (0, 0) (by simp) (by simp)]; simp [k_fT]; exact h6
theorem q_ft_sn {S0 S : q_st} {K : k_t} {p a c : Nat} (h : q_ft S0 S K p a c) : q_sn S0 S := fun j hj => h.2.2 j (by omega) (by omega)
/-- pages below i of the child are shared -/
def q_fi (S0 S4 : q_st) (KT : k_t) (n p c : Nat) (pg : Nat → Option Nat) (L i : Nat) (S : q_st) : Prop := ∃ (pg' : Nat → Option Nat) (us' lab' : Nat → Nat), q_R S (k_fs KT p c i) n pg' us' lab' L ∧ q_sm S4 S ∧ ∀ x, pg' x = if x / 8 = c ∧ x % 8 < i then pg (8 * p + x % 8) else pg x
theorem q_fi_s {S0 S4 S S' : q_st} {KT : k_t} {n p c : Nat} {pg pg' : Nat → Option Nat} {us' lab' : Nat → Nat} {L i : Nat} (hp : p < 8) (hc : c < 8) (hpc : p ≠ c) (hi : i < 8) (hpn : pg (8 * c + i) = none) (hR : q_R S (k_fs KT p c i) n pg' us' lab' L) (hs : q_sm S4 S) (hpg : ∀ x, pg' x = if x / 8 = c ∧ x % 8 < i then pg (8 * p + x % 8) else pg x)
    (hS : (pg' (8 * p + i) = none ∧ S' = q_up S (7, c) i (-1)) ∨ ∃ f, pg' (8 * p + i) = some f ∧ S' = q_up (q_up S (7, c) i (nI f)) (3, 0) f (q_up S (7, c) i (nI f) (3, 0) f + nI 1)) : q_fi S0 S4 KT n p c pg L (i + 1) S' := by
  have hcn : pg' (8 * c + i) = none := by rw [hpg, if_neg (by omega)]; exact hpn
  have key : q_R S' (k_fs KT p c (i + 1)) n (fun x => if x = 8 * c + i then pg' (8 * p + i) else pg' x) (fun x => if pg' (8 * p + i) = some x then us' x + 1 else us' x) (fun x => if x = 8 * c + i then lab' (8 * p + i) else lab' x) L := by
    refine q_R_share hR hp hc hi hpc hcn ?_ ?_ ?_ ?_ ?_ ?_ ?_
    · intro q j hq hj
      rw [hR.2.2.1 p i hp hi]
      rcases hS with ⟨hn, rfl⟩ | ⟨f, hf, rfl⟩
      · rw [hn]
        by_cases hx : 8 * q + j = 8 * c + i
        · obtain ⟨rfl, rfl⟩ : q = c ∧ j = i := by omega
          simp [q_up, q_fe]
        · rw [if_neg hx, q_irr _ _ _ _ _ _ (by rintro ⟨q1, rfl⟩; cases q1; exact hx rfl)]
      · rw [hf, q_irr _ _ _ _ _ _ (by simp)]
        by_cases hx : 8 * q + j = 8 * c + i
        · obtain ⟨rfl, rfl⟩ : q = c ∧ j = i := by omega
          simp [q_up, q_fe]
        · rw [if_neg hx, q_irr _ _ _ _ _ _ (by rintro ⟨q1, rfl⟩; cases q1; exact hx rfl)]
    · intro x hx
      rcases hS with ⟨hn, rfl⟩ | ⟨f, hf, rfl⟩
      · rw [hn, q_irr _ _ _ _ _ _ (by simp)]
        simp
      · rw [hf]
        by_cases hxf : x = f
        · subst hxf
          rw [q_irs, q_irr _ _ _ _ _ _ (by simp), if_pos rfl, hR.2.2.2.1 x hx, nI_add]
        · rw [q_irr _ _ _ _ _ _ (fun q => hxf q.2), q_irr _ _ _ _ _ _ (by simp), if_neg (by intro q; cases q; exact hxf rfl)]
    · funext x
      rcases hS with ⟨hn, rfl⟩ | ⟨f, hf, rfl⟩
      · rw [q_irr _ _ _ _ _ _ (by simp)]
      · rw [q_irr _ _ _ _ _ _ (by simp), q_irr _ _ _ _ _ _ (by simp)]
    · funext x
      rcases hS with ⟨hn, rfl⟩ | ⟨f, hf, rfl⟩
      · rw [q_irr _ _ _ _ _ _ (by simp)]
      · rw [q_irr _ _ _ _ _ _ (by simp), q_irr _ _ _ _ _ _ (by simp)]
    · funext j
      simp [k_fs]
    · intro g
      unfold k_fs
      simp only [true_and]
      by_cases hg : g = 8 * c + i
      · subst hg
        rw [if_pos (by omega), if_pos rfl, if_neg (by omega), show (8 * c + i) % 8 = i by omega]
        simp
      · rw [if_neg hg]
        repeat' split
        all_goals first | rfl | (exfalso; omega)
    · intro x
      unfold k_fs
      simp only [true_and]
      by_cases hg : x / 8 = 8 * c + i
      · rw [if_neg (by simp), if_pos (by omega), if_pos hg, if_neg (by simp), if_neg (by omega), show 8 * (8 * p + i) + x % 8 = 64 * p + x % 64 by omega]
      · rw [if_neg hg]
        repeat' split
        all_goals first | rfl | (exfalso; omega)
  refine ⟨_, _, _, key, q_sm_tr hs (fun j a b d e => ?_), fun x => ?_⟩
  · funext x
    rcases hS with ⟨hn, rfl⟩ | ⟨f, hf, rfl⟩
    · rw [q_irr _ _ _ _ _ _ (by rintro ⟨rfl, -⟩; exact e rfl)]
    · rw [q_irr _ _ _ _ _ _ (by rintro ⟨rfl, -⟩; exact d rfl), q_irr _ _ _ _ _ _ (by rintro ⟨rfl, -⟩; exact e rfl)]
  · by_cases hx : x = 8 * c + i
    · rw [if_pos hx, if_pos (by omega), hpg, if_neg (by omega), hx, show (8 * c + i) % 8 = i by omega]
    · rw [if_neg hx, hpg]
      repeat' split
      all_goals first | rfl | (exfalso; omega)
theorem q_ff_eq {S : q_st} {K : k_t} (hT : q_T S K) : f_st (fun p => S (5, p) 0 = 0) 8 = k_ff K := f_st_congr (fun p hp => by rw [(hT.2.1 p hp).1])
theorem q_fork_F {S0 S4 S : q_st} {K : k_t} {n L B p a c : Nat} {pg : Nat → Option Nat} (hp : p < 8) (ha : a < 8) (hc : c < 8) (hF : q_F S0 K n L B) (hZ : q_Zn K pg) (hff : k_ff K = some c) (hft : q_ft S0 S4 K p a c) (hfi : q_fi S0 S4 (k_fT K p a c) n p c pg L 8 S) : q_F (q_up S (6, p) a (nI c)) (k_fk K p a).2 n L B ∧ q_fr S0 (q_up S (6, p) a (nI c)) := by
  obtain ⟨pg', us', lab', hR, hs, hpg⟩ := hfi
  rw [k_fs_8] at hR
  have hok := k_Ok_fk (a := a) hp hF.1
  have e : (k_fk K p a).2 = k_u (k_fk0 K p a c) 5 (8 * p + a) (nI c) := by
    unfold k_fk
    rw [hff]
  rw [e] at hok ⊢
  have h0 : ∀ j, k_fk0 K p a c 0 j = K 0 j := fun j => by simp [k_fk0]
  have hT : q_T S (k_fk0 K p a c) := by
    rw [← k_fs_8]
    refine q_T_sm hs (q_T_k (fun b _ h8 h9 => ?_) (fun j _ _ => ?_) (q_ft_T hc hft hF.2.1))
    · funext j; simp [k_fs, h8, h9]
    · simp [k_fs]
  have hC : q_C S (k_fk0 K p a c) := q_C_sm hs (q_C_sn (q_ft_sn hft) (q_C_k (fun j _ _ => h0 j) hF.2.2.1))
  have hsn : q_sn S (q_up S (6, p) a (nI c)) := q_sn_up (by simp)
  refine ⟨⟨hok, q_T_up (q_tcR hp ha) hT, q_C_sn hsn (q_C_k (fun j _ _ => k_u_ne _ _ _ _ (by simp)) hC), pg', us', lab', q_R_sn hsn (k_u_k _ _ _ _ (by decide)) (k_u_k _ _ _ _ (by decide)) (k_u_ne _ _ _ _ (by simp)) (k_u_ne _ _ _ _ (by simp)) hR, ?_⟩, q_fr_tr (q_fr_tr (q_fr_sn (q_ft_sn hft)) (q_fr_sm hs)) (q_fr_sn hsn)⟩
  intro q hq hss i hi
  rw [k_u_k _ _ _ _ (by decide)] at hss
  by_cases hqc : q = c
  · subst hqc
    simp [k_fk0] at hss
    rcases hss with hss | hss <;> exact absurd hss (by decide)
  · rw [hpg, if_neg (by omega)]
    refine hZ q hq ?_ i hi
    simpa [k_fk0, hqc] using hss

set_option maxRecDepth 100000 in
set_option maxHeartbeats 4000000 in
theorem lp_fork_103 {G : q_g} {n : Nat} {ad : q_ix → Nat} {X : q_cx} (F : q_fx G X iX3_fork) {S0 S4 : q_st} {K : k_t} {p a c L B : Nat} (hp : p < 8) (ha : a < 8) (hc : c < 8) (hpc : p ≠ c) (hF : q_F S0 K n L B) {pg : Nat → Option Nat} (hZ : q_Zn K pg) (hc0 : K 2 c = 0) (hff : k_ff K = some c) (hft : q_ft S0 S4 K p a c) (E : q_en G X iX3_fork (q_pi (q_w G n ad) (fun r S' => r = (k_fk K p a).1 ∧ q_F S' (k_fk K p a).2 n L B ∧ q_fr S0 S'))) : ∀ i, i ≤ 8 → ∀ S, q_fi S0 S4 (k_fT K p a c) n p c pg L i S → q_W G X iX3_fork (q_w G n ad) (0, 0) 103 [some (.inr (some (0, 0))), some (.inl (nI p)), some (.inl (nI a)), some (.inr (some (5, p))), some (.inl (nI c)), some (.inr (some (5, c))), some (.inl (nI i))] [] S := by
  refine q_loop (fun i hi8 ih => ?_)
  intro S hfi
  refine q_iload F dX3_fork_103 rfl ?_
  refine q_bipush F (nI 8) dX3_fork_105 (by decide) ?_
  refine q_icmpN_ge F 146 dX3_fork_107 (by decide) (by omega) (by omega) (fun h107 => ?_) (fun h107 => ?_)
  · obtain rfl : i = 8 := by omega
    refine q_aload_n F dX3_fork_146 rfl ?_
    refine q_getr F (k := 5) fkX3_103 (q_m5 (by omega)) rfl rfl dX3_fork_147 ?_
    refine q_iload_n F dX3_fork_150 rfl ?_
    refine q_iload F dX3_fork_151 rfl ?_
    refine q_iast F (_) (q_m6 (by omega)) rfl rfl (by omega) (by omega) dX3_fork_153 ?_
    refine q_iconst F (nI 3) dX3_fork_154 (by decide) ?_
    refine q_iret F E rfl ⟨by unfold k_fk; rw [hff], q_fork_F hp ha hc hF hZ hff hft hfi⟩ dX3_fork_155
  · obtain ⟨pg1, us1, lab1, hR, hs, hpg⟩ := hfi
    have hn := hR.1.2
    have h7 := hR.2.2.1 p i hp h107
    cases hf : pg1 (8 * p + i)
    · refine q_aload F dX3_fork_110 rfl ?_
      refine q_getr F (k := 6) fkX3_112 (q_m5 (by omega)) rfl rfl dX3_fork_112 ?_
      refine q_iload F dX3_fork_115 rfl ?_
      refine q_aload_n F dX3_fork_117 rfl ?_
      refine q_getr F (k := 6) fkX3_112 (q_m5 (by omega)) rfl rfl dX3_fork_118 ?_
      refine q_iload F dX3_fork_121 rfl ?_
      refine q_iald F (_) (q_m7 (by omega)) rfl rfl (by omega) (by omega) dX3_fork_123 ?_
      refine q_top (-1) (by rw [h7, hf]; rfl) ?_
      refine q_iast F (_) (q_m7 (by omega)) rfl rfl (by omega) (by omega) dX3_fork_124 ?_
      refine q_aload_n F dX3_fork_125 rfl ?_
      refine q_getr F (k := 0) fkX3_14 q_m0 rfl rfl dX3_fork_126 ?_
      refine q_aload F dX3_fork_129 rfl ?_
      refine q_getr F (k := 6) fkX3_112 (q_m5 (by omega)) rfl rfl dX3_fork_131 ?_
      refine q_iload F dX3_fork_134 rfl ?_
      refine q_iald F (_) (q_m7 (by omega)) rfl rfl (by omega) (by omega) dX3_fork_136 ?_
      refine q_top (-1) (q_irs _ _ _ _) ?_
      refine q_callVv F [.inl (-1)] (fun l => t_join0 l _) clX3_168 rfl q_m1 rfl rfl rfl ⟨Nat.le_of_ble_eq_true rfl, Nat.le_of_ble_eq_true rfl⟩ (Nat.le_of_ble_eq_true rfl) ⟨rfl, rfl⟩ ⟨Nat.zero_le _, Nat.zero_le _⟩ dX3_fork_137 (fun S' hS => ?_)
      subst hS
      refine q_iinc_6 F _ dX3_fork_140 (q_inc1 _) (by decide) ?_
      exact q_goto F 103 dX3_fork_143 (by decide) (ih h107 _ (q_fi_s hp hc hpc h107 (hZ c hc (Or.inl hc0) i h107) hR hs hpg (Or.inl ⟨hf, rfl⟩)))
    · rename_i f
      have hff2 := (hR.2.1.1 _ _ hf).1
      refine q_aload F dX3_fork_110 rfl ?_
      refine q_getr F (k := 6) fkX3_112 (q_m5 (by omega)) rfl rfl dX3_fork_112 ?_
      refine q_iload F dX3_fork_115 rfl ?_
      refine q_aload_n F dX3_fork_117 rfl ?_
      refine q_getr F (k := 6) fkX3_112 (q_m5 (by omega)) rfl rfl dX3_fork_118 ?_
      refine q_iload F dX3_fork_121 rfl ?_
      refine q_iald F (_) (q_m7 (by omega)) rfl rfl (by omega) (by omega) dX3_fork_123 ?_
      refine q_top (nI f) (by rw [h7, hf]; rfl) ?_
      refine q_iast F (_) (q_m7 (by omega)) rfl rfl (by omega) (by omega) dX3_fork_124 ?_
      refine q_aload_n F dX3_fork_125 rfl ?_
      refine q_getr F (k := 0) fkX3_14 q_m0 rfl rfl dX3_fork_126 ?_
      refine q_aload F dX3_fork_129 rfl ?_
      refine q_getr F (k := 6) fkX3_112 (q_m5 (by omega)) rfl rfl dX3_fork_131 ?_
      refine q_iload F dX3_fork_134 rfl ?_
      refine q_iald F (_) (q_m7 (by omega)) rfl rfl (by omega) (by omega) dX3_fork_136 ?_
      refine q_top (nI f) (q_irs _ _ _ _) ?_
      refine q_callVv F [.inl (nI f)] (fun l => t_join l _ hff2 hn) clX3_168 rfl q_m1 rfl rfl rfl ⟨Nat.le_of_ble_eq_true rfl, Nat.le_of_ble_eq_true rfl⟩ (Nat.le_of_ble_eq_true rfl) ⟨rfl, rfl⟩ ⟨Nat.zero_le _, Nat.zero_le _⟩ dX3_fork_137 (fun S' hS => ?_)
      subst hS
      refine q_iinc_6 F _ dX3_fork_140 (q_inc1 _) (by decide) ?_
      exact q_goto F 103 dX3_fork_143 (by decide) (ih h107 _ (q_fi_s hp hc hpc h107 (hZ c hc (Or.inl hc0) i h107) hR hs hpg (Or.inr ⟨f, hf, rfl⟩)))

theorem q_ft_mk {S0 : q_st} {K : k_t} {p a c : Nat} : q_ft S0 (q_up (q_fill (q_up (q_up (q_fill (q_up (q_up (q_up S0 (5, c) 0 (nI 1)) (5, c) 1 (nI p)) (5, c) 3 (nI 0)) (6, c) 0 8 (fun _ => 0)) (5, c) 3 (K 6 p)) (5, c) 4 (K 7 p)) (6, c) 0 8 (fun x => K 5 (8 * p + x))) (6, c) a (nI 0)) K p a c := by
  refine ⟨fun q s => ?_, fun q r hr => ?_, fun j h5 h6 => ?_⟩
  · by_cases hq : q = c
    · subst hq
      simp [q_up, q_fill]
      repeat' split
      all_goals first | rfl | (exfalso; omega) | simp_all
    · simp [q_up, q_fill, hq]
  · by_cases hq : q = c
    · subst hq
      simp [q_up, q_fill]
      by_cases hra : r = a
      · simp [hra]; rfl
      · simp [hra, hr]
    · simp [q_up, q_fill, hq]
  · funext x
    obtain ⟨j1, j2⟩ := j
    simp only at h5 h6
    simp [q_up, q_fill, h5, h6]

set_option maxRecDepth 100000 in
set_option maxHeartbeats 4000000 in
theorem lp_fork_64 {G : q_g} {n : Nat} {ad : q_ix → Nat} {X : q_cx} (F : q_fx G X iX3_fork) {S0 : q_st} {K : k_t} {p a c L B : Nat} (hp : p < 8) (ha : a < 8) (hc : c < 8) (hpc : p ≠ c) (hF : q_F S0 K n L B) {pg : Nat → Option Nat} {us lab : Nat → Nat} (hR : q_R S0 K n pg us lab L) (hZ : q_Zn K pg) (hc0 : K 2 c = 0) (hff : k_ff K = some c) (E : q_en G X iX3_fork (q_pi (q_w G n ad) (fun r S' => r = (k_fk K p a).1 ∧ q_F S' (k_fk K p a).2 n L B ∧ q_fr S0 S'))) : ∀ i, i ≤ 8 → q_W G X iX3_fork (q_w G n ad) (0, 0) 64 [some (.inr (some (0, 0))), some (.inl (nI p)), some (.inl (nI a)), some (.inr (some (5, p))), some (.inl (nI c)), some (.inr (some (5, c))), some (.inl (nI i))] [] (q_fill (q_up (q_up (q_fill (q_up (q_up (q_up S0 (5, c) 0 (nI 1)) (5, c) 1 (nI p)) (5, c) 3 (nI 0)) (6, c) 0 8 (fun _ => 0)) (5, c) 3 (K 6 p)) (5, c) 4 (K 7 p)) (6, c) 0 i (fun x => K 5 (8 * p + x))) := by
  refine q_loop (fun i hi8 ih => ?_)
  refine q_iload F dX3_fork_64 rfl ?_
  refine q_bipush F (nI 8) dX3_fork_66 (by decide) ?_
  refine q_icmpN_ge F 92 dX3_fork_68 (by decide) (by omega) (by omega) (fun h68 => ?_) (fun h68 => ?_)
  · obtain rfl : i = 8 := by omega
    refine q_aload F dX3_fork_92 rfl ?_
    refine q_getr F (k := 5) fkX3_103 (q_m5 (by omega)) rfl rfl dX3_fork_94 ?_
    refine q_iload_n F dX3_fork_97 rfl ?_
    refine q_iconst F (nI 0) dX3_fork_98 (by decide) ?_
    refine q_iast F (_) (q_m6 (by omega)) rfl rfl (by omega) (by omega) dX3_fork_99 ?_
    refine q_iconst F (nI 0) dX3_fork_100 (by decide) ?_
    refine q_istore_6 F dX3_fork_101 (by decide) ?_
    have hft : q_ft S0 (q_up (q_fill (q_up (q_up (q_fill (q_up (q_up (q_up S0 (5, c) 0 (nI 1)) (5, c) 1 (nI p)) (5, c) 3 (nI 0)) (6, c) 0 8 (fun _ => 0)) (5, c) 3 (K 6 p)) (5, c) 4 (K 7 p)) (6, c) 0 8 (fun x => K 5 (8 * p + x))) (6, c) a (nI 0)) K p a c := q_ft_mk
    refine lp_fork_103 F hp ha hc hpc hF hZ hc0 hff hft E 0 (by decide) _ ⟨pg, us, lab, ?_, q_sm_rf _, fun x => by rw [if_neg (by omega)]⟩
    rw [k_fs_0]
    exact q_R_sn (q_ft_sn hft) (by funext j; simp [k_fT]) (by funext j; simp [k_fT]) (by simp [k_fT]) (by simp [k_fT]) hR
  · refine q_aload F dX3_fork_71 rfl ?_
    refine q_getr F (k := 5) fkX3_103 (q_m5 (by omega)) rfl rfl dX3_fork_73 ?_
    refine q_iload F dX3_fork_76 rfl ?_
    refine q_aload_n F dX3_fork_78 rfl ?_
    refine q_getr F (k := 5) fkX3_103 (q_m5 (by omega)) rfl rfl dX3_fork_79 ?_
    refine q_iload F dX3_fork_82 rfl ?_
    refine q_iald F (_) (q_m6 (by omega)) rfl rfl (by omega) (by omega) dX3_fork_84 ?_
    refine q_top (K 5 (8 * p + i)) (by rw [q_fill_ne _ _ _ _ _ _ (by simp [hpc])]; simp [q_up, q_fill, hpc]; exact hF.2.1.2.2.1 p i hp h68) ?_
    refine q_iast F (0 + i) (q_m6 (by omega)) rfl (by rw [Nat.zero_add]) (by omega) (by omega) dX3_fork_85 ?_
    rw [q_fill_s _ _ _ _ (fun x => K 5 (8 * p + x)) _ (by rw [Nat.zero_add])]
    refine q_iinc_6 F _ dX3_fork_86 (q_inc1 _) (by decide) ?_
    exact q_goto F 64 dX3_fork_89 (by decide) (ih h68)

set_option maxRecDepth 100000 in
set_option maxHeartbeats 4000000 in
theorem t_fork {G : q_g} {n : Nat} {ad : q_ix → Nat} (l : Launch) (S0 : q_st) {K : k_t} {p a L B : Nat} (hp : p < 8) (ha : a < 8) (hF : q_F S0 K n L B) (hlive : ¬ (K 2 p = 0 ∨ K 2 p = nI 3)) : q_Ct l G iX3_fork [.inr (some (0, 0)), .inl (nI p), .inl (nI a)] (q_w G n ad) (S0) (q_pi (q_w G n ad) (fun r S' => r = (k_fk K p a).1 ∧ q_F S' (k_fk K p a).2 n L B ∧ q_fr S0 S')) := by
  refine q_enter (by decide) (Nat.le_of_ble_eq_true rfl) (fun X F E => ?_)
  show q_W G X iX3_fork (q_w G n ad) (0, 0) 0 [some (.inr (some (0, 0))), some (.inl (nI p)), some (.inl (nI a)), none, none, none, none] [] (S0)
  obtain ⟨hok, hT0, hC, pg, us, lab, hR, hZ⟩ := id hF
  refine q_aload_n F dX3_fork_0 rfl ?_
  refine q_getr F (k := 1) fkX3_20 q_m0 rfl rfl dX3_fork_1 ?_
  refine q_iload_n F dX3_fork_4 rfl ?_
  refine q_aald F (_) q_m4 rfl rfl (by omega) (by decide) rfl dX3_fork_5 ?_
  refine q_astore_n_3 F dX3_fork_6 (by decide) ?_
  refine q_aload_n F dX3_fork_7 rfl ?_
  refine q_callVi F [] (fun l => t_firstFree l S0) clX3_46 rfl q_m0 rfl rfl rfl ⟨Nat.le_of_ble_eq_true rfl, Nat.le_of_ble_eq_true rfl⟩ (Nat.le_of_ble_eq_true rfl) ⟨rfl, rfl⟩ ⟨Nat.zero_le _, Nat.zero_le _⟩ dX3_fork_8 (fun v1 S1 hv1 => ?_)
  obtain ⟨hv1, hS1⟩ := hv1
  have hS1 := hS1.symm
  subst hS1
  rw [q_ff_eq hT0] at hv1
  subst hv1
  rcases f_st_spec (P := fun p => K 2 p = 0) 8 with ⟨hff, -⟩ | ⟨c, hff, hc, hc0, -⟩
  · refine q_top (-1) (by unfold k_ff; rw [hff]; rfl) ?_
    refine q_istore_4 F dX3_fork_11 (by decide) ?_
    refine q_iload F dX3_fork_13 rfl ?_
    refine q_iconst F (-1) dX3_fork_15 (by decide) ?_
    refine q_icmp_ne F 28 dX3_fork_16 (by decide) (fun h16 => ?_) (fun h16 => ?_)
    · exact absurd rfl h16
    · refine q_aload_n F dX3_fork_19 rfl ?_
      refine q_getr F (k := 5) fkX3_103 (q_m5 (by omega)) rfl rfl dX3_fork_20 ?_
      refine q_iload_n F dX3_fork_23 rfl ?_
      refine q_iconst F (-1) dX3_fork_24 (by decide) ?_
      refine q_iast F (_) (q_m6 (by omega)) rfl rfl (by omega) (by omega) dX3_fork_25 ?_
      refine q_iconst F (nI 1) dX3_fork_26 (by decide) ?_
      refine q_iret F E rfl (by unfold k_fk k_ff; rw [hff]; exact ⟨rfl, q_F_up (q_tcR hp ha) (by simp) hF, q_fr_up (by simp)⟩) dX3_fork_27
  · refine q_top (nI c) (by unfold k_ff; rw [hff]; rfl) ?_
    have hpc : p ≠ c := by rintro rfl; exact hlive (Or.inl hc0)
    refine q_istore_4 F dX3_fork_11 (by decide) ?_
    refine q_iload F dX3_fork_13 rfl ?_
    refine q_iconst F (-1) dX3_fork_15 (by decide) ?_
    refine q_icmp_ne F 28 dX3_fork_16 (by decide) (fun h16 => ?_) (fun h16 => ?_)
    · refine q_aload_n F dX3_fork_28 rfl ?_
      refine q_getr F (k := 1) fkX3_20 q_m0 rfl rfl dX3_fork_29 ?_
      refine q_iload F dX3_fork_32 rfl ?_
      refine q_aald F (_) q_m4 rfl rfl (by omega) (by decide) rfl dX3_fork_34 ?_
      refine q_astore_5 F dX3_fork_35 (by decide) ?_
      refine q_aload F dX3_fork_37 rfl ?_
      refine q_iload_n F dX3_fork_39 rfl ?_
      refine q_callVv F [.inl (nI p)] (fun l => t_begin l S0 hc) clX3_53 rfl (q_m5 (by omega)) rfl rfl rfl ⟨Nat.le_of_ble_eq_true rfl, Nat.le_of_ble_eq_true rfl⟩ (Nat.le_of_ble_eq_true rfl) ⟨rfl, rfl⟩ ⟨Nat.zero_le _, Nat.zero_le _⟩ dX3_fork_40 (fun S1 hS1 => ?_)
      subst hS1
      refine q_aload F dX3_fork_43 rfl ?_
      refine q_aload_n F dX3_fork_45 rfl ?_
      refine q_geti F (k := 3) fkX3_100 (q_m5 (by omega)) rfl rfl dX3_fork_46 ?_
      refine q_top (K 6 p) (by simp [q_up, q_fill, hpc]; exact (hT0.2.1 p hp).2.2.2.1) ?_
      refine q_puti F (k := 3) fkX3_100 fp2_3 (q_m5 (by omega)) rfl rfl dX3_fork_49 ?_
      refine q_aload F dX3_fork_52 rfl ?_
      refine q_aload_n F dX3_fork_54 rfl ?_
      refine q_geti F (k := 4) fkX3_56 (q_m5 (by omega)) rfl rfl dX3_fork_55 ?_
      refine q_top (K 7 p) (by simp [q_up, q_fill, hpc]; exact (hT0.2.1 p hp).2.2.2.2) ?_
      refine q_puti F (k := 4) fkX3_56 fp2_4 (q_m5 (by omega)) rfl rfl dX3_fork_58 ?_
      refine q_iconst F (nI 0) dX3_fork_61 (by decide) ?_
      refine q_istore_6 F dX3_fork_62 (by decide) ?_
      have h := lp_fork_64 F hp ha hc hpc hF hR hZ hc0 hff E 0 (by decide)
      rw [q_fill_0] at h
      exact h
    · exact absurd h16 (q_nm1 (by omega))
