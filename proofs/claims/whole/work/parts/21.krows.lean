/-! rows for the reference's own cells: its store stands as q_put S K -/
section QK
variable {G : q_g} {X : q_cx} {I : q_in} {n : Nat} {ad : q_ix → Nat} {cn : Nat × Nat} {pc : Nat} {ls : List (Option q_v)} {st : List q_v} {S : q_st} {K : k_t}
theorem q_kgeti (F : q_fx G X I) {k idx : Nat} (L : q_fk I.2.1.cls idx 4 k) (hk : ([none, none, some (some (21, 0)), some (some (22, 0)), some (some (23, 0)), some (some (24, 0)), some (some (25, 0)), some (some (26, 0)), some (some (27, 0)), some (some (28, 0)), some (some (29, 0)), none, none, none, none, none, some (some (30, 0))] : List (Option (Option q_ix)))[k]? = some none) (hd : decode I.1 pc = .ok (.getfield idx, 3)) (kk : q_W G X I (q_w G n ad) cn (pc + 3) ls (.inl (K 0 k) :: st) (q_put S K)) : q_W G X I (q_w G n ad) cn pc ls (.inr (some (20, 0)) :: st) (q_put S K) := by
  refine q_geti F L q_m20 rfl hk hd ?_
  rw [show q_put S K (20, 0) k = K 0 k from q_put_at S K 0 k]
  exact kk
theorem q_kputi (F : q_fx G X I) {k idx : Nat} {v : Int32} (L : q_fk I.2.1.cls idx 4 k) (M : q_fp 4 k .int false) (hk : ([none, none, some (some (21, 0)), some (some (22, 0)), some (some (23, 0)), some (some (24, 0)), some (some (25, 0)), some (some (26, 0)), some (some (27, 0)), some (some (28, 0)), some (some (29, 0)), none, none, none, none, none, some (some (30, 0))] : List (Option (Option q_ix)))[k]? = some none) (hd : decode I.1 pc = .ok (.putfield idx, 3)) (kk : q_W G X I (q_w G n ad) cn (pc + 3) ls st (q_put S (k_u K 0 k v))) : q_W G X I (q_w G n ad) cn pc ls (.inl v :: .inr (some (20, 0)) :: st) (q_put S K) := by
  refine q_puti F L M q_m20 rfl hk hd ?_
  rw [show q_up (q_put S K) (20, 0) k v = q_put S (k_u K 0 k v) from q_put_up S K 0 k v]
  exact kk
theorem q_kald (F : q_fx G X I) (a : Nat) {j m : Nat} {x : Int32} (k : Nat) (hi : ((j, 0) : q_ix) ∈ q_dom) (hj : a + 20 = j) (hsh : q_shp G n (j, 0) = .inr (.inl (G.2.1, m))) (hx0 : x = nI k) (hk : k < m) (hn : m < 2 ^ 31) (hd : decode I.1 pc = .ok (.iaload, 1)) (kk : q_W G X I (q_w G n ad) cn (pc + 1) ls (.inl (K a k) :: st) (q_put S K)) : q_W G X I (q_w G n ad) cn pc ls (.inl x :: .inr (some (j, 0)) :: st) (q_put S K) := by
  subst hj
  refine q_iald F k hi hsh hx0 hk hn hd ?_
  rw [q_put_at]
  exact kk
theorem q_kast (F : q_fx G X I) (a : Nat) {j m : Nat} {x v : Int32} (k : Nat) (hi : ((j, 0) : q_ix) ∈ q_dom) (hj : a + 20 = j) (hsh : q_shp G n (j, 0) = .inr (.inl (G.2.1, m))) (hx0 : x = nI k) (hk : k < m) (hn : m < 2 ^ 31) (hd : decode I.1 pc = .ok (.iastore, 1)) (kk : q_W G X I (q_w G n ad) cn (pc + 1) ls st (q_put S (k_u K a k v))) : q_W G X I (q_w G n ad) cn pc ls (.inl v :: .inl x :: .inr (some (j, 0)) :: st) (q_put S K) := by
  subst hj
  refine q_iast F k hi hsh hx0 hk hn hd ?_
  rw [q_put_up]
  exact kk
end QK
theorem k_u_self (K : k_t) (a i : Nat) : k_u K a i (K a i) = K := by
  funext b j
  unfold k_u
  split
  next h => rw [h.1, h.2]
  next => rfl
theorem k_u_at (K : k_t) (a i : Nat) (v : Int32) : k_u K a i v a i = v := by simp [k_u]
theorem k_u_ne (K : k_t) (a i : Nat) (v : Int32) {b j : Nat} (h : ¬ (b = a ∧ j = i)) : k_u K a i v b j = K b j := by
  unfold k_u
  rw [if_neg h]
