/-! the law's loop -/
theorem q_nIj {a b : Nat} (ha : a < 2 ^ 31) (hb : b < 2 ^ 31) (h : nI a = nI b) : a = b := by
  have := congrArg Int32.toInt h
  rw [nI_toInt ha, nI_toInt hb] at this
  omega
theorem q_inv_mk {n t L B : Nat} {S : q_st} {K : k_t} (hF : q_F S K n L B) (hL : L ≤ 110 * t) (hB : B ≤ 60 * t + 1) : q_inv n t (q_put S K) := ⟨K, L, B, q_put_put _ _ _, q_F_put hF, hL, hB⟩
set_option maxRecDepth 100000 in
set_option maxHeartbeats 4000000 in
theorem lc_stage {G : q_g} {X : q_cx} {nm : String} {b L0 n t i : Nat} {xs : Nat → Int32} {ad : q_ix → Nat} {S : q_st} (F : q_fx G X (iL_law nm)) (hsc : q_scX X b L0 xs) (hb : ad (99, 0) = b) (hL0 : L0 ≤ 1538) (hi : i + 3 ≤ L0) (ht : t ≤ 512) (hin : q_inv n t S) (kk : ∀ S', q_inv n (t + 1) S' → q_W G X (iL_law nm) (q_w G n ad) (43, 1382) 500 [some (.inr (some (99, 0))), some (.inr (some (0, 0))), some (.inr (some (20, 0))), some (.inl (nI i))] [] S') : q_W G X (iL_law nm) (q_w G n ad) (43, 1382) 132 [some (.inr (some (99, 0))), some (.inr (some (0, 0))), some (.inr (some (20, 0))), some (.inl (nI i))] [] S := by
  obtain ⟨K, L, B, hS, hF, hLt, hBt⟩ := hin
  have hok : k_Ok K B := hF.1
  refine q_aload_n F dL_law_132 rfl ?_
  refine q_aload_n F dL_law_133 rfl ?_
  refine q_iload_n F dL_law_134 rfl ?_
  refine q_iconst F (nI 1) dL_law_135 (by decide) ?_
  refine q_iaddN F dL_law_136 ?_
  refine q_sld F (i + 1) hsc hb rfl (by omega) (by omega) dL_law_137 ?_
  refine q_aload_n F dL_law_138 rfl ?_
  refine q_iload_n F dL_law_139 rfl ?_
  refine q_iconst F (nI 2) dL_law_140 (by decide) ?_
  refine q_iaddN F dL_law_141 ?_
  refine q_sld F (i + 2) hsc hb rfl (by omega) (by omega) dL_law_142 ?_
  refine q_callVi F [.inl (xs (i + 1)), .inl (xs (i + 2))] (fun l => t_stage l S hF) clL_21 rfl q_m0 rfl rfl rfl ⟨Nat.le_of_ble_eq_true rfl, Nat.le_of_ble_eq_true rfl⟩ (Nat.le_of_ble_eq_true rfl) ⟨rfl, rfl⟩ ⟨Nat.le_of_ble_eq_true rfl, Nat.le_of_ble_eq_true rfl⟩ dL_law_143 (fun v1 S1 h1 => ?_)
  have hS1 : q_put S1 K = S1 := by
    rcases h1 with ⟨-, -, h⟩ | ⟨j, -, -, -, -, hf⟩
    · rw [h]; exact hS
    · exact q_put_fr hS hf
  rw [← hS1]
  refine q_aload_n F dL_law_146 rfl ?_
  refine q_aload_n F dL_law_147 rfl ?_
  refine q_iload_n F dL_law_148 rfl ?_
  refine q_iconst F (nI 1) dL_law_149 (by decide) ?_
  refine q_iaddN F dL_law_150 ?_
  refine q_sld F (i + 1) hsc hb rfl (by omega) (by omega) dL_law_151 ?_
  refine q_aload_n F dL_law_152 rfl ?_
  refine q_iload_n F dL_law_153 rfl ?_
  refine q_iconst F (nI 2) dL_law_154 (by decide) ?_
  refine q_iaddN F dL_law_155 ?_
  refine q_sld F (i + 2) hsc hb rfl (by omega) (by omega) dL_law_156 ?_
  refine q_callVi F [.inl (xs (i + 1)), .inl (xs (i + 2))] (fun l => t_mstage l S1 K) clL_25 rfl q_m20 rfl rfl rfl ⟨Nat.le_of_ble_eq_true rfl, Nat.le_of_ble_eq_true rfl⟩ (Nat.le_of_ble_eq_true rfl) ⟨rfl, rfl⟩ ⟨Nat.le_of_ble_eq_true rfl, Nat.le_of_ble_eq_true rfl⟩ dL_law_157 (fun v2 S2 h2 => ?_)
  have hfin : v1 = v2 ∧ q_inv n (t + 1) S2 := by
    rcases h1 with ⟨a1, a2, a3⟩ | ⟨j, a1, a2, a3, a4, a5⟩ <;> rcases h2 with ⟨b1, b2, b3⟩ | ⟨j', b1, b2, b3, b4⟩
    · rw [b3]; exact ⟨by rw [a1, b1], q_inv_mk (a3 ▸ hF) (by omega) (by omega)⟩
    · exact absurd ⟨by rw [b2, nI_toInt (by omega)]; omega, by rw [b2, nI_toInt (by omega)]; omega⟩ a2
    · exact absurd ⟨by rw [a2, nI_toInt (by omega)]; omega, by rw [a2, nI_toInt (by omega)]; omega⟩ b2
    · obtain rfl := q_nIj (by omega) (by omega) (a2.symm.trans b2)
      rw [b4]; exact ⟨by rw [a3, b3], q_inv_mk a4 (by omega) (by omega)⟩
  exact q_icmp_eq F 500 dL_law_160 (by decide) (fun _ => kk S2 hfin.2) (fun h => absurd hfin.1 h)
set_option maxRecDepth 100000 in
set_option maxHeartbeats 4000000 in
theorem lc_load {G : q_g} {X : q_cx} {nm : String} {b L0 n t i : Nat} {xs : Nat → Int32} {ad : q_ix → Nat} {S : q_st} (F : q_fx G X (iL_law nm)) (hsc : q_scX X b L0 xs) (hb : ad (99, 0) = b) (hL0 : L0 ≤ 1538) (hi : i + 3 ≤ L0) (ht : t ≤ 512) (hin : q_inv n t S) (kk : ∀ S', q_inv n (t + 1) S' → q_W G X (iL_law nm) (q_w G n ad) (43, 1382) 500 [some (.inr (some (99, 0))), some (.inr (some (0, 0))), some (.inr (some (20, 0))), some (.inl (nI i))] [] S') : q_W G X (iL_law nm) (q_w G n ad) (43, 1382) 165 [some (.inr (some (99, 0))), some (.inr (some (0, 0))), some (.inr (some (20, 0))), some (.inl (nI i))] [] S := by
  obtain ⟨K, L, B, hS, hF, hLt, hBt⟩ := hin
  have hok : k_Ok K B := hF.1
  have hlim : K 0 0 = nI n := by obtain ⟨-, -, -, pg, us, lab, ⟨-, -, -, -, -, -, h, -⟩, -⟩ := hF; exact h
  have hn32 : n ≤ 32 := by obtain ⟨-, -, -, pg, us, lab, ⟨h, -⟩, -⟩ := hF; exact h.2
  refine q_aload_n F dL_law_165 rfl ?_
  refine q_aload_n F dL_law_166 rfl ?_
  refine q_iload_n F dL_law_167 rfl ?_
  refine q_iconst F (nI 1) dL_law_168 (by decide) ?_
  refine q_iaddN F dL_law_169 ?_
  refine q_sld F (i + 1) hsc hb rfl (by omega) (by omega) dL_law_170 ?_
  refine q_callVi F [.inl (xs (i + 1))] (fun l => t_load l S hF (by omega)) clL_26 rfl q_m0 rfl rfl rfl ⟨Nat.le_of_ble_eq_true rfl, Nat.le_of_ble_eq_true rfl⟩ (Nat.le_of_ble_eq_true rfl) ⟨rfl, rfl⟩ ⟨Nat.le_of_ble_eq_true rfl, Nat.le_of_ble_eq_true rfl⟩ dL_law_171 (fun v1 S1 h1 => ?_)
  have hS1 : q_put S1 K = S1 := by
    rcases h1 with ⟨-, -, h⟩ | ⟨len, -, -, -, ⟨-, -, h⟩ | ⟨p, -, -, ⟨-, -, h⟩ | ⟨-, -, -, hf⟩⟩⟩
    · rw [h]; exact hS
    · rw [h]; exact hS
    · rw [h]; exact hS
    · exact q_put_fr hS hf
  rw [← hS1]
  refine q_aload_n F dL_law_174 rfl ?_
  refine q_aload_n F dL_law_175 rfl ?_
  refine q_iload_n F dL_law_176 rfl ?_
  refine q_iconst F (nI 1) dL_law_177 (by decide) ?_
  refine q_iaddN F dL_law_178 ?_
  refine q_sld F (i + 1) hsc hb rfl (by omega) (by omega) dL_law_179 ?_
  refine q_callVi F [.inl (xs (i + 1))] (fun l => t_mload l S1 K hlim (by omega)) clL_30 rfl q_m20 rfl rfl rfl ⟨Nat.le_of_ble_eq_true rfl, Nat.le_of_ble_eq_true rfl⟩ (Nat.le_of_ble_eq_true rfl) ⟨rfl, rfl⟩ ⟨Nat.le_of_ble_eq_true rfl, Nat.le_of_ble_eq_true rfl⟩ dL_law_180 (fun v2 S2 h2 => ?_)
  have hfin : v1 = v2 ∧ q_inv n (t + 1) S2 := by
    rcases h1 with ⟨a1, a2, a3⟩ | ⟨len, a1, a2, a3, a4⟩ <;> rcases h2 with ⟨b1, b2, b3⟩ | ⟨len', b1, b2, b3, b4⟩
    · rw [b3]; exact ⟨by rw [a1, b1], q_inv_mk (a3 ▸ hF) (by omega) (by omega)⟩
    · exact absurd ⟨by rw [b3, nI_toInt (by omega)]; omega, by rw [b3, nI_toInt (by omega)]; omega⟩ a2
    · exact absurd ⟨by rw [a3, nI_toInt (by omega)]; omega, by rw [a3, nI_toInt (by omega)]; omega⟩ b2
    · obtain rfl := q_nIj (by omega) (by omega) (a3.symm.trans b3)
      rcases a4 with ⟨c1, c2, c3⟩ | ⟨p, c0, c1, c2⟩ <;> rcases b4 with ⟨d1, d2, d3⟩ | ⟨p', d0, d1, d2⟩
      · rw [d3]; exact ⟨by rw [c2, d2], q_inv_mk (c3 ▸ hF) (by omega) (by omega)⟩
      · rw [c1] at d1; cases d1
      · rw [c1] at d1; cases d1
      · rw [c1] at d1
        cases d1
        rcases c2 with ⟨e1, e2, e3⟩ | ⟨e1, e2, e3, e4⟩ <;> rcases d2 with ⟨f1, f2, f3⟩ | ⟨f1, f2, f3⟩
        · rw [f3]; exact ⟨by rw [e2, f2], q_inv_mk (e3 ▸ hF) (by omega) (by omega)⟩
        · exact absurd f1 e1
        · exact absurd e1 f1
        · rw [f3]; exact ⟨by rw [e2, f2], q_inv_mk e3 (by omega) (by omega)⟩
  exact q_icmp_eq F 500 dL_law_183 (by decide) (fun _ => kk S2 hfin.2) (fun h => absurd hfin.1 h)
set_option maxRecDepth 100000 in
set_option maxHeartbeats 4000000 in
theorem lc_step {G : q_g} {X : q_cx} {nm : String} {b L0 n t i : Nat} {xs : Nat → Int32} {ad : q_ix → Nat} {S : q_st} (F : q_fx G X (iL_law nm)) (hsc : q_scX X b L0 xs) (hb : ad (99, 0) = b) (hL0 : L0 ≤ 1538) (hi : i + 3 ≤ L0) (ht : t ≤ 512) (hin : q_inv n t S) (kk : ∀ S', q_inv n (t + 1) S' → q_W G X (iL_law nm) (q_w G n ad) (43, 1382) 500 [some (.inr (some (99, 0))), some (.inr (some (0, 0))), some (.inr (some (20, 0))), some (.inl (nI i))] [] S') : q_W G X (iL_law nm) (q_w G n ad) (43, 1382) 188 [some (.inr (some (99, 0))), some (.inr (some (0, 0))), some (.inr (some (20, 0))), some (.inl (nI i))] [] S := by
  obtain ⟨K, L, B, hS, hF, hLt, hBt⟩ := hin
  have hok : k_Ok K B := hF.1
  refine q_aload_n F dL_law_188 rfl ?_
  refine q_callVi F [] (fun l => t_step l S hF (by omega) (by omega)) clL_31 rfl q_m0 rfl rfl rfl ⟨Nat.le_of_ble_eq_true rfl, Nat.le_of_ble_eq_true rfl⟩ (Nat.le_of_ble_eq_true rfl) ⟨rfl, rfl⟩ ⟨Nat.le_of_ble_eq_true rfl, Nat.le_of_ble_eq_true rfl⟩ dL_law_189 (fun v1 S1 h1 => ?_)
  have hS1 : q_put S1 K = S1 := by
    obtain ⟨L', -, -, -, hf⟩ := h1
    exact q_put_fr hS hf
  rw [← hS1]
  refine q_aload_n F dL_law_192 rfl ?_
  refine q_callVi F [] (fun l => t_mstep l S1 K hok (by omega)) clL_35 rfl q_m20 rfl rfl rfl ⟨Nat.le_of_ble_eq_true rfl, Nat.le_of_ble_eq_true rfl⟩ (Nat.le_of_ble_eq_true rfl) ⟨rfl, rfl⟩ ⟨Nat.le_of_ble_eq_true rfl, Nat.le_of_ble_eq_true rfl⟩ dL_law_193 (fun v2 S2 h2 => ?_)
  have hfin : v1 = v2 ∧ q_inv n (t + 1) S2 := by
    obtain ⟨L', a1, a2, a3, a4⟩ := h1
    obtain ⟨b1, b2⟩ := h2
    rw [b2]; exact ⟨by rw [a2, b1], q_inv_mk a3 (by omega) (by omega)⟩
  exact q_icmp_eq F 500 dL_law_196 (by decide) (fun _ => kk S2 hfin.2) (fun h => absurd hfin.1 h)
set_option maxRecDepth 100000 in
set_option maxHeartbeats 4000000 in
theorem lc_steps {G : q_g} {X : q_cx} {nm : String} {b L0 n t i : Nat} {xs : Nat → Int32} {ad : q_ix → Nat} {S : q_st} (F : q_fx G X (iL_law nm)) (hsc : q_scX X b L0 xs) (hb : ad (99, 0) = b) (hL0 : L0 ≤ 1538) (hi : i + 3 ≤ L0) (ht : t ≤ 512) (hin : q_inv n t S) (kk : ∀ S', q_inv n (t + 1) S' → q_W G X (iL_law nm) (q_w G n ad) (43, 1382) 500 [some (.inr (some (99, 0))), some (.inr (some (0, 0))), some (.inr (some (20, 0))), some (.inl (nI i))] [] S') : q_W G X (iL_law nm) (q_w G n ad) (43, 1382) 201 [some (.inr (some (99, 0))), some (.inr (some (0, 0))), some (.inr (some (20, 0))), some (.inl (nI i))] [] S := by
  obtain ⟨K, L, B, hS, hF, hLt, hBt⟩ := hin
  have hok : k_Ok K B := hF.1
  refine q_aload_n F dL_law_201 rfl ?_
  refine q_aload_n F dL_law_202 rfl ?_
  refine q_iload_n F dL_law_203 rfl ?_
  refine q_iconst F (nI 1) dL_law_204 (by decide) ?_
  refine q_iaddN F dL_law_205 ?_
  refine q_sld F (i + 1) hsc hb rfl (by omega) (by omega) dL_law_206 ?_
  refine q_callVi F [.inl (xs (i + 1))] (fun l => t_steps l S hF (by omega) (by omega)) clL_36 rfl q_m0 rfl rfl rfl ⟨Nat.le_of_ble_eq_true rfl, Nat.le_of_ble_eq_true rfl⟩ (Nat.le_of_ble_eq_true rfl) ⟨rfl, rfl⟩ ⟨Nat.le_of_ble_eq_true rfl, Nat.le_of_ble_eq_true rfl⟩ dL_law_207 (fun v1 S1 h1 => ?_)
  have hS1 : q_put S1 K = S1 := by
    rcases h1 with ⟨-, -, h⟩ | ⟨m, -, -, -, L', -, -, hf⟩
    · rw [h]; exact hS
    · exact q_put_fr hS hf
  rw [← hS1]
  refine q_aload_n F dL_law_210 rfl ?_
  refine q_aload_n F dL_law_211 rfl ?_
  refine q_iload_n F dL_law_212 rfl ?_
  refine q_iconst F (nI 1) dL_law_213 (by decide) ?_
  refine q_iaddN F dL_law_214 ?_
  refine q_sld F (i + 1) hsc hb rfl (by omega) (by omega) dL_law_215 ?_
  refine q_callVi F [.inl (xs (i + 1))] (fun l => t_msteps l S1 K hok (by omega)) clL_39 rfl q_m20 rfl rfl rfl ⟨Nat.le_of_ble_eq_true rfl, Nat.le_of_ble_eq_true rfl⟩ (Nat.le_of_ble_eq_true rfl) ⟨rfl, rfl⟩ ⟨Nat.le_of_ble_eq_true rfl, Nat.le_of_ble_eq_true rfl⟩ dL_law_216 (fun v2 S2 h2 => ?_)
  have hfin : v1 = v2 ∧ q_inv n (t + 1) S2 := by
    rcases h1 with ⟨a1, a2, a3⟩ | ⟨m, a1, a2, a3, L', a4, a5, a6⟩ <;> rcases h2 with ⟨b1, b2, b3⟩ | ⟨m', b1, b2, b3, b4⟩
    · rw [b3]; exact ⟨by rw [a1, b1], q_inv_mk (a3 ▸ hF) (by omega) (by omega)⟩
    · exact absurd ⟨by rw [b2, nI_toInt (by omega)]; omega, by rw [b2, nI_toInt (by omega)]; omega⟩ a2
    · exact absurd ⟨by rw [a2, nI_toInt (by omega)]; omega, by rw [a2, nI_toInt (by omega)]; omega⟩ b2
    · obtain rfl := q_nIj (by omega) (by omega) (a2.symm.trans b2)
      rw [b4]; exact ⟨by rw [a3, b3], q_inv_mk a5 (by omega) (by omega)⟩
  exact q_icmp_eq F 500 dL_law_219 (by decide) (fun _ => kk S2 hfin.2) (fun h => absurd hfin.1 h)
set_option maxRecDepth 100000 in
set_option maxHeartbeats 4000000 in
theorem lc_kill {G : q_g} {X : q_cx} {nm : String} {b L0 n t i : Nat} {xs : Nat → Int32} {ad : q_ix → Nat} {S : q_st} (F : q_fx G X (iL_law nm)) (hsc : q_scX X b L0 xs) (hb : ad (99, 0) = b) (hL0 : L0 ≤ 1538) (hi : i + 3 ≤ L0) (ht : t ≤ 512) (hin : q_inv n t S) (kk : ∀ S', q_inv n (t + 1) S' → q_W G X (iL_law nm) (q_w G n ad) (43, 1382) 500 [some (.inr (some (99, 0))), some (.inr (some (0, 0))), some (.inr (some (20, 0))), some (.inl (nI i))] [] S') : q_W G X (iL_law nm) (q_w G n ad) (43, 1382) 224 [some (.inr (some (99, 0))), some (.inr (some (0, 0))), some (.inr (some (20, 0))), some (.inl (nI i))] [] S := by
  obtain ⟨K, L, B, hS, hF, hLt, hBt⟩ := hin
  have hok : k_Ok K B := hF.1
  refine q_aload_n F dL_law_224 rfl ?_
  refine q_aload_n F dL_law_225 rfl ?_
  refine q_iload_n F dL_law_226 rfl ?_
  refine q_iconst F (nI 1) dL_law_227 (by decide) ?_
  refine q_iaddN F dL_law_228 ?_
  refine q_sld F (i + 1) hsc hb rfl (by omega) (by omega) dL_law_229 ?_
  refine q_callVi F [.inl (xs (i + 1))] (fun l => t_kill l S hF) clL_40 rfl q_m0 rfl rfl rfl ⟨Nat.le_of_ble_eq_true rfl, Nat.le_of_ble_eq_true rfl⟩ (Nat.le_of_ble_eq_true rfl) ⟨rfl, rfl⟩ ⟨Nat.le_of_ble_eq_true rfl, Nat.le_of_ble_eq_true rfl⟩ dL_law_230 (fun v1 S1 h1 => ?_)
  have hS1 : q_put S1 K = S1 := by
    rcases h1 with ⟨p, -, -, -, -, -, hf⟩ | ⟨-, -, h⟩
    · exact q_put_fr hS hf
    · rw [h]; exact hS
  rw [← hS1]
  refine q_aload_n F dL_law_233 rfl ?_
  refine q_aload_n F dL_law_234 rfl ?_
  refine q_iload_n F dL_law_235 rfl ?_
  refine q_iconst F (nI 1) dL_law_236 (by decide) ?_
  refine q_iaddN F dL_law_237 ?_
  refine q_sld F (i + 1) hsc hb rfl (by omega) (by omega) dL_law_238 ?_
  refine q_callVi F [.inl (xs (i + 1))] (fun l => t_mkill l S1 K (fun j hj => (hok.1 j hj).2.1)) clL_44 rfl q_m20 rfl rfl rfl ⟨Nat.le_of_ble_eq_true rfl, Nat.le_of_ble_eq_true rfl⟩ (Nat.le_of_ble_eq_true rfl) ⟨rfl, rfl⟩ ⟨Nat.le_of_ble_eq_true rfl, Nat.le_of_ble_eq_true rfl⟩ dL_law_239 (fun v2 S2 h2 => ?_)
  have hfin : v1 = v2 ∧ q_inv n (t + 1) S2 := by
    rcases h1 with ⟨p, a1, a2, a3, a4, a5, a6⟩ | ⟨a1, a2, a3⟩ <;> rcases h2 with ⟨p', b1, b2, b3, b4, b5⟩ | ⟨b1, b2, b3⟩
    · rw [a3] at b3
      cases b3
      rw [b5]; exact ⟨by rw [a4, b4], q_inv_mk a5 (by omega) (by omega)⟩
    · rw [a3] at b1; cases b1
    · rw [a1] at b3; cases b3
    · rw [b3]; exact ⟨by rw [a2, b2], q_inv_mk (a3 ▸ hF) (by omega) (by omega)⟩
  exact q_icmp_eq F 500 dL_law_242 (by decide) (fun _ => kk S2 hfin.2) (fun h => absurd hfin.1 h)
set_option maxRecDepth 100000 in
set_option maxHeartbeats 4000000 in
theorem lc_reap {G : q_g} {X : q_cx} {nm : String} {b L0 n t i : Nat} {xs : Nat → Int32} {ad : q_ix → Nat} {S : q_st} (F : q_fx G X (iL_law nm)) (hsc : q_scX X b L0 xs) (hb : ad (99, 0) = b) (hL0 : L0 ≤ 1538) (hi : i + 3 ≤ L0) (ht : t ≤ 512) (hin : q_inv n t S) (kk : ∀ S', q_inv n (t + 1) S' → q_W G X (iL_law nm) (q_w G n ad) (43, 1382) 500 [some (.inr (some (99, 0))), some (.inr (some (0, 0))), some (.inr (some (20, 0))), some (.inl (nI i))] [] S') : q_W G X (iL_law nm) (q_w G n ad) (43, 1382) 247 [some (.inr (some (99, 0))), some (.inr (some (0, 0))), some (.inr (some (20, 0))), some (.inl (nI i))] [] S := by
  obtain ⟨K, L, B, hS, hF, hLt, hBt⟩ := hin
  have hok : k_Ok K B := hF.1
  refine q_aload_n F dL_law_247 rfl ?_
  refine q_aload_n F dL_law_248 rfl ?_
  refine q_iload_n F dL_law_249 rfl ?_
  refine q_iconst F (nI 1) dL_law_250 (by decide) ?_
  refine q_iaddN F dL_law_251 ?_
  refine q_sld F (i + 1) hsc hb rfl (by omega) (by omega) dL_law_252 ?_
  refine q_callVi F [.inl (xs (i + 1))] (fun l => t_reap l S hF) clL_45 rfl q_m0 rfl rfl rfl ⟨Nat.le_of_ble_eq_true rfl, Nat.le_of_ble_eq_true rfl⟩ (Nat.le_of_ble_eq_true rfl) ⟨rfl, rfl⟩ ⟨Nat.le_of_ble_eq_true rfl, Nat.le_of_ble_eq_true rfl⟩ dL_law_253 (fun v1 S1 h1 => ?_)
  have hS1 : q_put S1 K = S1 := by
    rcases h1 with ⟨p, -, -, -, -, -, -, hf⟩ | ⟨-, -, h⟩
    · exact q_put_fr hS hf
    · rw [h]; exact hS
  rw [← hS1]
  refine q_aload_n F dL_law_256 rfl ?_
  refine q_aload_n F dL_law_257 rfl ?_
  refine q_iload_n F dL_law_258 rfl ?_
  refine q_iconst F (nI 1) dL_law_259 (by decide) ?_
  refine q_iaddN F dL_law_260 ?_
  refine q_sld F (i + 1) hsc hb rfl (by omega) (by omega) dL_law_261 ?_
  refine q_callVi F [.inl (xs (i + 1))] (fun l => t_mreap l S1 K) clL_48 rfl q_m20 rfl rfl rfl ⟨Nat.le_of_ble_eq_true rfl, Nat.le_of_ble_eq_true rfl⟩ (Nat.le_of_ble_eq_true rfl) ⟨rfl, rfl⟩ ⟨Nat.le_of_ble_eq_true rfl, Nat.le_of_ble_eq_true rfl⟩ dL_law_262 (fun v2 S2 h2 => ?_)
  have hfin : v1 = v2 ∧ q_inv n (t + 1) S2 := by
    rcases h1 with ⟨p, a1, a2, a3, a4, a5, a6, a7⟩ | ⟨a1, a2, a3⟩ <;> rcases h2 with ⟨p', b1, b2, b3, b4, b5, b6⟩ | ⟨b1, b2, b3⟩
    · obtain rfl := q_nIj (by omega) (by omega) (a2.symm.trans b2)
      rw [b6]; exact ⟨by rw [a5, b5], q_inv_mk a6 (by omega) (by omega)⟩
    · exact absurd ⟨a3, a4⟩ (b1 p a1 a2)
    · exact absurd ⟨b3, b4⟩ (a1 p' b1 b2)
    · rw [b3]; exact ⟨by rw [a2, b2], q_inv_mk (a3 ▸ hF) (by omega) (by omega)⟩
  exact q_icmp_eq F 500 dL_law_265 (by decide) (fun _ => kk S2 hfin.2) (fun h => absurd hfin.1 h)
set_option maxRecDepth 100000 in
set_option maxHeartbeats 4000000 in
theorem lc_state {G : q_g} {X : q_cx} {nm : String} {b L0 n t i : Nat} {xs : Nat → Int32} {ad : q_ix → Nat} {S : q_st} (F : q_fx G X (iL_law nm)) (hsc : q_scX X b L0 xs) (hb : ad (99, 0) = b) (hL0 : L0 ≤ 1538) (hi : i + 3 ≤ L0) (ht : t ≤ 512) (hin : q_inv n t S) (kk : ∀ S', q_inv n (t + 1) S' → q_W G X (iL_law nm) (q_w G n ad) (43, 1382) 500 [some (.inr (some (99, 0))), some (.inr (some (0, 0))), some (.inr (some (20, 0))), some (.inl (nI i))] [] S') : q_W G X (iL_law nm) (q_w G n ad) (43, 1382) 270 [some (.inr (some (99, 0))), some (.inr (some (0, 0))), some (.inr (some (20, 0))), some (.inl (nI i))] [] S := by
  obtain ⟨K, L, B, hS, hF, hLt, hBt⟩ := hin
  have hok : k_Ok K B := hF.1
  refine q_aload_n F dL_law_270 rfl ?_
  refine q_aload_n F dL_law_271 rfl ?_
  refine q_iload_n F dL_law_272 rfl ?_
  refine q_iconst F (nI 1) dL_law_273 (by decide) ?_
  refine q_iaddN F dL_law_274 ?_
  refine q_sld F (i + 1) hsc hb rfl (by omega) (by omega) dL_law_275 ?_
  refine q_callVi F [.inl (xs (i + 1))] (fun l => t_state l S hF) clL_49 rfl q_m0 rfl rfl rfl ⟨Nat.le_of_ble_eq_true rfl, Nat.le_of_ble_eq_true rfl⟩ (Nat.le_of_ble_eq_true rfl) ⟨rfl, rfl⟩ ⟨Nat.le_of_ble_eq_true rfl, Nat.le_of_ble_eq_true rfl⟩ dL_law_276 (fun v1 S1 h1 => ?_)
  have hS1 : q_put S1 K = S1 := by rw [h1.2]; exact hS
  rw [← hS1]
  refine q_aload_n F dL_law_279 rfl ?_
  refine q_aload_n F dL_law_280 rfl ?_
  refine q_iload_n F dL_law_281 rfl ?_
  refine q_iconst F (nI 1) dL_law_282 (by decide) ?_
  refine q_iaddN F dL_law_283 ?_
  refine q_sld F (i + 1) hsc hb rfl (by omega) (by omega) dL_law_284 ?_
  refine q_callVi F [.inl (xs (i + 1))] (fun l => t_mstate l S1 K) clL_52 rfl q_m20 rfl rfl rfl ⟨Nat.le_of_ble_eq_true rfl, Nat.le_of_ble_eq_true rfl⟩ (Nat.le_of_ble_eq_true rfl) ⟨rfl, rfl⟩ ⟨Nat.le_of_ble_eq_true rfl, Nat.le_of_ble_eq_true rfl⟩ dL_law_285 (fun v2 S2 h2 => ?_)
  have hfin : v1 = v2 ∧ q_inv n (t + 1) S2 := by
    rw [h2.2]; exact ⟨h1.1.trans h2.1.symm, q_inv_mk (h1.2 ▸ hF) (by omega) (by omega)⟩
  exact q_icmp_eq F 500 dL_law_288 (by decide) (fun _ => kk S2 hfin.2) (fun h => absurd hfin.1 h)
set_option maxRecDepth 100000 in
set_option maxHeartbeats 4000000 in
theorem lc_parent {G : q_g} {X : q_cx} {nm : String} {b L0 n t i : Nat} {xs : Nat → Int32} {ad : q_ix → Nat} {S : q_st} (F : q_fx G X (iL_law nm)) (hsc : q_scX X b L0 xs) (hb : ad (99, 0) = b) (hL0 : L0 ≤ 1538) (hi : i + 3 ≤ L0) (ht : t ≤ 512) (hin : q_inv n t S) (kk : ∀ S', q_inv n (t + 1) S' → q_W G X (iL_law nm) (q_w G n ad) (43, 1382) 500 [some (.inr (some (99, 0))), some (.inr (some (0, 0))), some (.inr (some (20, 0))), some (.inl (nI i))] [] S') : q_W G X (iL_law nm) (q_w G n ad) (43, 1382) 293 [some (.inr (some (99, 0))), some (.inr (some (0, 0))), some (.inr (some (20, 0))), some (.inl (nI i))] [] S := by
  obtain ⟨K, L, B, hS, hF, hLt, hBt⟩ := hin
  have hok : k_Ok K B := hF.1
  refine q_aload_n F dL_law_293 rfl ?_
  refine q_aload_n F dL_law_294 rfl ?_
  refine q_iload_n F dL_law_295 rfl ?_
  refine q_iconst F (nI 1) dL_law_296 (by decide) ?_
  refine q_iaddN F dL_law_297 ?_
  refine q_sld F (i + 1) hsc hb rfl (by omega) (by omega) dL_law_298 ?_
  refine q_callVi F [.inl (xs (i + 1))] (fun l => t_parent l S hF) clL_53 rfl q_m0 rfl rfl rfl ⟨Nat.le_of_ble_eq_true rfl, Nat.le_of_ble_eq_true rfl⟩ (Nat.le_of_ble_eq_true rfl) ⟨rfl, rfl⟩ ⟨Nat.le_of_ble_eq_true rfl, Nat.le_of_ble_eq_true rfl⟩ dL_law_299 (fun v1 S1 h1 => ?_)
  have hS1 : q_put S1 K = S1 := by rw [h1.2]; exact hS
  rw [← hS1]
  refine q_aload_n F dL_law_302 rfl ?_
  refine q_aload_n F dL_law_303 rfl ?_
  refine q_iload_n F dL_law_304 rfl ?_
  refine q_iconst F (nI 1) dL_law_305 (by decide) ?_
  refine q_iaddN F dL_law_306 ?_
  refine q_sld F (i + 1) hsc hb rfl (by omega) (by omega) dL_law_307 ?_
  refine q_callVi F [.inl (xs (i + 1))] (fun l => t_mparent l S1 K) clL_56 rfl q_m20 rfl rfl rfl ⟨Nat.le_of_ble_eq_true rfl, Nat.le_of_ble_eq_true rfl⟩ (Nat.le_of_ble_eq_true rfl) ⟨rfl, rfl⟩ ⟨Nat.le_of_ble_eq_true rfl, Nat.le_of_ble_eq_true rfl⟩ dL_law_308 (fun v2 S2 h2 => ?_)
  have hfin : v1 = v2 ∧ q_inv n (t + 1) S2 := by
    rw [h2.2]; exact ⟨h1.1.trans h2.1.symm, q_inv_mk (h1.2 ▸ hF) (by omega) (by omega)⟩
  exact q_icmp_eq F 500 dL_law_311 (by decide) (fun _ => kk S2 hfin.2) (fun h => absurd hfin.1 h)
set_option maxRecDepth 100000 in
set_option maxHeartbeats 4000000 in
theorem lc_code {G : q_g} {X : q_cx} {nm : String} {b L0 n t i : Nat} {xs : Nat → Int32} {ad : q_ix → Nat} {S : q_st} (F : q_fx G X (iL_law nm)) (hsc : q_scX X b L0 xs) (hb : ad (99, 0) = b) (hL0 : L0 ≤ 1538) (hi : i + 3 ≤ L0) (ht : t ≤ 512) (hin : q_inv n t S) (kk : ∀ S', q_inv n (t + 1) S' → q_W G X (iL_law nm) (q_w G n ad) (43, 1382) 500 [some (.inr (some (99, 0))), some (.inr (some (0, 0))), some (.inr (some (20, 0))), some (.inl (nI i))] [] S') : q_W G X (iL_law nm) (q_w G n ad) (43, 1382) 316 [some (.inr (some (99, 0))), some (.inr (some (0, 0))), some (.inr (some (20, 0))), some (.inl (nI i))] [] S := by
  obtain ⟨K, L, B, hS, hF, hLt, hBt⟩ := hin
  have hok : k_Ok K B := hF.1
  refine q_aload_n F dL_law_316 rfl ?_
  refine q_aload_n F dL_law_317 rfl ?_
  refine q_iload_n F dL_law_318 rfl ?_
  refine q_iconst F (nI 1) dL_law_319 (by decide) ?_
  refine q_iaddN F dL_law_320 ?_
  refine q_sld F (i + 1) hsc hb rfl (by omega) (by omega) dL_law_321 ?_
  refine q_callVi F [.inl (xs (i + 1))] (fun l => t_code l S hF) clL_57 rfl q_m0 rfl rfl rfl ⟨Nat.le_of_ble_eq_true rfl, Nat.le_of_ble_eq_true rfl⟩ (Nat.le_of_ble_eq_true rfl) ⟨rfl, rfl⟩ ⟨Nat.le_of_ble_eq_true rfl, Nat.le_of_ble_eq_true rfl⟩ dL_law_322 (fun v1 S1 h1 => ?_)
  have hS1 : q_put S1 K = S1 := by rw [h1.2]; exact hS
  rw [← hS1]
  refine q_aload_n F dL_law_325 rfl ?_
  refine q_aload_n F dL_law_326 rfl ?_
  refine q_iload_n F dL_law_327 rfl ?_
  refine q_iconst F (nI 1) dL_law_328 (by decide) ?_
  refine q_iaddN F dL_law_329 ?_
  refine q_sld F (i + 1) hsc hb rfl (by omega) (by omega) dL_law_330 ?_
  refine q_callVi F [.inl (xs (i + 1))] (fun l => t_mcode l S1 K) clL_60 rfl q_m20 rfl rfl rfl ⟨Nat.le_of_ble_eq_true rfl, Nat.le_of_ble_eq_true rfl⟩ (Nat.le_of_ble_eq_true rfl) ⟨rfl, rfl⟩ ⟨Nat.le_of_ble_eq_true rfl, Nat.le_of_ble_eq_true rfl⟩ dL_law_331 (fun v2 S2 h2 => ?_)
  have hfin : v1 = v2 ∧ q_inv n (t + 1) S2 := by
    rw [h2.2]; exact ⟨h1.1.trans h2.1.symm, q_inv_mk (h1.2 ▸ hF) (by omega) (by omega)⟩
  exact q_icmp_eq F 500 dL_law_334 (by decide) (fun _ => kk S2 hfin.2) (fun h => absurd hfin.1 h)
set_option maxRecDepth 100000 in
set_option maxHeartbeats 4000000 in
theorem lc_running {G : q_g} {X : q_cx} {nm : String} {b L0 n t i : Nat} {xs : Nat → Int32} {ad : q_ix → Nat} {S : q_st} (F : q_fx G X (iL_law nm)) (hsc : q_scX X b L0 xs) (hb : ad (99, 0) = b) (hL0 : L0 ≤ 1538) (hi : i + 3 ≤ L0) (ht : t ≤ 512) (hin : q_inv n t S) (kk : ∀ S', q_inv n (t + 1) S' → q_W G X (iL_law nm) (q_w G n ad) (43, 1382) 500 [some (.inr (some (99, 0))), some (.inr (some (0, 0))), some (.inr (some (20, 0))), some (.inl (nI i))] [] S') : q_W G X (iL_law nm) (q_w G n ad) (43, 1382) 339 [some (.inr (some (99, 0))), some (.inr (some (0, 0))), some (.inr (some (20, 0))), some (.inl (nI i))] [] S := by
  obtain ⟨K, L, B, hS, hF, hLt, hBt⟩ := hin
  have hok : k_Ok K B := hF.1
  refine q_aload_n F dL_law_339 rfl ?_
  refine q_callVi F [] (fun l => t_running l S hF) clL_61 rfl q_m0 rfl rfl rfl ⟨Nat.le_of_ble_eq_true rfl, Nat.le_of_ble_eq_true rfl⟩ (Nat.le_of_ble_eq_true rfl) ⟨rfl, rfl⟩ ⟨Nat.le_of_ble_eq_true rfl, Nat.le_of_ble_eq_true rfl⟩ dL_law_340 (fun v1 S1 h1 => ?_)
  have hS1 : q_put S1 K = S1 := by rw [h1.2]; exact hS
  rw [← hS1]
  refine q_aload_n F dL_law_343 rfl ?_
  refine q_callVi F [] (fun l => t_mrunning l S1 K hok.2.1) clL_64 rfl q_m20 rfl rfl rfl ⟨Nat.le_of_ble_eq_true rfl, Nat.le_of_ble_eq_true rfl⟩ (Nat.le_of_ble_eq_true rfl) ⟨rfl, rfl⟩ ⟨Nat.le_of_ble_eq_true rfl, Nat.le_of_ble_eq_true rfl⟩ dL_law_344 (fun v2 S2 h2 => ?_)
  have hfin : v1 = v2 ∧ q_inv n (t + 1) S2 := by
    rw [h2.2]
    refine ⟨?_, q_inv_mk (h1.2 ▸ hF) (by omega) (by omega)⟩
    rcases h1.1 with ⟨a1, a2⟩ | ⟨a1, a2⟩ <;> rcases h2.1 with ⟨b1, b2⟩ | ⟨b1, b2⟩
    · rw [a2, b2]
    · exact absurd a1 b1
    · exact absurd b1 a1
    · rw [a2, b2]
  exact q_icmp_eq F 500 dL_law_347 (by decide) (fun _ => kk S2 hfin.2) (fun h => absurd hfin.1 h)
set_option maxRecDepth 100000 in
set_option maxHeartbeats 4000000 in
theorem lc_register {G : q_g} {X : q_cx} {nm : String} {b L0 n t i : Nat} {xs : Nat → Int32} {ad : q_ix → Nat} {S : q_st} (F : q_fx G X (iL_law nm)) (hsc : q_scX X b L0 xs) (hb : ad (99, 0) = b) (hL0 : L0 ≤ 1538) (hi : i + 3 ≤ L0) (ht : t ≤ 512) (hin : q_inv n t S) (kk : ∀ S', q_inv n (t + 1) S' → q_W G X (iL_law nm) (q_w G n ad) (43, 1382) 500 [some (.inr (some (99, 0))), some (.inr (some (0, 0))), some (.inr (some (20, 0))), some (.inl (nI i))] [] S') : q_W G X (iL_law nm) (q_w G n ad) (43, 1382) 352 [some (.inr (some (99, 0))), some (.inr (some (0, 0))), some (.inr (some (20, 0))), some (.inl (nI i))] [] S := by
  obtain ⟨K, L, B, hS, hF, hLt, hBt⟩ := hin
  have hok : k_Ok K B := hF.1
  refine q_aload_n F dL_law_352 rfl ?_
  refine q_aload_n F dL_law_353 rfl ?_
  refine q_iload_n F dL_law_354 rfl ?_
  refine q_iconst F (nI 1) dL_law_355 (by decide) ?_
  refine q_iaddN F dL_law_356 ?_
  refine q_sld F (i + 1) hsc hb rfl (by omega) (by omega) dL_law_357 ?_
  refine q_aload_n F dL_law_358 rfl ?_
  refine q_iload_n F dL_law_359 rfl ?_
  refine q_iconst F (nI 2) dL_law_360 (by decide) ?_
  refine q_iaddN F dL_law_361 ?_
  refine q_sld F (i + 2) hsc hb rfl (by omega) (by omega) dL_law_362 ?_
  refine q_callVi F [.inl (xs (i + 1)), .inl (xs (i + 2))] (fun l => t_register l S hF) clL_65 rfl q_m0 rfl rfl rfl ⟨Nat.le_of_ble_eq_true rfl, Nat.le_of_ble_eq_true rfl⟩ (Nat.le_of_ble_eq_true rfl) ⟨rfl, rfl⟩ ⟨Nat.le_of_ble_eq_true rfl, Nat.le_of_ble_eq_true rfl⟩ dL_law_363 (fun v1 S1 h1 => ?_)
  have hS1 : q_put S1 K = S1 := by rw [h1.2]; exact hS
  rw [← hS1]
  refine q_aload_n F dL_law_366 rfl ?_
  refine q_aload_n F dL_law_367 rfl ?_
  refine q_iload_n F dL_law_368 rfl ?_
  refine q_iconst F (nI 1) dL_law_369 (by decide) ?_
  refine q_iaddN F dL_law_370 ?_
  refine q_sld F (i + 1) hsc hb rfl (by omega) (by omega) dL_law_371 ?_
  refine q_aload_n F dL_law_372 rfl ?_
  refine q_iload_n F dL_law_373 rfl ?_
  refine q_iconst F (nI 2) dL_law_374 (by decide) ?_
  refine q_iaddN F dL_law_375 ?_
  refine q_sld F (i + 2) hsc hb rfl (by omega) (by omega) dL_law_376 ?_
  refine q_callVi F [.inl (xs (i + 1)), .inl (xs (i + 2))] (fun l => t_mregister l S1 K) clL_69 rfl q_m20 rfl rfl rfl ⟨Nat.le_of_ble_eq_true rfl, Nat.le_of_ble_eq_true rfl⟩ (Nat.le_of_ble_eq_true rfl) ⟨rfl, rfl⟩ ⟨Nat.le_of_ble_eq_true rfl, Nat.le_of_ble_eq_true rfl⟩ dL_law_377 (fun v2 S2 h2 => ?_)
  have hfin : v1 = v2 ∧ q_inv n (t + 1) S2 := by
    rw [h2.2]; exact ⟨h1.1.trans h2.1.symm, q_inv_mk (h1.2 ▸ hF) (by omega) (by omega)⟩
  exact q_icmp_eq F 500 dL_law_380 (by decide) (fun _ => kk S2 hfin.2) (fun h => absurd hfin.1 h)
set_option maxRecDepth 100000 in
set_option maxHeartbeats 4000000 in
theorem lc_peek {G : q_g} {X : q_cx} {nm : String} {b L0 n t i : Nat} {xs : Nat → Int32} {ad : q_ix → Nat} {S : q_st} (F : q_fx G X (iL_law nm)) (hsc : q_scX X b L0 xs) (hb : ad (99, 0) = b) (hL0 : L0 ≤ 1538) (hi : i + 3 ≤ L0) (ht : t ≤ 512) (hin : q_inv n t S) (kk : ∀ S', q_inv n (t + 1) S' → q_W G X (iL_law nm) (q_w G n ad) (43, 1382) 500 [some (.inr (some (99, 0))), some (.inr (some (0, 0))), some (.inr (some (20, 0))), some (.inl (nI i))] [] S') : q_W G X (iL_law nm) (q_w G n ad) (43, 1382) 385 [some (.inr (some (99, 0))), some (.inr (some (0, 0))), some (.inr (some (20, 0))), some (.inl (nI i))] [] S := by
  obtain ⟨K, L, B, hS, hF, hLt, hBt⟩ := hin
  have hok : k_Ok K B := hF.1
  refine q_aload_n F dL_law_385 rfl ?_
  refine q_aload_n F dL_law_386 rfl ?_
  refine q_iload_n F dL_law_387 rfl ?_
  refine q_iconst F (nI 1) dL_law_388 (by decide) ?_
  refine q_iaddN F dL_law_389 ?_
  refine q_sld F (i + 1) hsc hb rfl (by omega) (by omega) dL_law_390 ?_
  refine q_aload_n F dL_law_391 rfl ?_
  refine q_iload_n F dL_law_392 rfl ?_
  refine q_iconst F (nI 2) dL_law_393 (by decide) ?_
  refine q_iaddN F dL_law_394 ?_
  refine q_sld F (i + 2) hsc hb rfl (by omega) (by omega) dL_law_395 ?_
  refine q_callVi F [.inl (xs (i + 1)), .inl (xs (i + 2))] (fun l => t_peek l S hF) clL_70 rfl q_m0 rfl rfl rfl ⟨Nat.le_of_ble_eq_true rfl, Nat.le_of_ble_eq_true rfl⟩ (Nat.le_of_ble_eq_true rfl) ⟨rfl, rfl⟩ ⟨Nat.le_of_ble_eq_true rfl, Nat.le_of_ble_eq_true rfl⟩ dL_law_396 (fun v1 S1 h1 => ?_)
  have hS1 : q_put S1 K = S1 := by rw [h1.2]; exact hS
  rw [← hS1]
  refine q_aload_n F dL_law_399 rfl ?_
  refine q_aload_n F dL_law_400 rfl ?_
  refine q_iload_n F dL_law_401 rfl ?_
  refine q_iconst F (nI 1) dL_law_402 (by decide) ?_
  refine q_iaddN F dL_law_403 ?_
  refine q_sld F (i + 1) hsc hb rfl (by omega) (by omega) dL_law_404 ?_
  refine q_aload_n F dL_law_405 rfl ?_
  refine q_iload_n F dL_law_406 rfl ?_
  refine q_iconst F (nI 2) dL_law_407 (by decide) ?_
  refine q_iaddN F dL_law_408 ?_
  refine q_sld F (i + 2) hsc hb rfl (by omega) (by omega) dL_law_409 ?_
  refine q_callVi F [.inl (xs (i + 1)), .inl (xs (i + 2))] (fun l => t_mpeek l S1 K (fun p hp => by obtain ⟨b, hb, e⟩ := (hok.1 p hp).2.2.1; rw [e, nI_toInt (by omega)]; omega)) clL_73 rfl q_m20 rfl rfl rfl ⟨Nat.le_of_ble_eq_true rfl, Nat.le_of_ble_eq_true rfl⟩ (Nat.le_of_ble_eq_true rfl) ⟨rfl, rfl⟩ ⟨Nat.le_of_ble_eq_true rfl, Nat.le_of_ble_eq_true rfl⟩ dL_law_410 (fun v2 S2 h2 => ?_)
  have hfin : v1 = v2 ∧ q_inv n (t + 1) S2 := by
    rw [h2.2]; exact ⟨h1.1.trans h2.1.symm, q_inv_mk (h1.2 ▸ hF) (by omega) (by omega)⟩
  exact q_icmp_eq F 500 dL_law_413 (by decide) (fun _ => kk S2 hfin.2) (fun h => absurd hfin.1 h)
set_option maxRecDepth 100000 in
set_option maxHeartbeats 4000000 in
theorem lc_sharing {G : q_g} {X : q_cx} {nm : String} {b L0 n t i : Nat} {xs : Nat → Int32} {ad : q_ix → Nat} {S : q_st} (F : q_fx G X (iL_law nm)) (hsc : q_scX X b L0 xs) (hb : ad (99, 0) = b) (hL0 : L0 ≤ 1538) (hi : i + 3 ≤ L0) (ht : t ≤ 512) (hin : q_inv n t S) (kk : ∀ S', q_inv n (t + 1) S' → q_W G X (iL_law nm) (q_w G n ad) (43, 1382) 500 [some (.inr (some (99, 0))), some (.inr (some (0, 0))), some (.inr (some (20, 0))), some (.inl (nI i))] [] S') : q_W G X (iL_law nm) (q_w G n ad) (43, 1382) 418 [some (.inr (some (99, 0))), some (.inr (some (0, 0))), some (.inr (some (20, 0))), some (.inl (nI i))] [] S := by
  obtain ⟨K, L, B, hS, hF, hLt, hBt⟩ := hin
  have hok : k_Ok K B := hF.1
  refine q_aload_n F dL_law_418 rfl ?_
  refine q_aload_n F dL_law_419 rfl ?_
  refine q_iload_n F dL_law_420 rfl ?_
  refine q_iconst F (nI 1) dL_law_421 (by decide) ?_
  refine q_iaddN F dL_law_422 ?_
  refine q_sld F (i + 1) hsc hb rfl (by omega) (by omega) dL_law_423 ?_
  refine q_aload_n F dL_law_424 rfl ?_
  refine q_iload_n F dL_law_425 rfl ?_
  refine q_iconst F (nI 2) dL_law_426 (by decide) ?_
  refine q_iaddN F dL_law_427 ?_
  refine q_sld F (i + 2) hsc hb rfl (by omega) (by omega) dL_law_428 ?_
  refine q_callVi F [.inl (xs (i + 1)), .inl (xs (i + 2))] (fun l => t_sharing l S hF) clL_74 rfl q_m0 rfl rfl rfl ⟨Nat.le_of_ble_eq_true rfl, Nat.le_of_ble_eq_true rfl⟩ (Nat.le_of_ble_eq_true rfl) ⟨rfl, rfl⟩ ⟨Nat.le_of_ble_eq_true rfl, Nat.le_of_ble_eq_true rfl⟩ dL_law_429 (fun v1 S1 h1 => ?_)
  have hS1 : q_put S1 K = S1 := by rw [h1.2]; exact hS
  rw [← hS1]
  refine q_aload_n F dL_law_432 rfl ?_
  refine q_aload_n F dL_law_433 rfl ?_
  refine q_iload_n F dL_law_434 rfl ?_
  refine q_iconst F (nI 1) dL_law_435 (by decide) ?_
  refine q_iaddN F dL_law_436 ?_
  refine q_sld F (i + 1) hsc hb rfl (by omega) (by omega) dL_law_437 ?_
  refine q_aload_n F dL_law_438 rfl ?_
  refine q_iload_n F dL_law_439 rfl ?_
  refine q_iconst F (nI 2) dL_law_440 (by decide) ?_
  refine q_iaddN F dL_law_441 ?_
  refine q_sld F (i + 2) hsc hb rfl (by omega) (by omega) dL_law_442 ?_
  refine q_callVi F [.inl (xs (i + 1)), .inl (xs (i + 2))] (fun l => t_msharing l S1 K) clL_77 rfl q_m20 rfl rfl rfl ⟨Nat.le_of_ble_eq_true rfl, Nat.le_of_ble_eq_true rfl⟩ (Nat.le_of_ble_eq_true rfl) ⟨rfl, rfl⟩ ⟨Nat.le_of_ble_eq_true rfl, Nat.le_of_ble_eq_true rfl⟩ dL_law_443 (fun v2 S2 h2 => ?_)
  have hfin : v1 = v2 ∧ q_inv n (t + 1) S2 := by
    rw [h2.2]; exact ⟨h1.1.trans h2.1.symm, q_inv_mk (h1.2 ▸ hF) (by omega) (by omega)⟩
  exact q_icmp_eq F 500 dL_law_446 (by decide) (fun _ => kk S2 hfin.2) (fun h => absurd hfin.1 h)
set_option maxRecDepth 100000 in
set_option maxHeartbeats 4000000 in
theorem lc_frames {G : q_g} {X : q_cx} {nm : String} {b L0 n t i : Nat} {xs : Nat → Int32} {ad : q_ix → Nat} {S : q_st} (F : q_fx G X (iL_law nm)) (hsc : q_scX X b L0 xs) (hb : ad (99, 0) = b) (hL0 : L0 ≤ 1538) (hi : i + 3 ≤ L0) (ht : t ≤ 512) (hin : q_inv n t S) (kk : ∀ S', q_inv n (t + 1) S' → q_W G X (iL_law nm) (q_w G n ad) (43, 1382) 500 [some (.inr (some (99, 0))), some (.inr (some (0, 0))), some (.inr (some (20, 0))), some (.inl (nI i))] [] S') : q_W G X (iL_law nm) (q_w G n ad) (43, 1382) 451 [some (.inr (some (99, 0))), some (.inr (some (0, 0))), some (.inr (some (20, 0))), some (.inl (nI i))] [] S := by
  obtain ⟨K, L, B, hS, hF, hLt, hBt⟩ := hin
  have hok : k_Ok K B := hF.1
  refine q_aload_n F dL_law_451 rfl ?_
  refine q_callVi F [] (fun l => t_frames l S hF) clL_78 rfl q_m0 rfl rfl rfl ⟨Nat.le_of_ble_eq_true rfl, Nat.le_of_ble_eq_true rfl⟩ (Nat.le_of_ble_eq_true rfl) ⟨rfl, rfl⟩ ⟨Nat.le_of_ble_eq_true rfl, Nat.le_of_ble_eq_true rfl⟩ dL_law_452 (fun v1 S1 h1 => ?_)
  have hS1 : q_put S1 K = S1 := by rw [h1.2]; exact hS
  rw [← hS1]
  refine q_aload_n F dL_law_455 rfl ?_
  refine q_callVi F [] (fun l => t_mframes l S1 K) clL_81 rfl q_m20 rfl rfl rfl ⟨Nat.le_of_ble_eq_true rfl, Nat.le_of_ble_eq_true rfl⟩ (Nat.le_of_ble_eq_true rfl) ⟨rfl, rfl⟩ ⟨Nat.le_of_ble_eq_true rfl, Nat.le_of_ble_eq_true rfl⟩ dL_law_456 (fun v2 S2 h2 => ?_)
  have hfin : v1 = v2 ∧ q_inv n (t + 1) S2 := by
    rw [h2.2]; exact ⟨h1.1.trans h2.1.symm, q_inv_mk (h1.2 ▸ hF) (by omega) (by omega)⟩
  exact q_icmp_eq F 500 dL_law_459 (by decide) (fun _ => kk S2 hfin.2) (fun h => absurd hfin.1 h)
set_option maxRecDepth 100000 in
set_option maxHeartbeats 4000000 in
theorem lc_printed {G : q_g} {X : q_cx} {nm : String} {b L0 n t i : Nat} {xs : Nat → Int32} {ad : q_ix → Nat} {S : q_st} (F : q_fx G X (iL_law nm)) (hsc : q_scX X b L0 xs) (hb : ad (99, 0) = b) (hL0 : L0 ≤ 1538) (hi : i + 3 ≤ L0) (ht : t ≤ 512) (hin : q_inv n t S) (kk : ∀ S', q_inv n (t + 1) S' → q_W G X (iL_law nm) (q_w G n ad) (43, 1382) 500 [some (.inr (some (99, 0))), some (.inr (some (0, 0))), some (.inr (some (20, 0))), some (.inl (nI i))] [] S') : q_W G X (iL_law nm) (q_w G n ad) (43, 1382) 464 [some (.inr (some (99, 0))), some (.inr (some (0, 0))), some (.inr (some (20, 0))), some (.inl (nI i))] [] S := by
  obtain ⟨K, L, B, hS, hF, hLt, hBt⟩ := hin
  have hok : k_Ok K B := hF.1
  refine q_aload_n F dL_law_464 rfl ?_
  refine q_callVi F [] (fun l => t_printed l S hF) clL_82 rfl q_m0 rfl rfl rfl ⟨Nat.le_of_ble_eq_true rfl, Nat.le_of_ble_eq_true rfl⟩ (Nat.le_of_ble_eq_true rfl) ⟨rfl, rfl⟩ ⟨Nat.le_of_ble_eq_true rfl, Nat.le_of_ble_eq_true rfl⟩ dL_law_465 (fun v1 S1 h1 => ?_)
  have hS1 : q_put S1 K = S1 := by rw [h1.2]; exact hS
  rw [← hS1]
  refine q_aload_n F dL_law_468 rfl ?_
  refine q_callVi F [] (fun l => t_mprinted l S1 K) clL_85 rfl q_m20 rfl rfl rfl ⟨Nat.le_of_ble_eq_true rfl, Nat.le_of_ble_eq_true rfl⟩ (Nat.le_of_ble_eq_true rfl) ⟨rfl, rfl⟩ ⟨Nat.le_of_ble_eq_true rfl, Nat.le_of_ble_eq_true rfl⟩ dL_law_469 (fun v2 S2 h2 => ?_)
  have hfin : v1 = v2 ∧ q_inv n (t + 1) S2 := by
    rw [h2.2]; exact ⟨h1.1.trans h2.1.symm, q_inv_mk (h1.2 ▸ hF) (by omega) (by omega)⟩
  exact q_icmp_eq F 500 dL_law_472 (by decide) (fun _ => kk S2 hfin.2) (fun h => absurd hfin.1 h)
set_option maxRecDepth 100000 in
set_option maxHeartbeats 4000000 in
theorem lc_print {G : q_g} {X : q_cx} {nm : String} {b L0 n t i : Nat} {xs : Nat → Int32} {ad : q_ix → Nat} {S : q_st} (F : q_fx G X (iL_law nm)) (hsc : q_scX X b L0 xs) (hb : ad (99, 0) = b) (hL0 : L0 ≤ 1538) (hi : i + 3 ≤ L0) (ht : t ≤ 512) (hin : q_inv n t S) (kk : ∀ S', q_inv n (t + 1) S' → q_W G X (iL_law nm) (q_w G n ad) (43, 1382) 500 [some (.inr (some (99, 0))), some (.inr (some (0, 0))), some (.inr (some (20, 0))), some (.inl (nI i))] [] S') : q_W G X (iL_law nm) (q_w G n ad) (43, 1382) 477 [some (.inr (some (99, 0))), some (.inr (some (0, 0))), some (.inr (some (20, 0))), some (.inl (nI i))] [] S := by
  obtain ⟨K, L, B, hS, hF, hLt, hBt⟩ := hin
  have hok : k_Ok K B := hF.1
  obtain ⟨cc, hcB, hc⟩ := hok.2.2.1
  refine q_aload_n F dL_law_477 rfl ?_
  refine q_aload_n F dL_law_478 rfl ?_
  refine q_iload_n F dL_law_479 rfl ?_
  refine q_iconst F (nI 1) dL_law_480 (by decide) ?_
  refine q_iaddN F dL_law_481 ?_
  refine q_sld F (i + 1) hsc hb rfl (by omega) (by omega) dL_law_482 ?_
  refine q_callVi F [.inl (xs (i + 1))] (fun l => t_print l S hF hc (by omega)) clL_86 rfl q_m0 rfl rfl rfl ⟨Nat.le_of_ble_eq_true rfl, Nat.le_of_ble_eq_true rfl⟩ (Nat.le_of_ble_eq_true rfl) ⟨rfl, rfl⟩ ⟨Nat.le_of_ble_eq_true rfl, Nat.le_of_ble_eq_true rfl⟩ dL_law_483 (fun v1 S1 h1 => ?_)
  have hS1 : q_put S1 K = S1 := by rw [h1.2]; exact hS
  rw [← hS1]
  refine q_aload_n F dL_law_486 rfl ?_
  refine q_aload_n F dL_law_487 rfl ?_
  refine q_iload_n F dL_law_488 rfl ?_
  refine q_iconst F (nI 1) dL_law_489 (by decide) ?_
  refine q_iaddN F dL_law_490 ?_
  refine q_sld F (i + 1) hsc hb rfl (by omega) (by omega) dL_law_491 ?_
  refine q_callVi F [.inl (xs (i + 1))] (fun l => t_mprint l S1 K hc (by omega)) clL_89 rfl q_m20 rfl rfl rfl ⟨Nat.le_of_ble_eq_true rfl, Nat.le_of_ble_eq_true rfl⟩ (Nat.le_of_ble_eq_true rfl) ⟨rfl, rfl⟩ ⟨Nat.le_of_ble_eq_true rfl, Nat.le_of_ble_eq_true rfl⟩ dL_law_492 (fun v2 S2 h2 => ?_)
  have hfin : v1 = v2 ∧ q_inv n (t + 1) S2 := by
    rw [h2.2]; exact ⟨h1.1.trans h2.1.symm, q_inv_mk (h1.2 ▸ hF) (by omega) (by omega)⟩
  exact q_icmp_eq F 500 dL_law_495 (by decide) (fun _ => kk S2 hfin.2) (fun h => absurd hfin.1 h)
