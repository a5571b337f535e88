/-! the loop, and the claim -/
theorem q_sub3 {L : Nat} (h : L ≤ 1538) : (nI L - nI 3).toInt = (L : Int) - 3 := by
  by_cases h3 : 3 ≤ L
  · rw [pk_sub h3, nI_toInt (by omega)]
    omega
  · rcases (show L = 0 ∨ L = 1 ∨ L = 2 by omega) with rfl | rfl | rfl <;> decide
set_option maxRecDepth 100000 in
set_option maxHeartbeats 4000000 in
theorem lp_law {G : q_g} {X : q_cx} {nm : String} {b L0 n : Nat} {xs : Nat → Int32} {ad : q_ix → Nat} (F : q_fx G X (iL_law nm)) (E : q_enL X b) (hsc : q_scX X b L0 xs) (hb : ad (99, 0) = b) (hL : L0 ≤ 1538) : ∀ (d t : Nat) (S : q_st), 514 ≤ t + d → t ≤ 513 → q_inv n t S → q_W G X (iL_law nm) (q_w G n ad) (43, 1382) 38 [some (.inr (some (99, 0))), some (.inr (some (0, 0))), some (.inr (some (20, 0))), some (.inl (nI (2 + 3 * t)))] [] S := by
  intro d
  induction d with
  | zero => intro t S h1 h2 _; omega
  | succ d ih =>
    intro t S h1 h2 hin
    refine q_iload_n F dL_law_38 rfl ?_
    refine q_aload_n F dL_law_39 rfl ?_
    refine q_slen F hsc hb dL_law_40 ?_
    refine q_iconst F (nI 3) dL_law_41 (by decide) ?_
    refine q_isub F dL_law_42 ?_
    refine q_icmp_gt F 506 dL_law_43 (by decide) (fun hg => ?_) (fun hg => ?_)
    · refine q_iconst F (nI 1) dL_law_506 (by decide) ?_
      exact q_lend F E ⟨Nat.le_of_ble_eq_true rfl, Nat.le_of_ble_eq_true rfl⟩
    · rw [q_sub3 hL, nI_toInt (by omega)] at hg
      have hle : 2 + 3 * t + 3 ≤ L0 := by omega
      have hkk : ∀ S', q_inv n (t + 1) S' → q_W G X (iL_law nm) (q_w G n ad) (43, 1382) 500 [some (.inr (some (99, 0))), some (.inr (some (0, 0))), some (.inr (some (20, 0))), some (.inl (nI (2 + 3 * t)))] [] S' := by
        intro S' hin'
        refine q_iinc_3 F (nI (2 + 3 * (t + 1))) dL_law_500 ?_ (Nat.le_of_ble_eq_true rfl) ?_
        · rw [show Int32.ofInt 3 = nI 3 by decide, nI_add]
          rfl
        · exact q_goto F 38 dL_law_503 (by decide) (ih (t + 1) S' (by omega) (by omega) hin')
      refine q_aload_n F dL_law_46 rfl ?_
      refine q_iload_n F dL_law_47 rfl ?_
      refine q_sld F (2 + 3 * t) hsc hb rfl (by omega) (by omega) dL_law_48 ?_
      refine q_bipush F (nI 15) dL_law_49 (by decide) ?_
      refine q_iand F dL_law_51 ?_
      obtain ⟨j, hj, e, -⟩ := q_and15 (xs (2 + 3 * t))
      rw [e]
      have ht : t ≤ 512 := by omega
      rcases (show j = 0 ∨ j = 1 ∨ j = 2 ∨ j = 3 ∨ j = 4 ∨ j = 5 ∨ j = 6 ∨ j = 7 ∨ j = 8 ∨ j = 9 ∨ j = 10 ∨ j = 11 ∨ j = 12 ∨ j = 13 ∨ j = 14 ∨ j = 15 by omega) with rfl | rfl | rfl | rfl | rfl | rfl | rfl | rfl | rfl | rfl | rfl | rfl | rfl | rfl | rfl | rfl
      · exact q_tsw_in F 132 dL_law_52 (by decide) (by decide) rfl (by decide) (lc_stage F hsc hb hL hle ht hin hkk)
      · exact q_tsw_in F 165 dL_law_52 (by decide) (by decide) rfl (by decide) (lc_load F hsc hb hL hle ht hin hkk)
      · exact q_tsw_in F 188 dL_law_52 (by decide) (by decide) rfl (by decide) (lc_step F hsc hb hL hle ht hin hkk)
      · exact q_tsw_in F 201 dL_law_52 (by decide) (by decide) rfl (by decide) (lc_steps F hsc hb hL hle ht hin hkk)
      · exact q_tsw_in F 224 dL_law_52 (by decide) (by decide) rfl (by decide) (lc_kill F hsc hb hL hle ht hin hkk)
      · exact q_tsw_in F 247 dL_law_52 (by decide) (by decide) rfl (by decide) (lc_reap F hsc hb hL hle ht hin hkk)
      · exact q_tsw_in F 270 dL_law_52 (by decide) (by decide) rfl (by decide) (lc_state F hsc hb hL hle ht hin hkk)
      · exact q_tsw_in F 293 dL_law_52 (by decide) (by decide) rfl (by decide) (lc_parent F hsc hb hL hle ht hin hkk)
      · exact q_tsw_in F 316 dL_law_52 (by decide) (by decide) rfl (by decide) (lc_code F hsc hb hL hle ht hin hkk)
      · exact q_tsw_in F 339 dL_law_52 (by decide) (by decide) rfl (by decide) (lc_running F hsc hb hL hle ht hin hkk)
      · exact q_tsw_in F 352 dL_law_52 (by decide) (by decide) rfl (by decide) (lc_register F hsc hb hL hle ht hin hkk)
      · exact q_tsw_in F 385 dL_law_52 (by decide) (by decide) rfl (by decide) (lc_peek F hsc hb hL hle ht hin hkk)
      · exact q_tsw_in F 418 dL_law_52 (by decide) (by decide) rfl (by decide) (lc_sharing F hsc hb hL hle ht hin hkk)
      · exact q_tsw_in F 451 dL_law_52 (by decide) (by decide) rfl (by decide) (lc_frames F hsc hb hL hle ht hin hkk)
      · exact q_tsw_in F 464 dL_law_52 (by decide) (by decide) rfl (by decide) (lc_printed F hsc hb hL hle ht hin hkk)
      · exact q_tsw_in F 477 dL_law_52 (by decide) (by decide) rfl (by decide) (lc_print F hsc hb hL hle ht hin hkk)
/-- YOUR PART: from the entry, for every script of at most 1538 ints, the law comes to its end with true -/
theorem whole_start {p : Program} {e : Env} {s : State} {m : MethodId} {below : List Frame} {meth : Method} {c : Code} (l : Launch) {b L : Nat} {xs : Nat → Int32} (hL : L ≤ 1538) (C0 : lw_At p s m meth c b L xs) : W p l e room_1 s m #[Value.ref b] below meth c s.heap [] 0 0 (lw_Z below #[Value.ref b] s) (entryFrame m ([Value.ref b] : List Value).toArray 4) := by
  exact q_start l C0 (fun G X F hex hsc E => q_head F hex hsc hL (fun n ad S hb hin => lp_law F E hsc hb hL 514 0 S (by omega) (by omega) hin))
set_option maxHeartbeats 4000000 in
theorem lw_walk (l : Launch) (b : Addr) (xs : List Int32) : MetFree l x (headSpec (Jvm.Cond.code x code maxLocals ret :: tables_1) room_1) (lw_P b xs) (fun _ _ _ _ _ => True) lw_Q := by
  refine MetFree.of_bodyS (code := code) (maxLocals := maxLocals) (ret := ret) (by decide) ?_ ?_
  · intro args s m h hn
    obtain ⟨meth, c, h1, h2, h3, h4, h5, h6, -, -⟩ := Cond.code_spec hn (atoms_spec (ws := Jvm.Cond.code x code maxLocals ret :: tables_1) h _ List.mem_cons_self)
    exact ⟨meth, c, h1, h2, h3, h4, h5, h6⟩
  · intro p e s m args below meth c s₁ B hml0 hP _
    obtain ⟨rfl, hx, hbd, hgv⟩ := hP
    obtain ⟨scr, harrAt, hlist, hof, hsmall⟩ := hx
    obtain ⟨hcb, hkn, -, -⟩ := State.arrayAt?_spec harrAt
    have hown : s.vm.findClass R_law = some m.cls := findClass_of_methodNamed B.named
    have hts0 : ∀ c ∈ (Jvm.Cond.code x code maxLocals ret :: tables_1), c.before #[Value.ref b] s = true := atoms_spec (ws := Jvm.Cond.code x code maxLocals ret :: tables_1) B.pre
    have hts : ∀ w ∈ lw_tbl, w.before #[Value.ref b] s = true := k2_hts_sels lw_privs (fun w hw => hts0 w (List.mem_cons_of_mem _ hw)) lw_privs_ok
    have hml : c.maxLocals = 4 := B.maxLocals_eq (hts0 _ List.mem_cons_self)
    have X₀ : Stand p l e room_1 s m #[Value.ref b] below meth c s₁ [] 0 0 := Stand.of_body B
    have hh0 : s₁.heap = s.heap := by rw [B.state]; rfl
    have hsz : scr.slots.size = xs.length := by rw [← Array.length_toList, hlist, List.length_map]
    have hval : ∀ j : Nat, j < xs.length → scr.slots[j]? = some (.int (xs.getD j 0)) := fun j hj => by
      rw [← Array.getElem?_toList, hlist]
      simp [hj]
    have hbl : b < s.heap.size := (Array.getElem?_eq_some_iff.mp hcb).1
    have hX : va_X b xs.length (fun j => xs.getD j 0) s s.heap := ⟨scr, hcb, hof, hkn, hsz, hval⟩
    have K : W p l e room_1 s m #[Value.ref b] below meth c s₁.heap [] 0 0 (lw_Z below #[Value.ref b] s) (entryFrame m ([Value.ref b] : List Value).toArray 4) := by
      rw [hh0]
      exact whole_start l hbd ⟨B.exec, B.bytes, B.returns, hml, hown, hts, hX, hbl, B.notSynchronized, hgv⟩
    obtain ⟨t, a1, o, b1, b2, b3⟩ := K s₁ rfl X₀
    exact ⟨t, o, a1, b1, b2, b3⟩
theorem lw_pre_spec {args : Array Value} {s : State} (h : (Jvm.Cond.and given_1 narrow_1).before args s = true) (hr : rest_1_c.before args s = true) : ∃ (b : Addr) (xs : List Int32), lw_P b xs args s := by
  have hs := flat_of_before _ h
  have hq := flat_of_before _ hr
  have hc : (Cond.count 1).before args s = true := hs _ (by decide +kernel)
  have harr : (Cond.arrayOf (.arg 0) .int).before args s = true := hs _ (by decide +kernel)
  have hle : (Cond.le (.length (.arg 0)) (.int 1538)).before args s = true := hs _ (by decide +kernel)
  have hlen : (Cond.isInt (.length (.arg 0))).before args s = true := hq _ (by decide +kernel)
  have hall : (Cond.all (.arg 0) (.isInt (.elem (.arg 0) (.index 0)))).before args s = true := hq _ (by decide +kernel)
  obtain ⟨b, xs, hb, hx⟩ := State.ints_of_pre rfl harr hlen hall
  have hsm : xs.length < 2 ^ 31 := hx.choose_spec.2.2.2
  have hev : (Term.length (.arg 0)).eval args s none [] s = some (.int xs.length.toInt32) := hx.length_eval hb
  have hv := Cond.le_ints hev (show (Term.int 1538).eval args s none [] s = some (.int 1538) from rfl)
  have hd : xs.length.toInt32 ≤ 1538 := by
    simpa [Cond.before, Cond.holds, hv] using hle
  have hN : xs.length ≤ 1538 := (Int32.ofNat_le_ofNat hsm (by decide)).mp (show Int32.ofNat xs.length ≤ Int32.ofNat 1538 from hd)
  exact ⟨b, xs, Cond.one_arg hc (show args[0]? = some (.ref b) from hb), hx, hN, h⟩
theorem lw_comes (l : Launch) : Comes l x (Jvm.Cond.code x code maxLocals ret :: tables_1) room_1 (fun tb e args s => Calls_1 tb e args s ∧ rest_1 tb e args s ∧ Pre_1 tb e args s)
    (fun _ _ args s o t => lw_Q args s o t) := by
  intro p e ha hc hk s m args below hf hfit hheap happ hpre
  obtain ⟨b, xs, hP⟩ := lw_pre_spec hpre.2.2 hpre.2.1
  obtain ⟨k, o, h1, h2, h3, hQ⟩ := lw_walk l b xs p e ha hc hk s m args below hf ((Spec.applies_iff_loose hf).mp happ).1 hP trivial
  exact ⟨k, o, h1, h2, h3, hQ⟩
theorem lw_frame {s t : State} {o : Outcome} {args : Array Value} (h : Framed s o t [] 600000 7302250) :
    Framed s o t (fieldLocs frame_1_writes args s ++ arrayLocs frame_1_arrays args s ++ staticLocs frame_1_statics s) 600000 7302250 := h
theorem lw_limb (L : Cond) (hL : ∀ (args : Array Value) (s t : State), L.after args s (.returned (some (.int 1))) t = true) :
    ArmFor flags0 classFile x code maxLocals ret World_1 tables_1 room_1 Calls_1 rest_1 Pre_1
      (fun tb e a s o t => postC L tb e a s o t ∧ Framed s o t (fieldLocs frame_1_writes a s ++ arrayLocs frame_1_arrays a s ++ staticLocs frame_1_statics s) 600000 7302250) := by
  intro l _ _ _ p e ha hc hk s m args below hf hfit hheap happ hpre
  obtain ⟨k, o, h1, h2, h3, rfl, hF⟩ := lw_comes l p e ha hc hk s m args below hf hfit hheap happ hpre
  exact ⟨k, _, h1, h2, h3, hL args s _, lw_frame hF⟩
theorem i_vc : Claimed_1_1 ∧ Claimed_1_2 := ⟨lw_limb limb_1_1 (fun args s t => by simp [limb_1_1, Cond.after, Cond.holds, Cond.value]), lw_limb limb_1_2 (fun args s t => Cond.after_iff.mpr (by
  first | (rw [show limb_1_2 = Cond.eq .result (.int 1) from rfl, Cond.eq_ints (x := 1) (y := 1) rfl rfl]; simp; done) | (simp [limb_1_2, Cond.value, Term.eval]; done)))⟩
