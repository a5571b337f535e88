/-! words, links and infos of the constructors (written by wip/whole/mk_init.py) -/
theorem wi_arr : Cond.arrayClass .int ∈ q_ws := q_ws_in (List.mem_append_right _ (List.mem_of_getElem? (i := 36) (by decide +kernel))) rfl
theorem wi_oi : Cond.instanceMethod objectInit ∈ q_ws := q_ws_in (List.mem_append_right _ (List.mem_of_getElem? (i := 12) (by decide +kernel))) rfl
theorem wi_oc : Cond.code objectInit ⟨#[0xb1]⟩ 1 none ∈ q_ws := q_ws_in (List.mem_append_right _ (List.mem_of_getElem? (i := 13) (by decide +kernel))) rfl
theorem wi_olX3 : Cond.methodLink RX3 3 objectInit ∈ q_ws := q_ws_in (List.mem_append_right _ (List.mem_of_getElem? (i := 11) (by decide +kernel))) rfl
theorem wi_olX0 : Cond.methodLink RX0 3 objectInit ∈ q_ws := q_ws_in (List.mem_append_right _ (List.mem_of_getElem? (i := 19) (by decide +kernel))) rfl
theorem wi_olX2 : Cond.methodLink RX2 3 objectInit ∈ q_ws := q_ws_in (List.mem_append_right _ (List.mem_of_getElem? (i := 43) (by decide +kernel))) rfl
theorem wi_olX1 : Cond.methodLink RX1 3 objectInit ∈ q_ws := q_ws_in (List.mem_append_right _ (List.mem_of_getElem? (i := 78) (by decide +kernel))) rfl
theorem wi_olX4 : Cond.methodLink RX4 1 objectInit ∈ q_ws := q_ws_in (List.mem_append_right _ (List.mem_of_getElem? (i := 319) (by decide +kernel))) rfl
def iX0_init : q_in := (cX0_init, yX0_init, 2, none, { frames := 1, cells := 2, slots := 288, locals := 20 })
def iX1_init : q_in := (cX1_init, yX1_init, 1, none, { frames := 1, cells := 1, slots := 32, locals := 20 })
def iX2_init : q_in := (cX2_init, yX2_init, 2, none, { frames := 1, cells := 2, slots := 16, locals := 20 })
def iX4_init : q_in := (cX4_init, yX4_init, 4, none, { frames := 1, cells := 10, slots := 776, locals := 20 })
def iX3_init : q_in := (cX3_init, yX3_init, 4, none, { frames := 2, cells := 31, slots := 582, locals := 41 })
theorem wi_clL_7 : Cond.classLink RL 7 RX3 ∈ q_ws := q_ws_in (List.mem_append_right _ (List.mem_of_getElem? (i := 6) (by decide +kernel))) rfl
theorem wi_obL_7 : q_ob RL 7 3 [some none, some none, some none, some none, none, none, none] := ⟨RX3, TX3, tyX3, rfl, qiX3, tyX3_ok, wi_clL_7, q_ws_in (List.mem_append_right _ (List.mem_of_getElem? (i := 7) (by decide +kernel))) rfl, q_ws_in (List.mem_append_right _ (List.mem_of_getElem? (i := 1) (by decide +kernel))) rfl, fun ad j hj => by
  have hj : j < 7 := hj
  rcases (show j = 0 ∨ j = 1 ∨ j = 2 ∨ j = 3 ∨ j = 4 ∨ j = 5 ∨ j = 6 by omega) with rfl | rfl | rfl | rfl | rfl | rfl | rfl <;> rfl⟩
theorem wi_clX3_9 : Cond.classLink RX3 9 RX0 ∈ q_ws := q_ws_in (List.mem_append_right _ (List.mem_of_getElem? (i := 14) (by decide +kernel))) rfl
theorem wi_obX3_9 : q_ob RX3 9 0 [none, some none, some none, none] := ⟨RX0, TX0, tyX0, rfl, qiX0, tyX0_ok, wi_clX3_9, q_ws_in (List.mem_append_right _ (List.mem_of_getElem? (i := 15) (by decide +kernel))) rfl, q_ws_in (List.mem_append_right _ (List.mem_of_getElem? (i := 2) (by decide +kernel))) rfl, fun ad j hj => by
  have hj : j < 4 := hj
  rcases (show j = 0 ∨ j = 1 ∨ j = 2 ∨ j = 3 by omega) with rfl | rfl | rfl | rfl <;> rfl⟩
theorem wi_clX3_18 : Cond.classLink RX3 18 RX2 ∈ q_ws := q_ws_in (List.mem_append_right _ (List.mem_of_getElem? (i := 37) (by decide +kernel))) rfl
theorem wi_obX3_18 : q_ob RX3 18 2 [none, none, none, none, none, some none, some none] := ⟨RX2, TX2, tyX2, rfl, qiX2, tyX2_ok, wi_clX3_18, q_ws_in (List.mem_append_right _ (List.mem_of_getElem? (i := 39) (by decide +kernel))) rfl, q_ws_in (List.mem_append_right _ (List.mem_of_getElem? (i := 3) (by decide +kernel))) rfl, fun ad j hj => by
  have hj : j < 7 := hj
  rcases (show j = 0 ∨ j = 1 ∨ j = 2 ∨ j = 3 ∨ j = 4 ∨ j = 5 ∨ j = 6 by omega) with rfl | rfl | rfl | rfl | rfl | rfl | rfl <;> rfl⟩
theorem wi_clX3_25 : Cond.classLink RX3 25 RX1 ∈ q_ws := q_ws_in (List.mem_append_right _ (List.mem_of_getElem? (i := 73) (by decide +kernel))) rfl
theorem wi_obX3_25 : q_ob RX3 25 1 [some none, none] := ⟨RX1, TX1, tyX1, rfl, qiX1, tyX1_ok, wi_clX3_25, q_ws_in (List.mem_append_right _ (List.mem_of_getElem? (i := 74) (by decide +kernel))) rfl, q_ws_in (List.mem_append_right _ (List.mem_of_getElem? (i := 4) (by decide +kernel))) rfl, fun ad j hj => by
  have hj : j < 2 := hj
  rcases (show j = 0 ∨ j = 1 by omega) with rfl | rfl <;> rfl⟩
theorem wi_clL_18 : Cond.classLink RL 18 RX4 ∈ q_ws := q_ws_in (List.mem_append_right _ (List.mem_of_getElem? (i := 314) (by decide +kernel))) rfl
theorem fc0_0 : ∀ C T N, vwCl[0]? = some (C, T, N) → (T 0).1 = RX0 := fun C T N h => by cases h; rfl
theorem fp0_1 : q_fp 0 1 (.array .int) true := ⟨RX0, TX0, 4, tyX0, rfl, tyX0_ok, nmX0, rfl, by decide +kernel⟩
theorem fc0_1 : ∀ C T N, vwCl[0]? = some (C, T, N) → (T 1).1 = RX0 := fun C T N h => by cases h; rfl
theorem fp0_2 : q_fp 0 2 (.array .int) true := ⟨RX0, TX0, 4, tyX0, rfl, tyX0_ok, nmX0, rfl, by decide +kernel⟩
theorem fc0_2 : ∀ C T N, vwCl[0]? = some (C, T, N) → (T 2).1 = RX0 := fun C T N h => by cases h; rfl
theorem fc0_3 : ∀ C T N, vwCl[0]? = some (C, T, N) → (T 3).1 = RX0 := fun C T N h => by cases h; rfl
theorem fp1_0 : q_fp 1 0 (.array .int) true := ⟨RX1, TX1, 2, tyX1, rfl, tyX1_ok, nmX1, rfl, by decide +kernel⟩
theorem fc1_0 : ∀ C T N, vwCl[1]? = some (C, T, N) → (T 0).1 = RX1 := fun C T N h => by cases h; rfl
theorem fc1_1 : ∀ C T N, vwCl[1]? = some (C, T, N) → (T 1).1 = RX1 := fun C T N h => by cases h; rfl
theorem fc2_0 : ∀ C T N, vwCl[2]? = some (C, T, N) → (T 0).1 = RX2 := fun C T N h => by cases h; rfl
theorem fc2_1 : ∀ C T N, vwCl[2]? = some (C, T, N) → (T 1).1 = RX2 := fun C T N h => by cases h; rfl
theorem fc2_2 : ∀ C T N, vwCl[2]? = some (C, T, N) → (T 2).1 = RX2 := fun C T N h => by cases h; rfl
theorem fc2_3 : ∀ C T N, vwCl[2]? = some (C, T, N) → (T 3).1 = RX2 := fun C T N h => by cases h; rfl
theorem fc2_4 : ∀ C T N, vwCl[2]? = some (C, T, N) → (T 4).1 = RX2 := fun C T N h => by cases h; rfl
theorem fp2_5 : q_fp 2 5 (.array .int) true := ⟨RX2, TX2, 7, tyX2, rfl, tyX2_ok, nmX2, rfl, by decide +kernel⟩
theorem fc2_5 : ∀ C T N, vwCl[2]? = some (C, T, N) → (T 5).1 = RX2 := fun C T N h => by cases h; rfl
theorem fp2_6 : q_fp 2 6 (.array .int) true := ⟨RX2, TX2, 7, tyX2, rfl, tyX2_ok, nmX2, rfl, by decide +kernel⟩
theorem fc2_6 : ∀ C T N, vwCl[2]? = some (C, T, N) → (T 6).1 = RX2 := fun C T N h => by cases h; rfl
theorem fp3_0 : q_fp 3 0 (.object "BranchingKernel$FramePool") true := ⟨RX3, TX3, 7, tyX3, rfl, tyX3_ok, nmX3, rfl, by decide +kernel⟩
theorem fc3_0 : ∀ C T N, vwCl[3]? = some (C, T, N) → (T 0).1 = RX3 := fun C T N h => by cases h; rfl
theorem fp3_1 : q_fp 3 1 (.array (.object "BranchingKernel$Proc")) true := ⟨RX3, TX3, 7, tyX3, rfl, tyX3_ok, nmX3, rfl, by decide +kernel⟩
theorem fc3_1 : ∀ C T N, vwCl[3]? = some (C, T, N) → (T 1).1 = RX3 := fun C T N h => by cases h; rfl
theorem fp3_2 : q_fp 3 2 (.object "BranchingKernel$PrintLog") true := ⟨RX3, TX3, 7, tyX3, rfl, tyX3_ok, nmX3, rfl, by decide +kernel⟩
theorem fc3_2 : ∀ C T N, vwCl[3]? = some (C, T, N) → (T 2).1 = RX3 := fun C T N h => by cases h; rfl
theorem fp3_3 : q_fp 3 3 (.array .int) true := ⟨RX3, TX3, 7, tyX3, rfl, tyX3_ok, nmX3, rfl, by decide +kernel⟩
theorem fc3_3 : ∀ C T N, vwCl[3]? = some (C, T, N) → (T 3).1 = RX3 := fun C T N h => by cases h; rfl
theorem fc3_4 : ∀ C T N, vwCl[3]? = some (C, T, N) → (T 4).1 = RX3 := fun C T N h => by cases h; rfl
theorem fc3_5 : ∀ C T N, vwCl[3]? = some (C, T, N) → (T 5).1 = RX3 := fun C T N h => by cases h; rfl
theorem fc3_6 : ∀ C T N, vwCl[3]? = some (C, T, N) → (T 6).1 = RX3 := fun C T N h => by cases h; rfl
theorem fc4_0 : ∀ C T N, vwCl[4]? = some (C, T, N) → (T 0).1 = RX4 := fun C T N h => by cases h; rfl
theorem fc4_1 : ∀ C T N, vwCl[4]? = some (C, T, N) → (T 1).1 = RX4 := fun C T N h => by cases h; rfl
theorem fp4_2 : q_fp 4 2 (.array .int) true := ⟨RX4, TX4, 17, tyX4, rfl, tyX4_ok, nmX4, rfl, by decide +kernel⟩
theorem fc4_2 : ∀ C T N, vwCl[4]? = some (C, T, N) → (T 2).1 = RX4 := fun C T N h => by cases h; rfl
theorem fp4_3 : q_fp 4 3 (.array .int) true := ⟨RX4, TX4, 17, tyX4, rfl, tyX4_ok, nmX4, rfl, by decide +kernel⟩
theorem fc4_3 : ∀ C T N, vwCl[4]? = some (C, T, N) → (T 3).1 = RX4 := fun C T N h => by cases h; rfl
theorem fp4_4 : q_fp 4 4 (.array .int) true := ⟨RX4, TX4, 17, tyX4, rfl, tyX4_ok, nmX4, rfl, by decide +kernel⟩
theorem fc4_4 : ∀ C T N, vwCl[4]? = some (C, T, N) → (T 4).1 = RX4 := fun C T N h => by cases h; rfl
theorem fp4_5 : q_fp 4 5 (.array .int) true := ⟨RX4, TX4, 17, tyX4, rfl, tyX4_ok, nmX4, rfl, by decide +kernel⟩
theorem fc4_5 : ∀ C T N, vwCl[4]? = some (C, T, N) → (T 5).1 = RX4 := fun C T N h => by cases h; rfl
theorem fp4_6 : q_fp 4 6 (.array .int) true := ⟨RX4, TX4, 17, tyX4, rfl, tyX4_ok, nmX4, rfl, by decide +kernel⟩
theorem fc4_6 : ∀ C T N, vwCl[4]? = some (C, T, N) → (T 6).1 = RX4 := fun C T N h => by cases h; rfl
theorem fp4_7 : q_fp 4 7 (.array .int) true := ⟨RX4, TX4, 17, tyX4, rfl, tyX4_ok, nmX4, rfl, by decide +kernel⟩
theorem fc4_7 : ∀ C T N, vwCl[4]? = some (C, T, N) → (T 7).1 = RX4 := fun C T N h => by cases h; rfl
theorem fp4_8 : q_fp 4 8 (.array .int) true := ⟨RX4, TX4, 17, tyX4, rfl, tyX4_ok, nmX4, rfl, by decide +kernel⟩
theorem fc4_8 : ∀ C T N, vwCl[4]? = some (C, T, N) → (T 8).1 = RX4 := fun C T N h => by cases h; rfl
theorem fp4_9 : q_fp 4 9 (.array .int) true := ⟨RX4, TX4, 17, tyX4, rfl, tyX4_ok, nmX4, rfl, by decide +kernel⟩
theorem fc4_9 : ∀ C T N, vwCl[4]? = some (C, T, N) → (T 9).1 = RX4 := fun C T N h => by cases h; rfl
theorem fp4_10 : q_fp 4 10 (.array .int) true := ⟨RX4, TX4, 17, tyX4, rfl, tyX4_ok, nmX4, rfl, by decide +kernel⟩
theorem fc4_10 : ∀ C T N, vwCl[4]? = some (C, T, N) → (T 10).1 = RX4 := fun C T N h => by cases h; rfl
theorem fc4_11 : ∀ C T N, vwCl[4]? = some (C, T, N) → (T 11).1 = RX4 := fun C T N h => by cases h; rfl
theorem fc4_12 : ∀ C T N, vwCl[4]? = some (C, T, N) → (T 12).1 = RX4 := fun C T N h => by cases h; rfl
theorem fc4_13 : ∀ C T N, vwCl[4]? = some (C, T, N) → (T 13).1 = RX4 := fun C T N h => by cases h; rfl
theorem fc4_14 : ∀ C T N, vwCl[4]? = some (C, T, N) → (T 14).1 = RX4 := fun C T N h => by cases h; rfl
theorem fc4_15 : ∀ C T N, vwCl[4]? = some (C, T, N) → (T 15).1 = RX4 := fun C T N h => by cases h; rfl
theorem fp4_16 : q_fp 4 16 (.array .int) true := ⟨RX4, TX4, 17, tyX4, rfl, tyX4_ok, nmX4, rfl, by decide +kernel⟩
theorem fc4_16 : ∀ C T N, vwCl[4]? = some (C, T, N) → (T 16).1 = RX4 := fun C T N h => by cases h; rfl
theorem clL_15 : q_cb RL 15 2 iX3_init := ⟨q_ws_in (List.mem_append_right _ (List.mem_of_getElem? (i := 8) (by decide +kernel))) rfl, q_ws_in (List.mem_append_right _ (List.mem_of_getElem? (i := 1) (by decide +kernel))) rfl, q_ws_in (List.mem_append_right _ (List.mem_of_getElem? (i := 10) (by decide +kernel))) rfl, by decide +kernel, by decide +kernel, by decide +kernel⟩
theorem clX3_11 : q_cb RX3 11 1 iX0_init := ⟨q_ws_in (List.mem_append_right _ (List.mem_of_getElem? (i := 16) (by decide +kernel))) rfl, q_ws_in (List.mem_append_right _ (List.mem_of_getElem? (i := 2) (by decide +kernel))) rfl, q_ws_in (List.mem_append_right _ (List.mem_of_getElem? (i := 18) (by decide +kernel))) rfl, by decide +kernel, by decide +kernel, by decide +kernel⟩
theorem clX3_24 : q_cb RX3 24 0 iX2_init := ⟨q_ws_in (List.mem_append_right _ (List.mem_of_getElem? (i := 40) (by decide +kernel))) rfl, q_ws_in (List.mem_append_right _ (List.mem_of_getElem? (i := 3) (by decide +kernel))) rfl, q_ws_in (List.mem_append_right _ (List.mem_of_getElem? (i := 42) (by decide +kernel))) rfl, by decide +kernel, by decide +kernel, by decide +kernel⟩
theorem clL_20 : q_cb RL 20 2 iX4_init := ⟨q_ws_in (List.mem_append_right _ (List.mem_of_getElem? (i := 316) (by decide +kernel))) rfl, q_ws_in (List.mem_append_right _ (List.mem_of_getElem? (i := 5) (by decide +kernel))) rfl, q_ws_in (List.mem_append_right _ (List.mem_of_getElem? (i := 318) (by decide +kernel))) rfl, by decide +kernel, by decide +kernel, by decide +kernel⟩
theorem wi_imX0 : Cond.instanceMethod yX0_init ∈ q_ws := q_ws_in (List.mem_append_right _ (List.mem_of_getElem? (i := 17) (by decide +kernel))) rfl
theorem wi_imX1 : Cond.instanceMethod yX1_init ∈ q_ws := q_ws_in (List.mem_append_right _ (List.mem_of_getElem? (i := 76) (by decide +kernel))) rfl
theorem wi_imX2 : Cond.instanceMethod yX2_init ∈ q_ws := q_ws_in (List.mem_append_right _ (List.mem_of_getElem? (i := 41) (by decide +kernel))) rfl
theorem wi_imX3 : Cond.instanceMethod yX3_init ∈ q_ws := q_ws_in (List.mem_append_right _ (List.mem_of_getElem? (i := 9) (by decide +kernel))) rfl
theorem wi_imX4 : Cond.instanceMethod yX4_init ∈ q_ws := q_ws_in (List.mem_append_right _ (List.mem_of_getElem? (i := 317) (by decide +kernel))) rfl
theorem wi_ao : Cond.arrayOver (.object "BranchingKernel$Proc") ∈ lw_tbl := List.mem_append_right _ (List.mem_of_getElem? (i := 38) (by decide +kernel))
theorem wi_nl : Cond.methodLinkNest RX3 27 yX1_init "BranchingKernel" ∈ lw_tbl := List.mem_append_right _ (List.mem_of_getElem? (i := 75) (by decide +kernel))
theorem wi_ini1 : Cond.initialized RX1 ∈ q_ws := q_ws_in (List.mem_append_right _ (List.mem_of_getElem? (i := 4) (by decide +kernel))) rfl
theorem wi_c1 : Cond.code yX1_init cX1_init 1 none ∈ q_ws := q_ws_in (List.mem_append_right _ (List.mem_of_getElem? (i := 77) (by decide +kernel))) rfl
