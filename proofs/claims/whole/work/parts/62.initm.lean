/-! the reference's new object -/
def wi_fl4 : List (Option (Option q_ix)) := [none, none, some none, some none, some none, some none, some none, some none, some none, some none, some none, none, none, none, none, none, some none]
theorem wi_fd4 (ad : q_ix → Nat) : wi_fl4.mapIdx (q_fld ad (fun _ => 0)) = [.int 0, .int 0, .null, .null, .null, .null, .null, .null, .null, .null, .null, .int 0, .int 0, .int 0, .int 0, .int 0, .null] := rfl
theorem wi_dv4 : ∀ j, j < 17 → defaultValue (tyX4 j) = vp_V [.int 0, .int 0, .null, .null, .null, .null, .null, .null, .null, .null, .null, .int 0, .int 0, .int 0, .int 0, .int 0, .null] j
  | 0, _ => rfl
  | 1, _ => rfl
  | 2, _ => rfl
  | 3, _ => rfl
  | 4, _ => rfl
  | 5, _ => rfl
  | 6, _ => rfl
  | 7, _ => rfl
  | 8, _ => rfl
  | 9, _ => rfl
  | 10, _ => rfl
  | 11, _ => rfl
  | 12, _ => rfl
  | 13, _ => rfl
  | 14, _ => rfl
  | 15, _ => rfl
  | 16, _ => rfl
  | j + 17, h => absurd h (by omega)
theorem wi_obL_18 : q_ob RL 18 4 wi_fl4 := ⟨RX4, TX4, tyX4, rfl, qiX4, tyX4_ok, wi_clL_18, q_ws_in (List.mem_append_right _ (List.mem_of_getElem? (i := 315) (by decide +kernel))) rfl, q_ws_in (List.mem_append_right _ (List.mem_of_getElem? (i := 5) (by decide +kernel))) rfl, fun ad j hj => by
  rw [wi_fd4]
  exact wi_dv4 j hj⟩
