set_option maxRecDepth 100000 in
theorem wd_a_long : Cond.arrayClass (newarray.typeOf .long) ∈ tblG := inG (List.mem_of_getElem? (i := 106) rfl) rfl
set_option maxRecDepth 100000 in
theorem wd_a_int : Cond.arrayClass (newarray.typeOf .int) ∈ tblG := inG (List.mem_of_getElem? (i := 139) rfl) rfl
set_option maxRecDepth 100000 in
theorem wd_a_byte : Cond.arrayClass (newarray.typeOf .byte) ∈ tblG := inG (List.mem_of_getElem? (i := 190) rfl) rfl
set_option maxRecDepth 100000 in
theorem wd_a_char : Cond.arrayClass (newarray.typeOf .char) ∈ tblG := inG (List.mem_of_getElem? (i := 775) rfl) rfl
def wdF (k : Nat) : Nat → Int32 := fun j => if j < k then oI (wdM j) else 0
theorem wdF_0 : wdF 0 = fun _ => 0 := by
  funext j
  exact if_neg (Nat.not_lt_zero j)
theorem wdF_s (k : Nat) : upd (wdF k) k (oI (wdM k)) = wdF (k + 1) := by
  funext j
  unfold upd wdF
  by_cases h1 : j = k
  · subst h1
    rw [if_pos rfl, if_pos (Nat.lt_succ_self j)]
  · rw [if_neg h1]
    by_cases h2 : j < k
    · rw [if_pos h2, if_pos (by omega)]
    · rw [if_neg h2, if_neg (by omega)]
def wX0 (cA0 : Nat → ClassId) (h0 q1 q2 : Nat) : va_W := [(h0, .inr (0, [.ref q1, .ref q2])), (q1, .inl (cA0 3, 120, .inr (.inl (fun _ => 0)))), (q2, .inl (cA0 3, 120, .inr (.inl (fun _ => 0))))]
set_option maxRecDepth 100000 in
set_option maxHeartbeats 4000000 in
theorem n_X0 (G : va_G) (cA0 : Nat → ClassId) (l : Launch) : ConN G cA0 l yX0_init cX0_init 1 1 20 2 240 0 [.null, .null] (fun h0 w => ∃ q1 q2 : Nat, w = wX0 cA0 h0 q1 q2) := by
  refine ConN_of (by decide) rfl (by decide) (fun h0 X hY hI hR hXl => ?_)
  refine L_aload_n (pc := 0) hY 0 rfl rfl dX0_init_0 ?_
  refine L_objInit (pc := 1) hY (inG (List.mem_of_getElem? (i := 96) rfl) rfl) (by decide) (by decide) (Nat.le_of_ble_eq_true rfl) dX0_init_1 ?_
  refine L_aload_n (pc := 4) hY 0 rfl rfl dX0_init_4 ?_
  refine L_bipush (pc := 5) hY 120 (by decide) dX0_init_5 ?_
  refine L_newa (pc := 7) hY wd_a_long 3 (n0 := 120) (a0 := (120, .inr (.inl (fun _ => 0)))) rfl (fun _ => rfl) (by decide) (by decide) (by decide) (by decide) (by decide) dX0_init_7 (fun q1 => ?_)
  refine L_ws (ws' := [(h0, .inr (0, [.null, .null])), (q1, .inl (cA0 3, 120, .inr (.inl (fun _ => 0))))]) rfl ?_
  refine L_putF (pc := 9) hY hI (C := RX0) (T := TX0) (N := 2) rfl in_X0 tyX0 tyX0_ok nmX0 0 (by decide) w_97 rfl rfl (ty := .array .long) rfl rfl rfl (Nat.le_of_ble_eq_true rfl) dX0_init_9 ?_
  refine L_ws (ws' := [(h0, .inr (0, [.ref q1, .null])), (q1, .inl (cA0 3, 120, .inr (.inl (fun _ => 0))))]) rfl ?_
  refine L_aload_n (pc := 12) hY 0 rfl rfl dX0_init_12 ?_
  refine L_bipush (pc := 13) hY 120 (by decide) dX0_init_13 ?_
  refine L_newa (pc := 15) hY wd_a_long 3 (n0 := 120) (a0 := (120, .inr (.inl (fun _ => 0)))) rfl (fun _ => rfl) (by decide) (by decide) (by decide) (by decide) (by decide) dX0_init_15 (fun q2 => ?_)
  refine L_ws (ws' := [(h0, .inr (0, [.ref q1, .null])), (q1, .inl (cA0 3, 120, .inr (.inl (fun _ => 0)))), (q2, .inl (cA0 3, 120, .inr (.inl (fun _ => 0))))]) rfl ?_
  refine L_putF (pc := 17) hY hI (C := RX0) (T := TX0) (N := 2) rfl in_X0 tyX0 tyX0_ok nmX0 1 (by decide) w_99 rfl rfl (ty := .array .long) rfl rfl rfl (Nat.le_of_ble_eq_true rfl) dX0_init_17 ?_
  refine L_ws (ws' := [(h0, .inr (0, [.ref q1, .ref q2])), (q1, .inl (cA0 3, 120, .inr (.inl (fun _ => 0)))), (q2, .inl (cA0 3, 120, .inr (.inl (fun _ => 0))))]) rfl ?_
  refine L_widen (k2 := 2) (j2 := 240) (by decide) (by decide) ?_
  exact L_vret (pc := 20) hY hR ⟨q1, q2, rfl⟩ dX0_init_20
def wX1 (cA0 : Nat → ClassId) (h0 q1 q2 q3 q4 q5 q6 : Nat) : va_W := [(h0, .inr (1, [.ref q1, .ref q2, .ref q3, .ref q4, .ref q5, .ref q6, .int 0, .int 0])), (q1, .inl (cA0 2, 60, .inl (fun _ => 0))), (q2, .inl (cA0 2, 60, .inl (fun _ => 0))), (q3, .inl (cA0 2, 60, .inl (fun _ => 0))), (q4, .inl (cA0 2, 300, .inl (fun _ => 0))), (q5, .inl (cA0 2, 600, .inl (fun _ => 0))), (q6, .inl (cA0 2, 300, .inl (fun _ => 0)))]
set_option maxRecDepth 100000 in
set_option maxHeartbeats 4000000 in
theorem n_X1 (G : va_G) (cA0 : Nat → ClassId) (l : Launch) : ConN G cA0 l yX1_init cX1_init 1 1 20 6 1380 1 [.null, .null, .null, .null, .null, .null, .int 0, .int 0] (fun h0 w => ∃ q1 q2 q3 q4 q5 q6 : Nat, w = wX1 cA0 h0 q1 q2 q3 q4 q5 q6) := by
  refine ConN_of (by decide) rfl (by decide) (fun h0 X hY hI hR hXl => ?_)
  refine L_aload_n (pc := 0) hY 0 rfl rfl dX1_init_0 ?_
  refine L_objInit (pc := 1) hY (inG (List.mem_of_getElem? (i := 112) rfl) rfl) (by decide) (by decide) (Nat.le_of_ble_eq_true rfl) dX1_init_1 ?_
  refine L_aload_n (pc := 4) hY 0 rfl rfl dX1_init_4 ?_
  refine L_bipush (pc := 5) hY 60 (by decide) dX1_init_5 ?_
  refine L_newa (pc := 7) hY wd_a_int 2 (n0 := 60) (a0 := (60, .inl (fun _ => 0))) rfl (fun _ => rfl) (by decide) (by decide) (by decide) (by decide) (by decide) dX1_init_7 (fun q1 => ?_)
  refine L_ws (ws' := [(h0, .inr (1, [.null, .null, .null, .null, .null, .null, .int 0, .int 0])), (q1, .inl (cA0 2, 60, .inl (fun _ => 0)))]) rfl ?_
  refine L_putF (pc := 9) hY hI (C := RX1) (T := TX1) (N := 8) rfl in_X1 tyX1 tyX1_ok nmX1 0 (by decide) w_113 rfl rfl (ty := .array .int) rfl rfl rfl (Nat.le_of_ble_eq_true rfl) dX1_init_9 ?_
  refine L_ws (ws' := [(h0, .inr (1, [.ref q1, .null, .null, .null, .null, .null, .int 0, .int 0])), (q1, .inl (cA0 2, 60, .inl (fun _ => 0)))]) rfl ?_
  refine L_aload_n (pc := 12) hY 0 rfl rfl dX1_init_12 ?_
  refine L_bipush (pc := 13) hY 60 (by decide) dX1_init_13 ?_
  refine L_newa (pc := 15) hY wd_a_int 2 (n0 := 60) (a0 := (60, .inl (fun _ => 0))) rfl (fun _ => rfl) (by decide) (by decide) (by decide) (by decide) (by decide) dX1_init_15 (fun q2 => ?_)
  refine L_ws (ws' := [(h0, .inr (1, [.ref q1, .null, .null, .null, .null, .null, .int 0, .int 0])), (q1, .inl (cA0 2, 60, .inl (fun _ => 0))), (q2, .inl (cA0 2, 60, .inl (fun _ => 0)))]) rfl ?_
  refine L_putF (pc := 17) hY hI (C := RX1) (T := TX1) (N := 8) rfl in_X1 tyX1 tyX1_ok nmX1 1 (by decide) w_114 rfl rfl (ty := .array .int) rfl rfl rfl (Nat.le_of_ble_eq_true rfl) dX1_init_17 ?_
  refine L_ws (ws' := [(h0, .inr (1, [.ref q1, .ref q2, .null, .null, .null, .null, .int 0, .int 0])), (q1, .inl (cA0 2, 60, .inl (fun _ => 0))), (q2, .inl (cA0 2, 60, .inl (fun _ => 0)))]) rfl ?_
  refine L_aload_n (pc := 20) hY 0 rfl rfl dX1_init_20 ?_
  refine L_bipush (pc := 21) hY 60 (by decide) dX1_init_21 ?_
  refine L_newa (pc := 23) hY wd_a_int 2 (n0 := 60) (a0 := (60, .inl (fun _ => 0))) rfl (fun _ => rfl) (by decide) (by decide) (by decide) (by decide) (by decide) dX1_init_23 (fun q3 => ?_)
  refine L_ws (ws' := [(h0, .inr (1, [.ref q1, .ref q2, .null, .null, .null, .null, .int 0, .int 0])), (q1, .inl (cA0 2, 60, .inl (fun _ => 0))), (q2, .inl (cA0 2, 60, .inl (fun _ => 0))), (q3, .inl (cA0 2, 60, .inl (fun _ => 0)))]) rfl ?_
  refine L_putF (pc := 25) hY hI (C := RX1) (T := TX1) (N := 8) rfl in_X1 tyX1 tyX1_ok nmX1 2 (by decide) w_115 rfl rfl (ty := .array .int) rfl rfl rfl (Nat.le_of_ble_eq_true rfl) dX1_init_25 ?_
  refine L_ws (ws' := [(h0, .inr (1, [.ref q1, .ref q2, .ref q3, .null, .null, .null, .int 0, .int 0])), (q1, .inl (cA0 2, 60, .inl (fun _ => 0))), (q2, .inl (cA0 2, 60, .inl (fun _ => 0))), (q3, .inl (cA0 2, 60, .inl (fun _ => 0)))]) rfl ?_
  refine L_aload_n (pc := 28) hY 0 rfl rfl dX1_init_28 ?_
  refine L_sipush (pc := 29) hY 300 (by decide) dX1_init_29 ?_
  refine L_newa (pc := 32) hY wd_a_int 2 (n0 := 300) (a0 := (300, .inl (fun _ => 0))) rfl (fun _ => rfl) (by decide) (by decide) (by decide) (by decide) (by decide) dX1_init_32 (fun q4 => ?_)
  refine L_ws (ws' := [(h0, .inr (1, [.ref q1, .ref q2, .ref q3, .null, .null, .null, .int 0, .int 0])), (q1, .inl (cA0 2, 60, .inl (fun _ => 0))), (q2, .inl (cA0 2, 60, .inl (fun _ => 0))), (q3, .inl (cA0 2, 60, .inl (fun _ => 0))), (q4, .inl (cA0 2, 300, .inl (fun _ => 0)))]) rfl ?_
  refine L_putF (pc := 34) hY hI (C := RX1) (T := TX1) (N := 8) rfl in_X1 tyX1 tyX1_ok nmX1 3 (by decide) w_116 rfl rfl (ty := .array .int) rfl rfl rfl (Nat.le_of_ble_eq_true rfl) dX1_init_34 ?_
  refine L_ws (ws' := [(h0, .inr (1, [.ref q1, .ref q2, .ref q3, .ref q4, .null, .null, .int 0, .int 0])), (q1, .inl (cA0 2, 60, .inl (fun _ => 0))), (q2, .inl (cA0 2, 60, .inl (fun _ => 0))), (q3, .inl (cA0 2, 60, .inl (fun _ => 0))), (q4, .inl (cA0 2, 300, .inl (fun _ => 0)))]) rfl ?_
  refine L_aload_n (pc := 37) hY 0 rfl rfl dX1_init_37 ?_
  refine L_sipush (pc := 38) hY 600 (by decide) dX1_init_38 ?_
  refine L_newa (pc := 41) hY wd_a_int 2 (n0 := 600) (a0 := (600, .inl (fun _ => 0))) rfl (fun _ => rfl) (by decide) (by decide) (by decide) (by decide) (by decide) dX1_init_41 (fun q5 => ?_)
  refine L_ws (ws' := [(h0, .inr (1, [.ref q1, .ref q2, .ref q3, .ref q4, .null, .null, .int 0, .int 0])), (q1, .inl (cA0 2, 60, .inl (fun _ => 0))), (q2, .inl (cA0 2, 60, .inl (fun _ => 0))), (q3, .inl (cA0 2, 60, .inl (fun _ => 0))), (q4, .inl (cA0 2, 300, .inl (fun _ => 0))), (q5, .inl (cA0 2, 600, .inl (fun _ => 0)))]) rfl ?_
  refine L_putF (pc := 43) hY hI (C := RX1) (T := TX1) (N := 8) rfl in_X1 tyX1 tyX1_ok nmX1 4 (by decide) w_117 rfl rfl (ty := .array .int) rfl rfl rfl (Nat.le_of_ble_eq_true rfl) dX1_init_43 ?_
  refine L_ws (ws' := [(h0, .inr (1, [.ref q1, .ref q2, .ref q3, .ref q4, .ref q5, .null, .int 0, .int 0])), (q1, .inl (cA0 2, 60, .inl (fun _ => 0))), (q2, .inl (cA0 2, 60, .inl (fun _ => 0))), (q3, .inl (cA0 2, 60, .inl (fun _ => 0))), (q4, .inl (cA0 2, 300, .inl (fun _ => 0))), (q5, .inl (cA0 2, 600, .inl (fun _ => 0)))]) rfl ?_
  refine L_aload_n (pc := 46) hY 0 rfl rfl dX1_init_46 ?_
  refine L_sipush (pc := 47) hY 300 (by decide) dX1_init_47 ?_
  refine L_newa (pc := 50) hY wd_a_int 2 (n0 := 300) (a0 := (300, .inl (fun _ => 0))) rfl (fun _ => rfl) (by decide) (by decide) (by decide) (by decide) (by decide) dX1_init_50 (fun q6 => ?_)
  refine L_ws (ws' := [(h0, .inr (1, [.ref q1, .ref q2, .ref q3, .ref q4, .ref q5, .null, .int 0, .int 0])), (q1, .inl (cA0 2, 60, .inl (fun _ => 0))), (q2, .inl (cA0 2, 60, .inl (fun _ => 0))), (q3, .inl (cA0 2, 60, .inl (fun _ => 0))), (q4, .inl (cA0 2, 300, .inl (fun _ => 0))), (q5, .inl (cA0 2, 600, .inl (fun _ => 0))), (q6, .inl (cA0 2, 300, .inl (fun _ => 0)))]) rfl ?_
  refine L_putF (pc := 52) hY hI (C := RX1) (T := TX1) (N := 8) rfl in_X1 tyX1 tyX1_ok nmX1 5 (by decide) w_118 rfl rfl (ty := .array .int) rfl rfl rfl (Nat.le_of_ble_eq_true rfl) dX1_init_52 ?_
  refine L_ws (ws' := [(h0, .inr (1, [.ref q1, .ref q2, .ref q3, .ref q4, .ref q5, .ref q6, .int 0, .int 0])), (q1, .inl (cA0 2, 60, .inl (fun _ => 0))), (q2, .inl (cA0 2, 60, .inl (fun _ => 0))), (q3, .inl (cA0 2, 60, .inl (fun _ => 0))), (q4, .inl (cA0 2, 300, .inl (fun _ => 0))), (q5, .inl (cA0 2, 600, .inl (fun _ => 0))), (q6, .inl (cA0 2, 300, .inl (fun _ => 0)))]) rfl ?_
  refine L_widen (k2 := 6) (j2 := 1380) (by decide) (by decide) ?_
  exact L_vret (pc := 55) hY hR ⟨q1, q2, q3, q4, q5, q6, rfl⟩ dX1_init_55
def wX2 (cA0 : Nat → ClassId) (h0 q1 q2 : Nat) : va_W := [(h0, .inr (2, [.ref q1, .ref q2, .int 0])), (q1, .inl (cA0 2, 10, .inl (fun _ => 0))), (q2, .inl (cA0 2, 10, .inl (fun _ => 0)))]
set_option maxRecDepth 100000 in
set_option maxHeartbeats 4000000 in
theorem n_X2 (G : va_G) (cA0 : Nat → ClassId) (l : Launch) : ConN G cA0 l yX2_init cX2_init 1 1 20 2 20 2 [.null, .null, .int 0] (fun h0 w => ∃ q1 q2 : Nat, w = wX2 cA0 h0 q1 q2) := by
  refine ConN_of (by decide) rfl (by decide) (fun h0 X hY hI hR hXl => ?_)
  refine L_aload_n (pc := 0) hY 0 rfl rfl dX2_init_0 ?_
  refine L_objInit (pc := 1) hY (inG (List.mem_of_getElem? (i := 145) rfl) rfl) (by decide) (by decide) (Nat.le_of_ble_eq_true rfl) dX2_init_1 ?_
  refine L_aload_n (pc := 4) hY 0 rfl rfl dX2_init_4 ?_
  refine L_bipush (pc := 5) hY 10 (by decide) dX2_init_5 ?_
  refine L_newa (pc := 7) hY wd_a_int 2 (n0 := 10) (a0 := (10, .inl (fun _ => 0))) rfl (fun _ => rfl) (by decide) (by decide) (by decide) (by decide) (by decide) dX2_init_7 (fun q1 => ?_)
  refine L_ws (ws' := [(h0, .inr (2, [.null, .null, .int 0])), (q1, .inl (cA0 2, 10, .inl (fun _ => 0)))]) rfl ?_
  refine L_putF (pc := 9) hY hI (C := RX2) (T := TX2) (N := 3) rfl in_X2 tyX2 tyX2_ok nmX2 0 (by decide) w_146 rfl rfl (ty := .array .int) rfl rfl rfl (Nat.le_of_ble_eq_true rfl) dX2_init_9 ?_
  refine L_ws (ws' := [(h0, .inr (2, [.ref q1, .null, .int 0])), (q1, .inl (cA0 2, 10, .inl (fun _ => 0)))]) rfl ?_
  refine L_aload_n (pc := 12) hY 0 rfl rfl dX2_init_12 ?_
  refine L_bipush (pc := 13) hY 10 (by decide) dX2_init_13 ?_
  refine L_newa (pc := 15) hY wd_a_int 2 (n0 := 10) (a0 := (10, .inl (fun _ => 0))) rfl (fun _ => rfl) (by decide) (by decide) (by decide) (by decide) (by decide) dX2_init_15 (fun q2 => ?_)
  refine L_ws (ws' := [(h0, .inr (2, [.ref q1, .null, .int 0])), (q1, .inl (cA0 2, 10, .inl (fun _ => 0))), (q2, .inl (cA0 2, 10, .inl (fun _ => 0)))]) rfl ?_
  refine L_putF (pc := 17) hY hI (C := RX2) (T := TX2) (N := 3) rfl in_X2 tyX2 tyX2_ok nmX2 1 (by decide) w_147 rfl rfl (ty := .array .int) rfl rfl rfl (Nat.le_of_ble_eq_true rfl) dX2_init_17 ?_
  refine L_ws (ws' := [(h0, .inr (2, [.ref q1, .ref q2, .int 0])), (q1, .inl (cA0 2, 10, .inl (fun _ => 0))), (q2, .inl (cA0 2, 10, .inl (fun _ => 0)))]) rfl ?_
  refine L_widen (k2 := 2) (j2 := 20) (by decide) (by decide) ?_
  exact L_vret (pc := 20) hY hR ⟨q1, q2, rfl⟩ dX2_init_20
def wX3 (cA0 : Nat → ClassId) (h0  : Nat) : va_W := [(h0, .inr (3, [.int 0, .int 0, .int 0, .int 0]))]
set_option maxRecDepth 100000 in
set_option maxHeartbeats 4000000 in
theorem n_X3 (G : va_G) (cA0 : Nat → ClassId) (l : Launch) : ConN G cA0 l yX3_init cX3_init 1 1 20 0 0 3 [.int 0, .int 0, .int 0, .int 0] (fun h0 w => w = wX3 cA0 h0) := by
  refine ConN_of (by decide) rfl (by decide) (fun h0 X hY hI hR hXl => ?_)
  refine L_aload_n (pc := 0) hY 0 rfl rfl dX3_init_0 ?_
  refine L_objInit (pc := 1) hY (inG (List.mem_of_getElem? (i := 196) rfl) rfl) (by decide) (by decide) (Nat.le_of_ble_eq_true rfl) dX3_init_1 ?_
  refine L_widen (k2 := 0) (j2 := 0) (by decide) (by decide) ?_
  exact L_vret (pc := 4) hY hR rfl dX3_init_4
def wX4 (cA0 : Nat → ClassId) (h0 q1 q2 : Nat) : va_W := [(h0, .inr (4, [.ref q1, .int 0, .ref q2, .int 0, .int 0, .int 0, .int 0, .int 0])), (q1, .inl (cA0 0, 120, .inl (fun _ => 0))), (q2, .inl (cA0 2, 144, .inl (fun _ => 0)))]
set_option maxRecDepth 100000 in
set_option maxHeartbeats 4000000 in
theorem n_X4 (G : va_G) (cA0 : Nat → ClassId) (l : Launch) : ConN G cA0 l yX4_init cX4_init 1 1 20 2 264 4 [.null, .int 0, .null, .int 0, .int 0, .int 0, .int 0, .int 0] (fun h0 w => ∃ q1 q2 : Nat, w = wX4 cA0 h0 q1 q2) := by
  refine ConN_of (by decide) rfl (by decide) (fun h0 X hY hI hR hXl => ?_)
  refine L_aload_n (pc := 0) hY 0 rfl rfl dX4_init_0 ?_
  refine L_objInit (pc := 1) hY (inG (List.mem_of_getElem? (i := 162) rfl) rfl) (by decide) (by decide) (Nat.le_of_ble_eq_true rfl) dX4_init_1 ?_
  refine L_aload_n (pc := 4) hY 0 rfl rfl dX4_init_4 ?_
  refine L_bipush (pc := 5) hY 120 (by decide) dX4_init_5 ?_
  refine L_newa (pc := 7) hY wd_a_byte 0 (n0 := 120) (a0 := (120, .inl (fun _ => 0))) rfl (fun _ => rfl) (by decide) (by decide) (by decide) (by decide) (by decide) dX4_init_7 (fun q1 => ?_)
  refine L_ws (ws' := [(h0, .inr (4, [.null, .int 0, .null, .int 0, .int 0, .int 0, .int 0, .int 0])), (q1, .inl (cA0 0, 120, .inl (fun _ => 0)))]) rfl ?_
  refine L_putF (pc := 9) hY hI (C := RX4) (T := TX4) (N := 8) rfl in_X4 tyX4 tyX4_ok nmX4 0 (by decide) w_163 rfl rfl (ty := .array .byte) rfl rfl rfl (Nat.le_of_ble_eq_true rfl) dX4_init_9 ?_
  refine L_ws (ws' := [(h0, .inr (4, [.ref q1, .int 0, .null, .int 0, .int 0, .int 0, .int 0, .int 0])), (q1, .inl (cA0 0, 120, .inl (fun _ => 0)))]) rfl ?_
  refine L_aload_n (pc := 12) hY 0 rfl rfl dX4_init_12 ?_
  refine L_sipush (pc := 13) hY 144 (by decide) dX4_init_13 ?_
  refine L_newa (pc := 16) hY wd_a_int 2 (n0 := 144) (a0 := (144, .inl (fun _ => 0))) rfl (fun _ => rfl) (by decide) (by decide) (by decide) (by decide) (by decide) dX4_init_16 (fun q2 => ?_)
  refine L_ws (ws' := [(h0, .inr (4, [.ref q1, .int 0, .null, .int 0, .int 0, .int 0, .int 0, .int 0])), (q1, .inl (cA0 0, 120, .inl (fun _ => 0))), (q2, .inl (cA0 2, 144, .inl (fun _ => 0)))]) rfl ?_
  refine L_putF (pc := 18) hY hI (C := RX4) (T := TX4) (N := 8) rfl in_X4 tyX4 tyX4_ok nmX4 2 (by decide) w_166 rfl rfl (ty := .array .int) rfl rfl rfl (Nat.le_of_ble_eq_true rfl) dX4_init_18 ?_
  refine L_ws (ws' := [(h0, .inr (4, [.ref q1, .int 0, .ref q2, .int 0, .int 0, .int 0, .int 0, .int 0])), (q1, .inl (cA0 0, 120, .inl (fun _ => 0))), (q2, .inl (cA0 2, 144, .inl (fun _ => 0)))]) rfl ?_
  refine L_widen (k2 := 2) (j2 := 264) (by decide) (by decide) ?_
  exact L_vret (pc := 21) hY hR ⟨q1, q2, rfl⟩ dX4_init_21
def wX6 (cA0 : Nat → ClassId) (h0 q1 q2 q3 q4 q5 q6 q7 : Nat) : va_W := [(h0, .inr (6, [.ref q1, .ref q2, .ref q3, .int 0, .ref q4, .ref q5, .int 0, .int 0, .ref q6, .int 0, .int 0, .int 0, .int 0, .int 0, .int 0, .int 0, .int 0, .ref q7, .int 0])), (q1, .inl (cA0 3, 3120, .inr (.inl (fun _ => 0)))), (q2, .inl (cA0 2, 3, .inl (fun _ => 0))), (q3, .inl (cA0 2, 120, .inl (fun _ => 0))), (q4, .inl (cA0 2, 10, .inl (fun _ => 0))), (q5, .inl (cA0 2, 10, .inl (fun _ => 0))), (q6, .inl (cA0 2, 4, .inl (fun _ => 0))), (q7, .inl (cA0 1, 54, .inl (wdF 54)))]
def cX6w (cA0 : Nat → ClassId) (h0 q1 q2 q3 q4 q5 q6 q7 : Nat) (f : Nat → Int32) : va_W := [(h0, .inr (6, [.ref q1, .ref q2, .ref q3, .int 0, .ref q4, .ref q5, .int 0, .int 0, .ref q6, .int 0, .int 0, .int 0, .int 0, .int 0, .int 0, .int 0, .int 0, .null, .int 0])), (q1, .inl (cA0 3, 3120, .inr (.inl (fun _ => 0)))), (q2, .inl (cA0 2, 3, .inl (fun _ => 0))), (q3, .inl (cA0 2, 120, .inl (fun _ => 0))), (q4, .inl (cA0 2, 10, .inl (fun _ => 0))), (q5, .inl (cA0 2, 10, .inl (fun _ => 0))), (q6, .inl (cA0 2, 4, .inl (fun _ => 0))), (q7, .inl (cA0 1, 54, .inl f))]
set_option maxRecDepth 100000 in
set_option maxHeartbeats 4000000 in
theorem n_X6 (G : va_G) (cA0 : Nat → ClassId) (l : Launch) : ConN G cA0 l yX6_init cX6_init 1 1 20 7 3321 6 [.null, .null, .null, .int 0, .null, .null, .int 0, .int 0, .null, .int 0, .int 0, .int 0, .int 0, .int 0, .int 0, .int 0, .int 0, .null, .int 0] (fun h0 w => ∃ q1 q2 q3 q4 q5 q6 q7 : Nat, w = wX6 cA0 h0 q1 q2 q3 q4 q5 q6 q7) := by
  refine ConN_of (by decide) rfl (by decide) (fun h0 X hY hI hR hXl => ?_)
  refine L_aload_n (pc := 0) hY 0 rfl rfl dX6_init_0 ?_
  refine L_objInit (pc := 1) hY (inG (List.mem_of_getElem? (i := 716) rfl) rfl) (by decide) (by decide) (Nat.le_of_ble_eq_true rfl) dX6_init_1 ?_
  refine L_aload_n (pc := 4) hY 0 rfl rfl dX6_init_4 ?_
  refine L_sipush (pc := 5) hY 3120 (by decide) dX6_init_5 ?_
  refine L_newa (pc := 8) hY wd_a_long 3 (n0 := 3120) (a0 := (3120, .inr (.inl (fun _ => 0)))) rfl (fun _ => rfl) (by decide) (by decide) (by decide) (by decide) (by decide) dX6_init_8 (fun q1 => ?_)
  refine L_ws (ws' := [(h0, .inr (6, [.null, .null, .null, .int 0, .null, .null, .int 0, .int 0, .null, .int 0, .int 0, .int 0, .int 0, .int 0, .int 0, .int 0, .int 0, .null, .int 0])), (q1, .inl (cA0 3, 3120, .inr (.inl (fun _ => 0))))]) rfl ?_
  refine L_putF (pc := 10) hY hI (C := RX6) (T := TX6) (N := 19) rfl in_X6 tyX6 tyX6_ok nmX6 0 (by decide) w_717 rfl rfl (ty := .array .long) rfl rfl rfl (Nat.le_of_ble_eq_true rfl) dX6_init_10 ?_
  refine L_ws (ws' := [(h0, .inr (6, [.ref q1, .null, .null, .int 0, .null, .null, .int 0, .int 0, .null, .int 0, .int 0, .int 0, .int 0, .int 0, .int 0, .int 0, .int 0, .null, .int 0])), (q1, .inl (cA0 3, 3120, .inr (.inl (fun _ => 0))))]) rfl ?_
  refine L_aload_n (pc := 13) hY 0 rfl rfl dX6_init_13 ?_
  refine L_iconst (pc := 14) hY 3 (by decide) dX6_init_14 ?_
  refine L_newa (pc := 15) hY wd_a_int 2 (n0 := 3) (a0 := (3, .inl (fun _ => 0))) rfl (fun _ => rfl) (by decide) (by decide) (by decide) (by decide) (by decide) dX6_init_15 (fun q2 => ?_)
  refine L_ws (ws' := [(h0, .inr (6, [.ref q1, .null, .null, .int 0, .null, .null, .int 0, .int 0, .null, .int 0, .int 0, .int 0, .int 0, .int 0, .int 0, .int 0, .int 0, .null, .int 0])), (q1, .inl (cA0 3, 3120, .inr (.inl (fun _ => 0)))), (q2, .inl (cA0 2, 3, .inl (fun _ => 0)))]) rfl ?_
  refine L_putF (pc := 17) hY hI (C := RX6) (T := TX6) (N := 19) rfl in_X6 tyX6 tyX6_ok nmX6 1 (by decide) w_718 rfl rfl (ty := .array .int) rfl rfl rfl (Nat.le_of_ble_eq_true rfl) dX6_init_17 ?_
  refine L_ws (ws' := [(h0, .inr (6, [.ref q1, .ref q2, .null, .int 0, .null, .null, .int 0, .int 0, .null, .int 0, .int 0, .int 0, .int 0, .int 0, .int 0, .int 0, .int 0, .null, .int 0])), (q1, .inl (cA0 3, 3120, .inr (.inl (fun _ => 0)))), (q2, .inl (cA0 2, 3, .inl (fun _ => 0)))]) rfl ?_
  refine L_aload_n (pc := 20) hY 0 rfl rfl dX6_init_20 ?_
  refine L_bipush (pc := 21) hY 120 (by decide) dX6_init_21 ?_
  refine L_newa (pc := 23) hY wd_a_int 2 (n0 := 120) (a0 := (120, .inl (fun _ => 0))) rfl (fun _ => rfl) (by decide) (by decide) (by decide) (by decide) (by decide) dX6_init_23 (fun q3 => ?_)
  refine L_ws (ws' := [(h0, .inr (6, [.ref q1, .ref q2, .null, .int 0, .null, .null, .int 0, .int 0, .null, .int 0, .int 0, .int 0, .int 0, .int 0, .int 0, .int 0, .int 0, .null, .int 0])), (q1, .inl (cA0 3, 3120, .inr (.inl (fun _ => 0)))), (q2, .inl (cA0 2, 3, .inl (fun _ => 0))), (q3, .inl (cA0 2, 120, .inl (fun _ => 0)))]) rfl ?_
  refine L_putF (pc := 25) hY hI (C := RX6) (T := TX6) (N := 19) rfl in_X6 tyX6 tyX6_ok nmX6 2 (by decide) w_719 rfl rfl (ty := .array .int) rfl rfl rfl (Nat.le_of_ble_eq_true rfl) dX6_init_25 ?_
  refine L_ws (ws' := [(h0, .inr (6, [.ref q1, .ref q2, .ref q3, .int 0, .null, .null, .int 0, .int 0, .null, .int 0, .int 0, .int 0, .int 0, .int 0, .int 0, .int 0, .int 0, .null, .int 0])), (q1, .inl (cA0 3, 3120, .inr (.inl (fun _ => 0)))), (q2, .inl (cA0 2, 3, .inl (fun _ => 0))), (q3, .inl (cA0 2, 120, .inl (fun _ => 0)))]) rfl ?_
  refine L_aload_n (pc := 28) hY 0 rfl rfl dX6_init_28 ?_
  refine L_bipush (pc := 29) hY 10 (by decide) dX6_init_29 ?_
  refine L_newa (pc := 31) hY wd_a_int 2 (n0 := 10) (a0 := (10, .inl (fun _ => 0))) rfl (fun _ => rfl) (by decide) (by decide) (by decide) (by decide) (by decide) dX6_init_31 (fun q4 => ?_)
  refine L_ws (ws' := [(h0, .inr (6, [.ref q1, .ref q2, .ref q3, .int 0, .null, .null, .int 0, .int 0, .null, .int 0, .int 0, .int 0, .int 0, .int 0, .int 0, .int 0, .int 0, .null, .int 0])), (q1, .inl (cA0 3, 3120, .inr (.inl (fun _ => 0)))), (q2, .inl (cA0 2, 3, .inl (fun _ => 0))), (q3, .inl (cA0 2, 120, .inl (fun _ => 0))), (q4, .inl (cA0 2, 10, .inl (fun _ => 0)))]) rfl ?_
  refine L_putF (pc := 33) hY hI (C := RX6) (T := TX6) (N := 19) rfl in_X6 tyX6 tyX6_ok nmX6 4 (by decide) w_721 rfl rfl (ty := .array .int) rfl rfl rfl (Nat.le_of_ble_eq_true rfl) dX6_init_33 ?_
  refine L_ws (ws' := [(h0, .inr (6, [.ref q1, .ref q2, .ref q3, .int 0, .ref q4, .null, .int 0, .int 0, .null, .int 0, .int 0, .int 0, .int 0, .int 0, .int 0, .int 0, .int 0, .null, .int 0])), (q1, .inl (cA0 3, 3120, .inr (.inl (fun _ => 0)))), (q2, .inl (cA0 2, 3, .inl (fun _ => 0))), (q3, .inl (cA0 2, 120, .inl (fun _ => 0))), (q4, .inl (cA0 2, 10, .inl (fun _ => 0)))]) rfl ?_
  refine L_aload_n (pc := 36) hY 0 rfl rfl dX6_init_36 ?_
  refine L_bipush (pc := 37) hY 10 (by decide) dX6_init_37 ?_
  refine L_newa (pc := 39) hY wd_a_int 2 (n0 := 10) (a0 := (10, .inl (fun _ => 0))) rfl (fun _ => rfl) (by decide) (by decide) (by decide) (by decide) (by decide) dX6_init_39 (fun q5 => ?_)
  refine L_ws (ws' := [(h0, .inr (6, [.ref q1, .ref q2, .ref q3, .int 0, .ref q4, .null, .int 0, .int 0, .null, .int 0, .int 0, .int 0, .int 0, .int 0, .int 0, .int 0, .int 0, .null, .int 0])), (q1, .inl (cA0 3, 3120, .inr (.inl (fun _ => 0)))), (q2, .inl (cA0 2, 3, .inl (fun _ => 0))), (q3, .inl (cA0 2, 120, .inl (fun _ => 0))), (q4, .inl (cA0 2, 10, .inl (fun _ => 0))), (q5, .inl (cA0 2, 10, .inl (fun _ => 0)))]) rfl ?_
  refine L_putF (pc := 41) hY hI (C := RX6) (T := TX6) (N := 19) rfl in_X6 tyX6 tyX6_ok nmX6 5 (by decide) w_722 rfl rfl (ty := .array .int) rfl rfl rfl (Nat.le_of_ble_eq_true rfl) dX6_init_41 ?_
  refine L_ws (ws' := [(h0, .inr (6, [.ref q1, .ref q2, .ref q3, .int 0, .ref q4, .ref q5, .int 0, .int 0, .null, .int 0, .int 0, .int 0, .int 0, .int 0, .int 0, .int 0, .int 0, .null, .int 0])), (q1, .inl (cA0 3, 3120, .inr (.inl (fun _ => 0)))), (q2, .inl (cA0 2, 3, .inl (fun _ => 0))), (q3, .inl (cA0 2, 120, .inl (fun _ => 0))), (q4, .inl (cA0 2, 10, .inl (fun _ => 0))), (q5, .inl (cA0 2, 10, .inl (fun _ => 0)))]) rfl ?_
  refine L_aload_n (pc := 44) hY 0 rfl rfl dX6_init_44 ?_
  refine L_iconst (pc := 45) hY 4 (by decide) dX6_init_45 ?_
  refine L_newa (pc := 46) hY wd_a_int 2 (n0 := 4) (a0 := (4, .inl (fun _ => 0))) rfl (fun _ => rfl) (by decide) (by decide) (by decide) (by decide) (by decide) dX6_init_46 (fun q6 => ?_)
  refine L_ws (ws' := [(h0, .inr (6, [.ref q1, .ref q2, .ref q3, .int 0, .ref q4, .ref q5, .int 0, .int 0, .null, .int 0, .int 0, .int 0, .int 0, .int 0, .int 0, .int 0, .int 0, .null, .int 0])), (q1, .inl (cA0 3, 3120, .inr (.inl (fun _ => 0)))), (q2, .inl (cA0 2, 3, .inl (fun _ => 0))), (q3, .inl (cA0 2, 120, .inl (fun _ => 0))), (q4, .inl (cA0 2, 10, .inl (fun _ => 0))), (q5, .inl (cA0 2, 10, .inl (fun _ => 0))), (q6, .inl (cA0 2, 4, .inl (fun _ => 0)))]) rfl ?_
  refine L_putF (pc := 48) hY hI (C := RX6) (T := TX6) (N := 19) rfl in_X6 tyX6 tyX6_ok nmX6 8 (by decide) w_725 rfl rfl (ty := .array .int) rfl rfl rfl (Nat.le_of_ble_eq_true rfl) dX6_init_48 ?_
  refine L_ws (ws' := [(h0, .inr (6, [.ref q1, .ref q2, .ref q3, .int 0, .ref q4, .ref q5, .int 0, .int 0, .ref q6, .int 0, .int 0, .int 0, .int 0, .int 0, .int 0, .int 0, .int 0, .null, .int 0])), (q1, .inl (cA0 3, 3120, .inr (.inl (fun _ => 0)))), (q2, .inl (cA0 2, 3, .inl (fun _ => 0))), (q3, .inl (cA0 2, 120, .inl (fun _ => 0))), (q4, .inl (cA0 2, 10, .inl (fun _ => 0))), (q5, .inl (cA0 2, 10, .inl (fun _ => 0))), (q6, .inl (cA0 2, 4, .inl (fun _ => 0)))]) rfl ?_
  refine L_aload_n (pc := 51) hY 0 rfl rfl dX6_init_51 ?_
  refine L_bipush (pc := 52) hY 54 (by decide) dX6_init_52 ?_
  refine L_newa (pc := 54) hY wd_a_char 1 (n0 := 54) (a0 := (54, .inl (wdF 0))) rfl (fun _ => by rw [wdF_0]; rfl) (by decide) (by decide) (by decide) (by decide) (by decide) dX6_init_54 (fun q7 => ?_)
  refine L_ws (ws' := [(h0, .inr (6, [.ref q1, .ref q2, .ref q3, .int 0, .ref q4, .ref q5, .int 0, .int 0, .ref q6, .int 0, .int 0, .int 0, .int 0, .int 0, .int 0, .int 0, .int 0, .null, .int 0])), (q1, .inl (cA0 3, 3120, .inr (.inl (fun _ => 0)))), (q2, .inl (cA0 2, 3, .inl (fun _ => 0))), (q3, .inl (cA0 2, 120, .inl (fun _ => 0))), (q4, .inl (cA0 2, 10, .inl (fun _ => 0))), (q5, .inl (cA0 2, 10, .inl (fun _ => 0))), (q6, .inl (cA0 2, 4, .inl (fun _ => 0))), (q7, .inl (cA0 1, 54, .inl (wdF 0)))]) rfl ?_
  refine L_dup (pc := 56) hY rfl dX6_init_56 ?_
  refine L_iconst (pc := 57) hY (nI 0) (by decide) dX6_init_57 ?_
  refine L_bipush (pc := 58) hY (oI (wdM 0)) (by decide +kernel) dX6_init_58 ?_
  refine L_cast (pc := 60) (i := 0) (y := oI (wdM 0)) hY 7 rfl rfl (by decide) (by decide) (by decide +kernel) dX6_init_60 ?_
  refine L_ws (ws' := cX6w cA0 h0 q1 q2 q3 q4 q5 q6 q7 (wdF 1)) (congrArg (cX6w cA0 h0 q1 q2 q3 q4 q5 q6 q7) (wdF_s 0)) ?_
  refine L_dup (pc := 61) hY rfl dX6_init_61 ?_
  refine L_iconst (pc := 62) hY (nI 1) (by decide) dX6_init_62 ?_
  refine L_bipush (pc := 63) hY (oI (wdM 1)) (by decide +kernel) dX6_init_63 ?_
  refine L_cast (pc := 65) (i := 1) (y := oI (wdM 1)) hY 7 rfl rfl (by decide) (by decide) (by decide +kernel) dX6_init_65 ?_
  refine L_ws (ws' := cX6w cA0 h0 q1 q2 q3 q4 q5 q6 q7 (wdF 2)) (congrArg (cX6w cA0 h0 q1 q2 q3 q4 q5 q6 q7) (wdF_s 1)) ?_
  refine L_dup (pc := 66) hY rfl dX6_init_66 ?_
  refine L_iconst (pc := 67) hY (nI 2) (by decide) dX6_init_67 ?_
  refine L_bipush (pc := 68) hY (oI (wdM 2)) (by decide +kernel) dX6_init_68 ?_
  refine L_cast (pc := 70) (i := 2) (y := oI (wdM 2)) hY 7 rfl rfl (by decide) (by decide) (by decide +kernel) dX6_init_70 ?_
  refine L_ws (ws' := cX6w cA0 h0 q1 q2 q3 q4 q5 q6 q7 (wdF 3)) (congrArg (cX6w cA0 h0 q1 q2 q3 q4 q5 q6 q7) (wdF_s 2)) ?_
  refine L_dup (pc := 71) hY rfl dX6_init_71 ?_
  refine L_iconst (pc := 72) hY (nI 3) (by decide) dX6_init_72 ?_
  refine L_bipush (pc := 73) hY (oI (wdM 3)) (by decide +kernel) dX6_init_73 ?_
  refine L_cast (pc := 75) (i := 3) (y := oI (wdM 3)) hY 7 rfl rfl (by decide) (by decide) (by decide +kernel) dX6_init_75 ?_
  refine L_ws (ws' := cX6w cA0 h0 q1 q2 q3 q4 q5 q6 q7 (wdF 4)) (congrArg (cX6w cA0 h0 q1 q2 q3 q4 q5 q6 q7) (wdF_s 3)) ?_
  refine L_dup (pc := 76) hY rfl dX6_init_76 ?_
  refine L_iconst (pc := 77) hY (nI 4) (by decide) dX6_init_77 ?_
  refine L_bipush (pc := 78) hY (oI (wdM 4)) (by decide +kernel) dX6_init_78 ?_
  refine L_cast (pc := 80) (i := 4) (y := oI (wdM 4)) hY 7 rfl rfl (by decide) (by decide) (by decide +kernel) dX6_init_80 ?_
  refine L_ws (ws' := cX6w cA0 h0 q1 q2 q3 q4 q5 q6 q7 (wdF 5)) (congrArg (cX6w cA0 h0 q1 q2 q3 q4 q5 q6 q7) (wdF_s 4)) ?_
  refine L_dup (pc := 81) hY rfl dX6_init_81 ?_
  refine L_iconst (pc := 82) hY (nI 5) (by decide) dX6_init_82 ?_
  refine L_bipush (pc := 83) hY (oI (wdM 5)) (by decide +kernel) dX6_init_83 ?_
  refine L_cast (pc := 85) (i := 5) (y := oI (wdM 5)) hY 7 rfl rfl (by decide) (by decide) (by decide +kernel) dX6_init_85 ?_
  refine L_ws (ws' := cX6w cA0 h0 q1 q2 q3 q4 q5 q6 q7 (wdF 6)) (congrArg (cX6w cA0 h0 q1 q2 q3 q4 q5 q6 q7) (wdF_s 5)) ?_
  refine L_dup (pc := 86) hY rfl dX6_init_86 ?_
  refine L_bipush (pc := 87) hY (nI 6) (by decide) dX6_init_87 ?_
  refine L_bipush (pc := 89) hY (oI (wdM 6)) (by decide +kernel) dX6_init_89 ?_
  refine L_cast (pc := 91) (i := 6) (y := oI (wdM 6)) hY 7 rfl rfl (by decide) (by decide) (by decide +kernel) dX6_init_91 ?_
  refine L_ws (ws' := cX6w cA0 h0 q1 q2 q3 q4 q5 q6 q7 (wdF 7)) (congrArg (cX6w cA0 h0 q1 q2 q3 q4 q5 q6 q7) (wdF_s 6)) ?_
  refine L_dup (pc := 92) hY rfl dX6_init_92 ?_
  refine L_bipush (pc := 93) hY (nI 7) (by decide) dX6_init_93 ?_
  refine L_bipush (pc := 95) hY (oI (wdM 7)) (by decide +kernel) dX6_init_95 ?_
  refine L_cast (pc := 97) (i := 7) (y := oI (wdM 7)) hY 7 rfl rfl (by decide) (by decide) (by decide +kernel) dX6_init_97 ?_
  refine L_ws (ws' := cX6w cA0 h0 q1 q2 q3 q4 q5 q6 q7 (wdF 8)) (congrArg (cX6w cA0 h0 q1 q2 q3 q4 q5 q6 q7) (wdF_s 7)) ?_
  refine L_dup (pc := 98) hY rfl dX6_init_98 ?_
  refine L_bipush (pc := 99) hY (nI 8) (by decide) dX6_init_99 ?_
  refine L_bipush (pc := 101) hY (oI (wdM 8)) (by decide +kernel) dX6_init_101 ?_
  refine L_cast (pc := 103) (i := 8) (y := oI (wdM 8)) hY 7 rfl rfl (by decide) (by decide) (by decide +kernel) dX6_init_103 ?_
  refine L_ws (ws' := cX6w cA0 h0 q1 q2 q3 q4 q5 q6 q7 (wdF 9)) (congrArg (cX6w cA0 h0 q1 q2 q3 q4 q5 q6 q7) (wdF_s 8)) ?_
  refine L_dup (pc := 104) hY rfl dX6_init_104 ?_
  refine L_bipush (pc := 105) hY (nI 9) (by decide) dX6_init_105 ?_
  refine L_bipush (pc := 107) hY (oI (wdM 9)) (by decide +kernel) dX6_init_107 ?_
  refine L_cast (pc := 109) (i := 9) (y := oI (wdM 9)) hY 7 rfl rfl (by decide) (by decide) (by decide +kernel) dX6_init_109 ?_
  refine L_ws (ws' := cX6w cA0 h0 q1 q2 q3 q4 q5 q6 q7 (wdF 10)) (congrArg (cX6w cA0 h0 q1 q2 q3 q4 q5 q6 q7) (wdF_s 9)) ?_
  refine L_dup (pc := 110) hY rfl dX6_init_110 ?_
  refine L_bipush (pc := 111) hY (nI 10) (by decide) dX6_init_111 ?_
  refine L_bipush (pc := 113) hY (oI (wdM 10)) (by decide +kernel) dX6_init_113 ?_
  refine L_cast (pc := 115) (i := 10) (y := oI (wdM 10)) hY 7 rfl rfl (by decide) (by decide) (by decide +kernel) dX6_init_115 ?_
  refine L_ws (ws' := cX6w cA0 h0 q1 q2 q3 q4 q5 q6 q7 (wdF 11)) (congrArg (cX6w cA0 h0 q1 q2 q3 q4 q5 q6 q7) (wdF_s 10)) ?_
  refine L_dup (pc := 116) hY rfl dX6_init_116 ?_
  refine L_bipush (pc := 117) hY (nI 11) (by decide) dX6_init_117 ?_
  refine L_bipush (pc := 119) hY (oI (wdM 11)) (by decide +kernel) dX6_init_119 ?_
  refine L_cast (pc := 121) (i := 11) (y := oI (wdM 11)) hY 7 rfl rfl (by decide) (by decide) (by decide +kernel) dX6_init_121 ?_
  refine L_ws (ws' := cX6w cA0 h0 q1 q2 q3 q4 q5 q6 q7 (wdF 12)) (congrArg (cX6w cA0 h0 q1 q2 q3 q4 q5 q6 q7) (wdF_s 11)) ?_
  refine L_dup (pc := 122) hY rfl dX6_init_122 ?_
  refine L_bipush (pc := 123) hY (nI 12) (by decide) dX6_init_123 ?_
  refine L_bipush (pc := 125) hY (oI (wdM 12)) (by decide +kernel) dX6_init_125 ?_
  refine L_cast (pc := 127) (i := 12) (y := oI (wdM 12)) hY 7 rfl rfl (by decide) (by decide) (by decide +kernel) dX6_init_127 ?_
  refine L_ws (ws' := cX6w cA0 h0 q1 q2 q3 q4 q5 q6 q7 (wdF 13)) (congrArg (cX6w cA0 h0 q1 q2 q3 q4 q5 q6 q7) (wdF_s 12)) ?_
  refine L_dup (pc := 128) hY rfl dX6_init_128 ?_
  refine L_bipush (pc := 129) hY (nI 13) (by decide) dX6_init_129 ?_
  refine L_bipush (pc := 131) hY (oI (wdM 13)) (by decide +kernel) dX6_init_131 ?_
  refine L_cast (pc := 133) (i := 13) (y := oI (wdM 13)) hY 7 rfl rfl (by decide) (by decide) (by decide +kernel) dX6_init_133 ?_
  refine L_ws (ws' := cX6w cA0 h0 q1 q2 q3 q4 q5 q6 q7 (wdF 14)) (congrArg (cX6w cA0 h0 q1 q2 q3 q4 q5 q6 q7) (wdF_s 13)) ?_
  refine L_dup (pc := 134) hY rfl dX6_init_134 ?_
  refine L_bipush (pc := 135) hY (nI 14) (by decide) dX6_init_135 ?_
  refine L_bipush (pc := 137) hY (oI (wdM 14)) (by decide +kernel) dX6_init_137 ?_
  refine L_cast (pc := 139) (i := 14) (y := oI (wdM 14)) hY 7 rfl rfl (by decide) (by decide) (by decide +kernel) dX6_init_139 ?_
  refine L_ws (ws' := cX6w cA0 h0 q1 q2 q3 q4 q5 q6 q7 (wdF 15)) (congrArg (cX6w cA0 h0 q1 q2 q3 q4 q5 q6 q7) (wdF_s 14)) ?_
  refine L_dup (pc := 140) hY rfl dX6_init_140 ?_
  refine L_bipush (pc := 141) hY (nI 15) (by decide) dX6_init_141 ?_
  refine L_bipush (pc := 143) hY (oI (wdM 15)) (by decide +kernel) dX6_init_143 ?_
  refine L_cast (pc := 145) (i := 15) (y := oI (wdM 15)) hY 7 rfl rfl (by decide) (by decide) (by decide +kernel) dX6_init_145 ?_
  refine L_ws (ws' := cX6w cA0 h0 q1 q2 q3 q4 q5 q6 q7 (wdF 16)) (congrArg (cX6w cA0 h0 q1 q2 q3 q4 q5 q6 q7) (wdF_s 15)) ?_
  refine L_dup (pc := 146) hY rfl dX6_init_146 ?_
  refine L_bipush (pc := 147) hY (nI 16) (by decide) dX6_init_147 ?_
  refine L_bipush (pc := 149) hY (oI (wdM 16)) (by decide +kernel) dX6_init_149 ?_
  refine L_cast (pc := 151) (i := 16) (y := oI (wdM 16)) hY 7 rfl rfl (by decide) (by decide) (by decide +kernel) dX6_init_151 ?_
  refine L_ws (ws' := cX6w cA0 h0 q1 q2 q3 q4 q5 q6 q7 (wdF 17)) (congrArg (cX6w cA0 h0 q1 q2 q3 q4 q5 q6 q7) (wdF_s 16)) ?_
  refine L_dup (pc := 152) hY rfl dX6_init_152 ?_
  refine L_bipush (pc := 153) hY (nI 17) (by decide) dX6_init_153 ?_
  refine L_bipush (pc := 155) hY (oI (wdM 17)) (by decide +kernel) dX6_init_155 ?_
  refine L_cast (pc := 157) (i := 17) (y := oI (wdM 17)) hY 7 rfl rfl (by decide) (by decide) (by decide +kernel) dX6_init_157 ?_
  refine L_ws (ws' := cX6w cA0 h0 q1 q2 q3 q4 q5 q6 q7 (wdF 18)) (congrArg (cX6w cA0 h0 q1 q2 q3 q4 q5 q6 q7) (wdF_s 17)) ?_
  refine L_dup (pc := 158) hY rfl dX6_init_158 ?_
  refine L_bipush (pc := 159) hY (nI 18) (by decide) dX6_init_159 ?_
  refine L_bipush (pc := 161) hY (oI (wdM 18)) (by decide +kernel) dX6_init_161 ?_
  refine L_cast (pc := 163) (i := 18) (y := oI (wdM 18)) hY 7 rfl rfl (by decide) (by decide) (by decide +kernel) dX6_init_163 ?_
  refine L_ws (ws' := cX6w cA0 h0 q1 q2 q3 q4 q5 q6 q7 (wdF 19)) (congrArg (cX6w cA0 h0 q1 q2 q3 q4 q5 q6 q7) (wdF_s 18)) ?_
  refine L_dup (pc := 164) hY rfl dX6_init_164 ?_
  refine L_bipush (pc := 165) hY (nI 19) (by decide) dX6_init_165 ?_
  refine L_bipush (pc := 167) hY (oI (wdM 19)) (by decide +kernel) dX6_init_167 ?_
  refine L_cast (pc := 169) (i := 19) (y := oI (wdM 19)) hY 7 rfl rfl (by decide) (by decide) (by decide +kernel) dX6_init_169 ?_
  refine L_ws (ws' := cX6w cA0 h0 q1 q2 q3 q4 q5 q6 q7 (wdF 20)) (congrArg (cX6w cA0 h0 q1 q2 q3 q4 q5 q6 q7) (wdF_s 19)) ?_
  refine L_dup (pc := 170) hY rfl dX6_init_170 ?_
  refine L_bipush (pc := 171) hY (nI 20) (by decide) dX6_init_171 ?_
  refine L_bipush (pc := 173) hY (oI (wdM 20)) (by decide +kernel) dX6_init_173 ?_
  refine L_cast (pc := 175) (i := 20) (y := oI (wdM 20)) hY 7 rfl rfl (by decide) (by decide) (by decide +kernel) dX6_init_175 ?_
  refine L_ws (ws' := cX6w cA0 h0 q1 q2 q3 q4 q5 q6 q7 (wdF 21)) (congrArg (cX6w cA0 h0 q1 q2 q3 q4 q5 q6 q7) (wdF_s 20)) ?_
  refine L_dup (pc := 176) hY rfl dX6_init_176 ?_
  refine L_bipush (pc := 177) hY (nI 21) (by decide) dX6_init_177 ?_
  refine L_bipush (pc := 179) hY (oI (wdM 21)) (by decide +kernel) dX6_init_179 ?_
  refine L_cast (pc := 181) (i := 21) (y := oI (wdM 21)) hY 7 rfl rfl (by decide) (by decide) (by decide +kernel) dX6_init_181 ?_
  refine L_ws (ws' := cX6w cA0 h0 q1 q2 q3 q4 q5 q6 q7 (wdF 22)) (congrArg (cX6w cA0 h0 q1 q2 q3 q4 q5 q6 q7) (wdF_s 21)) ?_
  refine L_dup (pc := 182) hY rfl dX6_init_182 ?_
  refine L_bipush (pc := 183) hY (nI 22) (by decide) dX6_init_183 ?_
  refine L_bipush (pc := 185) hY (oI (wdM 22)) (by decide +kernel) dX6_init_185 ?_
  refine L_cast (pc := 187) (i := 22) (y := oI (wdM 22)) hY 7 rfl rfl (by decide) (by decide) (by decide +kernel) dX6_init_187 ?_
  refine L_ws (ws' := cX6w cA0 h0 q1 q2 q3 q4 q5 q6 q7 (wdF 23)) (congrArg (cX6w cA0 h0 q1 q2 q3 q4 q5 q6 q7) (wdF_s 22)) ?_
  refine L_dup (pc := 188) hY rfl dX6_init_188 ?_
  refine L_bipush (pc := 189) hY (nI 23) (by decide) dX6_init_189 ?_
  refine L_bipush (pc := 191) hY (oI (wdM 23)) (by decide +kernel) dX6_init_191 ?_
  refine L_cast (pc := 193) (i := 23) (y := oI (wdM 23)) hY 7 rfl rfl (by decide) (by decide) (by decide +kernel) dX6_init_193 ?_
  refine L_ws (ws' := cX6w cA0 h0 q1 q2 q3 q4 q5 q6 q7 (wdF 24)) (congrArg (cX6w cA0 h0 q1 q2 q3 q4 q5 q6 q7) (wdF_s 23)) ?_
  refine L_dup (pc := 194) hY rfl dX6_init_194 ?_
  refine L_bipush (pc := 195) hY (nI 24) (by decide) dX6_init_195 ?_
  refine L_bipush (pc := 197) hY (oI (wdM 24)) (by decide +kernel) dX6_init_197 ?_
  refine L_cast (pc := 199) (i := 24) (y := oI (wdM 24)) hY 7 rfl rfl (by decide) (by decide) (by decide +kernel) dX6_init_199 ?_
  refine L_ws (ws' := cX6w cA0 h0 q1 q2 q3 q4 q5 q6 q7 (wdF 25)) (congrArg (cX6w cA0 h0 q1 q2 q3 q4 q5 q6 q7) (wdF_s 24)) ?_
  refine L_dup (pc := 200) hY rfl dX6_init_200 ?_
  refine L_bipush (pc := 201) hY (nI 25) (by decide) dX6_init_201 ?_
  refine L_bipush (pc := 203) hY (oI (wdM 25)) (by decide +kernel) dX6_init_203 ?_
  refine L_cast (pc := 205) (i := 25) (y := oI (wdM 25)) hY 7 rfl rfl (by decide) (by decide) (by decide +kernel) dX6_init_205 ?_
  refine L_ws (ws' := cX6w cA0 h0 q1 q2 q3 q4 q5 q6 q7 (wdF 26)) (congrArg (cX6w cA0 h0 q1 q2 q3 q4 q5 q6 q7) (wdF_s 25)) ?_
  refine L_dup (pc := 206) hY rfl dX6_init_206 ?_
  refine L_bipush (pc := 207) hY (nI 26) (by decide) dX6_init_207 ?_
  refine L_bipush (pc := 209) hY (oI (wdM 26)) (by decide +kernel) dX6_init_209 ?_
  refine L_cast (pc := 211) (i := 26) (y := oI (wdM 26)) hY 7 rfl rfl (by decide) (by decide) (by decide +kernel) dX6_init_211 ?_
  refine L_ws (ws' := cX6w cA0 h0 q1 q2 q3 q4 q5 q6 q7 (wdF 27)) (congrArg (cX6w cA0 h0 q1 q2 q3 q4 q5 q6 q7) (wdF_s 26)) ?_
  refine L_dup (pc := 212) hY rfl dX6_init_212 ?_
  refine L_bipush (pc := 213) hY (nI 27) (by decide) dX6_init_213 ?_
  refine L_bipush (pc := 215) hY (oI (wdM 27)) (by decide +kernel) dX6_init_215 ?_
  refine L_cast (pc := 217) (i := 27) (y := oI (wdM 27)) hY 7 rfl rfl (by decide) (by decide) (by decide +kernel) dX6_init_217 ?_
  refine L_ws (ws' := cX6w cA0 h0 q1 q2 q3 q4 q5 q6 q7 (wdF 28)) (congrArg (cX6w cA0 h0 q1 q2 q3 q4 q5 q6 q7) (wdF_s 27)) ?_
  refine L_dup (pc := 218) hY rfl dX6_init_218 ?_
  refine L_bipush (pc := 219) hY (nI 28) (by decide) dX6_init_219 ?_
  refine L_bipush (pc := 221) hY (oI (wdM 28)) (by decide +kernel) dX6_init_221 ?_
  refine L_cast (pc := 223) (i := 28) (y := oI (wdM 28)) hY 7 rfl rfl (by decide) (by decide) (by decide +kernel) dX6_init_223 ?_
  refine L_ws (ws' := cX6w cA0 h0 q1 q2 q3 q4 q5 q6 q7 (wdF 29)) (congrArg (cX6w cA0 h0 q1 q2 q3 q4 q5 q6 q7) (wdF_s 28)) ?_
  refine L_dup (pc := 224) hY rfl dX6_init_224 ?_
  refine L_bipush (pc := 225) hY (nI 29) (by decide) dX6_init_225 ?_
  refine L_bipush (pc := 227) hY (oI (wdM 29)) (by decide +kernel) dX6_init_227 ?_
  refine L_cast (pc := 229) (i := 29) (y := oI (wdM 29)) hY 7 rfl rfl (by decide) (by decide) (by decide +kernel) dX6_init_229 ?_
  refine L_ws (ws' := cX6w cA0 h0 q1 q2 q3 q4 q5 q6 q7 (wdF 30)) (congrArg (cX6w cA0 h0 q1 q2 q3 q4 q5 q6 q7) (wdF_s 29)) ?_
  refine L_dup (pc := 230) hY rfl dX6_init_230 ?_
  refine L_bipush (pc := 231) hY (nI 30) (by decide) dX6_init_231 ?_
  refine L_bipush (pc := 233) hY (oI (wdM 30)) (by decide +kernel) dX6_init_233 ?_
  refine L_cast (pc := 235) (i := 30) (y := oI (wdM 30)) hY 7 rfl rfl (by decide) (by decide) (by decide +kernel) dX6_init_235 ?_
  refine L_ws (ws' := cX6w cA0 h0 q1 q2 q3 q4 q5 q6 q7 (wdF 31)) (congrArg (cX6w cA0 h0 q1 q2 q3 q4 q5 q6 q7) (wdF_s 30)) ?_
  refine L_dup (pc := 236) hY rfl dX6_init_236 ?_
  refine L_bipush (pc := 237) hY (nI 31) (by decide) dX6_init_237 ?_
  refine L_bipush (pc := 239) hY (oI (wdM 31)) (by decide +kernel) dX6_init_239 ?_
  refine L_cast (pc := 241) (i := 31) (y := oI (wdM 31)) hY 7 rfl rfl (by decide) (by decide) (by decide +kernel) dX6_init_241 ?_
  refine L_ws (ws' := cX6w cA0 h0 q1 q2 q3 q4 q5 q6 q7 (wdF 32)) (congrArg (cX6w cA0 h0 q1 q2 q3 q4 q5 q6 q7) (wdF_s 31)) ?_
  refine L_dup (pc := 242) hY rfl dX6_init_242 ?_
  refine L_bipush (pc := 243) hY (nI 32) (by decide) dX6_init_243 ?_
  refine L_bipush (pc := 245) hY (oI (wdM 32)) (by decide +kernel) dX6_init_245 ?_
  refine L_cast (pc := 247) (i := 32) (y := oI (wdM 32)) hY 7 rfl rfl (by decide) (by decide) (by decide +kernel) dX6_init_247 ?_
  refine L_ws (ws' := cX6w cA0 h0 q1 q2 q3 q4 q5 q6 q7 (wdF 33)) (congrArg (cX6w cA0 h0 q1 q2 q3 q4 q5 q6 q7) (wdF_s 32)) ?_
  refine L_dup (pc := 248) hY rfl dX6_init_248 ?_
  refine L_bipush (pc := 249) hY (nI 33) (by decide) dX6_init_249 ?_
  refine L_bipush (pc := 251) hY (oI (wdM 33)) (by decide +kernel) dX6_init_251 ?_
  refine L_cast (pc := 253) (i := 33) (y := oI (wdM 33)) hY 7 rfl rfl (by decide) (by decide) (by decide +kernel) dX6_init_253 ?_
  refine L_ws (ws' := cX6w cA0 h0 q1 q2 q3 q4 q5 q6 q7 (wdF 34)) (congrArg (cX6w cA0 h0 q1 q2 q3 q4 q5 q6 q7) (wdF_s 33)) ?_
  refine L_dup (pc := 254) hY rfl dX6_init_254 ?_
  refine L_bipush (pc := 255) hY (nI 34) (by decide) dX6_init_255 ?_
  refine L_bipush (pc := 257) hY (oI (wdM 34)) (by decide +kernel) dX6_init_257 ?_
  refine L_cast (pc := 259) (i := 34) (y := oI (wdM 34)) hY 7 rfl rfl (by decide) (by decide) (by decide +kernel) dX6_init_259 ?_
  refine L_ws (ws' := cX6w cA0 h0 q1 q2 q3 q4 q5 q6 q7 (wdF 35)) (congrArg (cX6w cA0 h0 q1 q2 q3 q4 q5 q6 q7) (wdF_s 34)) ?_
  refine L_dup (pc := 260) hY rfl dX6_init_260 ?_
  refine L_bipush (pc := 261) hY (nI 35) (by decide) dX6_init_261 ?_
  refine L_bipush (pc := 263) hY (oI (wdM 35)) (by decide +kernel) dX6_init_263 ?_
  refine L_cast (pc := 265) (i := 35) (y := oI (wdM 35)) hY 7 rfl rfl (by decide) (by decide) (by decide +kernel) dX6_init_265 ?_
  refine L_ws (ws' := cX6w cA0 h0 q1 q2 q3 q4 q5 q6 q7 (wdF 36)) (congrArg (cX6w cA0 h0 q1 q2 q3 q4 q5 q6 q7) (wdF_s 35)) ?_
  refine L_dup (pc := 266) hY rfl dX6_init_266 ?_
  refine L_bipush (pc := 267) hY (nI 36) (by decide) dX6_init_267 ?_
  refine L_bipush (pc := 269) hY (oI (wdM 36)) (by decide +kernel) dX6_init_269 ?_
  refine L_cast (pc := 271) (i := 36) (y := oI (wdM 36)) hY 7 rfl rfl (by decide) (by decide) (by decide +kernel) dX6_init_271 ?_
  refine L_ws (ws' := cX6w cA0 h0 q1 q2 q3 q4 q5 q6 q7 (wdF 37)) (congrArg (cX6w cA0 h0 q1 q2 q3 q4 q5 q6 q7) (wdF_s 36)) ?_
  refine L_dup (pc := 272) hY rfl dX6_init_272 ?_
  refine L_bipush (pc := 273) hY (nI 37) (by decide) dX6_init_273 ?_
  refine L_bipush (pc := 275) hY (oI (wdM 37)) (by decide +kernel) dX6_init_275 ?_
  refine L_cast (pc := 277) (i := 37) (y := oI (wdM 37)) hY 7 rfl rfl (by decide) (by decide) (by decide +kernel) dX6_init_277 ?_
  refine L_ws (ws' := cX6w cA0 h0 q1 q2 q3 q4 q5 q6 q7 (wdF 38)) (congrArg (cX6w cA0 h0 q1 q2 q3 q4 q5 q6 q7) (wdF_s 37)) ?_
  refine L_dup (pc := 278) hY rfl dX6_init_278 ?_
  refine L_bipush (pc := 279) hY (nI 38) (by decide) dX6_init_279 ?_
  refine L_bipush (pc := 281) hY (oI (wdM 38)) (by decide +kernel) dX6_init_281 ?_
  refine L_cast (pc := 283) (i := 38) (y := oI (wdM 38)) hY 7 rfl rfl (by decide) (by decide) (by decide +kernel) dX6_init_283 ?_
  refine L_ws (ws' := cX6w cA0 h0 q1 q2 q3 q4 q5 q6 q7 (wdF 39)) (congrArg (cX6w cA0 h0 q1 q2 q3 q4 q5 q6 q7) (wdF_s 38)) ?_
  refine L_dup (pc := 284) hY rfl dX6_init_284 ?_
  refine L_bipush (pc := 285) hY (nI 39) (by decide) dX6_init_285 ?_
  refine L_bipush (pc := 287) hY (oI (wdM 39)) (by decide +kernel) dX6_init_287 ?_
  refine L_cast (pc := 289) (i := 39) (y := oI (wdM 39)) hY 7 rfl rfl (by decide) (by decide) (by decide +kernel) dX6_init_289 ?_
  refine L_ws (ws' := cX6w cA0 h0 q1 q2 q3 q4 q5 q6 q7 (wdF 40)) (congrArg (cX6w cA0 h0 q1 q2 q3 q4 q5 q6 q7) (wdF_s 39)) ?_
  refine L_dup (pc := 290) hY rfl dX6_init_290 ?_
  refine L_bipush (pc := 291) hY (nI 40) (by decide) dX6_init_291 ?_
  refine L_bipush (pc := 293) hY (oI (wdM 40)) (by decide +kernel) dX6_init_293 ?_
  refine L_cast (pc := 295) (i := 40) (y := oI (wdM 40)) hY 7 rfl rfl (by decide) (by decide) (by decide +kernel) dX6_init_295 ?_
  refine L_ws (ws' := cX6w cA0 h0 q1 q2 q3 q4 q5 q6 q7 (wdF 41)) (congrArg (cX6w cA0 h0 q1 q2 q3 q4 q5 q6 q7) (wdF_s 40)) ?_
  refine L_dup (pc := 296) hY rfl dX6_init_296 ?_
  refine L_bipush (pc := 297) hY (nI 41) (by decide) dX6_init_297 ?_
  refine L_bipush (pc := 299) hY (oI (wdM 41)) (by decide +kernel) dX6_init_299 ?_
  refine L_cast (pc := 301) (i := 41) (y := oI (wdM 41)) hY 7 rfl rfl (by decide) (by decide) (by decide +kernel) dX6_init_301 ?_
  refine L_ws (ws' := cX6w cA0 h0 q1 q2 q3 q4 q5 q6 q7 (wdF 42)) (congrArg (cX6w cA0 h0 q1 q2 q3 q4 q5 q6 q7) (wdF_s 41)) ?_
  refine L_dup (pc := 302) hY rfl dX6_init_302 ?_
  refine L_bipush (pc := 303) hY (nI 42) (by decide) dX6_init_303 ?_
  refine L_bipush (pc := 305) hY (oI (wdM 42)) (by decide +kernel) dX6_init_305 ?_
  refine L_cast (pc := 307) (i := 42) (y := oI (wdM 42)) hY 7 rfl rfl (by decide) (by decide) (by decide +kernel) dX6_init_307 ?_
  refine L_ws (ws' := cX6w cA0 h0 q1 q2 q3 q4 q5 q6 q7 (wdF 43)) (congrArg (cX6w cA0 h0 q1 q2 q3 q4 q5 q6 q7) (wdF_s 42)) ?_
  refine L_dup (pc := 308) hY rfl dX6_init_308 ?_
  refine L_bipush (pc := 309) hY (nI 43) (by decide) dX6_init_309 ?_
  refine L_bipush (pc := 311) hY (oI (wdM 43)) (by decide +kernel) dX6_init_311 ?_
  refine L_cast (pc := 313) (i := 43) (y := oI (wdM 43)) hY 7 rfl rfl (by decide) (by decide) (by decide +kernel) dX6_init_313 ?_
  refine L_ws (ws' := cX6w cA0 h0 q1 q2 q3 q4 q5 q6 q7 (wdF 44)) (congrArg (cX6w cA0 h0 q1 q2 q3 q4 q5 q6 q7) (wdF_s 43)) ?_
  refine L_dup (pc := 314) hY rfl dX6_init_314 ?_
  refine L_bipush (pc := 315) hY (nI 44) (by decide) dX6_init_315 ?_
  refine L_bipush (pc := 317) hY (oI (wdM 44)) (by decide +kernel) dX6_init_317 ?_
  refine L_cast (pc := 319) (i := 44) (y := oI (wdM 44)) hY 7 rfl rfl (by decide) (by decide) (by decide +kernel) dX6_init_319 ?_
  refine L_ws (ws' := cX6w cA0 h0 q1 q2 q3 q4 q5 q6 q7 (wdF 45)) (congrArg (cX6w cA0 h0 q1 q2 q3 q4 q5 q6 q7) (wdF_s 44)) ?_
  refine L_dup (pc := 320) hY rfl dX6_init_320 ?_
  refine L_bipush (pc := 321) hY (nI 45) (by decide) dX6_init_321 ?_
  refine L_bipush (pc := 323) hY (oI (wdM 45)) (by decide +kernel) dX6_init_323 ?_
  refine L_cast (pc := 325) (i := 45) (y := oI (wdM 45)) hY 7 rfl rfl (by decide) (by decide) (by decide +kernel) dX6_init_325 ?_
  refine L_ws (ws' := cX6w cA0 h0 q1 q2 q3 q4 q5 q6 q7 (wdF 46)) (congrArg (cX6w cA0 h0 q1 q2 q3 q4 q5 q6 q7) (wdF_s 45)) ?_
  refine L_dup (pc := 326) hY rfl dX6_init_326 ?_
  refine L_bipush (pc := 327) hY (nI 46) (by decide) dX6_init_327 ?_
  refine L_bipush (pc := 329) hY (oI (wdM 46)) (by decide +kernel) dX6_init_329 ?_
  refine L_cast (pc := 331) (i := 46) (y := oI (wdM 46)) hY 7 rfl rfl (by decide) (by decide) (by decide +kernel) dX6_init_331 ?_
  refine L_ws (ws' := cX6w cA0 h0 q1 q2 q3 q4 q5 q6 q7 (wdF 47)) (congrArg (cX6w cA0 h0 q1 q2 q3 q4 q5 q6 q7) (wdF_s 46)) ?_
  refine L_dup (pc := 332) hY rfl dX6_init_332 ?_
  refine L_bipush (pc := 333) hY (nI 47) (by decide) dX6_init_333 ?_
  refine L_bipush (pc := 335) hY (oI (wdM 47)) (by decide +kernel) dX6_init_335 ?_
  refine L_cast (pc := 337) (i := 47) (y := oI (wdM 47)) hY 7 rfl rfl (by decide) (by decide) (by decide +kernel) dX6_init_337 ?_
  refine L_ws (ws' := cX6w cA0 h0 q1 q2 q3 q4 q5 q6 q7 (wdF 48)) (congrArg (cX6w cA0 h0 q1 q2 q3 q4 q5 q6 q7) (wdF_s 47)) ?_
  refine L_dup (pc := 338) hY rfl dX6_init_338 ?_
  refine L_bipush (pc := 339) hY (nI 48) (by decide) dX6_init_339 ?_
  refine L_bipush (pc := 341) hY (oI (wdM 48)) (by decide +kernel) dX6_init_341 ?_
  refine L_cast (pc := 343) (i := 48) (y := oI (wdM 48)) hY 7 rfl rfl (by decide) (by decide) (by decide +kernel) dX6_init_343 ?_
  refine L_ws (ws' := cX6w cA0 h0 q1 q2 q3 q4 q5 q6 q7 (wdF 49)) (congrArg (cX6w cA0 h0 q1 q2 q3 q4 q5 q6 q7) (wdF_s 48)) ?_
  refine L_dup (pc := 344) hY rfl dX6_init_344 ?_
  refine L_bipush (pc := 345) hY (nI 49) (by decide) dX6_init_345 ?_
  refine L_bipush (pc := 347) hY (oI (wdM 49)) (by decide +kernel) dX6_init_347 ?_
  refine L_cast (pc := 349) (i := 49) (y := oI (wdM 49)) hY 7 rfl rfl (by decide) (by decide) (by decide +kernel) dX6_init_349 ?_
  refine L_ws (ws' := cX6w cA0 h0 q1 q2 q3 q4 q5 q6 q7 (wdF 50)) (congrArg (cX6w cA0 h0 q1 q2 q3 q4 q5 q6 q7) (wdF_s 49)) ?_
  refine L_dup (pc := 350) hY rfl dX6_init_350 ?_
  refine L_bipush (pc := 351) hY (nI 50) (by decide) dX6_init_351 ?_
  refine L_bipush (pc := 353) hY (oI (wdM 50)) (by decide +kernel) dX6_init_353 ?_
  refine L_cast (pc := 355) (i := 50) (y := oI (wdM 50)) hY 7 rfl rfl (by decide) (by decide) (by decide +kernel) dX6_init_355 ?_
  refine L_ws (ws' := cX6w cA0 h0 q1 q2 q3 q4 q5 q6 q7 (wdF 51)) (congrArg (cX6w cA0 h0 q1 q2 q3 q4 q5 q6 q7) (wdF_s 50)) ?_
  refine L_dup (pc := 356) hY rfl dX6_init_356 ?_
  refine L_bipush (pc := 357) hY (nI 51) (by decide) dX6_init_357 ?_
  refine L_bipush (pc := 359) hY (oI (wdM 51)) (by decide +kernel) dX6_init_359 ?_
  refine L_cast (pc := 361) (i := 51) (y := oI (wdM 51)) hY 7 rfl rfl (by decide) (by decide) (by decide +kernel) dX6_init_361 ?_
  refine L_ws (ws' := cX6w cA0 h0 q1 q2 q3 q4 q5 q6 q7 (wdF 52)) (congrArg (cX6w cA0 h0 q1 q2 q3 q4 q5 q6 q7) (wdF_s 51)) ?_
  refine L_dup (pc := 362) hY rfl dX6_init_362 ?_
  refine L_bipush (pc := 363) hY (nI 52) (by decide) dX6_init_363 ?_
  refine L_bipush (pc := 365) hY (oI (wdM 52)) (by decide +kernel) dX6_init_365 ?_
  refine L_cast (pc := 367) (i := 52) (y := oI (wdM 52)) hY 7 rfl rfl (by decide) (by decide) (by decide +kernel) dX6_init_367 ?_
  refine L_ws (ws' := cX6w cA0 h0 q1 q2 q3 q4 q5 q6 q7 (wdF 53)) (congrArg (cX6w cA0 h0 q1 q2 q3 q4 q5 q6 q7) (wdF_s 52)) ?_
  refine L_dup (pc := 368) hY rfl dX6_init_368 ?_
  refine L_bipush (pc := 369) hY (nI 53) (by decide) dX6_init_369 ?_
  refine L_bipush (pc := 371) hY (oI (wdM 53)) (by decide +kernel) dX6_init_371 ?_
  refine L_cast (pc := 373) (i := 53) (y := oI (wdM 53)) hY 7 rfl rfl (by decide) (by decide) (by decide +kernel) dX6_init_373 ?_
  refine L_ws (ws' := cX6w cA0 h0 q1 q2 q3 q4 q5 q6 q7 (wdF 54)) (congrArg (cX6w cA0 h0 q1 q2 q3 q4 q5 q6 q7) (wdF_s 53)) ?_
  refine L_putF (pc := 374) hY hI (C := RX6) (T := TX6) (N := 19) rfl in_X6 tyX6 tyX6_ok nmX6 17 (by decide) w_734 rfl rfl (ty := .array .char) rfl rfl rfl (Nat.le_of_ble_eq_true rfl) dX6_init_374 ?_
  refine L_ws (ws' := [(h0, .inr (6, [.ref q1, .ref q2, .ref q3, .int 0, .ref q4, .ref q5, .int 0, .int 0, .ref q6, .int 0, .int 0, .int 0, .int 0, .int 0, .int 0, .int 0, .int 0, .ref q7, .int 0])), (q1, .inl (cA0 3, 3120, .inr (.inl (fun _ => 0)))), (q2, .inl (cA0 2, 3, .inl (fun _ => 0))), (q3, .inl (cA0 2, 120, .inl (fun _ => 0))), (q4, .inl (cA0 2, 10, .inl (fun _ => 0))), (q5, .inl (cA0 2, 10, .inl (fun _ => 0))), (q6, .inl (cA0 2, 4, .inl (fun _ => 0))), (q7, .inl (cA0 1, 54, .inl (wdF 54)))]) rfl ?_
  refine L_widen (k2 := 7) (j2 := 3321) (by decide) (by decide) ?_
  exact L_vret (pc := 377) hY hR ⟨q1, q2, q3, q4, q5, q6, q7, rfl⟩ dX6_init_377
