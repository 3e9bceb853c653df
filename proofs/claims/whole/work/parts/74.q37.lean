set_option maxRecDepth 100000 in
theorem wd_k0 : Cond.classLink RX5 9 RX0 ∈ tblG := inG (List.mem_of_getElem? (i := 90) rfl) rfl
set_option maxRecDepth 100000 in
theorem wd_i0 : Cond.instantiable RX0 2 ∈ tblG := inG (List.mem_of_getElem? (i := 92) rfl) rfl
set_option maxRecDepth 100000 in
theorem wd_z0 : Cond.initialized RX0 ∈ tblG := inG (List.mem_of_getElem? (i := 68) rfl) rfl
set_option maxRecDepth 100000 in
theorem wd_m0 : Cond.instanceMethod yX0_init ∈ tblG := inG (List.mem_of_getElem? (i := 94) rfl) rfl
set_option maxRecDepth 100000 in
theorem wd_c0 : Cond.code yX0_init cX0_init 1 none ∈ tblG := inG (List.mem_of_getElem? (i := 95) rfl) rfl
set_option maxRecDepth 100000 in
theorem wd_l0 : Cond.methodLink RX5 18 yX0_init ∈ tblG := inG (List.mem_of_getElem? (i := 93) rfl) rfl
set_option maxRecDepth 100000 in
theorem wd_k1 : Cond.classLink RX5 23 RX1 ∈ tblG := inG (List.mem_of_getElem? (i := 107) rfl) rfl
set_option maxRecDepth 100000 in
theorem wd_i1 : Cond.instantiable RX1 8 ∈ tblG := inG (List.mem_of_getElem? (i := 108) rfl) rfl
set_option maxRecDepth 100000 in
theorem wd_z1 : Cond.initialized RX1 ∈ tblG := inG (List.mem_of_getElem? (i := 69) rfl) rfl
set_option maxRecDepth 100000 in
theorem wd_m1 : Cond.instanceMethod yX1_init ∈ tblG := inG (List.mem_of_getElem? (i := 110) rfl) rfl
set_option maxRecDepth 100000 in
theorem wd_c1 : Cond.code yX1_init cX1_init 1 none ∈ tblG := inG (List.mem_of_getElem? (i := 111) rfl) rfl
set_option maxRecDepth 100000 in
theorem wd_l1 : Cond.methodLink RX5 25 yX1_init ∈ tblG := inG (List.mem_of_getElem? (i := 109) rfl) rfl
set_option maxRecDepth 100000 in
theorem wd_k2 : Cond.classLink RX5 30 RX2 ∈ tblG := inG (List.mem_of_getElem? (i := 140) rfl) rfl
set_option maxRecDepth 100000 in
theorem wd_i2 : Cond.instantiable RX2 3 ∈ tblG := inG (List.mem_of_getElem? (i := 141) rfl) rfl
set_option maxRecDepth 100000 in
theorem wd_z2 : Cond.initialized RX2 ∈ tblG := inG (List.mem_of_getElem? (i := 70) rfl) rfl
set_option maxRecDepth 100000 in
theorem wd_m2 : Cond.instanceMethod yX2_init ∈ tblG := inG (List.mem_of_getElem? (i := 143) rfl) rfl
set_option maxRecDepth 100000 in
theorem wd_c2 : Cond.code yX2_init cX2_init 1 none ∈ tblG := inG (List.mem_of_getElem? (i := 144) rfl) rfl
set_option maxRecDepth 100000 in
theorem wd_l2 : Cond.methodLink RX5 32 yX2_init ∈ tblG := inG (List.mem_of_getElem? (i := 142) rfl) rfl
set_option maxRecDepth 100000 in
theorem wd_k3 : Cond.classLink RX5 44 RX3 ∈ tblG := inG (List.mem_of_getElem? (i := 191) rfl) rfl
set_option maxRecDepth 100000 in
theorem wd_i3 : Cond.instantiable RX3 4 ∈ tblG := inG (List.mem_of_getElem? (i := 192) rfl) rfl
set_option maxRecDepth 100000 in
theorem wd_z3 : Cond.initialized RX3 ∈ tblG := inG (List.mem_of_getElem? (i := 72) rfl) rfl
set_option maxRecDepth 100000 in
theorem wd_m3 : Cond.instanceMethod yX3_init ∈ tblG := inG (List.mem_of_getElem? (i := 194) rfl) rfl
set_option maxRecDepth 100000 in
theorem wd_c3 : Cond.code yX3_init cX3_init 1 none ∈ tblG := inG (List.mem_of_getElem? (i := 195) rfl) rfl
set_option maxRecDepth 100000 in
theorem wd_k4 : Cond.classLink RX5 37 RX4 ∈ tblG := inG (List.mem_of_getElem? (i := 157) rfl) rfl
set_option maxRecDepth 100000 in
theorem wd_i4 : Cond.instantiable RX4 8 ∈ tblG := inG (List.mem_of_getElem? (i := 158) rfl) rfl
set_option maxRecDepth 100000 in
theorem wd_z4 : Cond.initialized RX4 ∈ tblG := inG (List.mem_of_getElem? (i := 71) rfl) rfl
set_option maxRecDepth 100000 in
theorem wd_m4 : Cond.instanceMethod yX4_init ∈ tblG := inG (List.mem_of_getElem? (i := 160) rfl) rfl
set_option maxRecDepth 100000 in
theorem wd_c4 : Cond.code yX4_init cX4_init 1 none ∈ tblG := inG (List.mem_of_getElem? (i := 161) rfl) rfl
set_option maxRecDepth 100000 in
theorem wd_l4 : Cond.methodLink RX5 39 yX4_init ∈ tblG := inG (List.mem_of_getElem? (i := 159) rfl) rfl
set_option maxRecDepth 100000 in
theorem wd_k5 : Cond.classLink RL 7 RX5 ∈ tblG := inG (List.mem_of_getElem? (i := 82) rfl) rfl
set_option maxRecDepth 100000 in
theorem wd_i5 : Cond.instantiable RX5 8 ∈ tblG := inG (List.mem_of_getElem? (i := 83) rfl) rfl
set_option maxRecDepth 100000 in
theorem wd_z5 : Cond.initialized RX5 ∈ tblG := inG (List.mem_of_getElem? (i := 67) rfl) rfl
set_option maxRecDepth 100000 in
theorem wd_m5 : Cond.instanceMethod yX5_init ∈ tblG := inG (List.mem_of_getElem? (i := 85) rfl) rfl
set_option maxRecDepth 100000 in
theorem wd_c5 : Cond.code yX5_init cX5_init 2 none ∈ tblG := inG (List.mem_of_getElem? (i := 86) rfl) rfl
set_option maxRecDepth 100000 in
theorem wd_l5 : Cond.methodLink RL 9 yX5_init ∈ tblG := inG (List.mem_of_getElem? (i := 84) rfl) rfl
set_option maxRecDepth 100000 in
theorem wd_k6 : Cond.classLink RL 10 RX6 ∈ tblG := inG (List.mem_of_getElem? (i := 711) rfl) rfl
set_option maxRecDepth 100000 in
theorem wd_i6 : Cond.instantiable RX6 19 ∈ tblG := inG (List.mem_of_getElem? (i := 712) rfl) rfl
set_option maxRecDepth 100000 in
theorem wd_z6 : Cond.initialized RX6 ∈ tblG := inG (List.mem_of_getElem? (i := 73) rfl) rfl
set_option maxRecDepth 100000 in
theorem wd_m6 : Cond.instanceMethod yX6_init ∈ tblG := inG (List.mem_of_getElem? (i := 714) rfl) rfl
set_option maxRecDepth 100000 in
theorem wd_c6 : Cond.code yX6_init cX6_init 1 none ∈ tblG := inG (List.mem_of_getElem? (i := 715) rfl) rfl
set_option maxRecDepth 100000 in
theorem wd_l6 : Cond.methodLink RL 12 yX6_init ∈ tblG := inG (List.mem_of_getElem? (i := 713) rfl) rfl
theorem row_eq {cA : ClassId} {f f2 : Nat → Option Nat} (h : ∀ i, i < 5 → f i = f2 i) : vp_cell cA (5, .inr (.inr (.inr (.inr f)))) = vp_cell cA (5, .inr (.inr (.inr (.inr f2)))) := by
  rw [vp_cell_q, vp_cell_q]
  unfold arrV
  congr 2
  funext j
  show va_rf (f j.val) = va_rf (f2 j.val)
  rw [h j.val j.isLt]
theorem L_rw2 {G : va_G} {cA0 : Nat → ClassId} {X : Cx} {nL kc js : Nat} {pc : Nat} {lv : Lv} {st : List Value} {o0 : Nat × va_E} {ra rt : Nat} {fa fa2 ft ft2 : Nat → Option Nat} {tl : va_W} (h1 : ∀ i, i < 5 → fa i = fa2 i) (h2 : ∀ i, i < 5 → ft i = ft2 i) (kk : Vl G X nL kc js (o0 :: (ra, .inl (cA0 4, 5, .inr (.inr (.inr (.inr (fa2)))))) :: (rt, .inl (cA0 4, 5, .inr (.inr (.inr (.inr (ft2)))))) :: tl) pc lv st) : Vl G X nL kc js (o0 :: (ra, .inl (cA0 4, 5, .inr (.inr (.inr (.inr (fa)))))) :: (rt, .inl (cA0 4, 5, .inr (.inr (.inr (.inr (ft)))))) :: tl) pc lv st := by
  obtain ⟨p, l, e, R, s, m, args, below, meth, c, cells, slots, Q, A⟩ := X
  intro H locs ls hP hD hS hl
  refine kk H locs ls (fun k q hk => ?_) ?_ hS hl
  · match k, hk with
    | 0, hk => exact hP 0 q hk
    | 1, hk =>
      cases hk
      have h3 := hP 1 _ rfl
      show H[ra]? = some (vp_cell _ _)
      rw [← row_eq h1]; exact h3
    | 2, hk =>
      cases hk
      have h3 := hP 2 _ rfl
      show H[rt]? = some (vp_cell _ _)
      rw [← row_eq h2]; exact h3
    | k + 3, hk => exact hP (k + 3) q hk
  · exact (hD.set (p := 1) (e := .inl (cA0 4, 5, .inr (.inr (.inr (.inr (fa2)))))) rfl).set (p := 2) (e := .inl (cA0 4, 5, .inr (.inr (.inr (.inr (ft2)))))) rfl
set_option maxRecDepth 100000 in
set_option maxHeartbeats 4000000 in
theorem X5_it {G : va_G} {cA0 : Nat → ClassId} {X : Cx} {ce sl : Nat} (hY : Aml G cA0 X cX5_init RX5 2 2 40 ce sl) {h0 ra rt : Nat} (i : Nat) {kc js : Nat} (hi : i < 5) (hce : kc + 6 ≤ ce) (hsl : js + 484 ≤ sl) {fa ft : Nat → Option Nat} {tl : va_W} (kk : ∀ q1 w1 e1 q2 w2 e2 : Nat, Vl G X 2 (kc + 6) (js + 484) ((h0, .inr (5, [.ref ra, .ref rt, .null, .null, .null, .null, .null, .null])) :: (ra, .inl (cA0 4, 5, .inr (.inr (.inr (.inr (va_up fa i (some q1))))))) :: (rt, .inl (cA0 4, 5, .inr (.inr (.inr (.inr (va_up ft i (some q2))))))) :: ((tl ++ wX0 cA0 q1 w1 e1) ++ wX0 cA0 q2 w2 e2)) 22 [(0, some (.ref h0)), (1, some (.int (nI (i + 1))))] []) : Vl G X 2 kc js ((h0, .inr (5, [.ref ra, .ref rt, .null, .null, .null, .null, .null, .null])) :: (ra, .inl (cA0 4, 5, .inr (.inr (.inr (.inr (fa)))))) :: (rt, .inl (cA0 4, 5, .inr (.inr (.inr (.inr (ft)))))) :: tl) 22 [(0, some (.ref h0)), (1, some (.int (nI i)))] [] := by
  refine L_iload_n (pc := 22) (j := 1) hY 1 rfl rfl dX5_init_22 ?_
  refine L_iconst (pc := 23) hY 5 (by decide) dX5_init_23 ?_
  refine L_icmp_ge (pc := 24) (tgt := 59) hY dX5_init_24 (by decide) (fun h5 => ?_) (fun h5 => ?_)
  · exfalso
    rcases (show i = 0 ∨ i = 1 ∨ i = 2 ∨ i = 3 ∨ i = 4 by omega) with rfl | rfl | rfl | rfl | rfl <;> exact absurd h5 (by decide)
  refine L_aload_n (pc := 27) hY 0 rfl rfl dX5_init_27 ?_
  refine L_get (pc := 28) hY 0 rfl (C := RX5) (T := TX5) (N := 8) rfl in_X5 0 (by decide) w_213 rfl dX5_init_28 ?_
  refine L_iload_n (pc := 31) (j := 1) hY 1 rfl rfl dX5_init_31 ?_
  refine L_new (pc := 32) (C := RX0) (T := TX0) (N := 2) (ci := 0) (fs := [.null, .null]) hY wd_k0 wd_i0 wd_z0 in_X0 tyX0 tyX0_ok rfl (fun j hj => match j, hj with | 0, _ => rfl | 1, _ => rfl | n9 + 2, h9 => absurd h9 (by omega)) (by omega) (by omega) dX5_init_32 (fun q1 => ?_)
  refine L_dup (pc := 35) hY rfl dX5_init_35 ?_
  refine L_cI (pc := 36) hY (n_X0 G cA0 _) wd_l0 wd_m0 wd_z0 wd_c0 rfl (by decide +kernel) (by decide) (by decide) (by omega) (by omega) (Nat.le_of_ble_eq_true rfl) dX5_init_36 (fun wq hwq => ?_)
  obtain ⟨w1, e1, rfl⟩ := hwq
  refine L_ws (ws' := (h0, .inr (5, [.ref ra, .ref rt, .null, .null, .null, .null, .null, .null])) :: (ra, .inl (cA0 4, 5, .inr (.inr (.inr (.inr (fa)))))) :: (rt, .inl (cA0 4, 5, .inr (.inr (.inr (.inr (ft)))))) :: (tl ++ wX0 cA0 q1 w1 e1)) rfl ?_
  refine L_aast (pc := 39) (i := i) (vs := [.ref w1, .ref e1]) hY 1 rfl (List.mem_cons_of_mem _ (List.mem_cons_of_mem _ (List.mem_cons_of_mem _ (List.mem_append_right _ List.mem_cons_self)))) rfl hi (by decide) dX5_init_39 ?_
  refine L_ws (ws' := (h0, .inr (5, [.ref ra, .ref rt, .null, .null, .null, .null, .null, .null])) :: (ra, .inl (cA0 4, 5, .inr (.inr (.inr (.inr (va_up fa i (some q1))))))) :: (rt, .inl (cA0 4, 5, .inr (.inr (.inr (.inr (ft)))))) :: (tl ++ wX0 cA0 q1 w1 e1)) rfl ?_
  refine L_aload_n (pc := 40) hY 0 rfl rfl dX5_init_40 ?_
  refine L_get (pc := 41) hY 0 rfl (C := RX5) (T := TX5) (N := 8) rfl in_X5 1 (by decide) w_214 rfl dX5_init_41 ?_
  refine L_iload_n (pc := 44) (j := 1) hY 1 rfl rfl dX5_init_44 ?_
  refine L_new (pc := 45) (C := RX0) (T := TX0) (N := 2) (ci := 0) (fs := [.null, .null]) hY wd_k0 wd_i0 wd_z0 in_X0 tyX0 tyX0_ok rfl (fun j hj => match j, hj with | 0, _ => rfl | 1, _ => rfl | n9 + 2, h9 => absurd h9 (by omega)) (by omega) (by omega) dX5_init_45 (fun q2 => ?_)
  refine L_dup (pc := 48) hY rfl dX5_init_48 ?_
  refine L_cI (pc := 49) hY (n_X0 G cA0 _) wd_l0 wd_m0 wd_z0 wd_c0 rfl (by decide +kernel) (by decide) (by decide) (by omega) (by omega) (Nat.le_of_ble_eq_true rfl) dX5_init_49 (fun wq hwq => ?_)
  obtain ⟨w2, e2, rfl⟩ := hwq
  refine L_ws (ws' := (h0, .inr (5, [.ref ra, .ref rt, .null, .null, .null, .null, .null, .null])) :: (ra, .inl (cA0 4, 5, .inr (.inr (.inr (.inr (va_up fa i (some q1))))))) :: (rt, .inl (cA0 4, 5, .inr (.inr (.inr (.inr (ft)))))) :: ((tl ++ wX0 cA0 q1 w1 e1) ++ wX0 cA0 q2 w2 e2)) rfl ?_
  refine L_aast (pc := 52) (i := i) (vs := [.ref w2, .ref e2]) hY 2 rfl (List.mem_cons_of_mem _ (List.mem_cons_of_mem _ (List.mem_cons_of_mem _ (List.mem_append_right _ List.mem_cons_self)))) rfl hi (by decide) dX5_init_52 ?_
  refine L_ws (ws' := (h0, .inr (5, [.ref ra, .ref rt, .null, .null, .null, .null, .null, .null])) :: (ra, .inl (cA0 4, 5, .inr (.inr (.inr (.inr (va_up fa i (some q1))))))) :: (rt, .inl (cA0 4, 5, .inr (.inr (.inr (.inr (va_up ft i (some q2))))))) :: ((tl ++ wX0 cA0 q1 w1 e1) ++ wX0 cA0 q2 w2 e2)) rfl ?_
  refine L_iinc (pc := 53) hY 1 (by decide) rfl rfl dX5_init_53 ?_
  refine L_goto (pc := 56) (tgt := 22) hY (by decide) dX5_init_56 ?_
  refine L_cut [(0, some (.ref h0)), (1, some (.int (nI (i + 1))))] ⟨rfl, congrArg (fun v => some (Value.int v)) (nI_1 i), trivial⟩ ?_
  exact kk q1 w1 e1 q2 w2 e2
