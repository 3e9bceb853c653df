/-! THE SCRIBE -/
def ptU (D : Dt) (φ : Ph) : Dt := rU D 18 (upd (upd (upd (D.1 18) 0 φ.1) 1 φ.2.1) 2 φ.2.2.1)
def ph18 (D : Dt) : Ph := (D.1 18 0, D.1 18 1, D.1 18 2, 0, 0, 0)
def wrD (D : Dt) (cs : List Int32) : Dt := ptU D (wcL (D.1 18 3) (ph18 D) cs)
theorem ptU_pj {D : Dt} {φ ψ : Ph} (h : pj φ = pj ψ) : ptU D φ = ptU D ψ := by
  have h1 : φ.1 = ψ.1 := congrArg (fun q => q.1) h
  have h2 : φ.2.1 = ψ.2.1 := congrArg (fun q => q.2.1) h
  have h3 : φ.2.2.1 = ψ.2.2.1 := congrArg (fun q => q.2.2) h
  rw [ptU, ptU, h1, h2, h3]
theorem ptU_18 (D : Dt) (φ : Ph) (j : Nat) : (ptU D φ).1 18 j = if j = 2 then φ.2.2.1 else if j = 1 then φ.2.1 else if j = 0 then φ.1 else D.1 18 j := by
  rw [ptU, rU_get]; rfl
theorem ptU_ptU (D : Dt) (φ ψ : Ph) : ptU (ptU D φ) ψ = ptU D ψ := by
  have e : upd (upd (upd ((ptU D φ).1 18) 0 ψ.1) 1 ψ.2.1) 2 ψ.2.2.1 = upd (upd (upd (D.1 18) 0 ψ.1) 1 ψ.2.1) 2 ψ.2.2.1 := by
    funext j
    rw [upd_at, upd_at, upd_at, upd_at, upd_at, upd_at, ptU_18]
    by_cases h2 : j = 2
    · rw [if_pos h2, if_pos h2]
    · rw [if_neg h2, if_neg h2, if_neg h2]
      by_cases h1 : j = 1
      · rw [if_pos h1, if_pos h1]
      · rw [if_neg h1, if_neg h1, if_neg h1]
        by_cases h0 : j = 0
        · rw [if_pos h0, if_pos h0]
        · rw [if_neg h0, if_neg h0, if_neg h0]
  show rU (rU D 18 _) 18 _ = _
  rw [rU_rU]
  show rU D 18 (upd (upd (upd ((ptU D φ).1 18) 0 ψ.1) 1 ψ.2.1) 2 ψ.2.2.1) = _
  rw [e]; rfl
theorem ph18_pt (D : Dt) (φ : Ph) : pj (ph18 (ptU D φ)) = pj φ := by
  rw [pj, ph18, ptU_18, ptU_18, ptU_18]; rfl
theorem wrD_app (D : Dt) (cs ds : List Int32) : wrD (wrD D cs) ds = wrD D (cs ++ ds) := by
  have e : (wrD D cs).1 18 3 = D.1 18 3 := by rw [wrD, ptU_18]; rfl
  rw [wrD, e, wrD, ptU_ptU, wrD, wcL_app]
  exact ptU_pj (pj_wcL ds (ph18_pt D _))
theorem wrD_nil (D : Dt) : wrD D [] = D := by
  have e : upd (upd (upd (D.1 18) 0 (D.1 18 0)) 1 (D.1 18 1)) 2 (D.1 18 2) = D.1 18 := by rw [upd_self rfl, upd_self rfl, upd_self rfl]
  show rU D 18 (upd (upd (upd (D.1 18) 0 (D.1 18 0)) 1 (D.1 18 1)) 2 (D.1 18 2)) = D
  rw [e, rU_self]
theorem put_a (D : Dt) (c : Int32) (h : D.1 18 0 = D.1 18 3) : rU (rU (rU D 18 (upd (D.1 18) 2 c)) 18 (upd ((rU D 18 (upd (D.1 18) 2 c)).1 18) 0 ((rU D 18 (upd (D.1 18) 2 c)).1 18 0 + oI 1))) 18 (upd ((rU (rU D 18 (upd (D.1 18) 2 c)) 18 (upd ((rU D 18 (upd (D.1 18) 2 c)).1 18) 0 ((rU D 18 (upd (D.1 18) 2 c)).1 18 0 + oI 1))).1 18) 1 (oI 31 * (rU (rU D 18 (upd (D.1 18) 2 c)) 18 (upd ((rU D 18 (upd (D.1 18) 2 c)).1 18) 0 ((rU D 18 (upd (D.1 18) 2 c)).1 18 0 + oI 1))).1 18 1 + c)) = wrD D [c] := by
  simp only [rU_rU, rU_get]
  show rU D 18 _ = rU D 18 _
  congr 1
  funext j
  show (if j = 1 then _ else if j = 0 then _ else if j = 2 then c else D.1 18 j) = (if j = 2 then (if D.1 18 0 = D.1 18 3 then c else D.1 18 2) else if j = 1 then _ else if j = 0 then _ else D.1 18 j)
  rw [if_pos h]
  by_cases h2 : j = 2
  · subst h2; rfl
  · rw [if_neg h2, if_neg h2]
    by_cases h1 : j = 1
    · rw [if_pos h1, if_pos h1]; rfl
    · rw [if_neg h1, if_neg h1]; rfl
theorem put_b (D : Dt) (c : Int32) (h : ¬ D.1 18 0 = D.1 18 3) : rU (rU D 18 (upd (D.1 18) 0 (D.1 18 0 + oI 1))) 18 (upd ((rU D 18 (upd (D.1 18) 0 (D.1 18 0 + oI 1))).1 18) 1 (oI 31 * (rU D 18 (upd (D.1 18) 0 (D.1 18 0 + oI 1))).1 18 1 + c)) = wrD D [c] := by
  simp only [rU_rU, rU_get]
  show rU D 18 _ = rU D 18 _
  congr 1
  funext j
  show (if j = 1 then _ else if j = 0 then _ else D.1 18 j) = (if j = 2 then (if D.1 18 0 = D.1 18 3 then c else D.1 18 2) else if j = 1 then _ else if j = 0 then _ else D.1 18 j)
  rw [if_neg h]
  by_cases h2 : j = 2
  · subst h2; rfl
  · rw [if_neg h2]
    by_cases h1 : j = 1
    · rw [if_pos h1, if_pos h1]; rfl
    · rw [if_neg h1, if_neg h1]; rfl
theorem c_X3_put {E : Le} {l : Launch} {D : Dt} {c : Int32} : ConV E l yX3_put cX3_put 2 none 1 [.ref (E.1 (18, 0)), .int c] D (wrD D [c]) := by
  refine Con_of (by decide) (Nat.le_of_ble_eq_true rfl) ?_
  intro X hX hR hl; subst hl
  refine V_aload_n (pc := 0) (j := 0) hX 0 rfl rfl dX3_put_0 ?_
  refine gf_X3_9 (pc := 1) hX dX3_put_1 ?_
  refine V_aload_n (pc := 4) (j := 0) hX 0 rfl rfl dX3_put_4 ?_
  refine gf_X3_21 (pc := 5) hX dX3_put_5 ?_
  refine V_icmp_ne (pc := 8) (tgt := 16) hX dX3_put_8 (by decide) (fun h8 => ?_) (fun h8 => ?_)
  · refine V_aload_n (pc := 16) (j := 0) hX 0 rfl rfl dX3_put_16 ?_
    refine V_dup (pc := 17) hX rfl dX3_put_17 ?_
    refine gf_X3_9 (pc := 18) hX dX3_put_18 ?_
    refine V_iconst (pc := 21) (z := 1) hX (oI 1) rfl dX3_put_21 ?_
    refine V_iadd (pc := 22) hX dX3_put_22 ?_
    refine pf_X3_9 (pc := 23) hX dX3_put_23 ?_
    refine V_aload_n (pc := 26) (j := 0) hX 0 rfl rfl dX3_put_26 ?_
    refine V_bipush (pc := 27) (z := 31) hX (oI 31) (by decide) dX3_put_27 ?_
    refine V_aload_n (pc := 29) (j := 0) hX 0 rfl rfl dX3_put_29 ?_
    refine gf_X3_15 (pc := 30) hX dX3_put_30 ?_
    refine V_imul (pc := 33) hX dX3_put_33 ?_
    refine V_iload_n (pc := 34) (j := 1) hX 1 rfl rfl dX3_put_34 ?_
    refine V_iadd (pc := 35) hX dX3_put_35 ?_
    refine pf_X3_15 (pc := 36) hX dX3_put_36 ?_
    refine V_vret (pc := 39) hX hR dX3_put_39 ?_
    exact ⟨rfl, put_b D c h8⟩
  · refine V_aload_n (pc := 11) (j := 0) hX 0 rfl rfl dX3_put_11 ?_
    refine V_iload_n (pc := 12) (j := 1) hX 1 rfl rfl dX3_put_12 ?_
    refine pf_X3_18 (pc := 13) hX dX3_put_13 ?_
    refine V_aload_n (pc := 16) (j := 0) hX 0 rfl rfl dX3_put_16 ?_
    refine V_dup (pc := 17) hX rfl dX3_put_17 ?_
    refine gf_X3_9 (pc := 18) hX dX3_put_18 ?_
    refine V_iconst (pc := 21) (z := 1) hX (oI 1) rfl dX3_put_21 ?_
    refine V_iadd (pc := 22) hX dX3_put_22 ?_
    refine pf_X3_9 (pc := 23) hX dX3_put_23 ?_
    refine V_aload_n (pc := 26) (j := 0) hX 0 rfl rfl dX3_put_26 ?_
    refine V_bipush (pc := 27) (z := 31) hX (oI 31) (by decide) dX3_put_27 ?_
    refine V_aload_n (pc := 29) (j := 0) hX 0 rfl rfl dX3_put_29 ?_
    refine gf_X3_15 (pc := 30) hX dX3_put_30 ?_
    refine V_imul (pc := 33) hX dX3_put_33 ?_
    refine V_iload_n (pc := 34) (j := 1) hX 1 rfl rfl dX3_put_34 ?_
    refine V_iadd (pc := 35) hX dX3_put_35 ?_
    refine pf_X3_15 (pc := 36) hX dX3_put_36 ?_
    refine V_vret (pc := 39) hX hR dX3_put_39 ?_
    exact ⟨rfl, put_a D c h8⟩
theorem au_abs (v : Int) : (if 0 ≤ v then v else -v) = au v := by unfold au; split <;> split <;> omega
theorem c_X3_putNumber {E : Le} {l : Launch} {D : Dt} {v : Int} (hv : -99 ≤ v ∧ v ≤ 99) : ConV E l yX3_putNumber cX3_putNumber 3 none 2 [.ref (E.1 (18, 0)), .int (oI v)] D (wrD D (numS v)) := by
  have ha : 0 ≤ au v ∧ au v ≤ 99 := by unfold au; split <;> omega
  refine Con_of (by decide) (Nat.le_of_ble_eq_true rfl) ?_
  intro X hX hR hl; subst hl
  refine V_iload_n (pc := 0) (j := 1) hX 1 rfl rfl dX3_putNumber_0 ?_
  refine Z_mabs (pc := 1) hX (by omega) (by decide) wm_X3_32 (Nat.le_of_ble_eq_true rfl) dX3_putNumber_1 ?_
  refine V_istore_n (pc := 4) (j := 2) hX 2 rfl (by decide) rfl dX3_putNumber_4 ?_
  refine V_cut [(0, some (.ref (E.1 (18, 0)))), (1, some (.int (oI v))), (2, some (.int (oI (au v))))] ⟨rfl, rfl, congrArg (fun q => some (Value.int (oI q))) (au_abs v), trivial⟩ ?_
  refine V_iload_n (pc := 5) (j := 1) hX 1 rfl rfl dX3_putNumber_5 ?_
  refine Z_if_ge (pc := 6) (tgt := 15) hX (by omega) dX3_putNumber_6 (by decide) (fun h6 => ?_) (fun h6 => ?_)
  · refine V_iload_n (pc := 15) (j := 2) hX 2 rfl rfl dX3_putNumber_15 ?_
    refine V_bipush (pc := 16) (z := 10) hX (oI 10) (by decide) dX3_putNumber_16 ?_
    refine Z_icmp_lt (pc := 18) (tgt := 33) hX (by omega) (by omega) dX3_putNumber_18 (by decide) (fun h18 => ?_) (fun h18 => ?_)
    · refine V_aload_n (pc := 33) (j := 0) hX 0 rfl rfl dX3_putNumber_33 ?_
      refine V_bipush (pc := 34) (z := 48) hX (oI 48) (by decide) dX3_putNumber_34 ?_
      refine V_iload_n (pc := 36) (j := 2) hX 2 rfl rfl dX3_putNumber_36 ?_
      refine V_bipush (pc := 37) (z := 10) hX (oI 10) (by decide) dX3_putNumber_37 ?_
      refine Z_irem (pc := 39) hX (by omega) (by omega) (by omega) (by omega) dX3_putNumber_39 ?_
      refine Z_iadd (pc := 40) hX dX3_putNumber_40 ?_
      refine Z_i2c (pc := 41) hX (by omega) (by omega) dX3_putNumber_41 ?_
      refine cVV1 (pc := 42) hX (c_X3_put) (by decide) st_X3_28 ix_18 rfl rfl rfl (Nat.le_of_ble_eq_true rfl) dX3_putNumber_42 ?_
      refine V_vret (pc := 45) hX hR dX3_putNumber_45 ?_
      exact ⟨rfl, by rw [numS, if_neg (show ¬ v < 0 by omega), if_neg (show ¬ 9 < au v by omega)] <;> rfl⟩
    · refine V_aload_n (pc := 21) (j := 0) hX 0 rfl rfl dX3_putNumber_21 ?_
      refine V_bipush (pc := 22) (z := 48) hX (oI 48) (by decide) dX3_putNumber_22 ?_
      refine V_iload_n (pc := 24) (j := 2) hX 2 rfl rfl dX3_putNumber_24 ?_
      refine V_bipush (pc := 25) (z := 10) hX (oI 10) (by decide) dX3_putNumber_25 ?_
      refine Z_idiv (pc := 27) hX (by omega) (by omega) (by omega) (by omega) dX3_putNumber_27 ?_
      refine Z_iadd (pc := 28) hX dX3_putNumber_28 ?_
      refine Z_i2c (pc := 29) hX (by omega) (by omega) dX3_putNumber_29 ?_
      refine cVV1 (pc := 30) hX (c_X3_put) (by decide) st_X3_28 ix_18 rfl rfl rfl (Nat.le_of_ble_eq_true rfl) dX3_putNumber_30 ?_
      refine V_aload_n (pc := 33) (j := 0) hX 0 rfl rfl dX3_putNumber_33 ?_
      refine V_bipush (pc := 34) (z := 48) hX (oI 48) (by decide) dX3_putNumber_34 ?_
      refine V_iload_n (pc := 36) (j := 2) hX 2 rfl rfl dX3_putNumber_36 ?_
      refine V_bipush (pc := 37) (z := 10) hX (oI 10) (by decide) dX3_putNumber_37 ?_
      refine Z_irem (pc := 39) hX (by omega) (by omega) (by omega) (by omega) dX3_putNumber_39 ?_
      refine Z_iadd (pc := 40) hX dX3_putNumber_40 ?_
      refine Z_i2c (pc := 41) hX (by omega) (by omega) dX3_putNumber_41 ?_
      refine cVV1 (pc := 42) hX (c_X3_put) (by decide) st_X3_28 ix_18 rfl rfl rfl (Nat.le_of_ble_eq_true rfl) dX3_putNumber_42 ?_
      refine V_vret (pc := 45) hX hR dX3_putNumber_45 ?_
      exact ⟨rfl, by rw [wrD_app, numS, if_neg (show ¬ v < 0 by omega), if_pos (show 9 < au v by omega)] <;> rfl⟩
  · refine V_aload_n (pc := 9) (j := 0) hX 0 rfl rfl dX3_putNumber_9 ?_
    refine V_bipush (pc := 10) (z := 45) hX (oI 45) (by decide) dX3_putNumber_10 ?_
    refine cVV1 (pc := 12) hX (c_X3_put) (by decide) st_X3_28 ix_18 rfl rfl rfl (Nat.le_of_ble_eq_true rfl) dX3_putNumber_12 ?_
    refine V_iload_n (pc := 15) (j := 2) hX 2 rfl rfl dX3_putNumber_15 ?_
    refine V_bipush (pc := 16) (z := 10) hX (oI 10) (by decide) dX3_putNumber_16 ?_
    refine Z_icmp_lt (pc := 18) (tgt := 33) hX (by omega) (by omega) dX3_putNumber_18 (by decide) (fun h18 => ?_) (fun h18 => ?_)
    · refine V_aload_n (pc := 33) (j := 0) hX 0 rfl rfl dX3_putNumber_33 ?_
      refine V_bipush (pc := 34) (z := 48) hX (oI 48) (by decide) dX3_putNumber_34 ?_
      refine V_iload_n (pc := 36) (j := 2) hX 2 rfl rfl dX3_putNumber_36 ?_
      refine V_bipush (pc := 37) (z := 10) hX (oI 10) (by decide) dX3_putNumber_37 ?_
      refine Z_irem (pc := 39) hX (by omega) (by omega) (by omega) (by omega) dX3_putNumber_39 ?_
      refine Z_iadd (pc := 40) hX dX3_putNumber_40 ?_
      refine Z_i2c (pc := 41) hX (by omega) (by omega) dX3_putNumber_41 ?_
      refine cVV1 (pc := 42) hX (c_X3_put) (by decide) st_X3_28 ix_18 rfl rfl rfl (Nat.le_of_ble_eq_true rfl) dX3_putNumber_42 ?_
      refine V_vret (pc := 45) hX hR dX3_putNumber_45 ?_
      exact ⟨rfl, by rw [wrD_app, numS, if_pos (show v < 0 by omega), if_neg (show ¬ 9 < au v by omega)] <;> rfl⟩
    · refine V_aload_n (pc := 21) (j := 0) hX 0 rfl rfl dX3_putNumber_21 ?_
      refine V_bipush (pc := 22) (z := 48) hX (oI 48) (by decide) dX3_putNumber_22 ?_
      refine V_iload_n (pc := 24) (j := 2) hX 2 rfl rfl dX3_putNumber_24 ?_
      refine V_bipush (pc := 25) (z := 10) hX (oI 10) (by decide) dX3_putNumber_25 ?_
      refine Z_idiv (pc := 27) hX (by omega) (by omega) (by omega) (by omega) dX3_putNumber_27 ?_
      refine Z_iadd (pc := 28) hX dX3_putNumber_28 ?_
      refine Z_i2c (pc := 29) hX (by omega) (by omega) dX3_putNumber_29 ?_
      refine cVV1 (pc := 30) hX (c_X3_put) (by decide) st_X3_28 ix_18 rfl rfl rfl (Nat.le_of_ble_eq_true rfl) dX3_putNumber_30 ?_
      refine V_aload_n (pc := 33) (j := 0) hX 0 rfl rfl dX3_putNumber_33 ?_
      refine V_bipush (pc := 34) (z := 48) hX (oI 48) (by decide) dX3_putNumber_34 ?_
      refine V_iload_n (pc := 36) (j := 2) hX 2 rfl rfl dX3_putNumber_36 ?_
      refine V_bipush (pc := 37) (z := 10) hX (oI 10) (by decide) dX3_putNumber_37 ?_
      refine Z_irem (pc := 39) hX (by omega) (by omega) (by omega) (by omega) dX3_putNumber_39 ?_
      refine Z_iadd (pc := 40) hX dX3_putNumber_40 ?_
      refine Z_i2c (pc := 41) hX (by omega) (by omega) dX3_putNumber_41 ?_
      refine cVV1 (pc := 42) hX (c_X3_put) (by decide) st_X3_28 ix_18 rfl rfl rfl (Nat.le_of_ble_eq_true rfl) dX3_putNumber_42 ?_
      refine V_vret (pc := 45) hX hR dX3_putNumber_45 ?_
      exact ⟨rfl, by rw [wrD_app, wrD_app, numS, if_pos (show v < 0 by omega), if_pos (show 9 < au v by omega)] <;> rfl⟩
theorem c_X3_putPair {E : Le} {l : Launch} {D : Dt} {v u : Int} {c : Int32} (hv : -99 ≤ v ∧ v ≤ 99) (hu : -99 ≤ u ∧ u ≤ 99) : ConV E l yX3_putPair cX3_putPair 4 none 3 [.ref (E.1 (18, 0)), .int (oI v), .int (oI u), .int c] D (wrD D (numS v ++ (oI 46 :: (numS u ++ [c])))) := by
  refine Con_of (by decide) (Nat.le_of_ble_eq_true rfl) ?_
  intro X hX hR hl; subst hl
  refine V_aload_n (pc := 0) (j := 0) hX 0 rfl rfl dX3_putPair_0 ?_
  refine V_iload_n (pc := 1) (j := 1) hX 1 rfl rfl dX3_putPair_1 ?_
  refine cVV1 (pc := 2) hX (c_X3_putNumber (by omega)) (by decide) st_X3_24 ix_18 rfl rfl rfl (Nat.le_of_ble_eq_true rfl) dX3_putPair_2 ?_
  refine V_aload_n (pc := 5) (j := 0) hX 0 rfl rfl dX3_putPair_5 ?_
  refine V_bipush (pc := 6) (z := 46) hX (oI 46) (by decide) dX3_putPair_6 ?_
  refine cVV1 (pc := 8) hX (c_X3_put) (by decide) st_X3_28 ix_18 rfl rfl rfl (Nat.le_of_ble_eq_true rfl) dX3_putPair_8 ?_
  refine V_aload_n (pc := 11) (j := 0) hX 0 rfl rfl dX3_putPair_11 ?_
  refine V_iload_n (pc := 12) (j := 2) hX 2 rfl rfl dX3_putPair_12 ?_
  refine cVV1 (pc := 13) hX (c_X3_putNumber (by omega)) (by decide) st_X3_24 ix_18 rfl rfl rfl (Nat.le_of_ble_eq_true rfl) dX3_putPair_13 ?_
  refine V_aload_n (pc := 16) (j := 0) hX 0 rfl rfl dX3_putPair_16 ?_
  refine V_iload_n (pc := 17) (j := 3) hX 3 rfl rfl dX3_putPair_17 ?_
  refine cVV1 (pc := 18) hX (c_X3_put) (by decide) st_X3_28 ix_18 rfl rfl rfl (Nat.le_of_ble_eq_true rfl) dX3_putPair_18 ?_
  refine V_vret (pc := 21) hX hR dX3_putPair_21 ?_
  exact ⟨rfl, by rw [wrD_app, wrD_app, wrD_app]; simp⟩
def bgD (D : Dt) (k : Int) : Dt := rU D 18 (upd (upd (upd (upd (D.1 18) 0 (oI 0)) 1 (oI 0)) 2 (oI (-201))) 3 (oI k))
theorem c_X3_begin {E : Le} {l : Launch} {D : Dt} {k : Int} : ConV E l yX3_begin cX3_begin 2 none 1 [.ref (E.1 (18, 0)), .int (oI k)] D (bgD D k) := by
  refine Con_of (by decide) (Nat.le_of_ble_eq_true rfl) ?_
  intro X hX hR hl; subst hl
  refine V_aload_n (pc := 0) (j := 0) hX 0 rfl rfl dX3_begin_0 ?_
  refine V_iconst (pc := 1) (z := 0) hX (oI 0) rfl dX3_begin_1 ?_
  refine pf_X3_9 (pc := 2) hX dX3_begin_2 ?_
  refine V_aload_n (pc := 5) (j := 0) hX 0 rfl rfl dX3_begin_5 ?_
  refine V_iconst (pc := 6) (z := 0) hX (oI 0) rfl dX3_begin_6 ?_
  refine pf_X3_15 (pc := 7) hX dX3_begin_7 ?_
  refine V_aload_n (pc := 10) (j := 0) hX 0 rfl rfl dX3_begin_10 ?_
  refine V_sipush (pc := 11) (z := (-201)) hX (oI (-201)) (by decide) dX3_begin_11 ?_
  refine pf_X3_18 (pc := 14) hX dX3_begin_14 ?_
  refine V_aload_n (pc := 17) (j := 0) hX 0 rfl rfl dX3_begin_17 ?_
  refine V_iload_n (pc := 18) (j := 1) hX 1 rfl rfl dX3_begin_18 ?_
  refine pf_X3_21 (pc := 19) hX dX3_begin_19 ?_
  refine V_vret (pc := 22) hX hR dX3_begin_22 ?_
  exact ⟨rfl, by simp only [rU_rU, rU_get]; rfl⟩
/-- what the scribe tells in the end -/
theorem wr_end (D : Dt) {k : Int} (hk : Rg k) (cs : List Int32) (hc : cs.length < 2147483648) : (wrD (bgD D k) cs).1 18 0 = oI (cs.length : Int) ∧ (wrD (bgD D k) cs).1 18 1 = hsL (oI 0) cs ∧ (wrD (bgD D k) cs).1 18 2 = kth cs k (oI (-201)) := by
  have e3 : (bgD D k).1 18 3 = oI k := by rw [bgD, rU_get, upd_at, if_pos rfl]
  have e : ph18 (bgD D k) = (oI 0, oI 0, oI (-201), 0, 0, 0) := by
    rw [ph18, bgD, rU_get]; rfl
  have hn := wcL_n (oI k) cs (oI 0, oI 0, oI (-201), 0, 0, 0)
  have hg := wcL_g hk cs (oI 0, oI 0, oI (-201), 0, 0, 0) 0 rfl (by omega) (by omega)
  rw [Int.sub_zero] at hg
  rw [wrD, e3, e]
  refine ⟨?_, ?_, ?_⟩
  · rw [ptU_18, if_neg (by decide), if_neg (by decide), if_pos rfl, hn.1, oI_add, Int.zero_add]
  · rw [ptU_18, if_neg (by decide), if_pos rfl, hn.2]
  · rw [ptU_18, if_pos rfl, hg]
/-! what the form writes, span by span -/
def hdW (q : Int × Int) : List Int32 := numS q.1 ++ (oI 46 :: (numS q.2 ++ [oI 58]))
def sgW (fl la : Bool) (q u : Int × Int) : List Int32 := (if fl then hdW q else []) ++ (numS u.1 ++ (oI 46 :: (numS u.2 ++ [if la then oI 59 else oI 44])))
def wsX (q : Int × Int) : Bool → List (Int × Int) → List (List Int32)
  | _, [] => []
  | fl, u :: r => sgW fl r.isEmpty q u :: wsX q false r
def swL (rp : Int → Int → Bool) (L : List (Int × Int)) : List (List Int32) := L.flatMap (fun q => wsX q true (spX (rp q.1) (-60)))
theorem wsX_len (q : Int × Int) : ∀ (L : List (Int × Int)) (fl : Bool), (wsX q fl L).length = L.length
  | [], _ => rfl
  | u :: r, fl => by rw [wsX, List.length_cons, List.length_cons, wsX_len q r false]
theorem wsX_f (q : Int × Int) : ∀ L : List (Int × Int), L ≠ [] → ∀ c : List Int32, spW c L ++ [oI 59] = c ++ (wsX q false L).flatten
  | [], h, _ => absurd rfl h
  | [u], _, c => by
    show (c ++ (numS u.1 ++ (oI 46 :: numS u.2))) ++ [] ++ [oI 59] = c ++ (([] ++ (numS u.1 ++ (oI 46 :: (numS u.2 ++ [oI 59])))) ++ [])
    simp
  | u :: v :: r, _, c => by
    have ih := wsX_f q (v :: r) (by simp) [oI 44]
    show (c ++ (numS u.1 ++ (oI 46 :: numS u.2))) ++ spW [oI 44] (v :: r) ++ [oI 59] = c ++ (([] ++ (numS u.1 ++ (oI 46 :: (numS u.2 ++ [oI 44])))) ++ (wsX q false (v :: r)).flatten)
    rw [List.append_assoc, ih]
    simp
theorem wsX_t (q : Int × Int) (L : List (Int × Int)) (h : L ≠ []) : (wsX q true L).flatten = bandW q.1 q.2 L := by
  cases L with
  | nil => exact absurd rfl h
  | cons u r =>
    rw [bandW, wsX_f q (u :: r) h []]
    show (hdW q ++ _) ++ (wsX q false r).flatten = hdW q ++ ([] ++ ((([] ++ _) ++ (wsX q false r).flatten)))
    simp
theorem swL_fl (rp : Int → Int → Bool) : ∀ L : List (Int × Int), (∀ q ∈ L, spX (rp q.1) (-60) ≠ []) → (swL rp L).flatten = sgL rp L
  | [], _ => rfl
  | q :: r, h => by
    have ih := swL_fl rp r (fun p hp => h p (List.mem_cons_of_mem _ hp))
    rw [swL, List.flatMap_cons, List.flatten_append, sgL, List.flatMap_cons, wsX_t q _ (h q List.mem_cons_self)]
    congr 1
theorem swL_len (rp : Int → Int → Bool) : ∀ L : List (Int × Int), (swL rp L).length = nsL rp L
  | [] => rfl
  | q :: r => by
    have ih := swL_len rp r
    rw [swL] at ih
    rw [swL, List.flatMap_cons, List.length_append, wsX_len, nsL_cons, ih]
theorem wsX_at (q : Int × Int) : ∀ (L : List (Int × Int)) (fl : Bool) (i : Nat) (u : Int × Int), L[i]? = some u → (wsX q fl L)[i]? = some (sgW (fl && decide (i = 0)) (decide (i + 1 = L.length)) q u)
  | [], _, i, u, h => by rw [List.getElem?_nil] at h; cases h
  | v :: r, fl, 0, u, h => by
    rw [List.getElem?_cons_zero] at h
    cases h
    rw [wsX, List.getElem?_cons_zero]
    cases r with
    | nil => simp
    | cons w s => simp
  | v :: r, fl, i + 1, u, h => by
    rw [List.getElem?_cons_succ] at h
    rw [wsX, List.getElem?_cons_succ, wsX_at q r false i u h, List.length_cons]
    simp
def SwF (D : Dt) (q u : Int × Int) (fl la : Bool) (k n bm : Nat) (bb f : Nat) : Prop := (D.1 9 k = oI (bb : Int) ∧ bb < bm) ∧ (D.1 6 bb = oI q.1 ∧ D.1 7 bb = oI q.2) ∧ (D.1 8 bb = oI (f : Int) ∧ f ≤ k ∧ (fl = true ↔ f = k)) ∧ (D.1 10 (2 * k) = oI u.1 ∧ D.1 10 (2 * k + 1) = oI u.2) ∧ (k + 1 = n → la = true) ∧ (k + 1 < n → ∃ b2, D.1 9 (k + 1) = oI ((b2 : Nat) : Int) ∧ b2 < bm ∧ (la = true ↔ b2 ≠ bb))
theorem HB_sw {D : Dt} {rp : Int → Int → Bool} : ∀ (L : List (Int × Int)) (b k : Nat), (∀ q ∈ L, spX (rp q.1) (-60) ≠ []) → HB D rp b k L → ∀ i, i < nsL rp L → ∃ (bb f : Nat) (q u : Int × Int) (fl la : Bool), (q ∈ L ∧ u ∈ spX (rp q.1) (-60)) ∧ (swL rp L)[i]? = some (sgW fl la q u) ∧ SwF D q u fl la (k + i) (k + nsL rp L) (b + L.length) bb f
  | [], _, _, _, _, i, h => absurd h (Nat.not_lt_zero i)
  | q :: r, b, k, hne, hB, i, h => by
    rw [nsL_cons] at h ⊢
    rw [swL, List.flatMap_cons]
    obtain ⟨⟨b1, b2, b3⟩, hS, hR⟩ := hB
    obtain ⟨n, hn⟩ : ∃ n, (spX (rp q.1) (-60)).length = n := ⟨_, rfl⟩
    rw [hn] at h hR ⊢
    rw [List.length_cons]
    by_cases c : i < n
    · have hu := List.getElem?_eq_getElem (l := spX (rp q.1) (-60)) (i := i) (by omega)
      obtain ⟨u, hu2⟩ : ∃ u, (spX (rp q.1) (-60))[i]? = some u := ⟨_, hu⟩
      have hs := HS_at _ k hS i u hu2
      refine ⟨b, k, q, u, true && decide (i = 0), decide (i + 1 = (spX (rp q.1) (-60)).length), ⟨List.mem_cons_self, List.mem_of_getElem? hu2⟩, by rw [List.getElem?_append_left (by rw [wsX_len]; omega)]; exact wsX_at q _ true i u hu2, ⟨hs.1, by omega⟩, ⟨b1, b2⟩, ⟨b3, by omega, by rw [Bool.true_and, decide_eq_true_iff]; omega⟩, hs.2, fun e => ?_, fun e => ?_⟩
      · rw [decide_eq_true_iff, hn]; omega
      · by_cases c2 : i + 1 < n
        · have hv := List.getElem?_eq_getElem (l := spX (rp q.1) (-60)) (i := i + 1) (by omega)
          have hs2 := HS_at _ k hS (i + 1) _ hv
          exact ⟨b, hs2.1, by omega, by rw [decide_eq_true_iff, hn]; exact ⟨fun q => by omega, fun q => absurd rfl q⟩⟩
        · cases r with
          | nil => exact absurd e (by show ¬ _ < k + (n + 0); omega)
          | cons p s =>
            obtain ⟨-, hS2, -⟩ := hR
            have hne2 := hne p (List.mem_cons_of_mem _ List.mem_cons_self)
            cases hM : spX (rp p.1) (-60) with
            | nil => exact absurd hM hne2
            | cons w t =>
              rw [hM] at hS2
              refine ⟨b + 1, ?_, by rw [List.length_cons]; omega, ?_⟩
              · have := hS2.1.1
                rw [show k + i + 1 = k + n by omega]; exact this
              · rw [decide_eq_true_iff, hn]; omega
    · have ek : k + n + (i - n) = k + i := by omega
      have ek2 : k + (n + nsL rp r) = k + n + nsL rp r := by omega
      obtain ⟨bb, f, p, u, fl, la, hm, hw, h1, h2, h3, h4, h5, h6⟩ := HB_sw r (b + 1) (k + n) (fun p hp => hne p (List.mem_cons_of_mem _ hp)) hR (i - n) (by omega)
      rw [ek] at h1 h3 h4 h5 h6
      refine ⟨bb, f, p, u, fl, la, ⟨List.mem_cons_of_mem _ hm.1, hm.2⟩, by rw [List.getElem?_append_right (by rw [wsX_len]; omega), wsX_len, hn]; exact hw, ⟨h1.1, by omega⟩, h2, h3, h4, fun e => h5 (by rw [← ek2]; exact e), fun e => ?_⟩
      rw [ek2] at e
      obtain ⟨c2, e1, e2, e3⟩ := h6 e
      exact ⟨c2, e1, by omega, e3⟩
theorem band_ne {S : Cl} : ∀ q ∈ bandsC S, spX (rpC S q.1) (-60) ≠ [] := by
  intro q hq e
  have h1 := (bdX_mem 120 (-60) (by omega) q hq).1
  have h2 := bdX_rng 120 (-60) (by omega) q hq
  have h3 : ¬ emR S (q.1 + 60).toNat = true := by rw [show emR S (q.1 + 60).toNat = false from h1]; decide
  apply h3
  rw [emR_t]
  intro i hi
  apply Bool.eq_false_iff.mpr
  intro w
  have hx : rpC S q.1 ((i : Int) - 60) = true := by
    rw [rpC, cellB_t.mpr (by omega), Bool.true_and, show ((i : Int) - 60 + 60).toNat = i by omega]; exact w
  obtain ⟨u, hu, -⟩ := spX_cov 121 (-60) (by omega) ((i : Int) - 60) (by omega) (by omega) hx
  rw [e] at hu; cases hu
def swC (S : Cl) : List (List Int32) := swL (rpC S) (bandsC S)
theorem swC_all (S : Cl) : ((swC S).take (nsC S)).flatten = wrC S := by
  rw [List.take_of_length_le (by rw [swC, swL_len]; exact Nat.le_refl _), swC, swL_fl _ _ band_ne]; rfl
theorem form_sw {D : Dt} {S : Cl} {k : Nat} (h : FormP D S) (hk : k < nsC S) : ∃ (bb f : Nat) (q u : Int × Int) (fl la : Bool), (((swC S).take (k + 1)).flatten = ((swC S).take k).flatten ++ sgW fl la q u) ∧ ((-60 ≤ q.1 ∧ q.1 ≤ 60) ∧ (-60 ≤ q.2 ∧ q.2 ≤ 60) ∧ (-60 ≤ u.1 ∧ u.1 ≤ 60) ∧ -60 ≤ u.2 ∧ u.2 ≤ 60) ∧ SwF D q u fl la k (nsC S) (nbC S) bb f := by
  obtain ⟨bb, f, q, u, fl, la, hm, hw, h1⟩ := HB_sw (bandsC S) 0 0 band_ne h.2.2.2 k hk
  rw [Nat.zero_add, Nat.zero_add, Nat.zero_add] at h1
  have hq := bdX_rng 120 (-60) (by omega) q hm.1
  have hu := (spX_mem 121 (-60) (by omega) u hm.2).1
  refine ⟨bb, f, q, u, fl, la, ?_, by omega, h1⟩
  rw [List.take_add_one, show (swC S)[k]? = some (sgW fl la q u) from hw, List.flatten_append]
  simp
