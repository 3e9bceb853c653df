/-! what forms() keeps: signs, hash, sign, spans, bands, found -/
abbrev Ph : Type := Int32 × Int32 × Int32 × Int32 × Int32 × Int32
def pf (I : Nat → Int32) (φ : Ph) : Nat → Int32 := upd (upd (upd (upd (upd (upd I 13 φ.1) 16 φ.2.1) 15 φ.2.2.1) 9 φ.2.2.2.1) 10 φ.2.2.2.2.1) 12 φ.2.2.2.2.2
def gI (I : Nat → Int32) : Ph := (I 13, I 16, I 15, I 9, I 10, I 12)
/-- a sign is written -/
def wc (w : Int32) (φ : Ph) (c : Int32) : Ph := (φ.1 + oI 1, oI 31 * φ.2.1 + c, if φ.1 = w then c else φ.2.2.1, φ.2.2.2)
def wcL (w : Int32) (φ : Ph) (cs : List Int32) : Ph := cs.foldl (wc w) φ
theorem wcL_cons (w : Int32) (φ : Ph) (c : Int32) (cs : List Int32) : wcL w φ (c :: cs) = wcL w (wc w φ c) cs := rfl
theorem wcL_nil (w : Int32) (φ : Ph) : wcL w φ [] = φ := rfl
theorem wcL_app (w : Int32) (φ : Ph) (cs ds : List Int32) : wcL w φ (cs ++ ds) = wcL w (wcL w φ cs) ds := List.foldl_append
theorem upd_at (f : Nat → Int32) (k : Nat) (x : Int32) (j : Nat) : upd f k x j = if j = k then x else f j := rfl
theorem pf_at (I : Nat → Int32) (φ : Ph) (j : Nat) : pf I φ j = if j = 12 then φ.2.2.2.2.2 else if j = 10 then φ.2.2.2.2.1 else if j = 9 then φ.2.2.2.1 else if j = 15 then φ.2.2.1 else if j = 16 then φ.2.1 else if j = 13 then φ.1 else I j := rfl
theorem pf_gI (I : Nat → Int32) : pf I (gI I) = I := by
  funext j
  by_cases q13 : j = 13
  · subst q13; rfl
  by_cases q16 : j = 16
  · subst q16; rfl
  by_cases q15 : j = 15
  · subst q15; rfl
  by_cases q9 : j = 9
  · subst q9; rfl
  by_cases q10 : j = 10
  · subst q10; rfl
  by_cases q12 : j = 12
  · subst q12; rfl
  simp only [pf_at, upd_at, q13, q16, q15, q9, q10, q12, if_false]
theorem pf_pf (I : Nat → Int32) (φ ψ : Ph) : pf (pf I φ) ψ = pf I ψ := by
  funext j
  by_cases q13 : j = 13
  · subst q13; rfl
  by_cases q16 : j = 16
  · subst q16; rfl
  by_cases q15 : j = 15
  · subst q15; rfl
  by_cases q9 : j = 9
  · subst q9; rfl
  by_cases q10 : j = 10
  · subst q10; rfl
  by_cases q12 : j = 12
  · subst q12; rfl
  simp only [pf_at, upd_at, q13, q16, q15, q9, q10, q12, if_false]
theorem pf_12 (I : Nat → Int32) (φ : Ph) (v : Int32) : upd (pf I φ) 12 v = pf I (φ.1, φ.2.1, φ.2.2.1, φ.2.2.2.1, φ.2.2.2.2.1, v) := by
  funext j
  by_cases q13 : j = 13
  · subst q13; rfl
  by_cases q16 : j = 16
  · subst q16; rfl
  by_cases q15 : j = 15
  · subst q15; rfl
  by_cases q9 : j = 9
  · subst q9; rfl
  by_cases q10 : j = 10
  · subst q10; rfl
  by_cases q12 : j = 12
  · subst q12; rfl
  simp only [pf_at, upd_at, q13, q16, q15, q9, q10, q12, if_false]
theorem pf_9 (I : Nat → Int32) (φ : Ph) (v : Int32) : upd (pf I φ) 9 v = pf I (φ.1, φ.2.1, φ.2.2.1, v, φ.2.2.2.2.1, φ.2.2.2.2.2) := by
  funext j
  by_cases q13 : j = 13
  · subst q13; rfl
  by_cases q16 : j = 16
  · subst q16; rfl
  by_cases q15 : j = 15
  · subst q15; rfl
  by_cases q9 : j = 9
  · subst q9; rfl
  by_cases q10 : j = 10
  · subst q10; rfl
  by_cases q12 : j = 12
  · subst q12; rfl
  simp only [pf_at, upd_at, q13, q16, q15, q9, q10, q12, if_false]
theorem pf_10 (I : Nat → Int32) (φ : Ph) (v : Int32) : upd (pf I φ) 10 v = pf I (φ.1, φ.2.1, φ.2.2.1, φ.2.2.2.1, v, φ.2.2.2.2.2) := by
  funext j
  by_cases q13 : j = 13
  · subst q13; rfl
  by_cases q16 : j = 16
  · subst q16; rfl
  by_cases q15 : j = 15
  · subst q15; rfl
  by_cases q9 : j = 9
  · subst q9; rfl
  by_cases q10 : j = 10
  · subst q10; rfl
  by_cases q12 : j = 12
  · subst q12; rfl
  simp only [pf_at, upd_at, q13, q16, q15, q9, q10, q12, if_false]
theorem pf_put (I : Nat → Int32) (φ : Ph) (w c : Int32) : upd (upd (upd (pf I φ) 15 (if φ.1 = w then c else φ.2.2.1)) 16 (oI 31 * φ.2.1 + c)) 13 (φ.1 + oI 1) = pf I (wc w φ c) := by
  funext j
  by_cases q13 : j = 13
  · subst q13; rfl
  by_cases q16 : j = 16
  · subst q16; rfl
  by_cases q15 : j = 15
  · subst q15; rfl
  by_cases q9 : j = 9
  · subst q9; rfl
  by_cases q10 : j = 10
  · subst q10; rfl
  by_cases q12 : j = 12
  · subst q12; rfl
  simp only [pf_at, upd_at, q13, q16, q15, q9, q10, q12, if_false]
theorem c_X6_writes {E : Le} {l : Launch} {D : Dt} {I : Nat → Int32} {φ : Ph} {c : Int32} : ConV E l yX6_writes cX6_writes 2 none 1 [.ref (E.1 (20, 0)), .int c] (rU D 20 (pf I φ)) (rU D 20 (pf I (wc (I 14) φ c))) := by
  refine Con_of (by decide) (Nat.le_of_ble_eq_true rfl) ?_
  intro X hX hR hl; subst hl
  refine V_aload_n (pc := 0) (j := 0) hX 0 rfl rfl dX6_writes_0 ?_
  refine V_aload_n (pc := 1) (j := 0) hX 0 rfl rfl dX6_writes_1 ?_
  refine gf_X6_45 (pc := 2) hX dX6_writes_2 ?_
  refine V_aload_n (pc := 5) (j := 0) hX 0 rfl rfl dX6_writes_5 ?_
  refine gf_X6_49 (pc := 6) hX dX6_writes_6 ?_
  refine V_icmp_ne (pc := 9) (tgt := 16) hX dX6_writes_9 (by decide) (fun h9 => ?_) (fun h9 => ?_)
  · refine V_aload_n (pc := 16) (j := 0) hX 0 rfl rfl dX6_writes_16 ?_
    refine gf_X6_52 (pc := 17) hX dX6_writes_17 ?_
    refine pf_X6_52 (pc := 20) hX dX6_writes_20 ?_
    refine V_aload_n (pc := 23) (j := 0) hX 0 rfl rfl dX6_writes_23 ?_
    refine V_bipush (pc := 24) (z := 31) hX (oI 31) (by decide) dX6_writes_24 ?_
    refine V_aload_n (pc := 26) (j := 0) hX 0 rfl rfl dX6_writes_26 ?_
    refine gf_X6_55 (pc := 27) hX dX6_writes_27 ?_
    refine V_imul (pc := 30) hX dX6_writes_30 ?_
    refine V_iload_n (pc := 31) (j := 1) hX 1 rfl rfl dX6_writes_31 ?_
    refine V_iadd (pc := 32) hX dX6_writes_32 ?_
    refine pf_X6_55 (pc := 33) hX dX6_writes_33 ?_
    refine V_aload_n (pc := 36) (j := 0) hX 0 rfl rfl dX6_writes_36 ?_
    refine V_dup (pc := 37) hX rfl dX6_writes_37 ?_
    refine gf_X6_45 (pc := 38) hX dX6_writes_38 ?_
    refine V_iconst (pc := 41) (z := 1) hX (oI 1) rfl dX6_writes_41 ?_
    refine V_iadd (pc := 42) hX dX6_writes_42 ?_
    refine pf_X6_45 (pc := 43) hX dX6_writes_43 ?_
    refine V_vret (pc := 46) hX hR dX6_writes_46 ?_
    have h9 : ¬ φ.1 = I 14 := h9
    refine ⟨rfl, ?_⟩
    rw [← pf_put, rU_rU, rU_rU, rU_rU, if_neg h9]
    rfl
  · refine V_iload_n (pc := 12) (j := 1) hX 1 rfl rfl dX6_writes_12 ?_
    refine V_goto (pc := 13) (off := 7) (tgt := 20) hX (by decide) dX6_writes_13 ?_
    refine pf_X6_52 (pc := 20) hX dX6_writes_20 ?_
    refine V_aload_n (pc := 23) (j := 0) hX 0 rfl rfl dX6_writes_23 ?_
    refine V_bipush (pc := 24) (z := 31) hX (oI 31) (by decide) dX6_writes_24 ?_
    refine V_aload_n (pc := 26) (j := 0) hX 0 rfl rfl dX6_writes_26 ?_
    refine gf_X6_55 (pc := 27) hX dX6_writes_27 ?_
    refine V_imul (pc := 30) hX dX6_writes_30 ?_
    refine V_iload_n (pc := 31) (j := 1) hX 1 rfl rfl dX6_writes_31 ?_
    refine V_iadd (pc := 32) hX dX6_writes_32 ?_
    refine pf_X6_55 (pc := 33) hX dX6_writes_33 ?_
    refine V_aload_n (pc := 36) (j := 0) hX 0 rfl rfl dX6_writes_36 ?_
    refine V_dup (pc := 37) hX rfl dX6_writes_37 ?_
    refine gf_X6_45 (pc := 38) hX dX6_writes_38 ?_
    refine V_iconst (pc := 41) (z := 1) hX (oI 1) rfl dX6_writes_41 ?_
    refine V_iadd (pc := 42) hX dX6_writes_42 ?_
    refine pf_X6_45 (pc := 43) hX dX6_writes_43 ?_
    refine V_vret (pc := 46) hX hR dX6_writes_46 ?_
    have h9 : φ.1 = I 14 := h9
    refine ⟨rfl, ?_⟩
    rw [← pf_put, rU_rU, rU_rU, rU_rU, if_pos h9]
    rfl
def au (v : Int) : Int := if v < 0 then -v else v
def numS (v : Int) : List Int32 := (if v < 0 then [oI 45] else []) ++ ((if 9 < au v then [oI (48 + au v / 10)] else []) ++ [oI (48 + au v % 10)])
theorem numS_a {v : Int} (h : v < 0) (h2 : 9 < -v) : numS v = [oI 45, oI (48 + -v / 10), oI (48 + -v % 10)] := by
  have e : au v = -v := if_pos h
  rw [numS, e, if_pos h, if_pos h2]; rfl
theorem numS_b {v : Int} (h : v < 0) (h2 : ¬ 9 < -v) : numS v = [oI 45, oI (48 + -v % 10)] := by
  have e : au v = -v := if_pos h
  rw [numS, e, if_pos h, if_neg h2]; rfl
theorem numS_c {v : Int} (h : ¬ v < 0) (h2 : 9 < v) : numS v = [oI (48 + v / 10), oI (48 + v % 10)] := by
  have e : au v = v := if_neg h
  rw [numS, e, if_neg h, if_pos h2]; rfl
theorem numS_d {v : Int} (h : ¬ v < 0) (h2 : ¬ 9 < v) : numS v = [oI (48 + v % 10)] := by
  have e : au v = v := if_neg h
  rw [numS, e, if_neg h, if_neg h2]; rfl
theorem c_X6_writesNumber {E : Le} {l : Launch} {D : Dt} {I : Nat → Int32} {φ : Ph} {v : Int} (hv : -99 ≤ v ∧ v ≤ 99) : ConV E l yX6_writesNumber cX6_writesNumber 3 none 2 [.ref (E.1 (20, 0)), .int (oI v)] (rU D 20 (pf I φ)) (rU D 20 (pf I (wcL (I 14) φ (numS v)))) := by
  refine Con_of (by decide) (Nat.le_of_ble_eq_true rfl) ?_
  intro X hX hR hl; subst hl
  refine V_iload_n (pc := 0) (j := 1) hX 1 rfl rfl dX6_writesNumber_0 ?_
  refine Z_if_ge (pc := 1) (tgt := 9) hX (by omega) dX6_writesNumber_1 (by decide) (fun h1 => ?_) (fun h1 => ?_)
  · refine V_iload_n (pc := 9) (j := 1) hX 1 rfl rfl dX6_writesNumber_9 ?_
    refine V_istore_n (pc := 10) (j := 2) hX 2 rfl (by decide) rfl dX6_writesNumber_10 ?_
    refine V_iload_n (pc := 11) (j := 1) hX 1 rfl rfl dX6_writesNumber_11 ?_
    refine Z_if_ge (pc := 12) (tgt := 21) hX (by omega) dX6_writesNumber_12 (by decide) (fun h12 => ?_) (fun h12 => ?_)
    · refine V_iload_n (pc := 21) (j := 2) hX 2 rfl rfl dX6_writesNumber_21 ?_
      refine V_bipush (pc := 22) (z := 9) hX (oI 9) (by decide) dX6_writesNumber_22 ?_
      refine Z_icmp_le (pc := 24) (tgt := 38) hX (by omega) (by omega) dX6_writesNumber_24 (by decide) (fun h24 => ?_) (fun h24 => ?_)
      · refine V_aload_n (pc := 38) (j := 0) hX 0 rfl rfl dX6_writesNumber_38 ?_
        refine V_bipush (pc := 39) (z := 48) hX (oI 48) (by decide) dX6_writesNumber_39 ?_
        refine V_iload_n (pc := 41) (j := 2) hX 2 rfl rfl dX6_writesNumber_41 ?_
        refine V_bipush (pc := 42) (z := 10) hX (oI 10) (by decide) dX6_writesNumber_42 ?_
        refine Z_irem (pc := 44) hX (by omega) (by omega) (by omega) (by omega) dX6_writesNumber_44 ?_
        refine Z_iadd (pc := 45) hX dX6_writesNumber_45 ?_
        refine cVV1 (pc := 46) hX (c_X6_writes) (by decide) st_X6_58 ix_20 rfl rfl rfl (Nat.le_of_ble_eq_true rfl) dX6_writesNumber_46 ?_
        refine V_vret (pc := 49) hX hR dX6_writesNumber_49 ?_
        first
          | (exfalso; omega)
          | exact ⟨rfl, by rw [numS_a (by omega) (by omega)]; rfl⟩
          | exact ⟨rfl, by rw [numS_b (by omega) (by omega)]; rfl⟩
          | exact ⟨rfl, by rw [numS_c (by omega) (by omega)]; rfl⟩
          | exact ⟨rfl, by rw [numS_d (by omega) (by omega)]; rfl⟩
      · refine V_aload_n (pc := 27) (j := 0) hX 0 rfl rfl dX6_writesNumber_27 ?_
        refine V_bipush (pc := 28) (z := 48) hX (oI 48) (by decide) dX6_writesNumber_28 ?_
        refine V_iload_n (pc := 30) (j := 2) hX 2 rfl rfl dX6_writesNumber_30 ?_
        refine V_bipush (pc := 31) (z := 10) hX (oI 10) (by decide) dX6_writesNumber_31 ?_
        refine Z_idiv (pc := 33) hX (by omega) (by omega) (by omega) (by omega) dX6_writesNumber_33 ?_
        refine Z_iadd (pc := 34) hX dX6_writesNumber_34 ?_
        refine cVV1 (pc := 35) hX (c_X6_writes) (by decide) st_X6_58 ix_20 rfl rfl rfl (Nat.le_of_ble_eq_true rfl) dX6_writesNumber_35 ?_
        refine V_aload_n (pc := 38) (j := 0) hX 0 rfl rfl dX6_writesNumber_38 ?_
        refine V_bipush (pc := 39) (z := 48) hX (oI 48) (by decide) dX6_writesNumber_39 ?_
        refine V_iload_n (pc := 41) (j := 2) hX 2 rfl rfl dX6_writesNumber_41 ?_
        refine V_bipush (pc := 42) (z := 10) hX (oI 10) (by decide) dX6_writesNumber_42 ?_
        refine Z_irem (pc := 44) hX (by omega) (by omega) (by omega) (by omega) dX6_writesNumber_44 ?_
        refine Z_iadd (pc := 45) hX dX6_writesNumber_45 ?_
        refine cVV1 (pc := 46) hX (c_X6_writes) (by decide) st_X6_58 ix_20 rfl rfl rfl (Nat.le_of_ble_eq_true rfl) dX6_writesNumber_46 ?_
        refine V_vret (pc := 49) hX hR dX6_writesNumber_49 ?_
        first
          | (exfalso; omega)
          | exact ⟨rfl, by rw [numS_a (by omega) (by omega)]; rfl⟩
          | exact ⟨rfl, by rw [numS_b (by omega) (by omega)]; rfl⟩
          | exact ⟨rfl, by rw [numS_c (by omega) (by omega)]; rfl⟩
          | exact ⟨rfl, by rw [numS_d (by omega) (by omega)]; rfl⟩
    · refine V_aload_n (pc := 15) (j := 0) hX 0 rfl rfl dX6_writesNumber_15 ?_
      refine V_bipush (pc := 16) (z := 45) hX (oI 45) (by decide) dX6_writesNumber_16 ?_
      refine cVV1 (pc := 18) hX (c_X6_writes) (by decide) st_X6_58 ix_20 rfl rfl rfl (Nat.le_of_ble_eq_true rfl) dX6_writesNumber_18 ?_
      refine V_iload_n (pc := 21) (j := 2) hX 2 rfl rfl dX6_writesNumber_21 ?_
      refine V_bipush (pc := 22) (z := 9) hX (oI 9) (by decide) dX6_writesNumber_22 ?_
      refine Z_icmp_le (pc := 24) (tgt := 38) hX (by omega) (by omega) dX6_writesNumber_24 (by decide) (fun h24 => ?_) (fun h24 => ?_)
      · refine V_aload_n (pc := 38) (j := 0) hX 0 rfl rfl dX6_writesNumber_38 ?_
        refine V_bipush (pc := 39) (z := 48) hX (oI 48) (by decide) dX6_writesNumber_39 ?_
        refine V_iload_n (pc := 41) (j := 2) hX 2 rfl rfl dX6_writesNumber_41 ?_
        refine V_bipush (pc := 42) (z := 10) hX (oI 10) (by decide) dX6_writesNumber_42 ?_
        refine Z_irem (pc := 44) hX (by omega) (by omega) (by omega) (by omega) dX6_writesNumber_44 ?_
        refine Z_iadd (pc := 45) hX dX6_writesNumber_45 ?_
        refine cVV1 (pc := 46) hX (c_X6_writes) (by decide) st_X6_58 ix_20 rfl rfl rfl (Nat.le_of_ble_eq_true rfl) dX6_writesNumber_46 ?_
        refine V_vret (pc := 49) hX hR dX6_writesNumber_49 ?_
        first
          | (exfalso; omega)
          | exact ⟨rfl, by rw [numS_a (by omega) (by omega)]; rfl⟩
          | exact ⟨rfl, by rw [numS_b (by omega) (by omega)]; rfl⟩
          | exact ⟨rfl, by rw [numS_c (by omega) (by omega)]; rfl⟩
          | exact ⟨rfl, by rw [numS_d (by omega) (by omega)]; rfl⟩
      · refine V_aload_n (pc := 27) (j := 0) hX 0 rfl rfl dX6_writesNumber_27 ?_
        refine V_bipush (pc := 28) (z := 48) hX (oI 48) (by decide) dX6_writesNumber_28 ?_
        refine V_iload_n (pc := 30) (j := 2) hX 2 rfl rfl dX6_writesNumber_30 ?_
        refine V_bipush (pc := 31) (z := 10) hX (oI 10) (by decide) dX6_writesNumber_31 ?_
        refine Z_idiv (pc := 33) hX (by omega) (by omega) (by omega) (by omega) dX6_writesNumber_33 ?_
        refine Z_iadd (pc := 34) hX dX6_writesNumber_34 ?_
        refine cVV1 (pc := 35) hX (c_X6_writes) (by decide) st_X6_58 ix_20 rfl rfl rfl (Nat.le_of_ble_eq_true rfl) dX6_writesNumber_35 ?_
        refine V_aload_n (pc := 38) (j := 0) hX 0 rfl rfl dX6_writesNumber_38 ?_
        refine V_bipush (pc := 39) (z := 48) hX (oI 48) (by decide) dX6_writesNumber_39 ?_
        refine V_iload_n (pc := 41) (j := 2) hX 2 rfl rfl dX6_writesNumber_41 ?_
        refine V_bipush (pc := 42) (z := 10) hX (oI 10) (by decide) dX6_writesNumber_42 ?_
        refine Z_irem (pc := 44) hX (by omega) (by omega) (by omega) (by omega) dX6_writesNumber_44 ?_
        refine Z_iadd (pc := 45) hX dX6_writesNumber_45 ?_
        refine cVV1 (pc := 46) hX (c_X6_writes) (by decide) st_X6_58 ix_20 rfl rfl rfl (Nat.le_of_ble_eq_true rfl) dX6_writesNumber_46 ?_
        refine V_vret (pc := 49) hX hR dX6_writesNumber_49 ?_
        first
          | (exfalso; omega)
          | exact ⟨rfl, by rw [numS_a (by omega) (by omega)]; rfl⟩
          | exact ⟨rfl, by rw [numS_b (by omega) (by omega)]; rfl⟩
          | exact ⟨rfl, by rw [numS_c (by omega) (by omega)]; rfl⟩
          | exact ⟨rfl, by rw [numS_d (by omega) (by omega)]; rfl⟩
  · refine V_iload_n (pc := 4) (j := 1) hX 1 rfl rfl dX6_writesNumber_4 ?_
    refine Z_ineg (pc := 5) hX dX6_writesNumber_5 ?_
    refine V_goto (pc := 6) (off := 4) (tgt := 10) hX (by decide) dX6_writesNumber_6 ?_
    refine V_istore_n (pc := 10) (j := 2) hX 2 rfl (by decide) rfl dX6_writesNumber_10 ?_
    refine V_iload_n (pc := 11) (j := 1) hX 1 rfl rfl dX6_writesNumber_11 ?_
    refine Z_if_ge (pc := 12) (tgt := 21) hX (by omega) dX6_writesNumber_12 (by decide) (fun h12 => ?_) (fun h12 => ?_)
    · refine V_iload_n (pc := 21) (j := 2) hX 2 rfl rfl dX6_writesNumber_21 ?_
      refine V_bipush (pc := 22) (z := 9) hX (oI 9) (by decide) dX6_writesNumber_22 ?_
      refine Z_icmp_le (pc := 24) (tgt := 38) hX (by omega) (by omega) dX6_writesNumber_24 (by decide) (fun h24 => ?_) (fun h24 => ?_)
      · refine V_aload_n (pc := 38) (j := 0) hX 0 rfl rfl dX6_writesNumber_38 ?_
        refine V_bipush (pc := 39) (z := 48) hX (oI 48) (by decide) dX6_writesNumber_39 ?_
        refine V_iload_n (pc := 41) (j := 2) hX 2 rfl rfl dX6_writesNumber_41 ?_
        refine V_bipush (pc := 42) (z := 10) hX (oI 10) (by decide) dX6_writesNumber_42 ?_
        refine Z_irem (pc := 44) hX (by omega) (by omega) (by omega) (by omega) dX6_writesNumber_44 ?_
        refine Z_iadd (pc := 45) hX dX6_writesNumber_45 ?_
        refine cVV1 (pc := 46) hX (c_X6_writes) (by decide) st_X6_58 ix_20 rfl rfl rfl (Nat.le_of_ble_eq_true rfl) dX6_writesNumber_46 ?_
        refine V_vret (pc := 49) hX hR dX6_writesNumber_49 ?_
        first
          | (exfalso; omega)
          | exact ⟨rfl, by rw [numS_a (by omega) (by omega)]; rfl⟩
          | exact ⟨rfl, by rw [numS_b (by omega) (by omega)]; rfl⟩
          | exact ⟨rfl, by rw [numS_c (by omega) (by omega)]; rfl⟩
          | exact ⟨rfl, by rw [numS_d (by omega) (by omega)]; rfl⟩
      · refine V_aload_n (pc := 27) (j := 0) hX 0 rfl rfl dX6_writesNumber_27 ?_
        refine V_bipush (pc := 28) (z := 48) hX (oI 48) (by decide) dX6_writesNumber_28 ?_
        refine V_iload_n (pc := 30) (j := 2) hX 2 rfl rfl dX6_writesNumber_30 ?_
        refine V_bipush (pc := 31) (z := 10) hX (oI 10) (by decide) dX6_writesNumber_31 ?_
        refine Z_idiv (pc := 33) hX (by omega) (by omega) (by omega) (by omega) dX6_writesNumber_33 ?_
        refine Z_iadd (pc := 34) hX dX6_writesNumber_34 ?_
        refine cVV1 (pc := 35) hX (c_X6_writes) (by decide) st_X6_58 ix_20 rfl rfl rfl (Nat.le_of_ble_eq_true rfl) dX6_writesNumber_35 ?_
        refine V_aload_n (pc := 38) (j := 0) hX 0 rfl rfl dX6_writesNumber_38 ?_
        refine V_bipush (pc := 39) (z := 48) hX (oI 48) (by decide) dX6_writesNumber_39 ?_
        refine V_iload_n (pc := 41) (j := 2) hX 2 rfl rfl dX6_writesNumber_41 ?_
        refine V_bipush (pc := 42) (z := 10) hX (oI 10) (by decide) dX6_writesNumber_42 ?_
        refine Z_irem (pc := 44) hX (by omega) (by omega) (by omega) (by omega) dX6_writesNumber_44 ?_
        refine Z_iadd (pc := 45) hX dX6_writesNumber_45 ?_
        refine cVV1 (pc := 46) hX (c_X6_writes) (by decide) st_X6_58 ix_20 rfl rfl rfl (Nat.le_of_ble_eq_true rfl) dX6_writesNumber_46 ?_
        refine V_vret (pc := 49) hX hR dX6_writesNumber_49 ?_
        first
          | (exfalso; omega)
          | exact ⟨rfl, by rw [numS_a (by omega) (by omega)]; rfl⟩
          | exact ⟨rfl, by rw [numS_b (by omega) (by omega)]; rfl⟩
          | exact ⟨rfl, by rw [numS_c (by omega) (by omega)]; rfl⟩
          | exact ⟨rfl, by rw [numS_d (by omega) (by omega)]; rfl⟩
    · refine V_aload_n (pc := 15) (j := 0) hX 0 rfl rfl dX6_writesNumber_15 ?_
      refine V_bipush (pc := 16) (z := 45) hX (oI 45) (by decide) dX6_writesNumber_16 ?_
      refine cVV1 (pc := 18) hX (c_X6_writes) (by decide) st_X6_58 ix_20 rfl rfl rfl (Nat.le_of_ble_eq_true rfl) dX6_writesNumber_18 ?_
      refine V_iload_n (pc := 21) (j := 2) hX 2 rfl rfl dX6_writesNumber_21 ?_
      refine V_bipush (pc := 22) (z := 9) hX (oI 9) (by decide) dX6_writesNumber_22 ?_
      refine Z_icmp_le (pc := 24) (tgt := 38) hX (by omega) (by omega) dX6_writesNumber_24 (by decide) (fun h24 => ?_) (fun h24 => ?_)
      · refine V_aload_n (pc := 38) (j := 0) hX 0 rfl rfl dX6_writesNumber_38 ?_
        refine V_bipush (pc := 39) (z := 48) hX (oI 48) (by decide) dX6_writesNumber_39 ?_
        refine V_iload_n (pc := 41) (j := 2) hX 2 rfl rfl dX6_writesNumber_41 ?_
        refine V_bipush (pc := 42) (z := 10) hX (oI 10) (by decide) dX6_writesNumber_42 ?_
        refine Z_irem (pc := 44) hX (by omega) (by omega) (by omega) (by omega) dX6_writesNumber_44 ?_
        refine Z_iadd (pc := 45) hX dX6_writesNumber_45 ?_
        refine cVV1 (pc := 46) hX (c_X6_writes) (by decide) st_X6_58 ix_20 rfl rfl rfl (Nat.le_of_ble_eq_true rfl) dX6_writesNumber_46 ?_
        refine V_vret (pc := 49) hX hR dX6_writesNumber_49 ?_
        first
          | (exfalso; omega)
          | exact ⟨rfl, by rw [numS_a (by omega) (by omega)]; rfl⟩
          | exact ⟨rfl, by rw [numS_b (by omega) (by omega)]; rfl⟩
          | exact ⟨rfl, by rw [numS_c (by omega) (by omega)]; rfl⟩
          | exact ⟨rfl, by rw [numS_d (by omega) (by omega)]; rfl⟩
      · refine V_aload_n (pc := 27) (j := 0) hX 0 rfl rfl dX6_writesNumber_27 ?_
        refine V_bipush (pc := 28) (z := 48) hX (oI 48) (by decide) dX6_writesNumber_28 ?_
        refine V_iload_n (pc := 30) (j := 2) hX 2 rfl rfl dX6_writesNumber_30 ?_
        refine V_bipush (pc := 31) (z := 10) hX (oI 10) (by decide) dX6_writesNumber_31 ?_
        refine Z_idiv (pc := 33) hX (by omega) (by omega) (by omega) (by omega) dX6_writesNumber_33 ?_
        refine Z_iadd (pc := 34) hX dX6_writesNumber_34 ?_
        refine cVV1 (pc := 35) hX (c_X6_writes) (by decide) st_X6_58 ix_20 rfl rfl rfl (Nat.le_of_ble_eq_true rfl) dX6_writesNumber_35 ?_
        refine V_aload_n (pc := 38) (j := 0) hX 0 rfl rfl dX6_writesNumber_38 ?_
        refine V_bipush (pc := 39) (z := 48) hX (oI 48) (by decide) dX6_writesNumber_39 ?_
        refine V_iload_n (pc := 41) (j := 2) hX 2 rfl rfl dX6_writesNumber_41 ?_
        refine V_bipush (pc := 42) (z := 10) hX (oI 10) (by decide) dX6_writesNumber_42 ?_
        refine Z_irem (pc := 44) hX (by omega) (by omega) (by omega) (by omega) dX6_writesNumber_44 ?_
        refine Z_iadd (pc := 45) hX dX6_writesNumber_45 ?_
        refine cVV1 (pc := 46) hX (c_X6_writes) (by decide) st_X6_58 ix_20 rfl rfl rfl (Nat.le_of_ble_eq_true rfl) dX6_writesNumber_46 ?_
        refine V_vret (pc := 49) hX hR dX6_writesNumber_49 ?_
        first
          | (exfalso; omega)
          | exact ⟨rfl, by rw [numS_a (by omega) (by omega)]; rfl⟩
          | exact ⟨rfl, by rw [numS_b (by omega) (by omega)]; rfl⟩
          | exact ⟨rfl, by rw [numS_c (by omega) (by omega)]; rfl⟩
          | exact ⟨rfl, by rw [numS_d (by omega) (by omega)]; rfl⟩
def fOf (what x behind y below : Int) : Int := if what = 0 then x else if what = 1 then behind else if what = 2 then y else below
theorem c_X6_firstOf {E : Le} {l : Launch} {D : Dt} {wh x b y z : Int} (hw : Rg wh) : ConI E l yX6_firstOf cX6_firstOf 5 (some .int) 1 [.int (oI wh), .int (oI x), .int (oI b), .int (oI y), .int (oI z)] D (oI (fOf wh x b y z)) D := by
  refine Con_of (by decide) (Nat.le_of_ble_eq_true rfl) ?_
  intro X hX hR hl; subst hl
  refine V_iload_n (pc := 0) (j := 0) hX 0 rfl rfl dX6_firstOf_0 ?_
  refine Z_if_ne (pc := 1) (tgt := 8) hX (by omega) dX6_firstOf_1 (by decide) (fun h1 => ?_) (fun h1 => ?_)
  · refine V_iload_n (pc := 8) (j := 0) hX 0 rfl rfl dX6_firstOf_8 ?_
    refine V_iconst (pc := 9) (z := 1) hX (oI 1) rfl dX6_firstOf_9 ?_
    refine Z_icmp_ne (pc := 10) (tgt := 17) hX (by omega) (by omega) dX6_firstOf_10 (by decide) (fun h10 => ?_) (fun h10 => ?_)
    · refine V_iload_n (pc := 17) (j := 0) hX 0 rfl rfl dX6_firstOf_17 ?_
      refine V_iconst (pc := 18) (z := 2) hX (oI 2) rfl dX6_firstOf_18 ?_
      refine Z_icmp_ne (pc := 19) (tgt := 26) hX (by omega) (by omega) dX6_firstOf_19 (by decide) (fun h19 => ?_) (fun h19 => ?_)
      · refine V_iload (pc := 26) hX rfl dX6_firstOf_26 ?_
        refine V_iret (pc := 28) hX hR dX6_firstOf_28 ?_
        refine ⟨?_, rfl⟩
        first
          | (rw [fOf, if_pos (by omega)]; done)
          | (rw [fOf, if_neg (by omega), if_pos (by omega)]; done)
          | (rw [fOf, if_neg (by omega), if_neg (by omega), if_pos (by omega)]; done)
          | (rw [fOf, if_neg (by omega), if_neg (by omega), if_neg (by omega)]; done)
      · refine V_iload_n (pc := 22) (j := 3) hX 3 rfl rfl dX6_firstOf_22 ?_
        refine V_goto (pc := 23) (off := 5) (tgt := 28) hX (by decide) dX6_firstOf_23 ?_
        refine V_iret (pc := 28) hX hR dX6_firstOf_28 ?_
        refine ⟨?_, rfl⟩
        first
          | (rw [fOf, if_pos (by omega)]; done)
          | (rw [fOf, if_neg (by omega), if_pos (by omega)]; done)
          | (rw [fOf, if_neg (by omega), if_neg (by omega), if_pos (by omega)]; done)
          | (rw [fOf, if_neg (by omega), if_neg (by omega), if_neg (by omega)]; done)
    · refine V_iload_n (pc := 13) (j := 2) hX 2 rfl rfl dX6_firstOf_13 ?_
      refine V_goto (pc := 14) (off := 14) (tgt := 28) hX (by decide) dX6_firstOf_14 ?_
      refine V_iret (pc := 28) hX hR dX6_firstOf_28 ?_
      refine ⟨?_, rfl⟩
      first
        | (rw [fOf, if_pos (by omega)]; done)
        | (rw [fOf, if_neg (by omega), if_pos (by omega)]; done)
        | (rw [fOf, if_neg (by omega), if_neg (by omega), if_pos (by omega)]; done)
        | (rw [fOf, if_neg (by omega), if_neg (by omega), if_neg (by omega)]; done)
  · refine V_iload_n (pc := 4) (j := 1) hX 1 rfl rfl dX6_firstOf_4 ?_
    refine V_goto (pc := 5) (off := 23) (tgt := 28) hX (by decide) dX6_firstOf_5 ?_
    refine V_iret (pc := 28) hX hR dX6_firstOf_28 ?_
    refine ⟨?_, rfl⟩
    first
      | (rw [fOf, if_pos (by omega)]; done)
      | (rw [fOf, if_neg (by omega), if_pos (by omega)]; done)
      | (rw [fOf, if_neg (by omega), if_neg (by omega), if_pos (by omega)]; done)
      | (rw [fOf, if_neg (by omega), if_neg (by omega), if_neg (by omega)]; done)
/-! a row's spans -/
def rnX (p : Int → Bool) (x : Int) : Int := if _h : x ≤ 59 ∧ p x = true then rnX p (x + 1) else x
termination_by (60 - x).toNat
decreasing_by omega
theorem rnX_t {p : Int → Bool} {x : Int} (h : x ≤ 59) (hp : p x = true) : rnX p x = rnX p (x + 1) := by
  rw [rnX, dif_pos ⟨h, hp⟩]
theorem rnX_f {p : Int → Bool} {x : Int} (h : ¬ (x ≤ 59 ∧ p x = true)) : rnX p x = x := by
  rw [rnX, dif_neg h]
theorem rnX_ge (p : Int → Bool) : ∀ (n : Nat) (x : Int), (60 - x).toNat ≤ n → x ≤ rnX p x := by
  intro n
  induction n with
  | zero => intro x h; rw [rnX_f (by omega)]; exact Int.le_refl x
  | succ n ih =>
    intro x h
    by_cases q : x ≤ 59 ∧ p x = true
    · rw [rnX_t q.1 q.2]
      have := ih (x + 1) (by omega)
      omega
    · rw [rnX_f q]; exact Int.le_refl x
theorem rnX_le (p : Int → Bool) : ∀ (n : Nat) (x : Int), (60 - x).toNat ≤ n → x ≤ 60 → rnX p x ≤ 60 := by
  intro n
  induction n with
  | zero => intro x h h2; rw [rnX_f (by omega)]; exact h2
  | succ n ih =>
    intro x h h2
    by_cases q : x ≤ 59 ∧ p x = true
    · rw [rnX_t q.1 q.2]
      exact ih (x + 1) (by omega) (by omega)
    · rw [rnX_f q]; exact h2
def spX (p : Int → Bool) (x : Int) : List (Int × Int) :=
  if _h : x ≤ 59 then (if x < rnX p x then (x, rnX p x) :: spX p (rnX p x + 1) else spX p (rnX p x + 1)) else []
termination_by (61 - x).toNat
decreasing_by all_goals (have := rnX_ge p _ x (Nat.le_refl _); omega)
theorem spX_0 {p : Int → Bool} {x : Int} (h : 59 < x) : spX p x = [] := by rw [spX, dif_neg (by omega)]
theorem spX_t {p : Int → Bool} {x : Int} (h : x ≤ 59) (h2 : x < rnX p x) : spX p x = (x, rnX p x) :: spX p (rnX p x + 1) := by rw [spX, dif_pos h, if_pos h2]
theorem spX_f {p : Int → Bool} {x : Int} (h : x ≤ 59) (h2 : ¬ x < rnX p x) : spX p x = spX p (rnX p x + 1) := by rw [spX, dif_pos h, if_neg h2]
/-- a span is written and looked at -/
def spanS (I : Nat → Int32) (wh y z : Int) (φ : Ph) (c : List Int32) (q : Int × Int) : Ph := match wcL (I 14) φ (c ++ (numS q.1 ++ (oI 46 :: numS q.2))) with
  | ψ => (ψ.1, ψ.2.1, ψ.2.2.1, ψ.2.2.2.1 + oI 1, ψ.2.2.2.2.1, if ψ.2.2.2.1 = I 11 then oI (fOf wh q.1 q.2 y z) else ψ.2.2.2.2.2)
def spansS (I : Nat → Int32) (wh y z : Int) : Ph → List Int32 → List (Int × Int) → Ph
  | φ, _, [] => φ
  | φ, c, q :: r => spansS I wh y z (spanS I wh y z φ c q) [oI 44] r
/-- a band is written -/
def bandS (I : Nat → Int32) (wh y z : Int) (φ : Ph) (L : List (Int × Int)) : Ph := match wcL (I 14) (spansS I wh y z (wcL (I 14) φ (numS y ++ (oI 46 :: (numS z ++ [oI 58])))) [] L) [oI 59] with
  | ψ => (ψ.1, ψ.2.1, ψ.2.2.1, ψ.2.2.2.1, ψ.2.2.2.2.1 + oI 1, ψ.2.2.2.2.2)
theorem hp_span (D : Dt) (I : Nat → Int32) (ψ : Ph) (v : Int32) : rU (rU (rU D 20 (pf I ψ)) 20 (upd ((rU D 20 (pf I ψ)).1 20) 12 v)) 20 (upd ((rU (rU D 20 (pf I ψ)) 20 (upd ((rU D 20 (pf I ψ)).1 20) 12 v)).1 20) 9 ((rU (rU D 20 (pf I ψ)) 20 (upd ((rU D 20 (pf I ψ)).1 20) 12 v)).1 20 9 + oI 1)) = rU D 20 (pf I (ψ.1, ψ.2.1, ψ.2.2.1, ψ.2.2.2.1 + oI 1, ψ.2.2.2.2.1, v)) := by
  rw [rU_rU, rU_rU]
  show rU D 20 (upd (upd (pf I ψ) 12 v) 9 (ψ.2.2.2.1 + oI 1)) = _
  rw [pf_12, pf_9]
theorem hp_10 (D : Dt) (I : Nat → Int32) (ψ : Ph) : rU (rU D 20 (pf I ψ)) 20 (upd ((rU D 20 (pf I ψ)).1 20) 10 ((rU D 20 (pf I ψ)).1 20 10 + oI 1)) = rU D 20 (pf I (ψ.1, ψ.2.1, ψ.2.2.1, ψ.2.2.2.1, ψ.2.2.2.2.1 + oI 1, ψ.2.2.2.2.2)) := by
  rw [rU_rU]
  show rU D 20 (upd (pf I ψ) 10 (ψ.2.2.2.2.1 + oI 1)) = _
  rw [pf_10]
theorem spanS_t {I : Nat → Int32} {wh y z : Int} {φ ψ : Ph} {c : List Int32} {q : Int × Int} (h : ψ = wcL (I 14) φ (c ++ (numS q.1 ++ (oI 46 :: numS q.2)))) (hs : ψ.2.2.2.1 = I 11) : (ψ.1, ψ.2.1, ψ.2.2.1, ψ.2.2.2.1 + oI 1, ψ.2.2.2.2.1, oI (fOf wh q.1 q.2 y z)) = spanS I wh y z φ c q := by
  subst h
  rw [spanS, if_pos hs]
theorem spanS_f {I : Nat → Int32} {wh y z : Int} {φ ψ : Ph} {c : List Int32} {q : Int × Int} (h : ψ = wcL (I 14) φ (c ++ (numS q.1 ++ (oI 46 :: numS q.2)))) (hs : ¬ ψ.2.2.2.1 = I 11) : (ψ.1, ψ.2.1, ψ.2.2.1, ψ.2.2.2.1 + oI 1, ψ.2.2.2.2.1, ψ.2.2.2.2.2) = spanS I wh y z φ c q := by
  subst h
  rw [spanS, if_neg hs]
abbrev psiS (I : Nat → Int32) (φ : Ph) (x b : Int) : Ph := wcL (I 14) (wc (I 14) (wcL (I 14) φ (numS x)) (oI 46)) (numS b)
theorem spanS_tA {I : Nat → Int32} {wh y z x b : Int} {φ : Ph} (hs : (psiS I φ x b).2.2.2.1 = I 11) : ((psiS I φ x b).1, (psiS I φ x b).2.1, (psiS I φ x b).2.2.1, (psiS I φ x b).2.2.2.1 + oI 1, (psiS I φ x b).2.2.2.2.1, oI (fOf wh x b y z)) = spanS I wh y z φ [] (x, b) := spanS_t (ψ := psiS I φ x b) (c := []) (q := (x, b)) (by rw [wcL_app, wcL_app, wcL_cons]; rfl) hs
theorem spanS_fA {I : Nat → Int32} {wh y z x b : Int} {φ : Ph} (hs : ¬ (psiS I φ x b).2.2.2.1 = I 11) : ((psiS I φ x b).1, (psiS I φ x b).2.1, (psiS I φ x b).2.2.1, (psiS I φ x b).2.2.2.1 + oI 1, (psiS I φ x b).2.2.2.2.1, (psiS I φ x b).2.2.2.2.2) = spanS I wh y z φ [] (x, b) := spanS_f (ψ := psiS I φ x b) (c := []) (q := (x, b)) (by rw [wcL_app, wcL_app, wcL_cons]; rfl) hs
theorem spanS_tB {I : Nat → Int32} {wh y z x b : Int} {φ0 φ : Ph} (e : wc (I 14) φ0 (oI 44) = φ) (hs : (psiS I φ x b).2.2.2.1 = I 11) : ((psiS I φ x b).1, (psiS I φ x b).2.1, (psiS I φ x b).2.2.1, (psiS I φ x b).2.2.2.1 + oI 1, (psiS I φ x b).2.2.2.2.1, oI (fOf wh x b y z)) = spanS I wh y z φ0 [oI 44] (x, b) := spanS_t (ψ := psiS I φ x b) (c := [oI 44]) (q := (x, b)) (by rw [← e, wcL_app, wcL_app, wcL_cons]; rfl) hs
theorem spanS_fB {I : Nat → Int32} {wh y z x b : Int} {φ0 φ : Ph} (e : wc (I 14) φ0 (oI 44) = φ) (hs : ¬ (psiS I φ x b).2.2.2.1 = I 11) : ((psiS I φ x b).1, (psiS I φ x b).2.1, (psiS I φ x b).2.2.1, (psiS I φ x b).2.2.2.1 + oI 1, (psiS I φ x b).2.2.2.2.1, (psiS I φ x b).2.2.2.2.2) = spanS I wh y z φ0 [oI 44] (x, b) := spanS_f (ψ := psiS I φ x b) (c := [oI 44]) (q := (x, b)) (by rw [← e, wcL_app, wcL_app, wcL_cons]; rfl) hs
theorem bandS_eq {I : Nat → Int32} {wh y z : Int} {φ ψ : Ph} {L : List (Int × Int)} (h : spansS I wh y z (wcL (I 14) φ (numS y ++ (oI 46 :: (numS z ++ [oI 58])))) [] L = ψ) : ((wc (I 14) ψ (oI 59)).1, (wc (I 14) ψ (oI 59)).2.1, (wc (I 14) ψ (oI 59)).2.2.1, (wc (I 14) ψ (oI 59)).2.2.2.1, (wc (I 14) ψ (oI 59)).2.2.2.2.1 + oI 1, (wc (I 14) ψ (oI 59)).2.2.2.2.2) = bandS I wh y z φ L := by
  subst h
  rfl
theorem c_X6_band {E : Le} {l : Launch} {D : Dt} {I : Nat → Int32} {φ : Ph} {a : Nat} {y z wh : Int} (ha : a < 13) (hy : -60 ≤ y ∧ y ≤ 59) (hz : -60 ≤ z ∧ z ≤ 60) (hw : Rg wh) : ConV E l yX6_band cX6_band 8 none 4 [.ref (E.1 (20, 0)), .int (oI (a : Int)), .int (oI y), .int (oI z), .int (oI wh)] (rU D 20 (pf I φ)) (rU D 20 (pf I (bandS I wh y z φ (spX (fun u => hasM (D.2.1 21 0) a u y) (-60))))) := by
  refine Con_of (by decide) (Nat.le_of_ble_eq_true rfl) ?_
  intro X hX hR hl; subst hl
  obtain ⟨ψ0, hψ⟩ : ∃ ψ, spansS I wh y z (wcL (I 14) φ (numS y ++ (oI 46 :: (numS z ++ [oI 58])))) [] (spX (fun u => hasM (D.2.1 21 0) a u y) (-60)) = ψ := ⟨_, rfl⟩
  have outer : ∀ (m : Nat) (x f : Int) (c : List Int32) (φ : Ph), (-60 ≤ x ∧ x ≤ 61) → ((f = 1 ∧ c = []) ∨ (f = 0 ∧ c = [oI 44])) → spansS I wh y z φ c (spX (fun u => hasM (D.2.1 21 0) a u y) x) = ψ0 → (61 - x).toNat < m → Vw E X 8 (rU D 20 (pf I φ)) 29 [(0, some (.ref (E.1 (20, 0)))), (1, some (.int (oI (a : Int)))), (2, some (.int (oI y))), (3, some (.int (oI z))), (4, some (.int (oI wh))), (5, some (.int (oI f))), (6, some (.int (oI x)))] [] := by
    intro m
    induction m with
    | zero => intro x f c φ g1 hc hL g4; omega
    | succ m ihO =>
      intro x f c φ g1 hc hL g4
      have inner : x ≤ 59 → ∀ (m : Nat) (b : Int), (x ≤ b ∧ b ≤ 60) → rnX (fun u => hasM (D.2.1 21 0) a u y) b = rnX (fun u => hasM (D.2.1 21 0) a u y) x → (60 - b).toNat < m → Vw E X 8 (rU D 20 (pf I φ)) 40 [(0, some (.ref (E.1 (20, 0)))), (1, some (.int (oI (a : Int)))), (2, some (.int (oI y))), (3, some (.int (oI z))), (4, some (.int (oI wh))), (5, some (.int (oI f))), (6, some (.int (oI x))), (7, some (.int (oI b)))] [] := by
        intro hx59 m
        induction m with
        | zero => intro b g1 g2 g3; omega
        | succ m ih =>
          intro b g1 g2 g3
          refine V_aload_n (pc := 40) (j := 0) hX 0 rfl rfl dX6_band_40 ?_
          refine V_iload_n (pc := 41) (j := 1) hX 1 rfl rfl dX6_band_41 ?_
          refine V_iload (pc := 42) hX rfl dX6_band_42 ?_
          refine V_iload_n (pc := 44) (j := 2) hX 2 rfl rfl dX6_band_44 ?_
          refine cVI3 (pc := 45) hX (c_X6_has (by omega) (by omega) (by omega)) (by decide) st_X6_65 ix_20 rfl rfl rfl (Nat.le_of_ble_eq_true rfl) dX6_band_45 ?_
          refine B_if_eq (pc := 48) (tgt := 57) hX dX6_band_48 (by decide) (fun h48 => ?_) (fun h48 => ?_)
          · have eb : rnX (fun u => hasM (D.2.1 21 0) a u y) x = b := by rw [← g2]; exact rnX_f (fun q => by rw [show hasM (D.2.1 21 0) a b y = false from h48] at q; cases q.2)
            refine V_iload (pc := 57) hX rfl dX6_band_57 ?_
            refine V_iload (pc := 59) hX rfl dX6_band_59 ?_
            refine Z_icmp_le (pc := 61) (tgt := 139) hX (by omega) (by omega) dX6_band_61 (by decide) (fun h61 => ?_) (fun h61 => ?_)
            · refine V_iload (pc := 139) hX rfl dX6_band_139 ?_
              refine V_iconst (pc := 141) (z := 1) hX (oI 1) rfl dX6_band_141 ?_
              refine Z_iadd (pc := 142) hX dX6_band_142 ?_
              refine V_istore (pc := 143) hX (by decide) rfl dX6_band_143 ?_
              refine V_goto (pc := 145) (off := (-116)) (tgt := 29) hX (by decide) dX6_band_145 ?_
              have hs : spX (fun u => hasM (D.2.1 21 0) a u y) x = spX (fun u => hasM (D.2.1 21 0) a u y) (b + 1) := by rw [spX_f (x := x) (by omega) (by rw [eb]; omega), eb]
              rw [hs] at hL
              refine V_cut [(0, some (.ref (E.1 (20, 0)))), (1, some (.int (oI (a : Int)))), (2, some (.int (oI y))), (3, some (.int (oI z))), (4, some (.int (oI wh))), (5, some (.int (oI f))), (6, some (.int (oI (b + 1))))] ⟨rfl, rfl, rfl, rfl, rfl, rfl, rfl, trivial⟩ ?_
              exact ihO (b + 1) f c φ (by omega) hc hL (by omega)
            · refine V_iload (pc := 64) hX rfl dX6_band_64 ?_
              refine Z_if_ne (pc := 66) (tgt := 75) hX (by omega) dX6_band_66 (by decide) (fun h66 => ?_) (fun h66 => ?_)
              · refine V_iconst (pc := 75) (z := 0) hX (oI 0) rfl dX6_band_75 ?_
                refine V_istore (pc := 76) hX (by decide) rfl dX6_band_76 ?_
                refine V_aload_n (pc := 78) (j := 0) hX 0 rfl rfl dX6_band_78 ?_
                refine V_iload (pc := 79) hX rfl dX6_band_79 ?_
                refine cVV1 (pc := 81) hX (c_X6_writesNumber (by omega)) (by decide) st_X6_62 ix_20 rfl rfl rfl (Nat.le_of_ble_eq_true rfl) dX6_band_81 ?_
                refine V_aload_n (pc := 84) (j := 0) hX 0 rfl rfl dX6_band_84 ?_
                refine V_bipush (pc := 85) (z := 46) hX (oI 46) (by decide) dX6_band_85 ?_
                refine cVV1 (pc := 87) hX (c_X6_writes) (by decide) st_X6_58 ix_20 rfl rfl rfl (Nat.le_of_ble_eq_true rfl) dX6_band_87 ?_
                refine V_aload_n (pc := 90) (j := 0) hX 0 rfl rfl dX6_band_90 ?_
                refine V_iload (pc := 91) hX rfl dX6_band_91 ?_
                refine cVV1 (pc := 93) hX (c_X6_writesNumber (by omega)) (by decide) st_X6_62 ix_20 rfl rfl rfl (Nat.le_of_ble_eq_true rfl) dX6_band_93 ?_
                refine V_aload_n (pc := 96) (j := 0) hX 0 rfl rfl dX6_band_96 ?_
                refine V_aload_n (pc := 97) (j := 0) hX 0 rfl rfl dX6_band_97 ?_
                refine gf_X6_68 (pc := 98) hX dX6_band_98 ?_
                refine V_aload_n (pc := 101) (j := 0) hX 0 rfl rfl dX6_band_101 ?_
                refine gf_X6_71 (pc := 102) hX dX6_band_102 ?_
                refine V_icmp_ne (pc := 105) (tgt := 122) hX dX6_band_105 (by decide) (fun h105 => ?_) (fun h105 => ?_)
                · refine V_aload_n (pc := 122) (j := 0) hX 0 rfl rfl dX6_band_122 ?_
                  refine gf_X6_78 (pc := 123) hX dX6_band_123 ?_
                  refine pf_X6_78 (pc := 126) hX dX6_band_126 ?_
                  refine V_aload_n (pc := 129) (j := 0) hX 0 rfl rfl dX6_band_129 ?_
                  refine V_dup (pc := 130) hX rfl dX6_band_130 ?_
                  refine gf_X6_68 (pc := 131) hX dX6_band_131 ?_
                  refine V_iconst (pc := 134) (z := 1) hX (oI 1) rfl dX6_band_134 ?_
                  refine V_iadd (pc := 135) hX dX6_band_135 ?_
                  refine pf_X6_68 (pc := 136) hX dX6_band_136 ?_
                  refine V_heap (hp_span D I _ _) ?_
                  refine V_iload (pc := 139) hX rfl dX6_band_139 ?_
                  refine V_iconst (pc := 141) (z := 1) hX (oI 1) rfl dX6_band_141 ?_
                  refine Z_iadd (pc := 142) hX dX6_band_142 ?_
                  refine V_istore (pc := 143) hX (by decide) rfl dX6_band_143 ?_
                  refine V_goto (pc := 145) (off := (-116)) (tgt := 29) hX (by decide) dX6_band_145 ?_
                  have hs : spX (fun u => hasM (D.2.1 21 0) a u y) x = (x, b) :: spX (fun u => hasM (D.2.1 21 0) a u y) (b + 1) := by rw [spX_t (x := x) (by omega) (by rw [eb]; omega), eb]
                  rw [hs] at hL
                  refine V_cut [(0, some (.ref (E.1 (20, 0)))), (1, some (.int (oI (a : Int)))), (2, some (.int (oI y))), (3, some (.int (oI z))), (4, some (.int (oI wh))), (5, some (.int (oI 0))), (6, some (.int (oI (b + 1))))] ⟨rfl, rfl, rfl, rfl, rfl, rfl, rfl, trivial⟩ ?_
                  refine V_heap (D' := rU D 20 (pf I (spanS I wh y z φ c (x, b)))) ?_ (ihO (b + 1) 0 [oI 44] _ (by omega) (Or.inr ⟨rfl, rfl⟩) hL (by omega))
                  refine congrArg (fun q => rU D 20 (pf I q)) ?_
                  rcases hc with ⟨hf, rfl⟩ | ⟨hf, rfl⟩
                  · first | (exfalso; omega) | exact spanS_tA (I := I) (φ := φ) (x := x) (b := b) h105 | exact spanS_fA (I := I) (φ := φ) (x := x) (b := b) h105
                  · first | (exfalso; omega) | exact spanS_tB (I := I) (φ := wc (I 14) φ (oI 44)) (x := x) (b := b) rfl h105 | exact spanS_fB (I := I) (φ := wc (I 14) φ (oI 44)) (x := x) (b := b) rfl h105
                · refine V_iload (pc := 108) hX rfl dX6_band_108 ?_
                  refine V_iload (pc := 110) hX rfl dX6_band_110 ?_
                  refine V_iload (pc := 112) hX rfl dX6_band_112 ?_
                  refine V_iload_n (pc := 114) (j := 2) hX 2 rfl rfl dX6_band_114 ?_
                  refine V_iload_n (pc := 115) (j := 3) hX 3 rfl rfl dX6_band_115 ?_
                  refine cSI5 (pc := 116) hX (c_X6_firstOf (by omega)) (by decide) st_X6_74 (Nat.le_of_ble_eq_true rfl) dX6_band_116 ?_
                  refine V_goto (pc := 119) (off := 7) (tgt := 126) hX (by decide) dX6_band_119 ?_
                  refine pf_X6_78 (pc := 126) hX dX6_band_126 ?_
                  refine V_aload_n (pc := 129) (j := 0) hX 0 rfl rfl dX6_band_129 ?_
                  refine V_dup (pc := 130) hX rfl dX6_band_130 ?_
                  refine gf_X6_68 (pc := 131) hX dX6_band_131 ?_
                  refine V_iconst (pc := 134) (z := 1) hX (oI 1) rfl dX6_band_134 ?_
                  refine V_iadd (pc := 135) hX dX6_band_135 ?_
                  refine pf_X6_68 (pc := 136) hX dX6_band_136 ?_
                  refine V_heap (hp_span D I _ _) ?_
                  refine V_iload (pc := 139) hX rfl dX6_band_139 ?_
                  refine V_iconst (pc := 141) (z := 1) hX (oI 1) rfl dX6_band_141 ?_
                  refine Z_iadd (pc := 142) hX dX6_band_142 ?_
                  refine V_istore (pc := 143) hX (by decide) rfl dX6_band_143 ?_
                  refine V_goto (pc := 145) (off := (-116)) (tgt := 29) hX (by decide) dX6_band_145 ?_
                  have hs : spX (fun u => hasM (D.2.1 21 0) a u y) x = (x, b) :: spX (fun u => hasM (D.2.1 21 0) a u y) (b + 1) := by rw [spX_t (x := x) (by omega) (by rw [eb]; omega), eb]
                  rw [hs] at hL
                  refine V_cut [(0, some (.ref (E.1 (20, 0)))), (1, some (.int (oI (a : Int)))), (2, some (.int (oI y))), (3, some (.int (oI z))), (4, some (.int (oI wh))), (5, some (.int (oI 0))), (6, some (.int (oI (b + 1))))] ⟨rfl, rfl, rfl, rfl, rfl, rfl, rfl, trivial⟩ ?_
                  refine V_heap (D' := rU D 20 (pf I (spanS I wh y z φ c (x, b)))) ?_ (ihO (b + 1) 0 [oI 44] _ (by omega) (Or.inr ⟨rfl, rfl⟩) hL (by omega))
                  refine congrArg (fun q => rU D 20 (pf I q)) ?_
                  rcases hc with ⟨hf, rfl⟩ | ⟨hf, rfl⟩
                  · first | (exfalso; omega) | exact spanS_tA (I := I) (φ := φ) (x := x) (b := b) h105 | exact spanS_fA (I := I) (φ := φ) (x := x) (b := b) h105
                  · first | (exfalso; omega) | exact spanS_tB (I := I) (φ := wc (I 14) φ (oI 44)) (x := x) (b := b) rfl h105 | exact spanS_fB (I := I) (φ := wc (I 14) φ (oI 44)) (x := x) (b := b) rfl h105
              · refine V_aload_n (pc := 69) (j := 0) hX 0 rfl rfl dX6_band_69 ?_
                refine V_bipush (pc := 70) (z := 44) hX (oI 44) (by decide) dX6_band_70 ?_
                refine cVV1 (pc := 72) hX (c_X6_writes) (by decide) st_X6_58 ix_20 rfl rfl rfl (Nat.le_of_ble_eq_true rfl) dX6_band_72 ?_
                refine V_iconst (pc := 75) (z := 0) hX (oI 0) rfl dX6_band_75 ?_
                refine V_istore (pc := 76) hX (by decide) rfl dX6_band_76 ?_
                refine V_aload_n (pc := 78) (j := 0) hX 0 rfl rfl dX6_band_78 ?_
                refine V_iload (pc := 79) hX rfl dX6_band_79 ?_
                refine cVV1 (pc := 81) hX (c_X6_writesNumber (by omega)) (by decide) st_X6_62 ix_20 rfl rfl rfl (Nat.le_of_ble_eq_true rfl) dX6_band_81 ?_
                refine V_aload_n (pc := 84) (j := 0) hX 0 rfl rfl dX6_band_84 ?_
                refine V_bipush (pc := 85) (z := 46) hX (oI 46) (by decide) dX6_band_85 ?_
                refine cVV1 (pc := 87) hX (c_X6_writes) (by decide) st_X6_58 ix_20 rfl rfl rfl (Nat.le_of_ble_eq_true rfl) dX6_band_87 ?_
                refine V_aload_n (pc := 90) (j := 0) hX 0 rfl rfl dX6_band_90 ?_
                refine V_iload (pc := 91) hX rfl dX6_band_91 ?_
                refine cVV1 (pc := 93) hX (c_X6_writesNumber (by omega)) (by decide) st_X6_62 ix_20 rfl rfl rfl (Nat.le_of_ble_eq_true rfl) dX6_band_93 ?_
                refine V_aload_n (pc := 96) (j := 0) hX 0 rfl rfl dX6_band_96 ?_
                refine V_aload_n (pc := 97) (j := 0) hX 0 rfl rfl dX6_band_97 ?_
                refine gf_X6_68 (pc := 98) hX dX6_band_98 ?_
                refine V_aload_n (pc := 101) (j := 0) hX 0 rfl rfl dX6_band_101 ?_
                refine gf_X6_71 (pc := 102) hX dX6_band_102 ?_
                refine V_icmp_ne (pc := 105) (tgt := 122) hX dX6_band_105 (by decide) (fun h105 => ?_) (fun h105 => ?_)
                · refine V_aload_n (pc := 122) (j := 0) hX 0 rfl rfl dX6_band_122 ?_
                  refine gf_X6_78 (pc := 123) hX dX6_band_123 ?_
                  refine pf_X6_78 (pc := 126) hX dX6_band_126 ?_
                  refine V_aload_n (pc := 129) (j := 0) hX 0 rfl rfl dX6_band_129 ?_
                  refine V_dup (pc := 130) hX rfl dX6_band_130 ?_
                  refine gf_X6_68 (pc := 131) hX dX6_band_131 ?_
                  refine V_iconst (pc := 134) (z := 1) hX (oI 1) rfl dX6_band_134 ?_
                  refine V_iadd (pc := 135) hX dX6_band_135 ?_
                  refine pf_X6_68 (pc := 136) hX dX6_band_136 ?_
                  refine V_heap (hp_span D I _ _) ?_
                  refine V_iload (pc := 139) hX rfl dX6_band_139 ?_
                  refine V_iconst (pc := 141) (z := 1) hX (oI 1) rfl dX6_band_141 ?_
                  refine Z_iadd (pc := 142) hX dX6_band_142 ?_
                  refine V_istore (pc := 143) hX (by decide) rfl dX6_band_143 ?_
                  refine V_goto (pc := 145) (off := (-116)) (tgt := 29) hX (by decide) dX6_band_145 ?_
                  have hs : spX (fun u => hasM (D.2.1 21 0) a u y) x = (x, b) :: spX (fun u => hasM (D.2.1 21 0) a u y) (b + 1) := by rw [spX_t (x := x) (by omega) (by rw [eb]; omega), eb]
                  rw [hs] at hL
                  refine V_cut [(0, some (.ref (E.1 (20, 0)))), (1, some (.int (oI (a : Int)))), (2, some (.int (oI y))), (3, some (.int (oI z))), (4, some (.int (oI wh))), (5, some (.int (oI 0))), (6, some (.int (oI (b + 1))))] ⟨rfl, rfl, rfl, rfl, rfl, rfl, rfl, trivial⟩ ?_
                  refine V_heap (D' := rU D 20 (pf I (spanS I wh y z φ c (x, b)))) ?_ (ihO (b + 1) 0 [oI 44] _ (by omega) (Or.inr ⟨rfl, rfl⟩) hL (by omega))
                  refine congrArg (fun q => rU D 20 (pf I q)) ?_
                  rcases hc with ⟨hf, rfl⟩ | ⟨hf, rfl⟩
                  · first | (exfalso; omega) | exact spanS_tA (I := I) (φ := φ) (x := x) (b := b) h105 | exact spanS_fA (I := I) (φ := φ) (x := x) (b := b) h105
                  · first | (exfalso; omega) | exact spanS_tB (I := I) (φ := wc (I 14) φ (oI 44)) (x := x) (b := b) rfl h105 | exact spanS_fB (I := I) (φ := wc (I 14) φ (oI 44)) (x := x) (b := b) rfl h105
                · refine V_iload (pc := 108) hX rfl dX6_band_108 ?_
                  refine V_iload (pc := 110) hX rfl dX6_band_110 ?_
                  refine V_iload (pc := 112) hX rfl dX6_band_112 ?_
                  refine V_iload_n (pc := 114) (j := 2) hX 2 rfl rfl dX6_band_114 ?_
                  refine V_iload_n (pc := 115) (j := 3) hX 3 rfl rfl dX6_band_115 ?_
                  refine cSI5 (pc := 116) hX (c_X6_firstOf (by omega)) (by decide) st_X6_74 (Nat.le_of_ble_eq_true rfl) dX6_band_116 ?_
                  refine V_goto (pc := 119) (off := 7) (tgt := 126) hX (by decide) dX6_band_119 ?_
                  refine pf_X6_78 (pc := 126) hX dX6_band_126 ?_
                  refine V_aload_n (pc := 129) (j := 0) hX 0 rfl rfl dX6_band_129 ?_
                  refine V_dup (pc := 130) hX rfl dX6_band_130 ?_
                  refine gf_X6_68 (pc := 131) hX dX6_band_131 ?_
                  refine V_iconst (pc := 134) (z := 1) hX (oI 1) rfl dX6_band_134 ?_
                  refine V_iadd (pc := 135) hX dX6_band_135 ?_
                  refine pf_X6_68 (pc := 136) hX dX6_band_136 ?_
                  refine V_heap (hp_span D I _ _) ?_
                  refine V_iload (pc := 139) hX rfl dX6_band_139 ?_
                  refine V_iconst (pc := 141) (z := 1) hX (oI 1) rfl dX6_band_141 ?_
                  refine Z_iadd (pc := 142) hX dX6_band_142 ?_
                  refine V_istore (pc := 143) hX (by decide) rfl dX6_band_143 ?_
                  refine V_goto (pc := 145) (off := (-116)) (tgt := 29) hX (by decide) dX6_band_145 ?_
                  have hs : spX (fun u => hasM (D.2.1 21 0) a u y) x = (x, b) :: spX (fun u => hasM (D.2.1 21 0) a u y) (b + 1) := by rw [spX_t (x := x) (by omega) (by rw [eb]; omega), eb]
                  rw [hs] at hL
                  refine V_cut [(0, some (.ref (E.1 (20, 0)))), (1, some (.int (oI (a : Int)))), (2, some (.int (oI y))), (3, some (.int (oI z))), (4, some (.int (oI wh))), (5, some (.int (oI 0))), (6, some (.int (oI (b + 1))))] ⟨rfl, rfl, rfl, rfl, rfl, rfl, rfl, trivial⟩ ?_
                  refine V_heap (D' := rU D 20 (pf I (spanS I wh y z φ c (x, b)))) ?_ (ihO (b + 1) 0 [oI 44] _ (by omega) (Or.inr ⟨rfl, rfl⟩) hL (by omega))
                  refine congrArg (fun q => rU D 20 (pf I q)) ?_
                  rcases hc with ⟨hf, rfl⟩ | ⟨hf, rfl⟩
                  · first | (exfalso; omega) | exact spanS_tA (I := I) (φ := φ) (x := x) (b := b) h105 | exact spanS_fA (I := I) (φ := φ) (x := x) (b := b) h105
                  · first | (exfalso; omega) | exact spanS_tB (I := I) (φ := wc (I 14) φ (oI 44)) (x := x) (b := b) rfl h105 | exact spanS_fB (I := I) (φ := wc (I 14) φ (oI 44)) (x := x) (b := b) rfl h105
          · refine Z_iinc (pc := 51) hX 1 rfl rfl dX6_band_51 ?_
            refine V_goto (pc := 54) (off := (-14)) (tgt := 40) hX (by decide) dX6_band_54 ?_
            have hb : b ≤ 59 := (cellB_t.mp (Bool.and_eq_true_iff.mp h48).1).1.2
            refine V_cut [(0, some (.ref (E.1 (20, 0)))), (1, some (.int (oI (a : Int)))), (2, some (.int (oI y))), (3, some (.int (oI z))), (4, some (.int (oI wh))), (5, some (.int (oI f))), (6, some (.int (oI x))), (7, some (.int (oI (b + 1))))] ⟨rfl, rfl, rfl, rfl, rfl, rfl, rfl, rfl, trivial⟩ ?_
            exact ih (b + 1) (by omega) ((rnX_t hb h48).symm.trans g2) (by omega)
      refine V_iload (pc := 29) hX rfl dX6_band_29 ?_
      refine V_bipush (pc := 31) (z := 59) hX (oI 59) (by decide) dX6_band_31 ?_
      refine Z_icmp_gt (pc := 33) (tgt := 148) hX (by omega) (by omega) dX6_band_33 (by decide) (fun h33 => ?_) (fun h33 => ?_)
      · refine V_aload_n (pc := 148) (j := 0) hX 0 rfl rfl dX6_band_148 ?_
        refine V_bipush (pc := 149) (z := 59) hX (oI 59) (by decide) dX6_band_149 ?_
        refine cVV1 (pc := 151) hX (c_X6_writes) (by decide) st_X6_58 ix_20 rfl rfl rfl (Nat.le_of_ble_eq_true rfl) dX6_band_151 ?_
        refine V_aload_n (pc := 154) (j := 0) hX 0 rfl rfl dX6_band_154 ?_
        refine V_dup (pc := 155) hX rfl dX6_band_155 ?_
        refine gf_X6_81 (pc := 156) hX dX6_band_156 ?_
        refine V_iconst (pc := 159) (z := 1) hX (oI 1) rfl dX6_band_159 ?_
        refine V_iadd (pc := 160) hX dX6_band_160 ?_
        refine pf_X6_81 (pc := 161) hX dX6_band_161 ?_
        refine V_heap (hp_10 D I _) ?_
        refine V_vret (pc := 164) hX hR dX6_band_164 ?_
        have e : φ = ψ0 := by rw [← hL, spX_0 (by omega)]; rfl
        subst e
        exact ⟨rfl, congrArg (fun q => rU D 20 (pf I q)) (bandS_eq hψ)⟩
      · refine V_iload (pc := 36) hX rfl dX6_band_36 ?_
        refine V_istore (pc := 38) hX (by decide) rfl dX6_band_38 ?_
        refine V_cut [(0, some (.ref (E.1 (20, 0)))), (1, some (.int (oI (a : Int)))), (2, some (.int (oI y))), (3, some (.int (oI z))), (4, some (.int (oI wh))), (5, some (.int (oI f))), (6, some (.int (oI x))), (7, some (.int (oI x)))] ⟨rfl, rfl, rfl, rfl, rfl, rfl, rfl, rfl, trivial⟩ ?_
        exact inner (by omega) _ x (by omega) rfl (Nat.lt_succ_self _)
  refine V_aload_n (pc := 0) (j := 0) hX 0 rfl rfl dX6_band_0 ?_
  refine V_iload_n (pc := 1) (j := 2) hX 2 rfl rfl dX6_band_1 ?_
  refine cVV1 (pc := 2) hX (c_X6_writesNumber (by omega)) (by decide) st_X6_62 ix_20 rfl rfl rfl (Nat.le_of_ble_eq_true rfl) dX6_band_2 ?_
  refine V_aload_n (pc := 5) (j := 0) hX 0 rfl rfl dX6_band_5 ?_
  refine V_bipush (pc := 6) (z := 46) hX (oI 46) (by decide) dX6_band_6 ?_
  refine cVV1 (pc := 8) hX (c_X6_writes) (by decide) st_X6_58 ix_20 rfl rfl rfl (Nat.le_of_ble_eq_true rfl) dX6_band_8 ?_
  refine V_aload_n (pc := 11) (j := 0) hX 0 rfl rfl dX6_band_11 ?_
  refine V_iload_n (pc := 12) (j := 3) hX 3 rfl rfl dX6_band_12 ?_
  refine cVV1 (pc := 13) hX (c_X6_writesNumber (by omega)) (by decide) st_X6_62 ix_20 rfl rfl rfl (Nat.le_of_ble_eq_true rfl) dX6_band_13 ?_
  refine V_aload_n (pc := 16) (j := 0) hX 0 rfl rfl dX6_band_16 ?_
  refine V_bipush (pc := 17) (z := 58) hX (oI 58) (by decide) dX6_band_17 ?_
  refine cVV1 (pc := 19) hX (c_X6_writes) (by decide) st_X6_58 ix_20 rfl rfl rfl (Nat.le_of_ble_eq_true rfl) dX6_band_19 ?_
  refine V_iconst (pc := 22) (z := 1) hX (oI 1) rfl dX6_band_22 ?_
  refine V_istore (pc := 23) hX (by decide) rfl dX6_band_23 ?_
  refine V_bipush (pc := 25) (z := (-60)) hX (oI (-60)) (by decide) dX6_band_25 ?_
  refine V_istore (pc := 27) hX (by decide) rfl dX6_band_27 ?_
  refine V_cut [(0, some (.ref (E.1 (20, 0)))), (1, some (.int (oI (a : Int)))), (2, some (.int (oI y))), (3, some (.int (oI z))), (4, some (.int (oI wh))), (5, some (.int (oI 1))), (6, some (.int (oI (-60))))] ⟨rfl, rfl, rfl, rfl, rfl, rfl, rfl, trivial⟩ ?_
  exact outer 122 (-60) 1 [] _ (by omega) (Or.inl ⟨rfl, rfl⟩) (by rw [← hψ, wcL_app, wcL_cons, wcL_app, wcL_cons, wcL_nil]) (by omega)
