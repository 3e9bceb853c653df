def inB (v lo hi : Int) : Bool := decide (lo ≤ v) && decide (v ≤ hi)
theorem inB_t {v lo hi : Int} : inB v lo hi = true ↔ lo ≤ v ∧ v ≤ hi := by simp [inB]
theorem inB_f {v lo hi : Int} : inB v lo hi = false ↔ v < lo ∨ hi < v := by
  rw [← Bool.not_eq_true, inB_t]; omega
theorem c_X6_in {E : Le} {l : Launch} {D : Dt} {v lo hi : Int} (hv : Rg v) (hlo : Rg lo) (hhi : Rg hi) : ConI E l yX6_in cX6_in 3 (some .boolean) 1 [.int (oI v), .int (oI lo), .int (oI hi)] D (bI (inB v lo hi)) D := by
  refine Con_of (by decide) (Nat.le_of_ble_eq_true rfl) ?_
  intro X hX hR hl; subst hl
  refine V_iload_n (pc := 0) (j := 0) hX 0 rfl rfl dX6_in_0 ?_
  refine V_iload_n (pc := 1) (j := 1) hX 1 rfl rfl dX6_in_1 ?_
  refine Z_icmp_lt (pc := 2) (tgt := 14) hX (by omega) (by omega) dX6_in_2 (by decide) (fun h2 => ?_) (fun h2 => ?_)
  · refine V_iconst (pc := 14) (z := 0) hX (oI 0) rfl dX6_in_14 ?_
    refine V_zret (pc := 15) hX hR (by decide) dX6_in_15 ?_
    first
      | exact ⟨congrArg (fun q => some (Value.int q)) (bI_1 (inB_t.mpr (by omega))), rfl⟩
      | exact ⟨congrArg (fun q => some (Value.int q)) (bI_0 (inB_f.mpr (by omega))), rfl⟩
  · refine V_iload_n (pc := 5) (j := 0) hX 0 rfl rfl dX6_in_5 ?_
    refine V_iload_n (pc := 6) (j := 2) hX 2 rfl rfl dX6_in_6 ?_
    refine Z_icmp_gt (pc := 7) (tgt := 14) hX (by omega) (by omega) dX6_in_7 (by decide) (fun h7 => ?_) (fun h7 => ?_)
    · refine V_iconst (pc := 14) (z := 0) hX (oI 0) rfl dX6_in_14 ?_
      refine V_zret (pc := 15) hX hR (by decide) dX6_in_15 ?_
      first
        | exact ⟨congrArg (fun q => some (Value.int q)) (bI_1 (inB_t.mpr (by omega))), rfl⟩
        | exact ⟨congrArg (fun q => some (Value.int q)) (bI_0 (inB_f.mpr (by omega))), rfl⟩
    · refine V_iconst (pc := 10) (z := 1) hX (oI 1) rfl dX6_in_10 ?_
      refine V_goto (pc := 11) (off := 4) (tgt := 15) hX (by decide) dX6_in_11 ?_
      refine V_zret (pc := 15) hX hR (by decide) dX6_in_15 ?_
      first
        | exact ⟨congrArg (fun q => some (Value.int q)) (bI_1 (inB_t.mpr (by omega))), rfl⟩
        | exact ⟨congrArg (fun q => some (Value.int q)) (bI_0 (inB_f.mpr (by omega))), rfl⟩
theorem c_X5_within {E : Le} {l : Launch} {D : Dt} {v lo hi : Int} (hv : Rg v) (hlo : Rg lo) (hhi : Rg hi) : ConI E l yX5_within cX5_within 3 (some .boolean) 1 [.int (oI v), .int (oI lo), .int (oI hi)] D (bI (inB v lo hi)) D := by
  refine Con_of (by decide) (Nat.le_of_ble_eq_true rfl) ?_
  intro X hX hR hl; subst hl
  refine V_iload_n (pc := 0) (j := 0) hX 0 rfl rfl dX5_within_0 ?_
  refine V_iload_n (pc := 1) (j := 1) hX 1 rfl rfl dX5_within_1 ?_
  refine Z_icmp_lt (pc := 2) (tgt := 14) hX (by omega) (by omega) dX5_within_2 (by decide) (fun h2 => ?_) (fun h2 => ?_)
  · refine V_iconst (pc := 14) (z := 0) hX (oI 0) rfl dX5_within_14 ?_
    refine V_zret (pc := 15) hX hR (by decide) dX5_within_15 ?_
    first
      | exact ⟨congrArg (fun q => some (Value.int q)) (bI_1 (inB_t.mpr (by omega))), rfl⟩
      | exact ⟨congrArg (fun q => some (Value.int q)) (bI_0 (inB_f.mpr (by omega))), rfl⟩
  · refine V_iload_n (pc := 5) (j := 0) hX 0 rfl rfl dX5_within_5 ?_
    refine V_iload_n (pc := 6) (j := 2) hX 2 rfl rfl dX5_within_6 ?_
    refine Z_icmp_gt (pc := 7) (tgt := 14) hX (by omega) (by omega) dX5_within_7 (by decide) (fun h7 => ?_) (fun h7 => ?_)
    · refine V_iconst (pc := 14) (z := 0) hX (oI 0) rfl dX5_within_14 ?_
      refine V_zret (pc := 15) hX hR (by decide) dX5_within_15 ?_
      first
        | exact ⟨congrArg (fun q => some (Value.int q)) (bI_1 (inB_t.mpr (by omega))), rfl⟩
        | exact ⟨congrArg (fun q => some (Value.int q)) (bI_0 (inB_f.mpr (by omega))), rfl⟩
    · refine V_iconst (pc := 10) (z := 1) hX (oI 1) rfl dX5_within_10 ?_
      refine V_goto (pc := 11) (off := 4) (tgt := 15) hX (by decide) dX5_within_11 ?_
      refine V_zret (pc := 15) hX hR (by decide) dX5_within_15 ?_
      first
        | exact ⟨congrArg (fun q => some (Value.int q)) (bI_1 (inB_t.mpr (by omega))), rfl⟩
        | exact ⟨congrArg (fun q => some (Value.int q)) (bI_0 (inB_f.mpr (by omega))), rfl⟩
theorem c_X6_isArea {E : Le} {l : Launch} {D : Dt} {v : Int} (hv : Rg v) : ConI E l yX6_isArea cX6_isArea 1 (some .boolean) 2 [.int (oI v)] D (bI (inB v 0 4)) D := by
  refine Con_of (by decide) (Nat.le_of_ble_eq_true rfl) ?_
  intro X hX hR hl; subst hl
  refine V_iload_n (pc := 0) (j := 0) hX 0 rfl rfl dX6_isArea_0 ?_
  refine V_iconst (pc := 1) (z := 0) hX (oI 0) rfl dX6_isArea_1 ?_
  refine V_iconst (pc := 2) (z := 4) hX (oI 4) rfl dX6_isArea_2 ?_
  refine cSI3 (pc := 3) hX (c_X6_in (by omega) (by omega) (by omega)) (by decide) st_X6_33 (Nat.le_of_ble_eq_true rfl) dX6_isArea_3 ?_
  refine V_zret (pc := 6) hX hR (bI_nar _) dX6_isArea_6 ?_
  exact ⟨rfl, rfl⟩
theorem c_X5_isArea {E : Le} {l : Launch} {D : Dt} {v : Int} (hv : Rg v) : ConI E l yX5_isArea cX5_isArea 1 (some .boolean) 2 [.int (oI v)] D (bI (inB v 0 4)) D := by
  refine Con_of (by decide) (Nat.le_of_ble_eq_true rfl) ?_
  intro X hX hR hl; subst hl
  refine V_iload_n (pc := 0) (j := 0) hX 0 rfl rfl dX5_isArea_0 ?_
  refine V_iconst (pc := 1) (z := 0) hX (oI 0) rfl dX5_isArea_1 ?_
  refine V_iconst (pc := 2) (z := 4) hX (oI 4) rfl dX5_isArea_2 ?_
  refine cSI3 (pc := 3) hX (c_X5_within (by omega) (by omega) (by omega)) (by decide) st_X5_59 (Nat.le_of_ble_eq_true rfl) dX5_isArea_3 ?_
  refine V_zret (pc := 6) hX hR (bI_nar _) dX5_isArea_6 ?_
  exact ⟨rfl, rfl⟩
theorem c_X5_isPlace {E : Le} {l : Launch} {D : Dt} {v : Int} (hv : Rg v) : ConI E l yX5_isPlace cX5_isPlace 1 (some .boolean) 2 [.int (oI v)] D (bI (inB v (-60) 59)) D := by
  refine Con_of (by decide) (Nat.le_of_ble_eq_true rfl) ?_
  intro X hX hR hl; subst hl
  refine V_iload_n (pc := 0) (j := 0) hX 0 rfl rfl dX5_isPlace_0 ?_
  refine V_bipush (pc := 1) (z := (-60)) hX (oI (-60)) (by decide) dX5_isPlace_1 ?_
  refine V_bipush (pc := 3) (z := 59) hX (oI 59) (by decide) dX5_isPlace_3 ?_
  refine cSI3 (pc := 5) hX (c_X5_within (by omega) (by omega) (by omega)) (by decide) st_X5_59 (Nat.le_of_ble_eq_true rfl) dX5_isPlace_5 ?_
  refine V_zret (pc := 8) hX hR (bI_nar _) dX5_isPlace_8 ?_
  exact ⟨rfl, rfl⟩
def cellB (x y : Int) : Bool := inB x (-60) 59 && inB y (-60) 59
theorem cellB_t {x y : Int} : cellB x y = true ↔ (-60 ≤ x ∧ x ≤ 59) ∧ -60 ≤ y ∧ y ≤ 59 := by simp [cellB, inB_t]
theorem c_X6_isCell {E : Le} {l : Launch} {D : Dt} {x y : Int} (hx : Rg x) (hy : Rg y) : ConI E l yX6_isCell cX6_isCell 2 (some .boolean) 2 [.int (oI x), .int (oI y)] D (bI (cellB x y)) D := by
  refine Con_of (by decide) (Nat.le_of_ble_eq_true rfl) ?_
  intro X hX hR hl; subst hl
  refine V_iload_n (pc := 0) (j := 0) hX 0 rfl rfl dX6_isCell_0 ?_
  refine V_bipush (pc := 1) (z := (-60)) hX (oI (-60)) (by decide) dX6_isCell_1 ?_
  refine V_bipush (pc := 3) (z := 59) hX (oI 59) (by decide) dX6_isCell_3 ?_
  refine cSI3 (pc := 5) hX (c_X6_in (by omega) (by omega) (by omega)) (by decide) st_X6_33 (Nat.le_of_ble_eq_true rfl) dX6_isCell_5 ?_
  refine B_if_eq (pc := 8) (tgt := 26) hX dX6_isCell_8 (by decide) (fun h8 => ?_) (fun h8 => ?_)
  · refine V_iconst (pc := 26) (z := 0) hX (oI 0) rfl dX6_isCell_26 ?_
    refine V_zret (pc := 27) hX hR (by decide) dX6_isCell_27 ?_
    first
      | exact ⟨congrArg (fun q => some (Value.int q)) (bI_1 (by simp only [cellB, *]; rfl)), rfl⟩
      | exact ⟨congrArg (fun q => some (Value.int q)) (bI_0 (by simp [cellB, *])), rfl⟩
  · refine V_iload_n (pc := 11) (j := 1) hX 1 rfl rfl dX6_isCell_11 ?_
    refine V_bipush (pc := 12) (z := (-60)) hX (oI (-60)) (by decide) dX6_isCell_12 ?_
    refine V_bipush (pc := 14) (z := 59) hX (oI 59) (by decide) dX6_isCell_14 ?_
    refine cSI3 (pc := 16) hX (c_X6_in (by omega) (by omega) (by omega)) (by decide) st_X6_33 (Nat.le_of_ble_eq_true rfl) dX6_isCell_16 ?_
    refine B_if_eq (pc := 19) (tgt := 26) hX dX6_isCell_19 (by decide) (fun h19 => ?_) (fun h19 => ?_)
    · refine V_iconst (pc := 26) (z := 0) hX (oI 0) rfl dX6_isCell_26 ?_
      refine V_zret (pc := 27) hX hR (by decide) dX6_isCell_27 ?_
      first
        | exact ⟨congrArg (fun q => some (Value.int q)) (bI_1 (by simp only [cellB, *]; rfl)), rfl⟩
        | exact ⟨congrArg (fun q => some (Value.int q)) (bI_0 (by simp [cellB, *])), rfl⟩
    · refine V_iconst (pc := 22) (z := 1) hX (oI 1) rfl dX6_isCell_22 ?_
      refine V_goto (pc := 23) (off := 4) (tgt := 27) hX (by decide) dX6_isCell_23 ?_
      refine V_zret (pc := 27) hX hR (by decide) dX6_isCell_27 ?_
      first
        | exact ⟨congrArg (fun q => some (Value.int q)) (bI_1 (by simp only [cellB, *]; rfl)), rfl⟩
        | exact ⟨congrArg (fun q => some (Value.int q)) (bI_0 (by simp [cellB, *])), rfl⟩
