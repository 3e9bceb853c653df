/-- cell i, j (from 0 on) of area a of the reference's row s -/
def cM (s : Nat → Int64) (a i j : Nat) : Bool := tb (s (240 * a + 2 * j + i / 60)) (i % 60)
def hasM (s : Nat → Int64) (a : Nat) (x y : Int) : Bool := cellB x y && cM s a (x + 60).toNat (y + 60).toNat
def bitL (k : Nat) : Int64 := 1 <<< ((oI (k : Int)).toInt64 &&& 63)
def setM (s : Nat → Int64) (a i j : Nat) : Nat → Int64 := vp_updL s (240 * a + 2 * j + i / 60) (s (240 * a + 2 * j + i / 60) ||| bitL (i % 60))
theorem c_X6_has {E : Le} {l : Launch} {D : Dt} {a : Nat} {x y : Int} (ha : a < 13) (hx : Rg x) (hy : Rg y) : ConI E l yX6_has cX6_has 5 (some .boolean) 3 [.ref (E.1 (20, 0)), .int (oI (a : Int)), .int (oI x), .int (oI y)] D (bI (hasM (D.2.1 21 0) a x y)) D := by
  refine Con_of (by decide) (Nat.le_of_ble_eq_true rfl) ?_
  intro X hX hR hl; subst hl
  refine V_iload_n (pc := 0) (j := 2) hX 2 rfl rfl dX6_has_0 ?_
  refine V_iload_n (pc := 1) (j := 3) hX 3 rfl rfl dX6_has_1 ?_
  refine cSI2 (pc := 2) hX (c_X6_isCell (by omega) (by omega)) (by decide) st_X6_37 (Nat.le_of_ble_eq_true rfl) dX6_has_2 ?_
  refine B_if_ne (pc := 5) (tgt := 10) hX dX6_has_5 (by decide) (fun h5 => ?_) (fun h5 => ?_)
  · obtain ⟨⟨q1, q2⟩, q3, q4⟩ := cellB_t.mp h5
    refine V_iload_n (pc := 10) (j := 2) hX 2 rfl rfl dX6_has_10 ?_
    refine V_bipush (pc := 11) (z := (-60)) hX (oI (-60)) (by decide) dX6_has_11 ?_
    refine Z_isub (pc := 13) hX dX6_has_13 ?_
    refine V_istore (pc := 14) hX (by decide) rfl dX6_has_14 ?_
    refine V_aload_n (pc := 16) (j := 0) hX 0 rfl rfl dX6_has_16 ?_
    refine gf_X6_7 (pc := 17) hX dX6_has_17 ?_
    refine V_sipush (pc := 20) (z := 240) hX (oI 240) (by decide) dX6_has_20 ?_
    refine V_iload_n (pc := 23) (j := 1) hX 1 rfl rfl dX6_has_23 ?_
    refine Z_imul (pc := 24) hX dX6_has_24 ?_
    refine V_iconst (pc := 25) (z := 2) hX (oI 2) rfl dX6_has_25 ?_
    refine V_iload_n (pc := 26) (j := 3) hX 3 rfl rfl dX6_has_26 ?_
    refine V_bipush (pc := 27) (z := (-60)) hX (oI (-60)) (by decide) dX6_has_27 ?_
    refine Z_isub (pc := 29) hX dX6_has_29 ?_
    refine Z_imul (pc := 30) hX dX6_has_30 ?_
    refine Z_iadd (pc := 31) hX dX6_has_31 ?_
    refine V_iload (pc := 32) hX rfl dX6_has_32 ?_
    refine V_bipush (pc := 34) (z := 60) hX (oI 60) (by decide) dX6_has_34 ?_
    refine Z_idiv (pc := 36) hX (by omega) (by omega) (by omega) (by omega) dX6_has_36 ?_
    refine Z_iadd (pc := 37) hX dX6_has_37 ?_
    refine zl_21 (pc := 38) hX (240 * a + 2 * (y + 60).toNat + (x + 60).toNat / 60) (by omega) (by omega) dX6_has_38 ?_
    refine V_iload (pc := 39) hX rfl dX6_has_39 ?_
    refine V_bipush (pc := 41) (z := 60) hX (oI 60) (by decide) dX6_has_41 ?_
    refine Z_irem (pc := 43) hX (by omega) (by omega) (by omega) (by omega) dX6_has_43 ?_
    refine V_oI (((x + 60).toNat % 60 : Nat) : Int) (congrArg oI (by omega)) ?_
    refine V_lshr (pc := 44) hX dX6_has_44 ?_
    refine V_lconst (pc := 45) (z := 1) hX 1 (by decide) dX6_has_45 ?_
    refine V_land (pc := 46) hX dX6_has_46 ?_
    refine V_lconst (pc := 47) (z := 1) hX 1 (by decide) dX6_has_47 ?_
    refine V_lcmp (pc := 48) hX dX6_has_48 ?_
    refine L_if_ne (pc := 49) (tgt := 56) hX dX6_has_49 (by decide) (fun h49 => ?_) (fun h49 => ?_)
    · refine V_iconst (pc := 56) (z := 0) hX (oI 0) rfl dX6_has_56 ?_
      refine V_zret (pc := 57) hX hR (by decide) dX6_has_57 ?_
      exact ⟨some_int (bI_0 (by rw [hasM, h5, Bool.true_and]; exact Bool.eq_false_iff.mpr (fun q => h49 ((sshr_bit _ (by omega)).mpr q)))), rfl⟩
    · refine V_iconst (pc := 52) (z := 1) hX (oI 1) rfl dX6_has_52 ?_
      refine V_goto (pc := 53) (off := 4) (tgt := 57) hX (by decide) dX6_has_53 ?_
      refine V_zret (pc := 57) hX hR (by decide) dX6_has_57 ?_
      exact ⟨some_int (bI_1 (by rw [hasM, h5, Bool.true_and]; exact (sshr_bit _ (by omega)).mp h49)), rfl⟩
  · refine V_iconst (pc := 8) (z := 0) hX (oI 0) rfl dX6_has_8 ?_
    refine V_zret (pc := 9) hX hR (by decide) dX6_has_9 ?_
    exact ⟨some_int (bI_0 (by rw [hasM, h5]; rfl)), rfl⟩
theorem c_X6_lays {E : Le} {l : Launch} {D : Dt} {a : Nat} {x y : Int} (ha : a < 13) (hx : -60 ≤ x ∧ x ≤ 59) (hy : -60 ≤ y ∧ y ≤ 59) : ConV E l yX6_lays cX6_lays 5 none 1 [.ref (E.1 (20, 0)), .int (oI (a : Int)), .int (oI x), .int (oI y)] D (lU D 21 0 (setM (D.2.1 21 0) a (x + 60).toNat (y + 60).toNat)) := by
  refine Con_of (by decide) (Nat.le_of_ble_eq_true rfl) ?_
  intro X hX hR hl; subst hl
  refine V_iload_n (pc := 0) (j := 2) hX 2 rfl rfl dX6_lays_0 ?_
  refine V_bipush (pc := 1) (z := (-60)) hX (oI (-60)) (by decide) dX6_lays_1 ?_
  refine Z_isub (pc := 3) hX dX6_lays_3 ?_
  refine V_istore (pc := 4) hX (by decide) rfl dX6_lays_4 ?_
  refine V_aload_n (pc := 6) (j := 0) hX 0 rfl rfl dX6_lays_6 ?_
  refine gf_X6_7 (pc := 7) hX dX6_lays_7 ?_
  refine V_sipush (pc := 10) (z := 240) hX (oI 240) (by decide) dX6_lays_10 ?_
  refine V_iload_n (pc := 13) (j := 1) hX 1 rfl rfl dX6_lays_13 ?_
  refine Z_imul (pc := 14) hX dX6_lays_14 ?_
  refine V_iconst (pc := 15) (z := 2) hX (oI 2) rfl dX6_lays_15 ?_
  refine V_iload_n (pc := 16) (j := 3) hX 3 rfl rfl dX6_lays_16 ?_
  refine V_bipush (pc := 17) (z := (-60)) hX (oI (-60)) (by decide) dX6_lays_17 ?_
  refine Z_isub (pc := 19) hX dX6_lays_19 ?_
  refine Z_imul (pc := 20) hX dX6_lays_20 ?_
  refine Z_iadd (pc := 21) hX dX6_lays_21 ?_
  refine V_iload (pc := 22) hX rfl dX6_lays_22 ?_
  refine V_bipush (pc := 24) (z := 60) hX (oI 60) (by decide) dX6_lays_24 ?_
  refine Z_idiv (pc := 26) hX (by omega) (by omega) (by omega) (by omega) dX6_lays_26 ?_
  refine Z_iadd (pc := 27) hX dX6_lays_27 ?_
  refine V_dup2_11 (pc := 28) hX rfl rfl dX6_lays_28 ?_
  refine zl_21 (pc := 29) hX (240 * a + 2 * (y + 60).toNat + (x + 60).toNat / 60) (by omega) (by omega) dX6_lays_29 ?_
  refine V_lconst (pc := 30) (z := 1) hX 1 (by decide) dX6_lays_30 ?_
  refine V_iload (pc := 31) hX rfl dX6_lays_31 ?_
  refine V_bipush (pc := 33) (z := 60) hX (oI 60) (by decide) dX6_lays_33 ?_
  refine Z_irem (pc := 35) hX (by omega) (by omega) (by omega) (by omega) dX6_lays_35 ?_
  refine V_oI (((x + 60).toNat % 60 : Nat) : Int) (congrArg oI (by omega)) ?_
  refine V_lshl (pc := 36) hX dX6_lays_36 ?_
  refine V_lor (pc := 37) hX dX6_lays_37 ?_
  refine zs_21 (pc := 38) hX (240 * a + 2 * (y + 60).toNat + (x + 60).toNat / 60) (by omega) (by omega) dX6_lays_38 ?_
  refine V_vret (pc := 39) hX hR dX6_lays_39 ?_
  exact ⟨rfl, rfl⟩
/-- the first k longs of area a from g, the rest from s -/
def blk (s : Nat → Int64) (a : Nat) (g : Nat → Int64) (k : Nat) : Nat → Int64 := fun i => if 240 * a ≤ i ∧ i < 240 * a + k then g (i - 240 * a) else s i
theorem blk_0 (s : Nat → Int64) (a : Nat) (g : Nat → Int64) : blk s a g 0 = s := by
  funext i; exact if_neg (by omega)
theorem blk_s (s : Nat → Int64) (a : Nat) (g : Nat → Int64) (k : Nat) : vp_updL (blk s a g k) (240 * a + k) (g k) = blk s a g (k + 1) := by
  funext i
  show (if i = 240 * a + k then g k else if 240 * a ≤ i ∧ i < 240 * a + k then g (i - 240 * a) else s i) = (if 240 * a ≤ i ∧ i < 240 * a + (k + 1) then g (i - 240 * a) else s i)
  by_cases h : i = 240 * a + k
  · rw [if_pos h, if_pos (by omega), show i - 240 * a = k by omega]
  · rw [if_neg h]
    by_cases h2 : 240 * a ≤ i ∧ i < 240 * a + k
    · rw [if_pos h2, if_pos (by omega)]
    · rw [if_neg h2, if_neg (by omega)]
theorem blk_in {s : Nat → Int64} {a : Nat} {g : Nat → Int64} {n k : Nat} (h : k < n) : blk s a g n (240 * a + k) = g k := by
  show (if _ then _ else _) = _
  rw [if_pos (by omega), show 240 * a + k - 240 * a = k by omega]
theorem blk_out {s : Nat → Int64} {a : Nat} {g : Nat → Int64} {n i : Nat} (h : i < 240 * a ∨ 240 * a + n ≤ i) : blk s a g n i = s i := if_neg (by omega)
theorem c_X6_empties {E : Le} {l : Launch} {D : Dt} {a : Nat} (ha : a < 13) : ConV E l yX6_empties cX6_empties 3 none 1 [.ref (E.1 (20, 0)), .int (oI (a : Int))] D (lU D 21 0 (blk (D.2.1 21 0) a (fun _ => 0) 240)) := by
  refine Con_of (by decide) (Nat.le_of_ble_eq_true rfl) ?_
  intro X hX hR hl; subst hl
  have loop : ∀ (m : Nat) (k : Nat) (D1 : Dt), k ≤ 240 → D1 = lU D 21 0 (blk (D.2.1 21 0) a (fun _ => 0) k) → 240 - k < m → Vw E X 3 D1 2 [(0, some (.ref (E.1 (20, 0)))), (1, some (.int (oI (a : Int)))), (2, some (.int (oI (k : Int))))] [] := by
    intro m
    induction m with
    | zero => intro k D1 g1 g2 g3; omega
    | succ m ih =>
      intro k D1 g1 g2 g3
      refine V_iload_n (pc := 2) (j := 2) hX 2 rfl rfl dX6_empties_2 ?_
      refine V_sipush (pc := 3) (z := 240) hX (oI 240) (by decide) dX6_empties_3 ?_
      refine Z_icmp_ge (pc := 6) (tgt := 28) hX (by omega) (by omega) dX6_empties_6 (by decide) (fun h6 => ?_) (fun h6 => ?_)
      · refine V_vret (pc := 28) hX hR dX6_empties_28 ?_
        have e : k = 240 := by omega
        exact ⟨rfl, by rw [g2, e]⟩
      · refine V_aload_n (pc := 9) (j := 0) hX 0 rfl rfl dX6_empties_9 ?_
        refine gf_X6_7 (pc := 10) hX dX6_empties_10 ?_
        refine V_sipush (pc := 13) (z := 240) hX (oI 240) (by decide) dX6_empties_13 ?_
        refine V_iload_n (pc := 16) (j := 1) hX 1 rfl rfl dX6_empties_16 ?_
        refine Z_imul (pc := 17) hX dX6_empties_17 ?_
        refine V_iload_n (pc := 18) (j := 2) hX 2 rfl rfl dX6_empties_18 ?_
        refine Z_iadd (pc := 19) hX dX6_empties_19 ?_
        refine V_lconst (pc := 20) (z := 0) hX 0 (by decide) dX6_empties_20 ?_
        refine zs_21 (pc := 21) hX (240 * a + k) (by omega) (by omega) dX6_empties_21 ?_
        refine Z_iinc (pc := 22) hX 1 rfl rfl dX6_empties_22 ?_
        refine V_goto (pc := 25) (off := (-23)) (tgt := 2) hX (by decide) dX6_empties_25 ?_
        refine V_cut [(0, some (.ref (E.1 (20, 0)))), (1, some (.int (oI (a : Int)))), (2, some (.int (oI ((k + 1 : Nat) : Int))))] ⟨rfl, rfl, rfl, trivial⟩ ?_
        refine ih (k + 1) _ (by omega) ?_ (by omega)
        rw [g2, lU_get, lU_lU, ← blk_s]
  refine V_iconst (pc := 0) (z := 0) hX (oI 0) rfl dX6_empties_0 ?_
  refine V_istore_n (pc := 1) (j := 2) hX 2 rfl (by decide) rfl dX6_empties_1 ?_
  refine V_cut [(0, some (.ref (E.1 (20, 0)))), (1, some (.int (oI (a : Int)))), (2, some (.int (oI ((0 : Nat) : Int))))] ⟨rfl, rfl, rfl, trivial⟩ ?_
  exact loop 241 0 D (by omega) (by rw [blk_0, lU_self]) (by omega)
theorem c_X6_copies {E : Le} {l : Launch} {D : Dt} {a b : Nat} (ha : a < 13) (hb : b < 13) : ConV E l yX6_copies cX6_copies 4 none 1 [.ref (E.1 (20, 0)), .int (oI (a : Int)), .int (oI (b : Int))] D (lU D 21 0 (blk (D.2.1 21 0) b (fun i => D.2.1 21 0 (240 * a + i)) 240)) := by
  refine Con_of (by decide) (Nat.le_of_ble_eq_true rfl) ?_
  intro X hX hR hl; subst hl
  have loop : ∀ (m : Nat) (k : Nat) (D1 : Dt), k ≤ 240 → D1 = lU D 21 0 (blk (D.2.1 21 0) b (fun i => D.2.1 21 0 (240 * a + i)) k) → 240 - k < m → Vw E X 4 D1 2 [(0, some (.ref (E.1 (20, 0)))), (1, some (.int (oI (a : Int)))), (2, some (.int (oI (b : Int)))), (3, some (.int (oI (k : Int))))] [] := by
    intro m
    induction m with
    | zero => intro k D1 g1 g2 g3; omega
    | succ m ih =>
      intro k D1 g1 g2 g3
      refine V_iload_n (pc := 2) (j := 3) hX 3 rfl rfl dX6_copies_2 ?_
      refine V_sipush (pc := 3) (z := 240) hX (oI 240) (by decide) dX6_copies_3 ?_
      refine Z_icmp_ge (pc := 6) (tgt := 39) hX (by omega) (by omega) dX6_copies_6 (by decide) (fun h6 => ?_) (fun h6 => ?_)
      · refine V_vret (pc := 39) hX hR dX6_copies_39 ?_
        have e : k = 240 := by omega
        exact ⟨rfl, by rw [g2, e]⟩
      · refine V_aload_n (pc := 9) (j := 0) hX 0 rfl rfl dX6_copies_9 ?_
        refine gf_X6_7 (pc := 10) hX dX6_copies_10 ?_
        refine V_sipush (pc := 13) (z := 240) hX (oI 240) (by decide) dX6_copies_13 ?_
        refine V_iload_n (pc := 16) (j := 2) hX 2 rfl rfl dX6_copies_16 ?_
        refine Z_imul (pc := 17) hX dX6_copies_17 ?_
        refine V_iload_n (pc := 18) (j := 3) hX 3 rfl rfl dX6_copies_18 ?_
        refine Z_iadd (pc := 19) hX dX6_copies_19 ?_
        refine V_aload_n (pc := 20) (j := 0) hX 0 rfl rfl dX6_copies_20 ?_
        refine gf_X6_7 (pc := 21) hX dX6_copies_21 ?_
        refine V_sipush (pc := 24) (z := 240) hX (oI 240) (by decide) dX6_copies_24 ?_
        refine V_iload_n (pc := 27) (j := 1) hX 1 rfl rfl dX6_copies_27 ?_
        refine Z_imul (pc := 28) hX dX6_copies_28 ?_
        refine V_iload_n (pc := 29) (j := 3) hX 3 rfl rfl dX6_copies_29 ?_
        refine Z_iadd (pc := 30) hX dX6_copies_30 ?_
        refine zl_21 (pc := 31) hX (240 * a + k) (by omega) (by omega) dX6_copies_31 ?_
        refine zs_21 (pc := 32) hX (240 * b + k) (by omega) (by omega) dX6_copies_32 ?_
        refine Z_iinc (pc := 33) hX 1 rfl rfl dX6_copies_33 ?_
        refine V_goto (pc := 36) (off := (-34)) (tgt := 2) hX (by decide) dX6_copies_36 ?_
        refine V_cut [(0, some (.ref (E.1 (20, 0)))), (1, some (.int (oI (a : Int)))), (2, some (.int (oI (b : Int)))), (3, some (.int (oI ((k + 1 : Nat) : Int))))] ⟨rfl, rfl, rfl, rfl, trivial⟩ ?_
        refine ih (k + 1) _ (by omega) ?_ (by omega)
        rw [g2, lU_get, lU_lU, ← blk_s]
        congr 2
        by_cases hab : a = b
        · subst hab; exact blk_out (by omega)
        · exact blk_out (by omega)
  refine V_iconst (pc := 0) (z := 0) hX (oI 0) rfl dX6_copies_0 ?_
  refine V_istore_n (pc := 1) (j := 3) hX 3 rfl (by decide) rfl dX6_copies_1 ?_
  refine V_cut [(0, some (.ref (E.1 (20, 0)))), (1, some (.int (oI (a : Int)))), (2, some (.int (oI (b : Int)))), (3, some (.int (oI ((0 : Nat) : Int))))] ⟨rfl, rfl, rfl, rfl, trivial⟩ ?_
  exact loop 241 0 D (by omega) (by rw [blk_0, lU_self]) (by omega)
theorem l2i_bit (v : Int64) : (v &&& 1).toInt32 = oI (if tb v 0 then 1 else 0) := by
  rw [and1]
  cases tb v 0 <;> decide
def cnt (v : Int64) : Nat := fb_ct (tb v) 60
theorem c_X6_ones {E : Le} {l : Launch} {D : Dt} {v : Int64} : ConI E l yX6_ones cX6_ones 4 (some .int) 1 [.long v] D (oI ((cnt v : Nat) : Int)) D := by
  refine Con_of (by decide) (Nat.le_of_ble_eq_true rfl) ?_
  intro X hX hR hl; subst hl
  have loop : ∀ (m : Nat) (k : Nat), k ≤ 60 → 60 - k < m → Vw E X 4 D 4 [(0, some (.long v)), (2, some (.int (oI ((fb_ct (tb v) k : Nat) : Int)))), (3, some (.int (oI (k : Int))))] [] := by
    intro m
    induction m with
    | zero => intro k g1 g2; omega
    | succ m ih =>
      intro k g1 g2
      refine V_iload_n (pc := 4) (j := 3) hX 3 rfl rfl dX6_ones_4 ?_
      refine V_bipush (pc := 5) (z := 60) hX (oI 60) (by decide) dX6_ones_5 ?_
      refine Z_icmp_ge (pc := 7) (tgt := 25) hX (by omega) (by omega) dX6_ones_7 (by decide) (fun h7 => ?_) (fun h7 => ?_)
      · refine V_iload_n (pc := 25) (j := 2) hX 2 rfl rfl dX6_ones_25 ?_
        refine V_iret (pc := 26) hX hR dX6_ones_26 ?_
        have e : k = 60 := by omega
        exact ⟨by rw [e]; rfl, rfl⟩
      · refine V_iload_n (pc := 10) (j := 2) hX 2 rfl rfl dX6_ones_10 ?_
        refine V_lload_n (pc := 11) (j := 0) hX 0 rfl rfl dX6_ones_11 ?_
        refine V_iload_n (pc := 12) (j := 3) hX 3 rfl rfl dX6_ones_12 ?_
        refine V_lshr (pc := 13) hX dX6_ones_13 ?_
        refine V_lconst (pc := 14) (z := 1) hX 1 (by decide) dX6_ones_14 ?_
        refine V_land (pc := 15) hX dX6_ones_15 ?_
        refine V_l2i (pc := 16) hX dX6_ones_16 ?_
        refine V_oI _ (l2i_bit _) ?_
        refine Z_iadd (pc := 17) hX dX6_ones_17 ?_
        refine V_istore_n (pc := 18) (j := 2) hX 2 rfl (by decide) rfl dX6_ones_18 ?_
        refine Z_iinc (pc := 19) hX 1 rfl rfl dX6_ones_19 ?_
        refine V_goto (pc := 22) (off := (-18)) (tgt := 4) hX (by decide) dX6_ones_22 ?_
        refine V_cut [(0, some (.long v)), (2, some (.int (oI ((fb_ct (tb v) (k + 1) : Nat) : Int)))), (3, some (.int (oI ((k + 1 : Nat) : Int))))] ⟨rfl, congrArg (fun q => some (Value.int (oI q))) (by rw [tb_sshr v (by omega) (by omega), fb_ct_succ, Nat.add_zero]; split <;> simp), rfl, trivial⟩ ?_
        exact ih (k + 1) (by omega) (by omega)
  refine V_iconst (pc := 0) (z := 0) hX (oI 0) rfl dX6_ones_0 ?_
  refine V_istore_n (pc := 1) (j := 2) hX 2 rfl (by decide) rfl dX6_ones_1 ?_
  refine V_iconst (pc := 2) (z := 0) hX (oI 0) rfl dX6_ones_2 ?_
  refine V_istore_n (pc := 3) (j := 3) hX 3 rfl (by decide) rfl dX6_ones_3 ?_
  refine V_cut [(0, some (.long v)), (2, some (.int (oI ((0 : Nat) : Int)))), (3, some (.int (oI ((0 : Nat) : Int))))] ⟨rfl, rfl, rfl, trivial⟩ ?_
  exact loop 61 0 (by omega) (by omega)
/-- how many cells area a of row s has -/
def cntM (s : Nat → Int64) (a n : Nat) : Nat := fb_sm (fun k => cnt (s (240 * a + k))) n
theorem cnt_0 : cnt 0 = 0 := by decide +kernel
theorem c_X6_cells {E : Le} {l : Launch} {D : Dt} {a : Nat} (ha : a < 13) : ConI E l yX6_cells cX6_cells 4 (some .int) 2 [.ref (E.1 (20, 0)), .int (oI (a : Int))] D (oI ((cntM (D.2.1 21 0) a 240 : Nat) : Int)) D := by
  refine Con_of (by decide) (Nat.le_of_ble_eq_true rfl) ?_
  intro X hX hR hl; subst hl
  have loop : ∀ (m : Nat) (k : Nat), k ≤ 240 → 240 - k < m → Vw E X 4 D 4 [(0, some (.ref (E.1 (20, 0)))), (1, some (.int (oI (a : Int)))), (2, some (.int (oI ((cntM (D.2.1 21 0) a k : Nat) : Int)))), (3, some (.int (oI (k : Int))))] [] := by
    intro m
    induction m with
    | zero => intro k g1 g2; omega
    | succ m ih =>
      intro k g1 g2
      refine V_iload_n (pc := 4) (j := 3) hX 3 rfl rfl dX6_cells_4 ?_
      refine V_sipush (pc := 5) (z := 240) hX (oI 240) (by decide) dX6_cells_5 ?_
      refine Z_icmp_ge (pc := 8) (tgt := 56) hX (by omega) (by omega) dX6_cells_8 (by decide) (fun h8 => ?_) (fun h8 => ?_)
      · refine V_iload_n (pc := 56) (j := 2) hX 2 rfl rfl dX6_cells_56 ?_
        refine V_iret (pc := 57) hX hR dX6_cells_57 ?_
        have e : k = 240 := by omega
        exact ⟨by rw [e], rfl⟩
      · refine V_iload_n (pc := 11) (j := 2) hX 2 rfl rfl dX6_cells_11 ?_
        refine V_aload_n (pc := 12) (j := 0) hX 0 rfl rfl dX6_cells_12 ?_
        refine gf_X6_7 (pc := 13) hX dX6_cells_13 ?_
        refine V_sipush (pc := 16) (z := 240) hX (oI 240) (by decide) dX6_cells_16 ?_
        refine V_iload_n (pc := 19) (j := 1) hX 1 rfl rfl dX6_cells_19 ?_
        refine Z_imul (pc := 20) hX dX6_cells_20 ?_
        refine V_iload_n (pc := 21) (j := 3) hX 3 rfl rfl dX6_cells_21 ?_
        refine Z_iadd (pc := 22) hX dX6_cells_22 ?_
        refine zl_21 (pc := 23) hX (240 * a + k) (by omega) (by omega) dX6_cells_23 ?_
        refine V_lconst (pc := 24) (z := 0) hX 0 (by decide) dX6_cells_24 ?_
        refine V_lcmp (pc := 25) hX dX6_cells_25 ?_
        refine L_if_ne (pc := 26) (tgt := 33) hX dX6_cells_26 (by decide) (fun h26 => ?_) (fun h26 => ?_)
        · refine V_aload_n (pc := 33) (j := 0) hX 0 rfl rfl dX6_cells_33 ?_
          refine gf_X6_7 (pc := 34) hX dX6_cells_34 ?_
          refine V_sipush (pc := 37) (z := 240) hX (oI 240) (by decide) dX6_cells_37 ?_
          refine V_iload_n (pc := 40) (j := 1) hX 1 rfl rfl dX6_cells_40 ?_
          refine Z_imul (pc := 41) hX dX6_cells_41 ?_
          refine V_iload_n (pc := 42) (j := 3) hX 3 rfl rfl dX6_cells_42 ?_
          refine Z_iadd (pc := 43) hX dX6_cells_43 ?_
          refine zl_21 (pc := 44) hX (240 * a + k) (by omega) (by omega) dX6_cells_44 ?_
          refine cSI1 (pc := 45) hX (c_X6_ones) (by decide) st_X6_41 (Nat.le_of_ble_eq_true rfl) dX6_cells_45 ?_
          refine Z_iadd (pc := 48) hX dX6_cells_48 ?_
          refine V_istore_n (pc := 49) (j := 2) hX 2 rfl (by decide) rfl dX6_cells_49 ?_
          refine Z_iinc (pc := 50) hX 1 rfl rfl dX6_cells_50 ?_
          refine V_goto (pc := 53) (off := (-49)) (tgt := 4) hX (by decide) dX6_cells_53 ?_
          refine V_cut [(0, some (.ref (E.1 (20, 0)))), (1, some (.int (oI (a : Int)))), (2, some (.int (oI ((cntM (D.2.1 21 0) a (k + 1) : Nat) : Int)))), (3, some (.int (oI ((k + 1 : Nat) : Int))))] ⟨rfl, rfl, congrArg (fun q => some (Value.int (oI q))) (by rw [cntM, cntM, fb_sm_succ]; first | rfl | (rw [h26, cnt_0]; rfl)), rfl, trivial⟩ ?_
          exact ih (k + 1) (by omega) (by omega)
        · refine V_iconst (pc := 29) (z := 0) hX (oI 0) rfl dX6_cells_29 ?_
          refine V_goto (pc := 30) (off := 18) (tgt := 48) hX (by decide) dX6_cells_30 ?_
          refine Z_iadd (pc := 48) hX dX6_cells_48 ?_
          refine V_istore_n (pc := 49) (j := 2) hX 2 rfl (by decide) rfl dX6_cells_49 ?_
          refine Z_iinc (pc := 50) hX 1 rfl rfl dX6_cells_50 ?_
          refine V_goto (pc := 53) (off := (-49)) (tgt := 4) hX (by decide) dX6_cells_53 ?_
          refine V_cut [(0, some (.ref (E.1 (20, 0)))), (1, some (.int (oI (a : Int)))), (2, some (.int (oI ((cntM (D.2.1 21 0) a (k + 1) : Nat) : Int)))), (3, some (.int (oI ((k + 1 : Nat) : Int))))] ⟨rfl, rfl, congrArg (fun q => some (Value.int (oI q))) (by rw [cntM, cntM, fb_sm_succ]; first | rfl | (rw [h26, cnt_0]; rfl)), rfl, trivial⟩ ?_
          exact ih (k + 1) (by omega) (by omega)
  refine V_iconst (pc := 0) (z := 0) hX (oI 0) rfl dX6_cells_0 ?_
  refine V_istore_n (pc := 1) (j := 2) hX 2 rfl (by decide) rfl dX6_cells_1 ?_
  refine V_iconst (pc := 2) (z := 0) hX (oI 0) rfl dX6_cells_2 ?_
  refine V_istore_n (pc := 3) (j := 3) hX 3 rfl (by decide) rfl dX6_cells_3 ?_
  refine V_cut [(0, some (.ref (E.1 (20, 0)))), (1, some (.int (oI (a : Int)))), (2, some (.int (oI ((0 : Nat) : Int)))), (3, some (.int (oI ((0 : Nat) : Int))))] ⟨rfl, rfl, rfl, rfl, trivial⟩ ?_
  exact loop 241 0 (by omega) (by omega)
def sameM (s : Nat → Int64) (a j i : Nat) : Bool := decide (s (240 * a + 2 * j) = s (240 * a + 2 * i)) && decide (s (240 * a + 2 * j + 1) = s (240 * a + 2 * i + 1))
def emptyM (s : Nat → Int64) (a j : Nat) : Bool := decide (s (240 * a + 2 * j) = 0) && decide (s (240 * a + 2 * j + 1) = 0)
theorem c_X6_sameRow {E : Le} {l : Launch} {D : Dt} {a : Nat} {y z : Int} (ha : a < 13) (hy : -60 ≤ y ∧ y ≤ 59) (hz : -60 ≤ z ∧ z ≤ 59) : ConI E l yX6_sameRow cX6_sameRow 6 (some .boolean) 1 [.ref (E.1 (20, 0)), .int (oI (a : Int)), .int (oI y), .int (oI z)] D (bI (sameM (D.2.1 21 0) a (y + 60).toNat (z + 60).toNat)) D := by
  refine Con_of (by decide) (Nat.le_of_ble_eq_true rfl) ?_
  intro X hX hR hl; subst hl
  refine V_sipush (pc := 0) (z := 240) hX (oI 240) (by decide) dX6_sameRow_0 ?_
  refine V_iload_n (pc := 3) (j := 1) hX 1 rfl rfl dX6_sameRow_3 ?_
  refine Z_imul (pc := 4) hX dX6_sameRow_4 ?_
  refine V_iconst (pc := 5) (z := 2) hX (oI 2) rfl dX6_sameRow_5 ?_
  refine V_iload_n (pc := 6) (j := 2) hX 2 rfl rfl dX6_sameRow_6 ?_
  refine V_bipush (pc := 7) (z := (-60)) hX (oI (-60)) (by decide) dX6_sameRow_7 ?_
  refine Z_isub (pc := 9) hX dX6_sameRow_9 ?_
  refine Z_imul (pc := 10) hX dX6_sameRow_10 ?_
  refine Z_iadd (pc := 11) hX dX6_sameRow_11 ?_
  refine V_istore (pc := 12) hX (by decide) rfl dX6_sameRow_12 ?_
  refine V_sipush (pc := 14) (z := 240) hX (oI 240) (by decide) dX6_sameRow_14 ?_
  refine V_iload_n (pc := 17) (j := 1) hX 1 rfl rfl dX6_sameRow_17 ?_
  refine Z_imul (pc := 18) hX dX6_sameRow_18 ?_
  refine V_iconst (pc := 19) (z := 2) hX (oI 2) rfl dX6_sameRow_19 ?_
  refine V_iload_n (pc := 20) (j := 3) hX 3 rfl rfl dX6_sameRow_20 ?_
  refine V_bipush (pc := 21) (z := (-60)) hX (oI (-60)) (by decide) dX6_sameRow_21 ?_
  refine Z_isub (pc := 23) hX dX6_sameRow_23 ?_
  refine Z_imul (pc := 24) hX dX6_sameRow_24 ?_
  refine Z_iadd (pc := 25) hX dX6_sameRow_25 ?_
  refine V_istore (pc := 26) hX (by decide) rfl dX6_sameRow_26 ?_
  refine V_aload_n (pc := 28) (j := 0) hX 0 rfl rfl dX6_sameRow_28 ?_
  refine gf_X6_7 (pc := 29) hX dX6_sameRow_29 ?_
  refine V_iload (pc := 32) hX rfl dX6_sameRow_32 ?_
  refine zl_21 (pc := 34) hX (240 * a + 2 * (y + 60).toNat) (by omega) (by omega) dX6_sameRow_34 ?_
  refine V_aload_n (pc := 35) (j := 0) hX 0 rfl rfl dX6_sameRow_35 ?_
  refine gf_X6_7 (pc := 36) hX dX6_sameRow_36 ?_
  refine V_iload (pc := 39) hX rfl dX6_sameRow_39 ?_
  refine zl_21 (pc := 41) hX (240 * a + 2 * (z + 60).toNat) (by omega) (by omega) dX6_sameRow_41 ?_
  refine V_lcmp (pc := 42) hX dX6_sameRow_42 ?_
  refine L_if_ne (pc := 43) (tgt := 72) hX dX6_sameRow_43 (by decide) (fun h43 => ?_) (fun h43 => ?_)
  · refine V_iconst (pc := 72) (z := 0) hX (oI 0) rfl dX6_sameRow_72 ?_
    refine V_zret (pc := 73) hX hR (by decide) dX6_sameRow_73 ?_
    exact ⟨some_int (bI_0 (by rw [sameM, decide_eq_false h43]; rfl)), rfl⟩
  · refine V_aload_n (pc := 46) (j := 0) hX 0 rfl rfl dX6_sameRow_46 ?_
    refine gf_X6_7 (pc := 47) hX dX6_sameRow_47 ?_
    refine V_iload (pc := 50) hX rfl dX6_sameRow_50 ?_
    refine V_iconst (pc := 52) (z := 1) hX (oI 1) rfl dX6_sameRow_52 ?_
    refine Z_iadd (pc := 53) hX dX6_sameRow_53 ?_
    refine zl_21 (pc := 54) hX (240 * a + 2 * (y + 60).toNat + 1) (by omega) (by omega) dX6_sameRow_54 ?_
    refine V_aload_n (pc := 55) (j := 0) hX 0 rfl rfl dX6_sameRow_55 ?_
    refine gf_X6_7 (pc := 56) hX dX6_sameRow_56 ?_
    refine V_iload (pc := 59) hX rfl dX6_sameRow_59 ?_
    refine V_iconst (pc := 61) (z := 1) hX (oI 1) rfl dX6_sameRow_61 ?_
    refine Z_iadd (pc := 62) hX dX6_sameRow_62 ?_
    refine zl_21 (pc := 63) hX (240 * a + 2 * (z + 60).toNat + 1) (by omega) (by omega) dX6_sameRow_63 ?_
    refine V_lcmp (pc := 64) hX dX6_sameRow_64 ?_
    refine L_if_ne (pc := 65) (tgt := 72) hX dX6_sameRow_65 (by decide) (fun h65 => ?_) (fun h65 => ?_)
    · refine V_iconst (pc := 72) (z := 0) hX (oI 0) rfl dX6_sameRow_72 ?_
      refine V_zret (pc := 73) hX hR (by decide) dX6_sameRow_73 ?_
      exact ⟨some_int (bI_0 (by rw [sameM, decide_eq_false h65, Bool.and_false])), rfl⟩
    · refine V_iconst (pc := 68) (z := 1) hX (oI 1) rfl dX6_sameRow_68 ?_
      refine V_goto (pc := 69) (off := 4) (tgt := 73) hX (by decide) dX6_sameRow_69 ?_
      refine V_zret (pc := 73) hX hR (by decide) dX6_sameRow_73 ?_
      exact ⟨some_int (bI_1 (by rw [sameM, decide_eq_true h43, decide_eq_true h65]; rfl)), rfl⟩
theorem c_X6_isEmptyRow {E : Le} {l : Launch} {D : Dt} {a : Nat} {y : Int} (ha : a < 13) (hy : -60 ≤ y ∧ y ≤ 59) : ConI E l yX6_isEmptyRow cX6_isEmptyRow 4 (some .boolean) 1 [.ref (E.1 (20, 0)), .int (oI (a : Int)), .int (oI y)] D (bI (emptyM (D.2.1 21 0) a (y + 60).toNat)) D := by
  refine Con_of (by decide) (Nat.le_of_ble_eq_true rfl) ?_
  intro X hX hR hl; subst hl
  refine V_sipush (pc := 0) (z := 240) hX (oI 240) (by decide) dX6_isEmptyRow_0 ?_
  refine V_iload_n (pc := 3) (j := 1) hX 1 rfl rfl dX6_isEmptyRow_3 ?_
  refine Z_imul (pc := 4) hX dX6_isEmptyRow_4 ?_
  refine V_iconst (pc := 5) (z := 2) hX (oI 2) rfl dX6_isEmptyRow_5 ?_
  refine V_iload_n (pc := 6) (j := 2) hX 2 rfl rfl dX6_isEmptyRow_6 ?_
  refine V_bipush (pc := 7) (z := (-60)) hX (oI (-60)) (by decide) dX6_isEmptyRow_7 ?_
  refine Z_isub (pc := 9) hX dX6_isEmptyRow_9 ?_
  refine Z_imul (pc := 10) hX dX6_isEmptyRow_10 ?_
  refine Z_iadd (pc := 11) hX dX6_isEmptyRow_11 ?_
  refine V_istore_n (pc := 12) (j := 3) hX 3 rfl (by decide) rfl dX6_isEmptyRow_12 ?_
  refine V_aload_n (pc := 13) (j := 0) hX 0 rfl rfl dX6_isEmptyRow_13 ?_
  refine gf_X6_7 (pc := 14) hX dX6_isEmptyRow_14 ?_
  refine V_iload_n (pc := 17) (j := 3) hX 3 rfl rfl dX6_isEmptyRow_17 ?_
  refine zl_21 (pc := 18) hX (240 * a + 2 * (y + 60).toNat) (by omega) (by omega) dX6_isEmptyRow_18 ?_
  refine V_lconst (pc := 19) (z := 0) hX 0 (by decide) dX6_isEmptyRow_19 ?_
  refine V_lcmp (pc := 20) hX dX6_isEmptyRow_20 ?_
  refine L_if_ne (pc := 21) (tgt := 41) hX dX6_isEmptyRow_21 (by decide) (fun h21 => ?_) (fun h21 => ?_)
  · refine V_iconst (pc := 41) (z := 0) hX (oI 0) rfl dX6_isEmptyRow_41 ?_
    refine V_zret (pc := 42) hX hR (by decide) dX6_isEmptyRow_42 ?_
    exact ⟨some_int (bI_0 (by rw [emptyM, decide_eq_false h21]; rfl)), rfl⟩
  · refine V_aload_n (pc := 24) (j := 0) hX 0 rfl rfl dX6_isEmptyRow_24 ?_
    refine gf_X6_7 (pc := 25) hX dX6_isEmptyRow_25 ?_
    refine V_iload_n (pc := 28) (j := 3) hX 3 rfl rfl dX6_isEmptyRow_28 ?_
    refine V_iconst (pc := 29) (z := 1) hX (oI 1) rfl dX6_isEmptyRow_29 ?_
    refine Z_iadd (pc := 30) hX dX6_isEmptyRow_30 ?_
    refine zl_21 (pc := 31) hX (240 * a + 2 * (y + 60).toNat + 1) (by omega) (by omega) dX6_isEmptyRow_31 ?_
    refine V_lconst (pc := 32) (z := 0) hX 0 (by decide) dX6_isEmptyRow_32 ?_
    refine V_lcmp (pc := 33) hX dX6_isEmptyRow_33 ?_
    refine L_if_ne (pc := 34) (tgt := 41) hX dX6_isEmptyRow_34 (by decide) (fun h34 => ?_) (fun h34 => ?_)
    · refine V_iconst (pc := 41) (z := 0) hX (oI 0) rfl dX6_isEmptyRow_41 ?_
      refine V_zret (pc := 42) hX hR (by decide) dX6_isEmptyRow_42 ?_
      exact ⟨some_int (bI_0 (by rw [emptyM, decide_eq_false h34, Bool.and_false])), rfl⟩
    · refine V_iconst (pc := 37) (z := 1) hX (oI 1) rfl dX6_isEmptyRow_37 ?_
      refine V_goto (pc := 38) (off := 4) (tgt := 42) hX (by decide) dX6_isEmptyRow_38 ?_
      refine V_zret (pc := 42) hX hR (by decide) dX6_isEmptyRow_42 ?_
      exact ⟨some_int (bI_1 (by rw [emptyM, decide_eq_true h21, decide_eq_true h34]; rfl)), rfl⟩
/-- a refusal is counted -/
def refS (f : Nat → Int32) (v : Int) : Nat → Int32 := upd f (-202 - v).toNat (f (-202 - v).toNat + oI 1)
def endS (f : Nat → Int32) (v : Int) : Nat → Int32 := if v = -204 ∨ v = -203 then refS f v else f
theorem c_X6_refuses {E : Le} {l : Launch} {D : Dt} {v : Int} (hv : -204 ≤ v ∧ v ≤ -202) : ConI E l yX6_refuses cX6_refuses 2 (some .int) 1 [.ref (E.1 (20, 0)), .int (oI v)] D (oI v) (rU D 22 (refS (D.1 22) v)) := by
  refine Con_of (by decide) (Nat.le_of_ble_eq_true rfl) ?_
  intro X hX hR hl; subst hl
  refine V_aload_n (pc := 0) (j := 0) hX 0 rfl rfl dX6_refuses_0 ?_
  refine gf_X6_13 (pc := 1) hX dX6_refuses_1 ?_
  refine V_sipush (pc := 4) (z := (-202)) hX (oI (-202)) (by decide) dX6_refuses_4 ?_
  refine V_iload_n (pc := 7) (j := 1) hX 1 rfl rfl dX6_refuses_7 ?_
  refine Z_isub (pc := 8) hX dX6_refuses_8 ?_
  refine V_dup2_11 (pc := 9) hX rfl rfl dX6_refuses_9 ?_
  refine zl_22 (pc := 10) hX ((-202 - v).toNat) (by omega) (by omega) dX6_refuses_10 ?_
  refine V_iconst (pc := 11) (z := 1) hX (oI 1) rfl dX6_refuses_11 ?_
  refine V_iadd (pc := 12) hX dX6_refuses_12 ?_
  refine zs_22 (pc := 13) hX ((-202 - v).toNat) (by omega) (by omega) dX6_refuses_13 ?_
  refine V_iload_n (pc := 14) (j := 1) hX 1 rfl rfl dX6_refuses_14 ?_
  refine V_iret (pc := 15) hX hR dX6_refuses_15 ?_
  exact ⟨rfl, rfl⟩
theorem c_X6_ends {E : Le} {l : Launch} {D : Dt} {v : Int} (hv : Rg v) : ConI E l yX6_ends cX6_ends 2 (some .int) 2 [.ref (E.1 (20, 0)), .int (oI v)] D (oI v) (rU D 22 (endS (D.1 22) v)) := by
  refine Con_of (by decide) (Nat.le_of_ble_eq_true rfl) ?_
  intro X hX hR hl; subst hl
  refine V_iload_n (pc := 0) (j := 1) hX 1 rfl rfl dX6_ends_0 ?_
  refine V_sipush (pc := 1) (z := (-204)) hX (oI (-204)) (by decide) dX6_ends_1 ?_
  refine Z_icmp_eq (pc := 4) (tgt := 14) hX (by omega) (by omega) dX6_ends_4 (by decide) (fun h4 => ?_) (fun h4 => ?_)
  · refine V_aload_n (pc := 14) (j := 0) hX 0 rfl rfl dX6_ends_14 ?_
    refine V_iload_n (pc := 15) (j := 1) hX 1 rfl rfl dX6_ends_15 ?_
    refine cVI1 (pc := 16) hX (c_X6_refuses (by omega)) (by decide) st_X6_105 ix_20 rfl rfl rfl (Nat.le_of_ble_eq_true rfl) dX6_ends_16 ?_
    refine V_goto (pc := 19) (off := 4) (tgt := 23) hX (by decide) dX6_ends_19 ?_
    refine V_iret (pc := 23) hX hR dX6_ends_23 ?_
    first
      | exact ⟨rfl, by rw [endS, if_pos (by omega)]⟩
      | exact ⟨rfl, by rw [endS, if_neg (by omega), rU_self]⟩
  · refine V_iload_n (pc := 7) (j := 1) hX 1 rfl rfl dX6_ends_7 ?_
    refine V_sipush (pc := 8) (z := (-203)) hX (oI (-203)) (by decide) dX6_ends_8 ?_
    refine Z_icmp_ne (pc := 11) (tgt := 22) hX (by omega) (by omega) dX6_ends_11 (by decide) (fun h11 => ?_) (fun h11 => ?_)
    · refine V_iload_n (pc := 22) (j := 1) hX 1 rfl rfl dX6_ends_22 ?_
      refine V_iret (pc := 23) hX hR dX6_ends_23 ?_
      first
        | exact ⟨rfl, by rw [endS, if_pos (by omega)]⟩
        | exact ⟨rfl, by rw [endS, if_neg (by omega), rU_self]⟩
    · refine V_aload_n (pc := 14) (j := 0) hX 0 rfl rfl dX6_ends_14 ?_
      refine V_iload_n (pc := 15) (j := 1) hX 1 rfl rfl dX6_ends_15 ?_
      refine cVI1 (pc := 16) hX (c_X6_refuses (by omega)) (by decide) st_X6_105 ix_20 rfl rfl rfl (Nat.le_of_ble_eq_true rfl) dX6_ends_16 ?_
      refine V_goto (pc := 19) (off := 4) (tgt := 23) hX (by decide) dX6_ends_19 ?_
      refine V_iret (pc := 23) hX hR dX6_ends_23 ?_
      first
        | exact ⟨rfl, by rw [endS, if_pos (by omega)]⟩
        | exact ⟨rfl, by rw [endS, if_neg (by omega), rU_self]⟩
