/-- the reference's own junk alone has changed: what forms() keeps, and the longs -/
def Fr (D D' : Dt) : Prop := (∀ t, t ≠ 20 → D'.1 t = D.1 t) ∧ (∀ j, (j < 9 ∨ 16 < j) → D'.1 20 j = D.1 20 j) ∧ (∀ t z, t ≠ 21 → D'.2.1 t z = D.2.1 t z) ∧ D'.2.2 = D.2.2
theorem Fr.rf (D : Dt) : Fr D D := ⟨fun _ _ => rfl, fun _ _ => rfl, fun _ _ _ => rfl, rfl⟩
theorem Fr.tr {D D1 D2 : Dt} (h : Fr D D1) (k : Fr D1 D2) : Fr D D2 := ⟨fun t ht => (k.1 t ht).trans (h.1 t ht), fun j hj => (k.2.1 j hj).trans (h.2.1 j hj), fun t z ht => (k.2.2.1 t z ht).trans (h.2.2.1 t z ht), k.2.2.2.trans h.2.2.2⟩
theorem Fr_lU (D : Dt) (f : Nat → Int64) : Fr D (lU D 21 0 f) := ⟨fun _ _ => rfl, fun _ _ => rfl, fun t z ht => by
  show (if t = 21 ∧ z = 0 then f else D.2.1 t z) = _
  rw [if_neg (fun q => ht q.1)], rfl⟩
theorem formI_out {I : Nat → Int32} {s : Nat → Int64} {a : Nat} {k wh w : Int} {j : Nat} (h : j < 9 ∨ 16 < j) : formI I s a k wh w j = I j := by
  rw [formI, pf_at, if_neg (by omega), if_neg (by omega), if_neg (by omega), if_neg (by omega), if_neg (by omega), if_neg (by omega), upd_at, if_neg (by omega), upd_at, if_neg (by omega)]
theorem Fr_form (D : Dt) (s : Nat → Int64) (a : Nat) (k wh w : Int) : Fr D (rU D 20 (formI (D.1 20) s a k wh w)) := ⟨fun t ht => rU_ne D _ ht, fun j hj => by rw [rU_get]; exact formI_out hj, fun _ _ _ => rfl, rfl⟩
def Out8 (s t : Nat → Int64) : Prop := ∀ k, (k < 1200 ∨ 1920 ≤ k) → t k = s k
theorem Out8.tr {s t u : Nat → Int64} (h : Out8 s t) (h2 : Out8 t u) : Out8 s u := fun k hk => (h2 k hk).trans (h k hk)
theorem Out8.rf (s : Nat → Int64) : Out8 s s := fun _ _ => rfl
theorem Out5.o8 {s t : Nat → Int64} (h : Out5 s t) : Out8 s t := fun k hk => h k (by omega)
/-- what was made (T) becomes area b, if it fits: how many cells; FULL -/
def MkP (D : Dt) (T : Cl) (b : Nat) (r : Int32) (D' : Dt) : Prop := Fr D D' ∧ r = oI (if fitC T then (cntC T : Int) else -204) ∧ (∀ a, (a < 5 ∨ (8 ≤ a ∧ a < 13)) → (a ≠ b ∨ fitC T = false) → ∀ k, k < 240 → D'.2.1 21 0 (240 * a + k) = D.2.1 21 0 (240 * a + k)) ∧ (fitC T = true → AR (D'.2.1 21 0) b T)
theorem MkP.from {D D1 D' : Dt} {T : Cl} {b : Nat} {r : Int32} (h : MkP D1 T b r D') (hF : Fr D D1) (hO : Out8 (D.2.1 21 0) (D1.2.1 21 0)) : MkP D T b r D' :=
  ⟨hF.tr h.1, h.2.1, fun a ha hb k hk => (h.2.2.1 a ha hb k hk).trans (hO _ (by omega)), h.2.2.2⟩
theorem MkP_full {D : Dt} {T : Cl} {b : Nat} {D1 : Dt} (hf : fitC T = false) (hF : Fr D D1) (hs : D1.2.1 21 0 = D.2.1 21 0) : MkP D T b (oI (-204)) D1 :=
  ⟨hF, by rw [hf]; rfl, fun a _ _ k _ => by rw [hs], fun h => by rw [hf] at h; cases h⟩
theorem MkP_ok {D D1 : Dt} {T : Cl} {b : Nat} (hb : b < 5) (hf : fitC T = true) (hF : Fr D D1) (hs : D1.2.1 21 0 = D.2.1 21 0) (hT : AR (D.2.1 21 0) 5 T) : MkP D T b (oI ((cntM (blk (D1.2.1 21 0) b (fun i => D1.2.1 21 0 (240 * 5 + i)) 240) b 240 : Nat) : Int)) (lU D1 21 0 (blk (D1.2.1 21 0) b (fun i => D1.2.1 21 0 (240 * 5 + i)) 240)) := by
  rw [hs]
  have hR : AR (blk (D.2.1 21 0) b (fun i => D.2.1 21 0 (240 * 5 + i)) 240) b T := hT.same (fun k hk => blk_in hk)
  refine ⟨hF.tr (Fr_lU D1 _), by rw [AR_cnt hR, hf]; rfl, fun a ha hab k hk => ?_, fun _ => by rw [lU_get]; exact hR⟩
  rw [lU_get]
  rcases hab with h | h
  · exact blk_out (by omega)
  · rw [hf] at h; cases h
theorem c_X6_becomes {E : Le} {l : Launch} {D : Dt} {T : Cl} {b : Nat} (hb : b < 5) (hT : AR (D.2.1 21 0) 5 T) : ConIp E l yX6_becomes cX6_becomes 2 (some .int) 6 [.ref (E.1 (20, 0)), .int (oI (b : Int))] D (MkP D T b) := by
  refine Con_of (by decide) (Nat.le_of_ble_eq_true rfl) ?_
  intro X hX hR hl; subst hl
  have hnb := nbC_le T
  have hns := nsC_le T
  refine V_aload_n (pc := 0) (j := 0) hX 0 rfl rfl dX6_becomes_0 ?_
  refine V_iconst (pc := 1) (z := 5) hX (oI 5) rfl dX6_becomes_1 ?_
  refine V_iconst (pc := 2) (z := 0) hX (oI 0) rfl dX6_becomes_2 ?_
  refine V_iconst (pc := 3) (z := 0) hX (oI 0) rfl dX6_becomes_3 ?_
  refine V_iconst (pc := 4) (z := 0) hX (oI 0) rfl dX6_becomes_4 ?_
  refine cVV4 (pc := 5) hX (c_X6_forms (a := 5) (by omega) (by omega)) (by decide) st_X6_94 ix_20 rfl rfl rfl (Nat.le_of_ble_eq_true rfl) dX6_becomes_5 ?_
  refine V_aload_n (pc := 8) (j := 0) hX 0 rfl rfl dX6_becomes_8 ?_
  refine gf_X6_81 (pc := 9) hX dX6_becomes_9 ?_
  refine V_oI (nbC T : Int) (by rw [rU_get]; exact (form_n hT _ _ _ _).2) ?_
  refine V_bipush (pc := 12) (z := 60) hX (oI 60) (by decide) dX6_becomes_12 ?_
  refine Z_icmp_gt (pc := 14) (tgt := 27) hX (by omega) (by omega) dX6_becomes_14 (by decide) (fun h14 => ?_) (fun h14 => ?_)
  · refine V_sipush (pc := 27) (z := (-204)) hX (oI (-204)) (by decide) dX6_becomes_27 ?_
    refine V_iret (pc := 30) hX hR dX6_becomes_30 ?_
    exact ⟨_, rfl, MkP_full (decide_eq_false (by omega)) (Fr_form D _ _ _ _ _) rfl⟩
  · refine V_aload_n (pc := 17) (j := 0) hX 0 rfl rfl dX6_becomes_17 ?_
    refine gf_X6_68 (pc := 18) hX dX6_becomes_18 ?_
    refine V_oI (nsC T : Int) (by rw [rU_get]; exact (form_n hT _ _ _ _).1) ?_
    refine V_sipush (pc := 21) (z := 300) hX (oI 300) (by decide) dX6_becomes_21 ?_
    refine Z_icmp_le (pc := 24) (tgt := 31) hX (by omega) (by omega) dX6_becomes_24 (by decide) (fun h24 => ?_) (fun h24 => ?_)
    · refine V_aload_n (pc := 31) (j := 0) hX 0 rfl rfl dX6_becomes_31 ?_
      refine V_iconst (pc := 32) (z := 5) hX (oI 5) rfl dX6_becomes_32 ?_
      refine V_iload_n (pc := 33) (j := 1) hX 1 rfl rfl dX6_becomes_33 ?_
      refine cVV2 (pc := 34) hX (c_X6_copies (a := 5) (b := b) (by omega) (by omega)) (by decide) st_X6_97 ix_20 rfl rfl rfl (Nat.le_of_ble_eq_true rfl) dX6_becomes_34 ?_
      refine V_aload_n (pc := 37) (j := 0) hX 0 rfl rfl dX6_becomes_37 ?_
      refine V_iload_n (pc := 38) (j := 1) hX 1 rfl rfl dX6_becomes_38 ?_
      refine cVI1 (pc := 39) hX (c_X6_cells (a := b) (by omega)) (by decide) st_X6_101 ix_20 rfl rfl rfl (Nat.le_of_ble_eq_true rfl) dX6_becomes_39 ?_
      refine V_iret (pc := 42) hX hR dX6_becomes_42 ?_
      exact ⟨_, rfl, MkP_ok hb (decide_eq_true (by omega)) (Fr_form D _ _ _ _ _) rfl hT⟩
    · refine V_sipush (pc := 27) (z := (-204)) hX (oI (-204)) (by decide) dX6_becomes_27 ?_
      refine V_iret (pc := 30) hX hR dX6_becomes_30 ?_
      exact ⟨_, rfl, MkP_full (decide_eq_false (by omega)) (Fr_form D _ _ _ _ _) rfl⟩
theorem c_X6_boxes {E : Le} {l : Launch} {D : Dt} {x y w h : Int} {b : Nat} (hx : -60 ≤ x ∧ x ≤ 59) (hy : -60 ≤ y ∧ y ≤ 59) (hw : 1 ≤ w ∧ w ≤ 99) (hh : 1 ≤ h ∧ h ≤ 99) (hb : b < 5) : ConIp E l yX6_boxes cX6_boxes 6 (some .int) 7 [.ref (E.1 (20, 0)), .int (oI x), .int (oI y), .int (oI w), .int (oI h), .int (oI (b : Int))] D (fun r D' => ((60 < x + w ∨ 60 < y + h) → r = oI (-203) ∧ D' = D) ∧ (¬ (60 < x + w ∨ 60 < y + h) → MkP D (boxC x y w h) b r D')) := by
  refine Con_of (by decide) (Nat.le_of_ble_eq_true rfl) ?_
  intro X hX hR hl; subst hl
  refine V_iload_n (pc := 0) (j := 1) hX 1 rfl rfl dX6_boxes_0 ?_
  refine V_iload_n (pc := 1) (j := 3) hX 3 rfl rfl dX6_boxes_1 ?_
  refine Z_iadd (pc := 2) hX dX6_boxes_2 ?_
  refine V_bipush (pc := 3) (z := 60) hX (oI 60) (by decide) dX6_boxes_3 ?_
  refine Z_icmp_gt (pc := 5) (tgt := 17) hX (by omega) (by omega) dX6_boxes_5 (by decide) (fun h5 => ?_) (fun h5 => ?_)
  · refine V_sipush (pc := 17) (z := (-203)) hX (oI (-203)) (by decide) dX6_boxes_17 ?_
    refine V_iret (pc := 20) hX hR dX6_boxes_20 ?_
    exact ⟨_, rfl, fun _ => ⟨rfl, rfl⟩, fun q => absurd q (by omega)⟩
  · refine V_iload_n (pc := 8) (j := 2) hX 2 rfl rfl dX6_boxes_8 ?_
    refine V_iload (pc := 9) hX rfl dX6_boxes_9 ?_
    refine Z_iadd (pc := 11) hX dX6_boxes_11 ?_
    refine V_bipush (pc := 12) (z := 60) hX (oI 60) (by decide) dX6_boxes_12 ?_
    refine Z_icmp_le (pc := 14) (tgt := 21) hX (by omega) (by omega) dX6_boxes_14 (by decide) (fun h14 => ?_) (fun h14 => ?_)
    · refine V_aload_n (pc := 21) (j := 0) hX 0 rfl rfl dX6_boxes_21 ?_
      refine V_iconst (pc := 22) (z := 5) hX (oI 5) rfl dX6_boxes_22 ?_
      refine cVV1 (pc := 23) hX (c_X6_empties (a := 5) (by omega)) (by decide) st_X6_108 ix_20 rfl rfl rfl (Nat.le_of_ble_eq_true rfl) dX6_boxes_23 ?_
      refine V_aload_n (pc := 26) (j := 0) hX 0 rfl rfl dX6_boxes_26 ?_
      refine V_iload_n (pc := 27) (j := 1) hX 1 rfl rfl dX6_boxes_27 ?_
      refine V_iload_n (pc := 28) (j := 2) hX 2 rfl rfl dX6_boxes_28 ?_
      refine V_iload_n (pc := 29) (j := 3) hX 3 rfl rfl dX6_boxes_29 ?_
      refine V_iload (pc := 30) hX rfl dX6_boxes_30 ?_
      refine cVVp4 (pc := 32) hX (c_X6_fills (S := fun _ _ => false) (by omega) (by omega) (by rw [lU_get]; exact AR_empty)) (by decide) st_X6_111 ix_20 rfl rfl rfl (Nat.le_of_ble_eq_true rfl) dX6_boxes_32 (fun D32 h32 => ?_)
      obtain ⟨t, rfl, ht, hT⟩ := h32
      have hT : AR ((lU (lU D 21 0 (blk (D.2.1 21 0) 5 (fun _ => 0) 240)) 21 0 t).2.1 21 0) 5 (boxC x y w h) := by
        rw [lU_get]; exact hT.congr (fun i hi j hj => by rw [Bool.false_or])
      refine V_aload_n (pc := 35) (j := 0) hX 0 rfl rfl dX6_boxes_35 ?_
      refine V_iload (pc := 36) hX rfl dX6_boxes_36 ?_
      refine cVIp1 (pc := 38) hX (c_X6_becomes hb hT) (by decide) st_X6_114 ix_20 rfl rfl rfl (Nat.le_of_ble_eq_true rfl) dX6_boxes_38 (fun r38 D38 h38 => ?_)
      have hP : MkP D (boxC x y w h) b r38 D38 := h38.from ((Fr_lU D _).tr (Fr_lU _ _)) (by rw [lU_get]; rw [lU_get] at ht; exact (Out5_blk.o8).tr ht.o8)
      refine V_iret (pc := 41) hX hR dX6_boxes_41 ?_
      exact ⟨_, rfl, fun q => absurd q (by omega), fun _ => hP⟩
    · refine V_sipush (pc := 17) (z := (-203)) hX (oI (-203)) (by decide) dX6_boxes_17 ?_
      refine V_iret (pc := 20) hX hR dX6_boxes_20 ?_
      exact ⟨_, rfl, fun _ => ⟨rfl, rfl⟩, fun q => absurd q (by omega)⟩
