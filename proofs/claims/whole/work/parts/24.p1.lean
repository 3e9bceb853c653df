/-- a public call of the reference: its answer, its state, the class's cells untouched -/
def PubP (D : Dt) (q : Int × AS) (r : Int32) (D' : Dt) : Prop := r = oI q.1 ∧ Mst D' q.2 ∧ CK D D'
theorem Pub_bad {D : Dt} {σ : AS} (h : Mst D σ) : PubP D (badA σ) (oI (-202)) (rU D 22 (refS (D.1 22) (-202))) := ⟨rfl, h.ref (by omega), CK_rU D (by decide) _⟩
theorem Pub_no0 {D : Dt} {σ : AS} (h : Mst D σ) : PubP D (noA σ) (oI (-203)) (rU D 22 (refS (D.1 22) (-203))) := ⟨rfl, h.ref (by omega), CK_rU D (by decide) _⟩
theorem Pub_mk {D D' : Dt} {σ : AS} {T : Cl} {b : Nat} {r : Int32} (h : Mst D σ) (hb : b < 5) (k : MkP D T b r D') : ∃ v, r = oI v ∧ Rg v ∧ PubP D (mkA σ T b) (oI v) (rU D' 22 (endS (D'.1 22) v)) :=
  ⟨mkV T, k.2.1, by have := mkV_rg T; omega, by rw [mkA_1], h.mk hb k, k.1.ck.tr (CK_rU _ (by decide) _)⟩
theorem Pub_no {D D' : Dt} {σ : AS} {r : Int32} (h : Mst D σ) (hr : r = oI (-203)) (k : Fr D D') (o : Out8 (D.2.1 21 0) (D'.2.1 21 0)) : ∃ v, r = oI v ∧ Rg v ∧ PubP D (noA σ) (oI v) (rU D' 22 (endS (D'.1 22) v)) := by
  refine ⟨-203, hr, by omega, rfl, ?_, k.ck.tr (CK_rU _ (by decide) _)⟩
  rw [endS, if_pos (by omega)]
  exact (h.fr k o).ref (by omega)
theorem c_X6_box {E : Le} {l : Launch} {D : Dt} {σ : AS} {x y w h to : Int} (r_x : Rg x) (r_y : Rg y) (r_w : Rg w) (r_h : Rg h) (r_to : Rg to) (hM : Mst D σ) : ConIp E l yX6_box cX6_box 6 (some .int) 8 [.ref (E.1 (20, 0)), .int (oI x), .int (oI y), .int (oI w), .int (oI h), .int (oI to)] D (PubP D (boxO σ x y w h to)) := by
  refine Con_of (by decide) (Nat.le_of_ble_eq_true rfl) ?_
  intro X hX hR hl; subst hl
  refine V_iload_n (pc := 0) (j := 1) hX 1 rfl rfl dX6_box_0 ?_
  refine V_iload_n (pc := 1) (j := 2) hX 2 rfl rfl dX6_box_1 ?_
  refine cSI2 (pc := 2) hX (c_X6_isCell (by omega) (by omega)) (by decide) st_X6_37 (Nat.le_of_ble_eq_true rfl) dX6_box_2 ?_
  refine B_if_eq (pc := 5) (tgt := 55) hX dX6_box_5 (by decide) (fun h5 => ?_) (fun h5 => ?_)
  · have q5 := cellB_f.mp h5
    refine V_aload_n (pc := 55) (j := 0) hX 0 rfl rfl dX6_box_55 ?_
    refine V_sipush (pc := 56) (z := (-202)) hX (oI (-202)) (by decide) dX6_box_56 ?_
    refine cVI1 (pc := 59) hX (c_X6_refuses (by omega)) (by decide) st_X6_105 ix_20 rfl rfl rfl (Nat.le_of_ble_eq_true rfl) dX6_box_59 ?_
    refine V_iret (pc := 62) hX hR dX6_box_62 ?_
    exact ⟨_, rfl, by rw [boxO, if_neg (by omega)]; exact Pub_bad hM⟩
  · have q5 := cellB_t.mp h5
    refine V_iload_n (pc := 8) (j := 3) hX 3 rfl rfl dX6_box_8 ?_
    refine V_iconst (pc := 9) (z := 1) hX (oI 1) rfl dX6_box_9 ?_
    refine V_bipush (pc := 10) (z := 99) hX (oI 99) (by decide) dX6_box_10 ?_
    refine cSI3 (pc := 12) hX (c_X6_in (by omega) (by omega) (by omega)) (by decide) st_X6_33 (Nat.le_of_ble_eq_true rfl) dX6_box_12 ?_
    refine B_if_eq (pc := 15) (tgt := 55) hX dX6_box_15 (by decide) (fun h15 => ?_) (fun h15 => ?_)
    · have q15 := inB_f.mp h15
      refine V_aload_n (pc := 55) (j := 0) hX 0 rfl rfl dX6_box_55 ?_
      refine V_sipush (pc := 56) (z := (-202)) hX (oI (-202)) (by decide) dX6_box_56 ?_
      refine cVI1 (pc := 59) hX (c_X6_refuses (by omega)) (by decide) st_X6_105 ix_20 rfl rfl rfl (Nat.le_of_ble_eq_true rfl) dX6_box_59 ?_
      refine V_iret (pc := 62) hX hR dX6_box_62 ?_
      exact ⟨_, rfl, by rw [boxO, if_neg (by omega)]; exact Pub_bad hM⟩
    · have q15 := inB_t.mp h15
      refine V_iload (pc := 18) hX rfl dX6_box_18 ?_
      refine V_iconst (pc := 20) (z := 1) hX (oI 1) rfl dX6_box_20 ?_
      refine V_bipush (pc := 21) (z := 99) hX (oI 99) (by decide) dX6_box_21 ?_
      refine cSI3 (pc := 23) hX (c_X6_in (by omega) (by omega) (by omega)) (by decide) st_X6_33 (Nat.le_of_ble_eq_true rfl) dX6_box_23 ?_
      refine B_if_eq (pc := 26) (tgt := 55) hX dX6_box_26 (by decide) (fun h26 => ?_) (fun h26 => ?_)
      · have q26 := inB_f.mp h26
        refine V_aload_n (pc := 55) (j := 0) hX 0 rfl rfl dX6_box_55 ?_
        refine V_sipush (pc := 56) (z := (-202)) hX (oI (-202)) (by decide) dX6_box_56 ?_
        refine cVI1 (pc := 59) hX (c_X6_refuses (by omega)) (by decide) st_X6_105 ix_20 rfl rfl rfl (Nat.le_of_ble_eq_true rfl) dX6_box_59 ?_
        refine V_iret (pc := 62) hX hR dX6_box_62 ?_
        exact ⟨_, rfl, by rw [boxO, if_neg (by omega)]; exact Pub_bad hM⟩
      · have q26 := inB_t.mp h26
        refine V_iload (pc := 29) hX rfl dX6_box_29 ?_
        refine cSI1 (pc := 31) hX (c_X6_isArea (by omega)) (by decide) st_X6_129 (Nat.le_of_ble_eq_true rfl) dX6_box_31 ?_
        refine B_if_eq (pc := 34) (tgt := 55) hX dX6_box_34 (by decide) (fun h34 => ?_) (fun h34 => ?_)
        · have q34 := inB_f.mp h34
          refine V_aload_n (pc := 55) (j := 0) hX 0 rfl rfl dX6_box_55 ?_
          refine V_sipush (pc := 56) (z := (-202)) hX (oI (-202)) (by decide) dX6_box_56 ?_
          refine cVI1 (pc := 59) hX (c_X6_refuses (by omega)) (by decide) st_X6_105 ix_20 rfl rfl rfl (Nat.le_of_ble_eq_true rfl) dX6_box_59 ?_
          refine V_iret (pc := 62) hX hR dX6_box_62 ?_
          exact ⟨_, rfl, by rw [boxO, if_neg (by omega)]; exact Pub_bad hM⟩
        · have q34 := inB_t.mp h34
          obtain ⟨b, rfl⟩ : ∃ N0 : Nat, to = (N0 : Int) := ⟨to.toNat, by omega⟩
          refine V_aload_n (pc := 37) (j := 0) hX 0 rfl rfl dX6_box_37 ?_
          refine V_aload_n (pc := 38) (j := 0) hX 0 rfl rfl dX6_box_38 ?_
          refine V_iload_n (pc := 39) (j := 1) hX 1 rfl rfl dX6_box_39 ?_
          refine V_iload_n (pc := 40) (j := 2) hX 2 rfl rfl dX6_box_40 ?_
          refine V_iload_n (pc := 41) (j := 3) hX 3 rfl rfl dX6_box_41 ?_
          refine V_iload (pc := 42) hX rfl dX6_box_42 ?_
          refine V_iload (pc := 44) hX rfl dX6_box_44 ?_
          refine cVIp5 (pc := 46) hX (c_X6_boxes (b := b) (by omega) (by omega) (by omega) (by omega) (by omega)) (by decide) st_X6_133 ix_20 rfl rfl rfl (Nat.le_of_ble_eq_true rfl) dX6_box_46 (fun r46 D46 h46 => ?_)
          obtain ⟨v, rfl, hv, hP⟩ : ∃ v, r46 = oI v ∧ Rg v ∧ PubP D (boxO σ x y w h (b : Int)) (oI v) (rU D46 22 (endS (D46.1 22) v)) := by
            rw [boxO, if_pos (by omega)]
            by_cases hc : 60 < x + w ∨ 60 < y + h
            · rw [if_pos hc]
              obtain ⟨e1, e2⟩ := h46.1 hc
              exact Pub_no hM e1 (by rw [e2]; exact Fr.rf D) (by rw [e2]; exact Out8.rf _)
            · rw [if_neg hc, Int.toNat_natCast]
              exact Pub_mk hM (by omega) (h46.2 hc)
          refine cVI1 (pc := 49) hX (c_X6_ends hv) (by decide) st_X6_136 ix_20 rfl rfl rfl (Nat.le_of_ble_eq_true rfl) dX6_box_49 ?_
          refine V_goto (pc := 52) (off := 10) (tgt := 62) hX (by decide) dX6_box_52 ?_
          refine V_iret (pc := 62) hX hR dX6_box_62 ?_
          exact ⟨_, rfl, hP⟩
theorem c_X6_mix {E : Le} {l : Launch} {D : Dt} {σ : AS} {so a b to : Int} (r_so : Rg so) (r_a : Rg a) (r_b : Rg b) (r_to : Rg to) (hM : Mst D σ) : ConIp E l yX6_mix cX6_mix 5 (some .int) 8 [.ref (E.1 (20, 0)), .int (oI so), .int (oI a), .int (oI b), .int (oI to)] D (PubP D (mixO σ so a b to)) := by
  refine Con_of (by decide) (Nat.le_of_ble_eq_true rfl) ?_
  intro X hX hR hl; subst hl
  refine V_iload_n (pc := 0) (j := 1) hX 1 rfl rfl dX6_mix_0 ?_
  refine V_iconst (pc := 1) (z := 0) hX (oI 0) rfl dX6_mix_1 ?_
  refine V_iconst (pc := 2) (z := 3) hX (oI 3) rfl dX6_mix_2 ?_
  refine cSI3 (pc := 3) hX (c_X6_in (by omega) (by omega) (by omega)) (by decide) st_X6_33 (Nat.le_of_ble_eq_true rfl) dX6_mix_3 ?_
  refine B_if_eq (pc := 6) (tgt := 47) hX dX6_mix_6 (by decide) (fun h6 => ?_) (fun h6 => ?_)
  · have q6 := inB_f.mp h6
    refine V_aload_n (pc := 47) (j := 0) hX 0 rfl rfl dX6_mix_47 ?_
    refine V_sipush (pc := 48) (z := (-202)) hX (oI (-202)) (by decide) dX6_mix_48 ?_
    refine cVI1 (pc := 51) hX (c_X6_refuses (by omega)) (by decide) st_X6_105 ix_20 rfl rfl rfl (Nat.le_of_ble_eq_true rfl) dX6_mix_51 ?_
    refine V_iret (pc := 54) hX hR dX6_mix_54 ?_
    exact ⟨_, rfl, by rw [mixO, if_neg (by omega)]; exact Pub_bad hM⟩
  · have q6 := inB_t.mp h6
    refine V_iload_n (pc := 9) (j := 2) hX 2 rfl rfl dX6_mix_9 ?_
    refine cSI1 (pc := 10) hX (c_X6_isArea (by omega)) (by decide) st_X6_129 (Nat.le_of_ble_eq_true rfl) dX6_mix_10 ?_
    refine B_if_eq (pc := 13) (tgt := 47) hX dX6_mix_13 (by decide) (fun h13 => ?_) (fun h13 => ?_)
    · have q13 := inB_f.mp h13
      refine V_aload_n (pc := 47) (j := 0) hX 0 rfl rfl dX6_mix_47 ?_
      refine V_sipush (pc := 48) (z := (-202)) hX (oI (-202)) (by decide) dX6_mix_48 ?_
      refine cVI1 (pc := 51) hX (c_X6_refuses (by omega)) (by decide) st_X6_105 ix_20 rfl rfl rfl (Nat.le_of_ble_eq_true rfl) dX6_mix_51 ?_
      refine V_iret (pc := 54) hX hR dX6_mix_54 ?_
      exact ⟨_, rfl, by rw [mixO, if_neg (by omega)]; exact Pub_bad hM⟩
    · have q13 := inB_t.mp h13
      refine V_iload_n (pc := 16) (j := 3) hX 3 rfl rfl dX6_mix_16 ?_
      refine cSI1 (pc := 17) hX (c_X6_isArea (by omega)) (by decide) st_X6_129 (Nat.le_of_ble_eq_true rfl) dX6_mix_17 ?_
      refine B_if_eq (pc := 20) (tgt := 47) hX dX6_mix_20 (by decide) (fun h20 => ?_) (fun h20 => ?_)
      · have q20 := inB_f.mp h20
        refine V_aload_n (pc := 47) (j := 0) hX 0 rfl rfl dX6_mix_47 ?_
        refine V_sipush (pc := 48) (z := (-202)) hX (oI (-202)) (by decide) dX6_mix_48 ?_
        refine cVI1 (pc := 51) hX (c_X6_refuses (by omega)) (by decide) st_X6_105 ix_20 rfl rfl rfl (Nat.le_of_ble_eq_true rfl) dX6_mix_51 ?_
        refine V_iret (pc := 54) hX hR dX6_mix_54 ?_
        exact ⟨_, rfl, by rw [mixO, if_neg (by omega)]; exact Pub_bad hM⟩
      · have q20 := inB_t.mp h20
        refine V_iload (pc := 23) hX rfl dX6_mix_23 ?_
        refine cSI1 (pc := 25) hX (c_X6_isArea (by omega)) (by decide) st_X6_129 (Nat.le_of_ble_eq_true rfl) dX6_mix_25 ?_
        refine B_if_eq (pc := 28) (tgt := 47) hX dX6_mix_28 (by decide) (fun h28 => ?_) (fun h28 => ?_)
        · have q28 := inB_f.mp h28
          refine V_aload_n (pc := 47) (j := 0) hX 0 rfl rfl dX6_mix_47 ?_
          refine V_sipush (pc := 48) (z := (-202)) hX (oI (-202)) (by decide) dX6_mix_48 ?_
          refine cVI1 (pc := 51) hX (c_X6_refuses (by omega)) (by decide) st_X6_105 ix_20 rfl rfl rfl (Nat.le_of_ble_eq_true rfl) dX6_mix_51 ?_
          refine V_iret (pc := 54) hX hR dX6_mix_54 ?_
          exact ⟨_, rfl, by rw [mixO, if_neg (by omega)]; exact Pub_bad hM⟩
        · have q28 := inB_t.mp h28
          obtain ⟨a, rfl⟩ : ∃ N0 : Nat, a = (N0 : Int) := ⟨a.toNat, by omega⟩
          obtain ⟨b, rfl⟩ : ∃ N0 : Nat, b = (N0 : Int) := ⟨b.toNat, by omega⟩
          obtain ⟨c, rfl⟩ : ∃ N0 : Nat, to = (N0 : Int) := ⟨to.toNat, by omega⟩
          refine V_aload_n (pc := 31) (j := 0) hX 0 rfl rfl dX6_mix_31 ?_
          refine V_aload_n (pc := 32) (j := 0) hX 0 rfl rfl dX6_mix_32 ?_
          refine V_iload_n (pc := 33) (j := 1) hX 1 rfl rfl dX6_mix_33 ?_
          refine V_iload_n (pc := 34) (j := 2) hX 2 rfl rfl dX6_mix_34 ?_
          refine V_iload_n (pc := 35) (j := 3) hX 3 rfl rfl dX6_mix_35 ?_
          refine V_iload (pc := 36) hX rfl dX6_mix_36 ?_
          refine cVIp4 (pc := 38) hX (c_X6_mixes (a := a) (b := b) (c := c) (by omega) (by omega) (by omega) (by omega) (hM.1 a (by omega)).1 (hM.1 b (by omega)).1) (by decide) st_X6_139 ix_20 rfl rfl rfl (Nat.le_of_ble_eq_true rfl) dX6_mix_38 (fun r38 D38 h38 => ?_)
          obtain ⟨v, rfl, hv, hP⟩ : ∃ v, r38 = oI v ∧ Rg v ∧ PubP D (mixO σ so (a : Int) (b : Int) (c : Int)) (oI v) (rU D38 22 (endS (D38.1 22) v)) := by
            rw [mixO, if_pos (by omega), Int.toNat_natCast, Int.toNat_natCast, Int.toNat_natCast]
            exact Pub_mk hM (by omega) h38
          refine cVI1 (pc := 41) hX (c_X6_ends hv) (by decide) st_X6_136 ix_20 rfl rfl rfl (Nat.le_of_ble_eq_true rfl) dX6_mix_41 ?_
          refine V_goto (pc := 44) (off := 10) (tgt := 54) hX (by decide) dX6_mix_44 ?_
          refine V_iret (pc := 54) hX hR dX6_mix_54 ?_
          exact ⟨_, rfl, hP⟩
theorem c_X6_move {E : Le} {l : Launch} {D : Dt} {σ : AS} {a x y to : Int} (r_a : Rg a) (r_x : Rg x) (r_y : Rg y) (r_to : Rg to) (hM : Mst D σ) : ConIp E l yX6_move cX6_move 5 (some .int) 8 [.ref (E.1 (20, 0)), .int (oI a), .int (oI x), .int (oI y), .int (oI to)] D (PubP D (moveO σ a x y to)) := by
  refine Con_of (by decide) (Nat.le_of_ble_eq_true rfl) ?_
  intro X hX hR hl; subst hl
  refine V_iload_n (pc := 0) (j := 1) hX 1 rfl rfl dX6_move_0 ?_
  refine cSI1 (pc := 1) hX (c_X6_isArea (by omega)) (by decide) st_X6_129 (Nat.le_of_ble_eq_true rfl) dX6_move_1 ?_
  refine B_if_eq (pc := 4) (tgt := 53) hX dX6_move_4 (by decide) (fun h4 => ?_) (fun h4 => ?_)
  · have q4 := inB_f.mp h4
    refine V_aload_n (pc := 53) (j := 0) hX 0 rfl rfl dX6_move_53 ?_
    refine V_sipush (pc := 54) (z := (-202)) hX (oI (-202)) (by decide) dX6_move_54 ?_
    refine cVI1 (pc := 57) hX (c_X6_refuses (by omega)) (by decide) st_X6_105 ix_20 rfl rfl rfl (Nat.le_of_ble_eq_true rfl) dX6_move_57 ?_
    refine V_iret (pc := 60) hX hR dX6_move_60 ?_
    exact ⟨_, rfl, by rw [moveO, if_neg (by omega)]; exact Pub_bad hM⟩
  · have q4 := inB_t.mp h4
    refine V_iload_n (pc := 7) (j := 2) hX 2 rfl rfl dX6_move_7 ?_
    refine V_bipush (pc := 8) (z := (-120)) hX (oI (-120)) (by decide) dX6_move_8 ?_
    refine V_bipush (pc := 10) (z := 120) hX (oI 120) (by decide) dX6_move_10 ?_
    refine cSI3 (pc := 12) hX (c_X6_in (by omega) (by omega) (by omega)) (by decide) st_X6_33 (Nat.le_of_ble_eq_true rfl) dX6_move_12 ?_
    refine B_if_eq (pc := 15) (tgt := 53) hX dX6_move_15 (by decide) (fun h15 => ?_) (fun h15 => ?_)
    · have q15 := inB_f.mp h15
      refine V_aload_n (pc := 53) (j := 0) hX 0 rfl rfl dX6_move_53 ?_
      refine V_sipush (pc := 54) (z := (-202)) hX (oI (-202)) (by decide) dX6_move_54 ?_
      refine cVI1 (pc := 57) hX (c_X6_refuses (by omega)) (by decide) st_X6_105 ix_20 rfl rfl rfl (Nat.le_of_ble_eq_true rfl) dX6_move_57 ?_
      refine V_iret (pc := 60) hX hR dX6_move_60 ?_
      exact ⟨_, rfl, by rw [moveO, if_neg (by omega)]; exact Pub_bad hM⟩
    · have q15 := inB_t.mp h15
      refine V_iload_n (pc := 18) (j := 3) hX 3 rfl rfl dX6_move_18 ?_
      refine V_bipush (pc := 19) (z := (-120)) hX (oI (-120)) (by decide) dX6_move_19 ?_
      refine V_bipush (pc := 21) (z := 120) hX (oI 120) (by decide) dX6_move_21 ?_
      refine cSI3 (pc := 23) hX (c_X6_in (by omega) (by omega) (by omega)) (by decide) st_X6_33 (Nat.le_of_ble_eq_true rfl) dX6_move_23 ?_
      refine B_if_eq (pc := 26) (tgt := 53) hX dX6_move_26 (by decide) (fun h26 => ?_) (fun h26 => ?_)
      · have q26 := inB_f.mp h26
        refine V_aload_n (pc := 53) (j := 0) hX 0 rfl rfl dX6_move_53 ?_
        refine V_sipush (pc := 54) (z := (-202)) hX (oI (-202)) (by decide) dX6_move_54 ?_
        refine cVI1 (pc := 57) hX (c_X6_refuses (by omega)) (by decide) st_X6_105 ix_20 rfl rfl rfl (Nat.le_of_ble_eq_true rfl) dX6_move_57 ?_
        refine V_iret (pc := 60) hX hR dX6_move_60 ?_
        exact ⟨_, rfl, by rw [moveO, if_neg (by omega)]; exact Pub_bad hM⟩
      · have q26 := inB_t.mp h26
        refine V_iload (pc := 29) hX rfl dX6_move_29 ?_
        refine cSI1 (pc := 31) hX (c_X6_isArea (by omega)) (by decide) st_X6_129 (Nat.le_of_ble_eq_true rfl) dX6_move_31 ?_
        refine B_if_eq (pc := 34) (tgt := 53) hX dX6_move_34 (by decide) (fun h34 => ?_) (fun h34 => ?_)
        · have q34 := inB_f.mp h34
          refine V_aload_n (pc := 53) (j := 0) hX 0 rfl rfl dX6_move_53 ?_
          refine V_sipush (pc := 54) (z := (-202)) hX (oI (-202)) (by decide) dX6_move_54 ?_
          refine cVI1 (pc := 57) hX (c_X6_refuses (by omega)) (by decide) st_X6_105 ix_20 rfl rfl rfl (Nat.le_of_ble_eq_true rfl) dX6_move_57 ?_
          refine V_iret (pc := 60) hX hR dX6_move_60 ?_
          exact ⟨_, rfl, by rw [moveO, if_neg (by omega)]; exact Pub_bad hM⟩
        · have q34 := inB_t.mp h34
          obtain ⟨a, rfl⟩ : ∃ N0 : Nat, a = (N0 : Int) := ⟨a.toNat, by omega⟩
          obtain ⟨b, rfl⟩ : ∃ N0 : Nat, to = (N0 : Int) := ⟨to.toNat, by omega⟩
          refine V_aload_n (pc := 37) (j := 0) hX 0 rfl rfl dX6_move_37 ?_
          refine V_aload_n (pc := 38) (j := 0) hX 0 rfl rfl dX6_move_38 ?_
          refine V_iload_n (pc := 39) (j := 1) hX 1 rfl rfl dX6_move_39 ?_
          refine V_iload_n (pc := 40) (j := 2) hX 2 rfl rfl dX6_move_40 ?_
          refine V_iload_n (pc := 41) (j := 3) hX 3 rfl rfl dX6_move_41 ?_
          refine V_iload (pc := 42) hX rfl dX6_move_42 ?_
          refine cVIp4 (pc := 44) hX (c_X6_moves (a := a) (b := b) (by omega) (by omega) (by omega) (by omega) (hM.1 a (by omega)).1) (by decide) st_X6_143 ix_20 rfl rfl rfl (Nat.le_of_ble_eq_true rfl) dX6_move_44 (fun r44 D44 h44 => ?_)
          obtain ⟨v, rfl, hv, hP⟩ : ∃ v, r44 = oI v ∧ Rg v ∧ PubP D (moveO σ (a : Int) x y (b : Int)) (oI v) (rU D44 22 (endS (D44.1 22) v)) := by
            rw [moveO, if_pos (by omega), Int.toNat_natCast, Int.toNat_natCast]
            by_cases hc : mvOK x y (σ.1 a)
            · rw [if_pos (mvOKB_t.mpr hc)]
              exact Pub_mk hM (by omega) (h44.1 hc)
            · rw [if_neg (fun q => hc (mvOKB_t.mp q))]
              obtain ⟨e1, t, e2, e3⟩ := h44.2 hc
              exact Pub_no hM e1 (by rw [e2]; exact Fr_lU D t) (by rw [e2, lU_get]; exact e3.o8)
          refine cVI1 (pc := 47) hX (c_X6_ends hv) (by decide) st_X6_136 ix_20 rfl rfl rfl (Nat.le_of_ble_eq_true rfl) dX6_move_47 ?_
          refine V_goto (pc := 50) (off := 10) (tgt := 60) hX (by decide) dX6_move_50 ?_
          refine V_iret (pc := 60) hX hR dX6_move_60 ?_
          exact ⟨_, rfl, hP⟩
theorem c_X6_grow {E : Le} {l : Launch} {D : Dt} {σ : AS} {a n to : Int} (r_a : Rg a) (r_n : Rg n) (r_to : Rg to) (hM : Mst D σ) : ConIp E l yX6_grow cX6_grow 4 (some .int) 8 [.ref (E.1 (20, 0)), .int (oI a), .int (oI n), .int (oI to)] D (PubP D (growO σ a n to)) := by
  refine Con_of (by decide) (Nat.le_of_ble_eq_true rfl) ?_
  intro X hX hR hl; subst hl
  refine V_iload_n (pc := 0) (j := 1) hX 1 rfl rfl dX6_grow_0 ?_
  refine cSI1 (pc := 1) hX (c_X6_isArea (by omega)) (by decide) st_X6_129 (Nat.le_of_ble_eq_true rfl) dX6_grow_1 ?_
  refine B_if_eq (pc := 4) (tgt := 39) hX dX6_grow_4 (by decide) (fun h4 => ?_) (fun h4 => ?_)
  · have q4 := inB_f.mp h4
    refine V_aload_n (pc := 39) (j := 0) hX 0 rfl rfl dX6_grow_39 ?_
    refine V_sipush (pc := 40) (z := (-202)) hX (oI (-202)) (by decide) dX6_grow_40 ?_
    refine cVI1 (pc := 43) hX (c_X6_refuses (by omega)) (by decide) st_X6_105 ix_20 rfl rfl rfl (Nat.le_of_ble_eq_true rfl) dX6_grow_43 ?_
    refine V_iret (pc := 46) hX hR dX6_grow_46 ?_
    exact ⟨_, rfl, by rw [growO, if_neg (by omega)]; exact Pub_bad hM⟩
  · have q4 := inB_t.mp h4
    refine V_iload_n (pc := 7) (j := 2) hX 2 rfl rfl dX6_grow_7 ?_
    refine V_bipush (pc := 8) (z := (-9)) hX (oI (-9)) (by decide) dX6_grow_8 ?_
    refine V_bipush (pc := 10) (z := 9) hX (oI 9) (by decide) dX6_grow_10 ?_
    refine cSI3 (pc := 12) hX (c_X6_in (by omega) (by omega) (by omega)) (by decide) st_X6_33 (Nat.le_of_ble_eq_true rfl) dX6_grow_12 ?_
    refine B_if_eq (pc := 15) (tgt := 39) hX dX6_grow_15 (by decide) (fun h15 => ?_) (fun h15 => ?_)
    · have q15 := inB_f.mp h15
      refine V_aload_n (pc := 39) (j := 0) hX 0 rfl rfl dX6_grow_39 ?_
      refine V_sipush (pc := 40) (z := (-202)) hX (oI (-202)) (by decide) dX6_grow_40 ?_
      refine cVI1 (pc := 43) hX (c_X6_refuses (by omega)) (by decide) st_X6_105 ix_20 rfl rfl rfl (Nat.le_of_ble_eq_true rfl) dX6_grow_43 ?_
      refine V_iret (pc := 46) hX hR dX6_grow_46 ?_
      exact ⟨_, rfl, by rw [growO, if_neg (by omega)]; exact Pub_bad hM⟩
    · have q15 := inB_t.mp h15
      refine V_iload_n (pc := 18) (j := 3) hX 3 rfl rfl dX6_grow_18 ?_
      refine cSI1 (pc := 19) hX (c_X6_isArea (by omega)) (by decide) st_X6_129 (Nat.le_of_ble_eq_true rfl) dX6_grow_19 ?_
      refine B_if_eq (pc := 22) (tgt := 39) hX dX6_grow_22 (by decide) (fun h22 => ?_) (fun h22 => ?_)
      · have q22 := inB_f.mp h22
        refine V_aload_n (pc := 39) (j := 0) hX 0 rfl rfl dX6_grow_39 ?_
        refine V_sipush (pc := 40) (z := (-202)) hX (oI (-202)) (by decide) dX6_grow_40 ?_
        refine cVI1 (pc := 43) hX (c_X6_refuses (by omega)) (by decide) st_X6_105 ix_20 rfl rfl rfl (Nat.le_of_ble_eq_true rfl) dX6_grow_43 ?_
        refine V_iret (pc := 46) hX hR dX6_grow_46 ?_
        exact ⟨_, rfl, by rw [growO, if_neg (by omega)]; exact Pub_bad hM⟩
      · have q22 := inB_t.mp h22
        obtain ⟨a, rfl⟩ : ∃ N0 : Nat, a = (N0 : Int) := ⟨a.toNat, by omega⟩
        obtain ⟨b, rfl⟩ : ∃ N0 : Nat, to = (N0 : Int) := ⟨to.toNat, by omega⟩
        refine V_aload_n (pc := 25) (j := 0) hX 0 rfl rfl dX6_grow_25 ?_
        refine V_aload_n (pc := 26) (j := 0) hX 0 rfl rfl dX6_grow_26 ?_
        refine V_iload_n (pc := 27) (j := 1) hX 1 rfl rfl dX6_grow_27 ?_
        refine V_iload_n (pc := 28) (j := 2) hX 2 rfl rfl dX6_grow_28 ?_
        refine V_iload_n (pc := 29) (j := 3) hX 3 rfl rfl dX6_grow_29 ?_
        refine cVIp3 (pc := 30) hX (c_X6_grows (a := a) (b := b) (by omega) (by omega) (by omega) (hM.1 a (by omega)).1) (by decide) st_X6_146 ix_20 rfl rfl rfl (Nat.le_of_ble_eq_true rfl) dX6_grow_30 (fun r30 D30 h30 => ?_)
        obtain ⟨v, rfl, hv, hP⟩ : ∃ v, r30 = oI v ∧ Rg v ∧ PubP D (growO σ (a : Int) n (b : Int)) (oI v) (rU D30 22 (endS (D30.1 22) v)) := by
          rw [growO, if_pos (by omega), Int.toNat_natCast, Int.toNat_natCast]
          exact Pub_mk hM (by omega) h30
        refine cVI1 (pc := 33) hX (c_X6_ends hv) (by decide) st_X6_136 ix_20 rfl rfl rfl (Nat.le_of_ble_eq_true rfl) dX6_grow_33 ?_
        refine V_goto (pc := 36) (off := 10) (tgt := 46) hX (by decide) dX6_grow_36 ?_
        refine V_iret (pc := 46) hX hR dX6_grow_46 ?_
        exact ⟨_, rfl, hP⟩
theorem c_X6_flip {E : Le} {l : Launch} {D : Dt} {σ : AS} {a way to : Int} (r_a : Rg a) (r_way : Rg way) (r_to : Rg to) (hM : Mst D σ) : ConIp E l yX6_flip cX6_flip 4 (some .int) 8 [.ref (E.1 (20, 0)), .int (oI a), .int (oI way), .int (oI to)] D (PubP D (flipO σ a way to)) := by
  refine Con_of (by decide) (Nat.le_of_ble_eq_true rfl) ?_
  intro X hX hR hl; subst hl
  refine V_iload_n (pc := 0) (j := 1) hX 1 rfl rfl dX6_flip_0 ?_
  refine cSI1 (pc := 1) hX (c_X6_isArea (by omega)) (by decide) st_X6_129 (Nat.le_of_ble_eq_true rfl) dX6_flip_1 ?_
  refine B_if_eq (pc := 4) (tgt := 37) hX dX6_flip_4 (by decide) (fun h4 => ?_) (fun h4 => ?_)
  · have q4 := inB_f.mp h4
    refine V_aload_n (pc := 37) (j := 0) hX 0 rfl rfl dX6_flip_37 ?_
    refine V_sipush (pc := 38) (z := (-202)) hX (oI (-202)) (by decide) dX6_flip_38 ?_
    refine cVI1 (pc := 41) hX (c_X6_refuses (by omega)) (by decide) st_X6_105 ix_20 rfl rfl rfl (Nat.le_of_ble_eq_true rfl) dX6_flip_41 ?_
    refine V_iret (pc := 44) hX hR dX6_flip_44 ?_
    exact ⟨_, rfl, by rw [flipO, if_neg (by omega)]; exact Pub_bad hM⟩
  · have q4 := inB_t.mp h4
    refine V_iload_n (pc := 7) (j := 2) hX 2 rfl rfl dX6_flip_7 ?_
    refine V_iconst (pc := 8) (z := 0) hX (oI 0) rfl dX6_flip_8 ?_
    refine V_iconst (pc := 9) (z := 2) hX (oI 2) rfl dX6_flip_9 ?_
    refine cSI3 (pc := 10) hX (c_X6_in (by omega) (by omega) (by omega)) (by decide) st_X6_33 (Nat.le_of_ble_eq_true rfl) dX6_flip_10 ?_
    refine B_if_eq (pc := 13) (tgt := 37) hX dX6_flip_13 (by decide) (fun h13 => ?_) (fun h13 => ?_)
    · have q13 := inB_f.mp h13
      refine V_aload_n (pc := 37) (j := 0) hX 0 rfl rfl dX6_flip_37 ?_
      refine V_sipush (pc := 38) (z := (-202)) hX (oI (-202)) (by decide) dX6_flip_38 ?_
      refine cVI1 (pc := 41) hX (c_X6_refuses (by omega)) (by decide) st_X6_105 ix_20 rfl rfl rfl (Nat.le_of_ble_eq_true rfl) dX6_flip_41 ?_
      refine V_iret (pc := 44) hX hR dX6_flip_44 ?_
      exact ⟨_, rfl, by rw [flipO, if_neg (by omega)]; exact Pub_bad hM⟩
    · have q13 := inB_t.mp h13
      refine V_iload_n (pc := 16) (j := 3) hX 3 rfl rfl dX6_flip_16 ?_
      refine cSI1 (pc := 17) hX (c_X6_isArea (by omega)) (by decide) st_X6_129 (Nat.le_of_ble_eq_true rfl) dX6_flip_17 ?_
      refine B_if_eq (pc := 20) (tgt := 37) hX dX6_flip_20 (by decide) (fun h20 => ?_) (fun h20 => ?_)
      · have q20 := inB_f.mp h20
        refine V_aload_n (pc := 37) (j := 0) hX 0 rfl rfl dX6_flip_37 ?_
        refine V_sipush (pc := 38) (z := (-202)) hX (oI (-202)) (by decide) dX6_flip_38 ?_
        refine cVI1 (pc := 41) hX (c_X6_refuses (by omega)) (by decide) st_X6_105 ix_20 rfl rfl rfl (Nat.le_of_ble_eq_true rfl) dX6_flip_41 ?_
        refine V_iret (pc := 44) hX hR dX6_flip_44 ?_
        exact ⟨_, rfl, by rw [flipO, if_neg (by omega)]; exact Pub_bad hM⟩
      · have q20 := inB_t.mp h20
        obtain ⟨a, rfl⟩ : ∃ N0 : Nat, a = (N0 : Int) := ⟨a.toNat, by omega⟩
        obtain ⟨b, rfl⟩ : ∃ N0 : Nat, to = (N0 : Int) := ⟨to.toNat, by omega⟩
        refine V_aload_n (pc := 23) (j := 0) hX 0 rfl rfl dX6_flip_23 ?_
        refine V_aload_n (pc := 24) (j := 0) hX 0 rfl rfl dX6_flip_24 ?_
        refine V_iload_n (pc := 25) (j := 1) hX 1 rfl rfl dX6_flip_25 ?_
        refine V_iload_n (pc := 26) (j := 2) hX 2 rfl rfl dX6_flip_26 ?_
        refine V_iload_n (pc := 27) (j := 3) hX 3 rfl rfl dX6_flip_27 ?_
        refine cVIp3 (pc := 28) hX (c_X6_flips (a := a) (b := b) (by omega) (by omega) (by omega) (hM.1 a (by omega)).1) (by decide) st_X6_150 ix_20 rfl rfl rfl (Nat.le_of_ble_eq_true rfl) dX6_flip_28 (fun r28 D28 h28 => ?_)
        obtain ⟨v, rfl, hv, hP⟩ : ∃ v, r28 = oI v ∧ Rg v ∧ PubP D (flipO σ (a : Int) way (b : Int)) (oI v) (rU D28 22 (endS (D28.1 22) v)) := by
          rw [flipO, if_pos (by omega), Int.toNat_natCast, Int.toNat_natCast]
          exact Pub_mk hM (by omega) h28
        refine cVI1 (pc := 31) hX (c_X6_ends hv) (by decide) st_X6_136 ix_20 rfl rfl rfl (Nat.le_of_ble_eq_true rfl) dX6_flip_31 ?_
        refine V_goto (pc := 34) (off := 10) (tgt := 44) hX (by decide) dX6_flip_34 ?_
        refine V_iret (pc := 44) hX hR dX6_flip_44 ?_
        exact ⟨_, rfl, hP⟩
theorem c_X6_hit {E : Le} {l : Launch} {D : Dt} {σ : AS} {a x y : Int} (r_a : Rg a) (r_x : Rg x) (r_y : Rg y) (hM : Mst D σ) : ConIp E l yX6_hit cX6_hit 4 (some .int) 4 [.ref (E.1 (20, 0)), .int (oI a), .int (oI x), .int (oI y)] D (PubP D (hitO σ a x y)) := by
  refine Con_of (by decide) (Nat.le_of_ble_eq_true rfl) ?_
  intro X hX hR hl; subst hl
  refine V_iload_n (pc := 0) (j := 1) hX 1 rfl rfl dX6_hit_0 ?_
  refine cSI1 (pc := 1) hX (c_X6_isArea (by omega)) (by decide) st_X6_129 (Nat.le_of_ble_eq_true rfl) dX6_hit_1 ?_
  refine B_if_eq (pc := 4) (tgt := 25) hX dX6_hit_4 (by decide) (fun h4 => ?_) (fun h4 => ?_)
  · have q4 := inB_f.mp h4
    refine V_aload_n (pc := 25) (j := 0) hX 0 rfl rfl dX6_hit_25 ?_
    refine V_sipush (pc := 26) (z := (-202)) hX (oI (-202)) (by decide) dX6_hit_26 ?_
    refine cVI1 (pc := 29) hX (c_X6_refuses (by omega)) (by decide) st_X6_105 ix_20 rfl rfl rfl (Nat.le_of_ble_eq_true rfl) dX6_hit_29 ?_
    refine V_iret (pc := 32) hX hR dX6_hit_32 ?_
    exact ⟨_, rfl, by rw [hitO, if_neg (by omega)]; exact Pub_bad hM⟩
  · have q4 := inB_t.mp h4
    obtain ⟨a, rfl⟩ : ∃ N0 : Nat, a = (N0 : Int) := ⟨a.toNat, by omega⟩
    refine V_aload_n (pc := 7) (j := 0) hX 0 rfl rfl dX6_hit_7 ?_
    refine V_iload_n (pc := 8) (j := 1) hX 1 rfl rfl dX6_hit_8 ?_
    refine V_iload_n (pc := 9) (j := 2) hX 2 rfl rfl dX6_hit_9 ?_
    refine V_iload_n (pc := 10) (j := 3) hX 3 rfl rfl dX6_hit_10 ?_
    refine cVI3 (pc := 11) hX (c_X6_has (a := a) (by omega) (by omega) (by omega)) (by decide) st_X6_65 ix_20 rfl rfl rfl (Nat.le_of_ble_eq_true rfl) dX6_hit_11 ?_
    refine B_if_eq (pc := 14) (tgt := 21) hX dX6_hit_14 (by decide) (fun h14 => ?_) (fun h14 => ?_)
    · refine V_iconst (pc := 21) (z := 0) hX (oI 0) rfl dX6_hit_21 ?_
      refine V_goto (pc := 22) (off := 10) (tgt := 32) hX (by decide) dX6_hit_22 ?_
      refine V_iret (pc := 32) hX hR dX6_hit_32 ?_
      rw [AR_has (hM.1 a (by omega)).1] at h14
      exact ⟨_, rfl, by rw [hitO, if_pos (by omega), Int.toNat_natCast, h14]; rfl, by rw [hitO, if_pos (by omega)]; exact hM, CK.rf D⟩
    · refine V_iconst (pc := 17) (z := 1) hX (oI 1) rfl dX6_hit_17 ?_
      refine V_goto (pc := 18) (off := 14) (tgt := 32) hX (by decide) dX6_hit_18 ?_
      refine V_iret (pc := 32) hX hR dX6_hit_32 ?_
      rw [AR_has (hM.1 a (by omega)).1] at h14
      exact ⟨_, rfl, by rw [hitO, if_pos (by omega), Int.toNat_natCast, h14]; rfl, by rw [hitO, if_pos (by omega)]; exact hM, CK.rf D⟩
