/-! THE CLASS: public calls that make an area -/
theorem Cst.ac {D : Dt} {σ : AS} {a : Nat} (hCs : Cst D σ) (ha : a < 5) : AC D (D.2.2 (raD D) a) (σ.1 a) := (hCs.2.1 a ha).1
theorem Cst.fit {D : Dt} {σ : AS} {a : Nat} (hCs : Cst D σ) (ha : a < 5) : fitC (σ.1 a) = true := (hCs.2.1 a ha).2
theorem Cst.ne {D : Dt} {σ : AS} {a : Nat} (hCs : Cst D σ) (ha : a < 5) : D.2.2 (raD D) a ≠ D.2.2 0 2 := hCs.1.2.2.2.2.1 a ha
theorem LyQ.md {D D1 : Dt} {T : Cl} (hLy : LyQ D T D1) : AC D1 (D1.2.2 0 2) T := by
  rw [hLy.1.2.1]; exact hLy.2
theorem Rg_mkV (T : Cl) : Rg (mkV T) := by have := mkV_rg T; omega
theorem PC_same {D D1 : Dt} {σ : AS} {v : Int} (hCs : Cst D σ) (hLk : LK D D1) : PubC D (v, σ) (oI v) D1 := ⟨rfl, hCs.lk hLk, hLk.mk⟩
theorem c_X5_box {E : Le} {l : Launch} {D : Dt} {σ : AS} {x y w h to : Int} (r_x : Rg x) (r_y : Rg y) (r_w : Rg w) (r_h : Rg h) (r_to : Rg to) (hCs : Cst D σ) : ConIp E l yX5_box cX5_box 7 (some .int) 6 [.ref (E.1 (0, 0)), .int (oI x), .int (oI y), .int (oI w), .int (oI h), .int (oI to)] D (PubC D (boxO σ x y w h to)) := by
  refine Con_of (by decide) (Nat.le_of_ble_eq_true rfl) ?_
  intro X hX hR hl; subst hl
  refine V_iload_n (pc := 0) (j := 1) hX 1 rfl rfl dX5_box_0 ?_
  refine cSI1 (pc := 1) hX (c_X5_isPlace (by omega)) (by decide) st_X5_55 (Nat.le_of_ble_eq_true rfl) dX5_box_1 ?_
  refine B_if_eq (pc := 4) (tgt := 47) hX dX5_box_4 (by decide) (fun h4 => ?_) (fun h4 => ?_)
  · have q4 := inB_f.mp h4
    refine V_iconst (pc := 47) (z := 0) hX (oI 0) rfl dX5_box_47 ?_
    refine V_istore (pc := 48) hX (by decide) rfl dX5_box_48 ?_
    refine V_iload (pc := 50) hX rfl dX5_box_50 ?_
    refine Z_if_ne (pc := 52) (tgt := 63) hX (by omega) dX5_box_52 (by decide) (fun h => absurd h (by decide)) (fun _ => ?_)
    refine V_aload_n (pc := 55) (j := 0) hX 0 rfl rfl dX5_box_55 ?_
    refine V_sipush (pc := 56) (z := (-202)) hX (oI (-202)) (by decide) dX5_box_56 ?_
    refine cVI1 (pc := 59) hX (c_X5_answer (v := -202) (by omega)) (by decide) st_X5_66 ix_0 rfl rfl rfl (Nat.le_of_ble_eq_true rfl) dX5_box_59 ?_
    refine V_iret (pc := 62) hX hR dX5_box_62 ?_
    exact ⟨_, rfl, by rw [boxO, if_neg (by omega)]; exact PC_bad hCs⟩
  · have q4 := inB_t.mp h4
    refine V_iload_n (pc := 7) (j := 2) hX 2 rfl rfl dX5_box_7 ?_
    refine cSI1 (pc := 8) hX (c_X5_isPlace (by omega)) (by decide) st_X5_55 (Nat.le_of_ble_eq_true rfl) dX5_box_8 ?_
    refine B_if_eq (pc := 11) (tgt := 47) hX dX5_box_11 (by decide) (fun h11 => ?_) (fun h11 => ?_)
    · have q11 := inB_f.mp h11
      refine V_iconst (pc := 47) (z := 0) hX (oI 0) rfl dX5_box_47 ?_
      refine V_istore (pc := 48) hX (by decide) rfl dX5_box_48 ?_
      refine V_iload (pc := 50) hX rfl dX5_box_50 ?_
      refine Z_if_ne (pc := 52) (tgt := 63) hX (by omega) dX5_box_52 (by decide) (fun h => absurd h (by decide)) (fun _ => ?_)
      refine V_aload_n (pc := 55) (j := 0) hX 0 rfl rfl dX5_box_55 ?_
      refine V_sipush (pc := 56) (z := (-202)) hX (oI (-202)) (by decide) dX5_box_56 ?_
      refine cVI1 (pc := 59) hX (c_X5_answer (v := -202) (by omega)) (by decide) st_X5_66 ix_0 rfl rfl rfl (Nat.le_of_ble_eq_true rfl) dX5_box_59 ?_
      refine V_iret (pc := 62) hX hR dX5_box_62 ?_
      exact ⟨_, rfl, by rw [boxO, if_neg (by omega)]; exact PC_bad hCs⟩
    · have q11 := inB_t.mp h11
      refine V_iload_n (pc := 14) (j := 3) hX 3 rfl rfl dX5_box_14 ?_
      refine V_iconst (pc := 15) (z := 1) hX (oI 1) rfl dX5_box_15 ?_
      refine V_bipush (pc := 16) (z := 99) hX (oI 99) (by decide) dX5_box_16 ?_
      refine cSI3 (pc := 18) hX (c_X5_within (by omega) (by omega) (by omega)) (by decide) st_X5_59 (Nat.le_of_ble_eq_true rfl) dX5_box_18 ?_
      refine B_if_eq (pc := 21) (tgt := 47) hX dX5_box_21 (by decide) (fun h21 => ?_) (fun h21 => ?_)
      · have q21 := inB_f.mp h21
        refine V_iconst (pc := 47) (z := 0) hX (oI 0) rfl dX5_box_47 ?_
        refine V_istore (pc := 48) hX (by decide) rfl dX5_box_48 ?_
        refine V_iload (pc := 50) hX rfl dX5_box_50 ?_
        refine Z_if_ne (pc := 52) (tgt := 63) hX (by omega) dX5_box_52 (by decide) (fun h => absurd h (by decide)) (fun _ => ?_)
        refine V_aload_n (pc := 55) (j := 0) hX 0 rfl rfl dX5_box_55 ?_
        refine V_sipush (pc := 56) (z := (-202)) hX (oI (-202)) (by decide) dX5_box_56 ?_
        refine cVI1 (pc := 59) hX (c_X5_answer (v := -202) (by omega)) (by decide) st_X5_66 ix_0 rfl rfl rfl (Nat.le_of_ble_eq_true rfl) dX5_box_59 ?_
        refine V_iret (pc := 62) hX hR dX5_box_62 ?_
        exact ⟨_, rfl, by rw [boxO, if_neg (by omega)]; exact PC_bad hCs⟩
      · have q21 := inB_t.mp h21
        refine V_iload (pc := 24) hX rfl dX5_box_24 ?_
        refine V_iconst (pc := 26) (z := 1) hX (oI 1) rfl dX5_box_26 ?_
        refine V_bipush (pc := 27) (z := 99) hX (oI 99) (by decide) dX5_box_27 ?_
        refine cSI3 (pc := 29) hX (c_X5_within (by omega) (by omega) (by omega)) (by decide) st_X5_59 (Nat.le_of_ble_eq_true rfl) dX5_box_29 ?_
        refine B_if_eq (pc := 32) (tgt := 47) hX dX5_box_32 (by decide) (fun h32 => ?_) (fun h32 => ?_)
        · have q32 := inB_f.mp h32
          refine V_iconst (pc := 47) (z := 0) hX (oI 0) rfl dX5_box_47 ?_
          refine V_istore (pc := 48) hX (by decide) rfl dX5_box_48 ?_
          refine V_iload (pc := 50) hX rfl dX5_box_50 ?_
          refine Z_if_ne (pc := 52) (tgt := 63) hX (by omega) dX5_box_52 (by decide) (fun h => absurd h (by decide)) (fun _ => ?_)
          refine V_aload_n (pc := 55) (j := 0) hX 0 rfl rfl dX5_box_55 ?_
          refine V_sipush (pc := 56) (z := (-202)) hX (oI (-202)) (by decide) dX5_box_56 ?_
          refine cVI1 (pc := 59) hX (c_X5_answer (v := -202) (by omega)) (by decide) st_X5_66 ix_0 rfl rfl rfl (Nat.le_of_ble_eq_true rfl) dX5_box_59 ?_
          refine V_iret (pc := 62) hX hR dX5_box_62 ?_
          exact ⟨_, rfl, by rw [boxO, if_neg (by omega)]; exact PC_bad hCs⟩
        · have q32 := inB_t.mp h32
          refine V_iload (pc := 35) hX rfl dX5_box_35 ?_
          refine cSI1 (pc := 37) hX (c_X5_isArea (by omega)) (by decide) st_X5_63 (Nat.le_of_ble_eq_true rfl) dX5_box_37 ?_
          refine B_if_eq (pc := 40) (tgt := 47) hX dX5_box_40 (by decide) (fun h40 => ?_) (fun h40 => ?_)
          · have q40 := inB_f.mp h40
            refine V_iconst (pc := 47) (z := 0) hX (oI 0) rfl dX5_box_47 ?_
            refine V_istore (pc := 48) hX (by decide) rfl dX5_box_48 ?_
            refine V_iload (pc := 50) hX rfl dX5_box_50 ?_
            refine Z_if_ne (pc := 52) (tgt := 63) hX (by omega) dX5_box_52 (by decide) (fun h => absurd h (by decide)) (fun _ => ?_)
            refine V_aload_n (pc := 55) (j := 0) hX 0 rfl rfl dX5_box_55 ?_
            refine V_sipush (pc := 56) (z := (-202)) hX (oI (-202)) (by decide) dX5_box_56 ?_
            refine cVI1 (pc := 59) hX (c_X5_answer (v := -202) (by omega)) (by decide) st_X5_66 ix_0 rfl rfl rfl (Nat.le_of_ble_eq_true rfl) dX5_box_59 ?_
            refine V_iret (pc := 62) hX hR dX5_box_62 ?_
            exact ⟨_, rfl, by rw [boxO, if_neg (by omega)]; exact PC_bad hCs⟩
          · have q40 := inB_t.mp h40
            refine V_iconst (pc := 43) (z := 1) hX (oI 1) rfl dX5_box_43 ?_
            refine V_goto (pc := 44) (off := 4) (tgt := 48) hX (by decide) dX5_box_44 ?_
            refine V_istore (pc := 48) hX (by decide) rfl dX5_box_48 ?_
            refine V_iload (pc := 50) hX rfl dX5_box_50 ?_
            refine Z_if_ne (pc := 52) (tgt := 63) hX (by omega) dX5_box_52 (by decide) (fun _ => ?_) (fun h => absurd h (by decide))
            refine V_aload_n (pc := 63) (j := 0) hX 0 rfl rfl dX5_box_63 ?_
            refine V_aload_n (pc := 64) (j := 0) hX 0 rfl rfl dX5_box_64 ?_
            refine V_iload_n (pc := 65) (j := 1) hX 1 rfl rfl dX5_box_65 ?_
            refine V_iload_n (pc := 66) (j := 2) hX 2 rfl rfl dX5_box_66 ?_
            refine V_iload_n (pc := 67) (j := 3) hX 3 rfl rfl dX5_box_67 ?_
            refine V_iload (pc := 68) hX rfl dX5_box_68 ?_
            refine cVIp4 (pc := 70) hX (c_X5_layBox (by omega) (by omega) (by omega) (by omega)) (by decide) st_X5_70 ix_0 rfl rfl rfl (Nat.le_of_ble_eq_true rfl) dX5_box_70 (fun r70 D70 h70 => ?_)
            obtain ⟨rfl, hLb⟩ := h70
            refine B_if_eq (pc := 73) (tgt := 89) hX dX5_box_73 (by decide) (fun h73 => ?_) (fun h73 => ?_)
            · refine V_sipush (pc := 89) (z := (-203)) hX (oI (-203)) (by decide) dX5_box_89 ?_
              refine cVI1 (pc := 92) hX (c_X5_answer (v := -203) (by omega)) (by decide) st_X5_66 ix_0 rfl rfl rfl (Nat.le_of_ble_eq_true rfl) dX5_box_92 ?_
              refine V_iret (pc := 95) hX hR dX5_box_95 ?_
              exact ⟨_, rfl, by rw [boxO, if_pos (by omega), if_pos (by have := of_decide_eq_false h73; omega)]; exact PC_no hCs hLb.1⟩
            · have hLy : LyQ D (boxC x y w h) D70 := ⟨hLb.1, hLb.2 h73⟩
              refine V_aload_n (pc := 76) (j := 0) hX 0 rfl rfl dX5_box_76 ?_
              refine V_aload_n (pc := 77) (j := 0) hX 0 rfl rfl dX5_box_77 ?_
              refine gf_X5_11 (pc := 78) hX dX5_box_78 ?_
              refine V_iload (pc := 81) hX rfl dX5_box_81 ?_
              refine cVIp2 (pc := 83) hX (c_X5_keep (rw0 := D70.2.2 0 0) (to := to) (T := boxC x y w h) (by omega) hLy.md) (by decide) st_X5_74 ix_0 rfl rfl rfl (Nat.le_of_ble_eq_true rfl) dX5_box_83 (fun r83 D83 h83 => ?_)
              obtain ⟨rfl, hKp⟩ := h83
              refine V_goto (pc := 86) (off := 6) (tgt := 92) hX (by decide) dX5_box_86 ?_
              refine cVI1 (pc := 92) hX (c_X5_answer (v := mkV (boxC x y w h)) (Rg_mkV _)) (by decide) st_X5_66 ix_0 rfl rfl rfl (Nat.le_of_ble_eq_true rfl) dX5_box_92 ?_
              refine V_iret (pc := 95) hX hR dX5_box_95 ?_
              exact ⟨_, rfl, by rw [boxO, if_pos (by omega), if_neg (of_decide_eq_true h73)]; exact PC_keep hCs hLy (by omega) hKp⟩
theorem c_X5_mix {E : Le} {l : Launch} {D : Dt} {σ : AS} {so a b to : Int} (r_so : Rg so) (r_a : Rg a) (r_b : Rg b) (r_to : Rg to) (hCs : Cst D σ) : ConIp E l yX5_mix cX5_mix 5 (some .int) 6 [.ref (E.1 (0, 0)), .int (oI so), .int (oI a), .int (oI b), .int (oI to)] D (PubC D (mixO σ so a b to)) := by
  refine Con_of (by decide) (Nat.le_of_ble_eq_true rfl) ?_
  intro X hX hR hl; subst hl
  refine V_iload_n (pc := 0) (j := 1) hX 1 rfl rfl dX5_mix_0 ?_
  refine V_iconst (pc := 1) (z := 0) hX (oI 0) rfl dX5_mix_1 ?_
  refine V_iconst (pc := 2) (z := 3) hX (oI 3) rfl dX5_mix_2 ?_
  refine cSI3 (pc := 3) hX (c_X5_within (by omega) (by omega) (by omega)) (by decide) st_X5_59 (Nat.le_of_ble_eq_true rfl) dX5_mix_3 ?_
  refine B_if_eq (pc := 6) (tgt := 31) hX dX5_mix_6 (by decide) (fun h6 => ?_) (fun h6 => ?_)
  · have q6 := inB_f.mp h6
    refine V_aload_n (pc := 31) (j := 0) hX 0 rfl rfl dX5_mix_31 ?_
    refine V_sipush (pc := 32) (z := (-202)) hX (oI (-202)) (by decide) dX5_mix_32 ?_
    refine cVI1 (pc := 35) hX (c_X5_answer (v := -202) (by omega)) (by decide) st_X5_66 ix_0 rfl rfl rfl (Nat.le_of_ble_eq_true rfl) dX5_mix_35 ?_
    refine V_iret (pc := 38) hX hR dX5_mix_38 ?_
    exact ⟨_, rfl, by rw [mixO, if_neg (by omega)]; exact PC_bad hCs⟩
  · have q6 := inB_t.mp h6
    refine V_iload_n (pc := 9) (j := 2) hX 2 rfl rfl dX5_mix_9 ?_
    refine cSI1 (pc := 10) hX (c_X5_isArea (by omega)) (by decide) st_X5_63 (Nat.le_of_ble_eq_true rfl) dX5_mix_10 ?_
    refine B_if_eq (pc := 13) (tgt := 31) hX dX5_mix_13 (by decide) (fun h13 => ?_) (fun h13 => ?_)
    · have q13 := inB_f.mp h13
      refine V_aload_n (pc := 31) (j := 0) hX 0 rfl rfl dX5_mix_31 ?_
      refine V_sipush (pc := 32) (z := (-202)) hX (oI (-202)) (by decide) dX5_mix_32 ?_
      refine cVI1 (pc := 35) hX (c_X5_answer (v := -202) (by omega)) (by decide) st_X5_66 ix_0 rfl rfl rfl (Nat.le_of_ble_eq_true rfl) dX5_mix_35 ?_
      refine V_iret (pc := 38) hX hR dX5_mix_38 ?_
      exact ⟨_, rfl, by rw [mixO, if_neg (by omega)]; exact PC_bad hCs⟩
    · have q13 := inB_t.mp h13
      refine V_iload_n (pc := 16) (j := 3) hX 3 rfl rfl dX5_mix_16 ?_
      refine cSI1 (pc := 17) hX (c_X5_isArea (by omega)) (by decide) st_X5_63 (Nat.le_of_ble_eq_true rfl) dX5_mix_17 ?_
      refine B_if_eq (pc := 20) (tgt := 31) hX dX5_mix_20 (by decide) (fun h20 => ?_) (fun h20 => ?_)
      · have q20 := inB_f.mp h20
        refine V_aload_n (pc := 31) (j := 0) hX 0 rfl rfl dX5_mix_31 ?_
        refine V_sipush (pc := 32) (z := (-202)) hX (oI (-202)) (by decide) dX5_mix_32 ?_
        refine cVI1 (pc := 35) hX (c_X5_answer (v := -202) (by omega)) (by decide) st_X5_66 ix_0 rfl rfl rfl (Nat.le_of_ble_eq_true rfl) dX5_mix_35 ?_
        refine V_iret (pc := 38) hX hR dX5_mix_38 ?_
        exact ⟨_, rfl, by rw [mixO, if_neg (by omega)]; exact PC_bad hCs⟩
      · have q20 := inB_t.mp h20
        refine V_iload (pc := 23) hX rfl dX5_mix_23 ?_
        refine cSI1 (pc := 25) hX (c_X5_isArea (by omega)) (by decide) st_X5_63 (Nat.le_of_ble_eq_true rfl) dX5_mix_25 ?_
        refine B_if_ne (pc := 28) (tgt := 39) hX dX5_mix_28 (by decide) (fun h28 => ?_) (fun h28 => ?_)
        · have q28 := inB_t.mp h28
          refine V_aload_n (pc := 39) (j := 0) hX 0 rfl rfl dX5_mix_39 ?_
          refine gf_X5_19 (pc := 40) hX dX5_mix_40 ?_
          refine V_iload_n (pc := 43) (j := 1) hX 1 rfl rfl dX5_mix_43 ?_
          refine V_aload_n (pc := 44) (j := 0) hX 0 rfl rfl dX5_mix_44 ?_
          refine gf_X5_11 (pc := 45) hX dX5_mix_45 ?_
          refine V_iload_n (pc := 48) (j := 2) hX 2 rfl rfl dX5_mix_48 ?_
          refine zl_4 (pc := 49) hX (a.toNat) (by omega) (by omega) dX5_mix_49 ?_
          refine V_aload_n (pc := 50) (j := 0) hX 0 rfl rfl dX5_mix_50 ?_
          refine gf_X5_11 (pc := 51) hX dX5_mix_51 ?_
          refine V_iload_n (pc := 54) (j := 3) hX 3 rfl rfl dX5_mix_54 ?_
          refine zl_4 (pc := 55) hX (b.toNat) (by omega) (by omega) dX5_mix_55 ?_
          refine cVVp3 (pc := 56) hX (c_X0_combine (by omega) (hCs.ne (by omega)) (hCs.ne (by omega)) (hCs.ac (by omega)) (hCs.ac (by omega))) (by decide) st_X5_78 (ix_1 _) rfl rfl rfl (Nat.le_of_ble_eq_true rfl) dX5_mix_56 (fun D56 h56 => ?_)
          have hLy : LyQ D (mixC so (σ.1 a.toNat) (σ.1 b.toNat)) D56 := LyQ_st (LK.rf D) h56
          refine V_aload_n (pc := 59) (j := 0) hX 0 rfl rfl dX5_mix_59 ?_
          refine V_aload_n (pc := 60) (j := 0) hX 0 rfl rfl dX5_mix_60 ?_
          refine V_aload_n (pc := 61) (j := 0) hX 0 rfl rfl dX5_mix_61 ?_
          refine gf_X5_11 (pc := 62) hX dX5_mix_62 ?_
          refine V_iload (pc := 65) hX rfl dX5_mix_65 ?_
          refine cVIp2 (pc := 67) hX (c_X5_keep (rw0 := D56.2.2 0 0) (to := to) (T := mixC so (σ.1 a.toNat) (σ.1 b.toNat)) (by omega) hLy.md) (by decide) st_X5_74 ix_0 rfl rfl rfl (Nat.le_of_ble_eq_true rfl) dX5_mix_67 (fun r67 D67 h67 => ?_)
          obtain ⟨rfl, hKp⟩ := h67
          refine cVI1 (pc := 70) hX (c_X5_answer (v := mkV (mixC so (σ.1 a.toNat) (σ.1 b.toNat))) (Rg_mkV _)) (by decide) st_X5_66 ix_0 rfl rfl rfl (Nat.le_of_ble_eq_true rfl) dX5_mix_70 ?_
          refine V_iret (pc := 73) hX hR dX5_mix_73 ?_
          exact ⟨_, rfl, by rw [mixO, if_pos (by omega)]; exact PC_keep hCs hLy (by omega) hKp⟩
        · have q28 := inB_f.mp h28
          refine V_aload_n (pc := 31) (j := 0) hX 0 rfl rfl dX5_mix_31 ?_
          refine V_sipush (pc := 32) (z := (-202)) hX (oI (-202)) (by decide) dX5_mix_32 ?_
          refine cVI1 (pc := 35) hX (c_X5_answer (v := -202) (by omega)) (by decide) st_X5_66 ix_0 rfl rfl rfl (Nat.le_of_ble_eq_true rfl) dX5_mix_35 ?_
          refine V_iret (pc := 38) hX hR dX5_mix_38 ?_
          exact ⟨_, rfl, by rw [mixO, if_neg (by omega)]; exact PC_bad hCs⟩
theorem c_X5_move {E : Le} {l : Launch} {D : Dt} {σ : AS} {a x y to : Int} (r_a : Rg a) (r_x : Rg x) (r_y : Rg y) (r_to : Rg to) (hCs : Cst D σ) : ConIp E l yX5_move cX5_move 5 (some .int) 6 [.ref (E.1 (0, 0)), .int (oI a), .int (oI x), .int (oI y), .int (oI to)] D (PubC D (moveO σ a x y to)) := by
  refine Con_of (by decide) (Nat.le_of_ble_eq_true rfl) ?_
  intro X hX hR hl; subst hl
  refine V_iload_n (pc := 0) (j := 1) hX 1 rfl rfl dX5_move_0 ?_
  refine cSI1 (pc := 1) hX (c_X5_isArea (by omega)) (by decide) st_X5_63 (Nat.le_of_ble_eq_true rfl) dX5_move_1 ?_
  refine B_if_eq (pc := 4) (tgt := 37) hX dX5_move_4 (by decide) (fun h4 => ?_) (fun h4 => ?_)
  · have q4 := inB_f.mp h4
    refine V_aload_n (pc := 37) (j := 0) hX 0 rfl rfl dX5_move_37 ?_
    refine V_sipush (pc := 38) (z := (-202)) hX (oI (-202)) (by decide) dX5_move_38 ?_
    refine cVI1 (pc := 41) hX (c_X5_answer (v := -202) (by omega)) (by decide) st_X5_66 ix_0 rfl rfl rfl (Nat.le_of_ble_eq_true rfl) dX5_move_41 ?_
    refine V_iret (pc := 44) hX hR dX5_move_44 ?_
    exact ⟨_, rfl, by rw [moveO, if_neg (by omega)]; exact PC_bad hCs⟩
  · have q4 := inB_t.mp h4
    refine V_iload_n (pc := 7) (j := 2) hX 2 rfl rfl dX5_move_7 ?_
    refine V_bipush (pc := 8) (z := (-120)) hX (oI (-120)) (by decide) dX5_move_8 ?_
    refine V_bipush (pc := 10) (z := 120) hX (oI 120) (by decide) dX5_move_10 ?_
    refine cSI3 (pc := 12) hX (c_X5_within (by omega) (by omega) (by omega)) (by decide) st_X5_59 (Nat.le_of_ble_eq_true rfl) dX5_move_12 ?_
    refine B_if_eq (pc := 15) (tgt := 37) hX dX5_move_15 (by decide) (fun h15 => ?_) (fun h15 => ?_)
    · have q15 := inB_f.mp h15
      refine V_aload_n (pc := 37) (j := 0) hX 0 rfl rfl dX5_move_37 ?_
      refine V_sipush (pc := 38) (z := (-202)) hX (oI (-202)) (by decide) dX5_move_38 ?_
      refine cVI1 (pc := 41) hX (c_X5_answer (v := -202) (by omega)) (by decide) st_X5_66 ix_0 rfl rfl rfl (Nat.le_of_ble_eq_true rfl) dX5_move_41 ?_
      refine V_iret (pc := 44) hX hR dX5_move_44 ?_
      exact ⟨_, rfl, by rw [moveO, if_neg (by omega)]; exact PC_bad hCs⟩
    · have q15 := inB_t.mp h15
      refine V_iload_n (pc := 18) (j := 3) hX 3 rfl rfl dX5_move_18 ?_
      refine V_bipush (pc := 19) (z := (-120)) hX (oI (-120)) (by decide) dX5_move_19 ?_
      refine V_bipush (pc := 21) (z := 120) hX (oI 120) (by decide) dX5_move_21 ?_
      refine cSI3 (pc := 23) hX (c_X5_within (by omega) (by omega) (by omega)) (by decide) st_X5_59 (Nat.le_of_ble_eq_true rfl) dX5_move_23 ?_
      refine B_if_eq (pc := 26) (tgt := 37) hX dX5_move_26 (by decide) (fun h26 => ?_) (fun h26 => ?_)
      · have q26 := inB_f.mp h26
        refine V_aload_n (pc := 37) (j := 0) hX 0 rfl rfl dX5_move_37 ?_
        refine V_sipush (pc := 38) (z := (-202)) hX (oI (-202)) (by decide) dX5_move_38 ?_
        refine cVI1 (pc := 41) hX (c_X5_answer (v := -202) (by omega)) (by decide) st_X5_66 ix_0 rfl rfl rfl (Nat.le_of_ble_eq_true rfl) dX5_move_41 ?_
        refine V_iret (pc := 44) hX hR dX5_move_44 ?_
        exact ⟨_, rfl, by rw [moveO, if_neg (by omega)]; exact PC_bad hCs⟩
      · have q26 := inB_t.mp h26
        refine V_iload (pc := 29) hX rfl dX5_move_29 ?_
        refine cSI1 (pc := 31) hX (c_X5_isArea (by omega)) (by decide) st_X5_63 (Nat.le_of_ble_eq_true rfl) dX5_move_31 ?_
        refine B_if_ne (pc := 34) (tgt := 45) hX dX5_move_34 (by decide) (fun h34 => ?_) (fun h34 => ?_)
        · have q34 := inB_t.mp h34
          refine V_aload_n (pc := 45) (j := 0) hX 0 rfl rfl dX5_move_45 ?_
          refine V_aload_n (pc := 46) (j := 0) hX 0 rfl rfl dX5_move_46 ?_
          refine V_aload_n (pc := 47) (j := 0) hX 0 rfl rfl dX5_move_47 ?_
          refine gf_X5_11 (pc := 48) hX dX5_move_48 ?_
          refine V_iload_n (pc := 51) (j := 1) hX 1 rfl rfl dX5_move_51 ?_
          refine zl_4 (pc := 52) hX (a.toNat) (by omega) (by omega) dX5_move_52 ?_
          refine V_iload_n (pc := 53) (j := 2) hX 2 rfl rfl dX5_move_53 ?_
          refine V_iload_n (pc := 54) (j := 3) hX 3 rfl rfl dX5_move_54 ?_
          refine cVIp3 (pc := 55) hX (c_X5_layMoved (hCs.ac (a := a.toNat) (by omega)) (hCs.fit (by omega)) (by omega) (by omega)) (by decide) st_X5_82 ix_0 rfl rfl rfl (Nat.le_of_ble_eq_true rfl) dX5_move_55 (fun r55 D55 h55 => ?_)
          obtain ⟨rfl, hLb⟩ := h55
          refine B_if_eq (pc := 58) (tgt := 74) hX dX5_move_58 (by decide) (fun h58 => ?_) (fun h58 => ?_)
          · refine V_sipush (pc := 74) (z := (-203)) hX (oI (-203)) (by decide) dX5_move_74 ?_
            refine cVI1 (pc := 77) hX (c_X5_answer (v := -203) (by omega)) (by decide) st_X5_66 ix_0 rfl rfl rfl (Nat.le_of_ble_eq_true rfl) dX5_move_77 ?_
            refine V_iret (pc := 80) hX hR dX5_move_80 ?_
            exact ⟨_, rfl, by rw [moveO, if_pos (by omega), if_neg (by rw [h58]; decide)]; exact PC_no hCs hLb.1⟩
          · have hLy : LyQ D (moveC x y (σ.1 a.toNat)) D55 := ⟨hLb.1, hLb.2 h58⟩
            refine V_aload_n (pc := 61) (j := 0) hX 0 rfl rfl dX5_move_61 ?_
            refine V_aload_n (pc := 62) (j := 0) hX 0 rfl rfl dX5_move_62 ?_
            refine gf_X5_11 (pc := 63) hX dX5_move_63 ?_
            refine V_iload (pc := 66) hX rfl dX5_move_66 ?_
            refine cVIp2 (pc := 68) hX (c_X5_keep (rw0 := D55.2.2 0 0) (to := to) (T := moveC x y (σ.1 a.toNat)) (by omega) hLy.md) (by decide) st_X5_74 ix_0 rfl rfl rfl (Nat.le_of_ble_eq_true rfl) dX5_move_68 (fun r68 D68 h68 => ?_)
            obtain ⟨rfl, hKp⟩ := h68
            refine V_goto (pc := 71) (off := 6) (tgt := 77) hX (by decide) dX5_move_71 ?_
            refine cVI1 (pc := 77) hX (c_X5_answer (v := mkV (moveC x y (σ.1 a.toNat))) (Rg_mkV _)) (by decide) st_X5_66 ix_0 rfl rfl rfl (Nat.le_of_ble_eq_true rfl) dX5_move_77 ?_
            refine V_iret (pc := 80) hX hR dX5_move_80 ?_
            exact ⟨_, rfl, by rw [moveO, if_pos (by omega), if_pos h58]; exact PC_keep hCs hLy (by omega) hKp⟩
        · have q34 := inB_f.mp h34
          refine V_aload_n (pc := 37) (j := 0) hX 0 rfl rfl dX5_move_37 ?_
          refine V_sipush (pc := 38) (z := (-202)) hX (oI (-202)) (by decide) dX5_move_38 ?_
          refine cVI1 (pc := 41) hX (c_X5_answer (v := -202) (by omega)) (by decide) st_X5_66 ix_0 rfl rfl rfl (Nat.le_of_ble_eq_true rfl) dX5_move_41 ?_
          refine V_iret (pc := 44) hX hR dX5_move_44 ?_
          exact ⟨_, rfl, by rw [moveO, if_neg (by omega)]; exact PC_bad hCs⟩
theorem c_X5_grow {E : Le} {l : Launch} {D : Dt} {σ : AS} {a n to : Int} (r_a : Rg a) (r_n : Rg n) (r_to : Rg to) (hCs : Cst D σ) : ConIp E l yX5_grow cX5_grow 4 (some .int) 6 [.ref (E.1 (0, 0)), .int (oI a), .int (oI n), .int (oI to)] D (PubC D (growO σ a n to)) := by
  refine Con_of (by decide) (Nat.le_of_ble_eq_true rfl) ?_
  intro X hX hR hl; subst hl
  refine V_iload_n (pc := 0) (j := 1) hX 1 rfl rfl dX5_grow_0 ?_
  refine cSI1 (pc := 1) hX (c_X5_isArea (by omega)) (by decide) st_X5_63 (Nat.le_of_ble_eq_true rfl) dX5_grow_1 ?_
  refine B_if_eq (pc := 4) (tgt := 25) hX dX5_grow_4 (by decide) (fun h4 => ?_) (fun h4 => ?_)
  · have q4 := inB_f.mp h4
    refine V_aload_n (pc := 25) (j := 0) hX 0 rfl rfl dX5_grow_25 ?_
    refine V_sipush (pc := 26) (z := (-202)) hX (oI (-202)) (by decide) dX5_grow_26 ?_
    refine cVI1 (pc := 29) hX (c_X5_answer (v := -202) (by omega)) (by decide) st_X5_66 ix_0 rfl rfl rfl (Nat.le_of_ble_eq_true rfl) dX5_grow_29 ?_
    refine V_iret (pc := 32) hX hR dX5_grow_32 ?_
    exact ⟨_, rfl, by rw [growO, if_neg (by omega)]; exact PC_bad hCs⟩
  · have q4 := inB_t.mp h4
    refine V_iload_n (pc := 7) (j := 2) hX 2 rfl rfl dX5_grow_7 ?_
    refine V_bipush (pc := 8) (z := (-9)) hX (oI (-9)) (by decide) dX5_grow_8 ?_
    refine V_bipush (pc := 10) (z := 9) hX (oI 9) (by decide) dX5_grow_10 ?_
    refine cSI3 (pc := 12) hX (c_X5_within (by omega) (by omega) (by omega)) (by decide) st_X5_59 (Nat.le_of_ble_eq_true rfl) dX5_grow_12 ?_
    refine B_if_eq (pc := 15) (tgt := 25) hX dX5_grow_15 (by decide) (fun h15 => ?_) (fun h15 => ?_)
    · have q15 := inB_f.mp h15
      refine V_aload_n (pc := 25) (j := 0) hX 0 rfl rfl dX5_grow_25 ?_
      refine V_sipush (pc := 26) (z := (-202)) hX (oI (-202)) (by decide) dX5_grow_26 ?_
      refine cVI1 (pc := 29) hX (c_X5_answer (v := -202) (by omega)) (by decide) st_X5_66 ix_0 rfl rfl rfl (Nat.le_of_ble_eq_true rfl) dX5_grow_29 ?_
      refine V_iret (pc := 32) hX hR dX5_grow_32 ?_
      exact ⟨_, rfl, by rw [growO, if_neg (by omega)]; exact PC_bad hCs⟩
    · have q15 := inB_t.mp h15
      refine V_iload_n (pc := 18) (j := 3) hX 3 rfl rfl dX5_grow_18 ?_
      refine cSI1 (pc := 19) hX (c_X5_isArea (by omega)) (by decide) st_X5_63 (Nat.le_of_ble_eq_true rfl) dX5_grow_19 ?_
      refine B_if_ne (pc := 22) (tgt := 33) hX dX5_grow_22 (by decide) (fun h22 => ?_) (fun h22 => ?_)
      · have q22 := inB_t.mp h22
        refine V_aload_n (pc := 33) (j := 0) hX 0 rfl rfl dX5_grow_33 ?_
        refine V_aload_n (pc := 34) (j := 0) hX 0 rfl rfl dX5_grow_34 ?_
        refine gf_X5_11 (pc := 35) hX dX5_grow_35 ?_
        refine V_iload_n (pc := 38) (j := 1) hX 1 rfl rfl dX5_grow_38 ?_
        refine zl_4 (pc := 39) hX (a.toNat) (by omega) (by omega) dX5_grow_39 ?_
        refine V_iload_n (pc := 40) (j := 2) hX 2 rfl rfl dX5_grow_40 ?_
        refine cVVp2 (pc := 41) hX (c_X5_layGrown (hCs.ne (a := a.toNat) (by omega)) (hCs.ac (by omega)) (by omega)) (by decide) st_X5_86 ix_0 rfl rfl rfl (Nat.le_of_ble_eq_true rfl) dX5_grow_41 (fun D41 h41 => ?_)
        have hLy : LyQ D (growC n (σ.1 a.toNat)) D41 := h41
        refine V_aload_n (pc := 44) (j := 0) hX 0 rfl rfl dX5_grow_44 ?_
        refine V_aload_n (pc := 45) (j := 0) hX 0 rfl rfl dX5_grow_45 ?_
        refine V_aload_n (pc := 46) (j := 0) hX 0 rfl rfl dX5_grow_46 ?_
        refine gf_X5_11 (pc := 47) hX dX5_grow_47 ?_
        refine V_iload_n (pc := 50) (j := 3) hX 3 rfl rfl dX5_grow_50 ?_
        refine cVIp2 (pc := 51) hX (c_X5_keep (rw0 := D41.2.2 0 0) (to := to) (T := growC n (σ.1 a.toNat)) (by omega) hLy.md) (by decide) st_X5_74 ix_0 rfl rfl rfl (Nat.le_of_ble_eq_true rfl) dX5_grow_51 (fun r51 D51 h51 => ?_)
        obtain ⟨rfl, hKp⟩ := h51
        refine cVI1 (pc := 54) hX (c_X5_answer (v := mkV (growC n (σ.1 a.toNat))) (Rg_mkV _)) (by decide) st_X5_66 ix_0 rfl rfl rfl (Nat.le_of_ble_eq_true rfl) dX5_grow_54 ?_
        refine V_iret (pc := 57) hX hR dX5_grow_57 ?_
        exact ⟨_, rfl, by rw [growO, if_pos (by omega)]; exact PC_keep hCs hLy (by omega) hKp⟩
      · have q22 := inB_f.mp h22
        refine V_aload_n (pc := 25) (j := 0) hX 0 rfl rfl dX5_grow_25 ?_
        refine V_sipush (pc := 26) (z := (-202)) hX (oI (-202)) (by decide) dX5_grow_26 ?_
        refine cVI1 (pc := 29) hX (c_X5_answer (v := -202) (by omega)) (by decide) st_X5_66 ix_0 rfl rfl rfl (Nat.le_of_ble_eq_true rfl) dX5_grow_29 ?_
        refine V_iret (pc := 32) hX hR dX5_grow_32 ?_
        exact ⟨_, rfl, by rw [growO, if_neg (by omega)]; exact PC_bad hCs⟩
theorem c_X5_flip {E : Le} {l : Launch} {D : Dt} {σ : AS} {a way to : Int} (r_a : Rg a) (r_way : Rg way) (r_to : Rg to) (hCs : Cst D σ) : ConIp E l yX5_flip cX5_flip 4 (some .int) 6 [.ref (E.1 (0, 0)), .int (oI a), .int (oI way), .int (oI to)] D (PubC D (flipO σ a way to)) := by
  refine Con_of (by decide) (Nat.le_of_ble_eq_true rfl) ?_
  intro X hX hR hl; subst hl
  refine V_iload_n (pc := 0) (j := 1) hX 1 rfl rfl dX5_flip_0 ?_
  refine cSI1 (pc := 1) hX (c_X5_isArea (by omega)) (by decide) st_X5_63 (Nat.le_of_ble_eq_true rfl) dX5_flip_1 ?_
  refine B_if_eq (pc := 4) (tgt := 23) hX dX5_flip_4 (by decide) (fun h4 => ?_) (fun h4 => ?_)
  · have q4 := inB_f.mp h4
    refine V_aload_n (pc := 23) (j := 0) hX 0 rfl rfl dX5_flip_23 ?_
    refine V_sipush (pc := 24) (z := (-202)) hX (oI (-202)) (by decide) dX5_flip_24 ?_
    refine cVI1 (pc := 27) hX (c_X5_answer (v := -202) (by omega)) (by decide) st_X5_66 ix_0 rfl rfl rfl (Nat.le_of_ble_eq_true rfl) dX5_flip_27 ?_
    refine V_iret (pc := 30) hX hR dX5_flip_30 ?_
    exact ⟨_, rfl, by rw [flipO, if_neg (by omega)]; exact PC_bad hCs⟩
  · have q4 := inB_t.mp h4
    refine V_iload_n (pc := 7) (j := 2) hX 2 rfl rfl dX5_flip_7 ?_
    refine V_iconst (pc := 8) (z := 0) hX (oI 0) rfl dX5_flip_8 ?_
    refine V_iconst (pc := 9) (z := 2) hX (oI 2) rfl dX5_flip_9 ?_
    refine cSI3 (pc := 10) hX (c_X5_within (by omega) (by omega) (by omega)) (by decide) st_X5_59 (Nat.le_of_ble_eq_true rfl) dX5_flip_10 ?_
    refine B_if_eq (pc := 13) (tgt := 23) hX dX5_flip_13 (by decide) (fun h13 => ?_) (fun h13 => ?_)
    · have q13 := inB_f.mp h13
      refine V_aload_n (pc := 23) (j := 0) hX 0 rfl rfl dX5_flip_23 ?_
      refine V_sipush (pc := 24) (z := (-202)) hX (oI (-202)) (by decide) dX5_flip_24 ?_
      refine cVI1 (pc := 27) hX (c_X5_answer (v := -202) (by omega)) (by decide) st_X5_66 ix_0 rfl rfl rfl (Nat.le_of_ble_eq_true rfl) dX5_flip_27 ?_
      refine V_iret (pc := 30) hX hR dX5_flip_30 ?_
      exact ⟨_, rfl, by rw [flipO, if_neg (by omega)]; exact PC_bad hCs⟩
    · have q13 := inB_t.mp h13
      refine V_iload_n (pc := 16) (j := 3) hX 3 rfl rfl dX5_flip_16 ?_
      refine cSI1 (pc := 17) hX (c_X5_isArea (by omega)) (by decide) st_X5_63 (Nat.le_of_ble_eq_true rfl) dX5_flip_17 ?_
      refine B_if_ne (pc := 20) (tgt := 31) hX dX5_flip_20 (by decide) (fun h20 => ?_) (fun h20 => ?_)
      · have q20 := inB_t.mp h20
        refine V_aload_n (pc := 31) (j := 0) hX 0 rfl rfl dX5_flip_31 ?_
        refine V_aload_n (pc := 32) (j := 0) hX 0 rfl rfl dX5_flip_32 ?_
        refine gf_X5_11 (pc := 33) hX dX5_flip_33 ?_
        refine V_iload_n (pc := 36) (j := 1) hX 1 rfl rfl dX5_flip_36 ?_
        refine zl_4 (pc := 37) hX (a.toNat) (by omega) (by omega) dX5_flip_37 ?_
        refine V_iload_n (pc := 38) (j := 2) hX 2 rfl rfl dX5_flip_38 ?_
        refine cVVp2 (pc := 39) hX (c_X5_layTurned (hCs.ac (a := a.toNat) (by omega)) (hCs.fit (by omega)) (by omega)) (by decide) st_X5_90 ix_0 rfl rfl rfl (Nat.le_of_ble_eq_true rfl) dX5_flip_39 (fun D39 h39 => ?_)
        have hLy : LyQ D (flipC way (σ.1 a.toNat)) D39 := h39
        refine V_aload_n (pc := 42) (j := 0) hX 0 rfl rfl dX5_flip_42 ?_
        refine V_aload_n (pc := 43) (j := 0) hX 0 rfl rfl dX5_flip_43 ?_
        refine V_aload_n (pc := 44) (j := 0) hX 0 rfl rfl dX5_flip_44 ?_
        refine gf_X5_11 (pc := 45) hX dX5_flip_45 ?_
        refine V_iload_n (pc := 48) (j := 3) hX 3 rfl rfl dX5_flip_48 ?_
        refine cVIp2 (pc := 49) hX (c_X5_keep (rw0 := D39.2.2 0 0) (to := to) (T := flipC way (σ.1 a.toNat)) (by omega) hLy.md) (by decide) st_X5_74 ix_0 rfl rfl rfl (Nat.le_of_ble_eq_true rfl) dX5_flip_49 (fun r49 D49 h49 => ?_)
        obtain ⟨rfl, hKp⟩ := h49
        refine cVI1 (pc := 52) hX (c_X5_answer (v := mkV (flipC way (σ.1 a.toNat))) (Rg_mkV _)) (by decide) st_X5_66 ix_0 rfl rfl rfl (Nat.le_of_ble_eq_true rfl) dX5_flip_52 ?_
        refine V_iret (pc := 55) hX hR dX5_flip_55 ?_
        exact ⟨_, rfl, by rw [flipO, if_pos (by omega)]; exact PC_keep hCs hLy (by omega) hKp⟩
      · have q20 := inB_f.mp h20
        refine V_aload_n (pc := 23) (j := 0) hX 0 rfl rfl dX5_flip_23 ?_
        refine V_sipush (pc := 24) (z := (-202)) hX (oI (-202)) (by decide) dX5_flip_24 ?_
        refine cVI1 (pc := 27) hX (c_X5_answer (v := -202) (by omega)) (by decide) st_X5_66 ix_0 rfl rfl rfl (Nat.le_of_ble_eq_true rfl) dX5_flip_27 ?_
        refine V_iret (pc := 30) hX hR dX5_flip_30 ?_
        exact ⟨_, rfl, by rw [flipO, if_neg (by omega)]; exact PC_bad hCs⟩
theorem c_X5_rest {E : Le} {l : Launch} {D : Dt} {σ : AS} {a to : Int} (r_a : Rg a) (r_to : Rg to) (hCs : Cst D σ) : ConIp E l yX5_rest cX5_rest 3 (some .int) 6 [.ref (E.1 (0, 0)), .int (oI a), .int (oI to)] D (PubC D (restO σ a to)) := by
  refine Con_of (by decide) (Nat.le_of_ble_eq_true rfl) ?_
  intro X hX hR hl; subst hl
  refine V_iload_n (pc := 0) (j := 1) hX 1 rfl rfl dX5_rest_0 ?_
  refine cSI1 (pc := 1) hX (c_X5_isArea (by omega)) (by decide) st_X5_63 (Nat.le_of_ble_eq_true rfl) dX5_rest_1 ?_
  refine B_if_eq (pc := 4) (tgt := 14) hX dX5_rest_4 (by decide) (fun h4 => ?_) (fun h4 => ?_)
  · have q4 := inB_f.mp h4
    refine V_aload_n (pc := 14) (j := 0) hX 0 rfl rfl dX5_rest_14 ?_
    refine V_sipush (pc := 15) (z := (-202)) hX (oI (-202)) (by decide) dX5_rest_15 ?_
    refine cVI1 (pc := 18) hX (c_X5_answer (v := -202) (by omega)) (by decide) st_X5_66 ix_0 rfl rfl rfl (Nat.le_of_ble_eq_true rfl) dX5_rest_18 ?_
    refine V_iret (pc := 21) hX hR dX5_rest_21 ?_
    exact ⟨_, rfl, by rw [restO, if_neg (by omega)]; exact PC_bad hCs⟩
  · have q4 := inB_t.mp h4
    refine V_iload_n (pc := 7) (j := 2) hX 2 rfl rfl dX5_rest_7 ?_
    refine cSI1 (pc := 8) hX (c_X5_isArea (by omega)) (by decide) st_X5_63 (Nat.le_of_ble_eq_true rfl) dX5_rest_8 ?_
    refine B_if_ne (pc := 11) (tgt := 22) hX dX5_rest_11 (by decide) (fun h11 => ?_) (fun h11 => ?_)
    · have q11 := inB_t.mp h11
      refine V_aload_n (pc := 22) (j := 0) hX 0 rfl rfl dX5_rest_22 ?_
      refine gf_X5_19 (pc := 23) hX dX5_rest_23 ?_
      refine V_aload_n (pc := 26) (j := 0) hX 0 rfl rfl dX5_rest_26 ?_
      refine gf_X5_11 (pc := 27) hX dX5_rest_27 ?_
      refine V_iload_n (pc := 30) (j := 1) hX 1 rfl rfl dX5_rest_30 ?_
      refine zl_4 (pc := 31) hX (a.toNat) (by omega) (by omega) dX5_rest_31 ?_
      refine cVVp1 (pc := 32) hX (c_X0_copy (hCs.ne (a := a.toNat) (by omega)) (hCs.ac (by omega))) (by decide) st_X5_93 (ix_1 _) rfl rfl rfl (Nat.le_of_ble_eq_true rfl) dX5_rest_32 (fun D32 h32 => ?_)
      have hLs := (LK.rf D).step h32
      refine V_aload_n (pc := 35) (j := 0) hX 0 rfl rfl dX5_rest_35 ?_
      refine gf_X5_19 (pc := 36) hX dX5_rest_36 ?_
      refine cVVp0 (pc := 39) hX (c_X0_invert hLs.2) (by decide) st_X5_97 (ix_1 _) rfl rfl rfl (Nat.le_of_ble_eq_true rfl) dX5_rest_39 (fun D39 h39 => ?_)
      have hLy : LyQ D (restC (σ.1 a.toNat)) D39 := LyQ_st hLs.1 h39
      refine V_aload_n (pc := 42) (j := 0) hX 0 rfl rfl dX5_rest_42 ?_
      refine V_aload_n (pc := 43) (j := 0) hX 0 rfl rfl dX5_rest_43 ?_
      refine V_aload_n (pc := 44) (j := 0) hX 0 rfl rfl dX5_rest_44 ?_
      refine gf_X5_11 (pc := 45) hX dX5_rest_45 ?_
      refine V_iload_n (pc := 48) (j := 2) hX 2 rfl rfl dX5_rest_48 ?_
      refine cVIp2 (pc := 49) hX (c_X5_keep (rw0 := D39.2.2 0 0) (to := to) (T := restC (σ.1 a.toNat)) (by omega) hLy.md) (by decide) st_X5_74 ix_0 rfl rfl rfl (Nat.le_of_ble_eq_true rfl) dX5_rest_49 (fun r49 D49 h49 => ?_)
      obtain ⟨rfl, hKp⟩ := h49
      refine cVI1 (pc := 52) hX (c_X5_answer (v := mkV (restC (σ.1 a.toNat))) (Rg_mkV _)) (by decide) st_X5_66 ix_0 rfl rfl rfl (Nat.le_of_ble_eq_true rfl) dX5_rest_52 ?_
      refine V_iret (pc := 55) hX hR dX5_rest_55 ?_
      exact ⟨_, rfl, by rw [restO, if_pos (by omega)]; exact PC_keep hCs hLy (by omega) hKp⟩
    · have q11 := inB_f.mp h11
      refine V_aload_n (pc := 14) (j := 0) hX 0 rfl rfl dX5_rest_14 ?_
      refine V_sipush (pc := 15) (z := (-202)) hX (oI (-202)) (by decide) dX5_rest_15 ?_
      refine cVI1 (pc := 18) hX (c_X5_answer (v := -202) (by omega)) (by decide) st_X5_66 ix_0 rfl rfl rfl (Nat.le_of_ble_eq_true rfl) dX5_rest_18 ?_
      refine V_iret (pc := 21) hX hR dX5_rest_21 ?_
      exact ⟨_, rfl, by rw [restO, if_neg (by omega)]; exact PC_bad hCs⟩
theorem c_X5_part {E : Le} {l : Launch} {D : Dt} {σ : AS} {a x y to : Int} (r_a : Rg a) (r_x : Rg x) (r_y : Rg y) (r_to : Rg to) (hCs : Cst D σ) : ConIp E l yX5_part cX5_part 5 (some .int) 6 [.ref (E.1 (0, 0)), .int (oI a), .int (oI x), .int (oI y), .int (oI to)] D (PubC D (partO σ a x y to)) := by
  refine Con_of (by decide) (Nat.le_of_ble_eq_true rfl) ?_
  intro X hX hR hl; subst hl
  refine V_iload_n (pc := 0) (j := 1) hX 1 rfl rfl dX5_part_0 ?_
  refine cSI1 (pc := 1) hX (c_X5_isArea (by omega)) (by decide) st_X5_63 (Nat.le_of_ble_eq_true rfl) dX5_part_1 ?_
  refine B_if_eq (pc := 4) (tgt := 29) hX dX5_part_4 (by decide) (fun h4 => ?_) (fun h4 => ?_)
  · have q4 := inB_f.mp h4
    refine V_aload_n (pc := 29) (j := 0) hX 0 rfl rfl dX5_part_29 ?_
    refine V_sipush (pc := 30) (z := (-202)) hX (oI (-202)) (by decide) dX5_part_30 ?_
    refine cVI1 (pc := 33) hX (c_X5_answer (v := -202) (by omega)) (by decide) st_X5_66 ix_0 rfl rfl rfl (Nat.le_of_ble_eq_true rfl) dX5_part_33 ?_
    refine V_iret (pc := 36) hX hR dX5_part_36 ?_
    exact ⟨_, rfl, by rw [partO, if_neg (by omega)]; exact PC_bad hCs⟩
  · have q4 := inB_t.mp h4
    refine V_iload_n (pc := 7) (j := 2) hX 2 rfl rfl dX5_part_7 ?_
    refine cSI1 (pc := 8) hX (c_X5_isPlace (by omega)) (by decide) st_X5_55 (Nat.le_of_ble_eq_true rfl) dX5_part_8 ?_
    refine B_if_eq (pc := 11) (tgt := 29) hX dX5_part_11 (by decide) (fun h11 => ?_) (fun h11 => ?_)
    · have q11 := inB_f.mp h11
      refine V_aload_n (pc := 29) (j := 0) hX 0 rfl rfl dX5_part_29 ?_
      refine V_sipush (pc := 30) (z := (-202)) hX (oI (-202)) (by decide) dX5_part_30 ?_
      refine cVI1 (pc := 33) hX (c_X5_answer (v := -202) (by omega)) (by decide) st_X5_66 ix_0 rfl rfl rfl (Nat.le_of_ble_eq_true rfl) dX5_part_33 ?_
      refine V_iret (pc := 36) hX hR dX5_part_36 ?_
      exact ⟨_, rfl, by rw [partO, if_neg (by omega)]; exact PC_bad hCs⟩
    · have q11 := inB_t.mp h11
      refine V_iload_n (pc := 14) (j := 3) hX 3 rfl rfl dX5_part_14 ?_
      refine cSI1 (pc := 15) hX (c_X5_isPlace (by omega)) (by decide) st_X5_55 (Nat.le_of_ble_eq_true rfl) dX5_part_15 ?_
      refine B_if_eq (pc := 18) (tgt := 29) hX dX5_part_18 (by decide) (fun h18 => ?_) (fun h18 => ?_)
      · have q18 := inB_f.mp h18
        refine V_aload_n (pc := 29) (j := 0) hX 0 rfl rfl dX5_part_29 ?_
        refine V_sipush (pc := 30) (z := (-202)) hX (oI (-202)) (by decide) dX5_part_30 ?_
        refine cVI1 (pc := 33) hX (c_X5_answer (v := -202) (by omega)) (by decide) st_X5_66 ix_0 rfl rfl rfl (Nat.le_of_ble_eq_true rfl) dX5_part_33 ?_
        refine V_iret (pc := 36) hX hR dX5_part_36 ?_
        exact ⟨_, rfl, by rw [partO, if_neg (by omega)]; exact PC_bad hCs⟩
      · have q18 := inB_t.mp h18
        refine V_iload (pc := 21) hX rfl dX5_part_21 ?_
        refine cSI1 (pc := 23) hX (c_X5_isArea (by omega)) (by decide) st_X5_63 (Nat.le_of_ble_eq_true rfl) dX5_part_23 ?_
        refine B_if_ne (pc := 26) (tgt := 37) hX dX5_part_26 (by decide) (fun h26 => ?_) (fun h26 => ?_)
        · have q26 := inB_t.mp h26
          refine V_aload_n (pc := 37) (j := 0) hX 0 rfl rfl dX5_part_37 ?_
          refine gf_X5_11 (pc := 38) hX dX5_part_38 ?_
          refine V_iload_n (pc := 41) (j := 1) hX 1 rfl rfl dX5_part_41 ?_
          refine zl_4 (pc := 42) hX (a.toNat) (by omega) (by omega) dX5_part_42 ?_
          refine V_iload_n (pc := 43) (j := 2) hX 2 rfl rfl dX5_part_43 ?_
          refine V_iload_n (pc := 44) (j := 3) hX 3 rfl rfl dX5_part_44 ?_
          refine cVI2 (pc := 45) hX (c_X0_holds (S := σ.1 a.toNat) (by omega) (by omega) (hCs.ac (by omega))) (by decide) st_X5_100 (ix_1 _) rfl rfl rfl (Nat.le_of_ble_eq_true rfl) dX5_part_45 ?_
          refine B_if_ne (pc := 48) (tgt := 59) hX dX5_part_48 (by decide) (fun h48 => ?_) (fun h48 => ?_)
          · rw [rpC_in (by omega) (by omega)] at h48
            obtain ⟨kk0, hk0⟩ := sp_ex (by omega) (by omega) h48
            refine V_aload_n (pc := 59) (j := 0) hX 0 rfl rfl dX5_part_59 ?_
            refine gf_X5_26 (pc := 60) hX dX5_part_60 ?_
            refine V_aload_n (pc := 63) (j := 0) hX 0 rfl rfl dX5_part_63 ?_
            refine gf_X5_11 (pc := 64) hX dX5_part_64 ?_
            refine V_iload_n (pc := 67) (j := 1) hX 1 rfl rfl dX5_part_67 ?_
            refine zl_4 (pc := 68) hX (a.toNat) (by omega) (by omega) dX5_part_68 ?_
            refine cVIp1 (pc := 69) hX (c_X1_read (S := σ.1 a.toNat) (hCs.ac (by omega))) (by decide) st_X5_104 ix_5 rfl rfl rfl (Nat.le_of_ble_eq_true rfl) dX5_part_69 (fun r69 D69 h69 => ?_)
            obtain ⟨rfl, hFk, hFm⟩ := h69
            replace hFm := hFm (hCs.fit (by omega))
            refine V_pop (pc := 72) hX rfl dX5_part_72 ?_
            refine V_aload_n (pc := 73) (j := 0) hX 0 rfl rfl dX5_part_73 ?_
            refine gf_X5_26 (pc := 74) hX dX5_part_74 ?_
            refine cVIp0 (pc := 77) hX (c_X1_joinParts hFm) (by decide) st_X5_108 ix_5 rfl rfl rfl (Nat.le_of_ble_eq_true rfl) dX5_part_77 (fun r77 D77 h77 => ?_)
            obtain ⟨rfl, ⟨gg0, rfl⟩, rho, cc0, hUx, hrho⟩ := h77
            refine V_pop (pc := 80) hX rfl dX5_part_80 ?_
            refine V_aload_n (pc := 81) (j := 0) hX 0 rfl rfl dX5_part_81 ?_
            refine gf_X5_26 (pc := 82) hX dX5_part_82 ?_
            refine V_aload_n (pc := 85) (j := 0) hX 0 rfl rfl dX5_part_85 ?_
            refine gf_X5_19 (pc := 86) hX dX5_part_86 ?_
            refine V_iload_n (pc := 89) (j := 2) hX 2 rfl rfl dX5_part_89 ?_
            refine V_iload_n (pc := 90) (j := 3) hX 3 rfl rfl dX5_part_90 ?_
            refine cVVp3 (pc := 91) hX (c_X1_layPart (hFm.u11 gg0) hUx (by omega) (by omega) hk0.1 hk0.2 hrho) (by decide) st_X5_112 ix_5 rfl rfl rfl (Nat.le_of_ble_eq_true rfl) dX5_part_91 (fun D91 h91 => ?_)
            have hLy : LyQ D (partC (σ.1 a.toNat) (x + 60).toNat (y + 60).toNat) D91 := LyQ_st (hFk.lk.tr (FK_rU D69 (by omega) gg0).lk) h91
            refine V_aload_n (pc := 94) (j := 0) hX 0 rfl rfl dX5_part_94 ?_
            refine V_aload_n (pc := 95) (j := 0) hX 0 rfl rfl dX5_part_95 ?_
            refine V_aload_n (pc := 96) (j := 0) hX 0 rfl rfl dX5_part_96 ?_
            refine gf_X5_11 (pc := 97) hX dX5_part_97 ?_
            refine V_iload (pc := 100) hX rfl dX5_part_100 ?_
            refine cVIp2 (pc := 102) hX (c_X5_keep (rw0 := D91.2.2 0 0) (to := to) (T := partC (σ.1 a.toNat) (x + 60).toNat (y + 60).toNat) (by omega) hLy.md) (by decide) st_X5_74 ix_0 rfl rfl rfl (Nat.le_of_ble_eq_true rfl) dX5_part_102 (fun r102 D102 h102 => ?_)
            obtain ⟨rfl, hKp⟩ := h102
            refine cVI1 (pc := 105) hX (c_X5_answer (v := mkV (partC (σ.1 a.toNat) (x + 60).toNat (y + 60).toNat)) (Rg_mkV _)) (by decide) st_X5_66 ix_0 rfl rfl rfl (Nat.le_of_ble_eq_true rfl) dX5_part_105 ?_
            refine V_iret (pc := 108) hX hR dX5_part_108 ?_
            exact ⟨_, rfl, by rw [partO, if_pos (by omega), if_pos h48]; exact PC_keep hCs hLy (by omega) hKp⟩
          · rw [rpC_in (by omega) (by omega)] at h48
            refine V_aload_n (pc := 51) (j := 0) hX 0 rfl rfl dX5_part_51 ?_
            refine V_sipush (pc := 52) (z := (-203)) hX (oI (-203)) (by decide) dX5_part_52 ?_
            refine cVI1 (pc := 55) hX (c_X5_answer (v := -203) (by omega)) (by decide) st_X5_66 ix_0 rfl rfl rfl (Nat.le_of_ble_eq_true rfl) dX5_part_55 ?_
            refine V_iret (pc := 58) hX hR dX5_part_58 ?_
            exact ⟨_, rfl, by rw [partO, if_pos (by omega), if_neg (by rw [h48]; decide)]; exact PC_no hCs (LK.rf D)⟩
        · have q26 := inB_f.mp h26
          refine V_aload_n (pc := 29) (j := 0) hX 0 rfl rfl dX5_part_29 ?_
          refine V_sipush (pc := 30) (z := (-202)) hX (oI (-202)) (by decide) dX5_part_30 ?_
          refine cVI1 (pc := 33) hX (c_X5_answer (v := -202) (by omega)) (by decide) st_X5_66 ix_0 rfl rfl rfl (Nat.le_of_ble_eq_true rfl) dX5_part_33 ?_
          refine V_iret (pc := 36) hX hR dX5_part_36 ?_
          exact ⟨_, rfl, by rw [partO, if_neg (by omega)]; exact PC_bad hCs⟩
theorem c_X5_draw {E : Le} {l : Launch} {D : Dt} {σ : AS} {seed n to : Int} (r_seed : Rg seed) (r_n : Rg n) (r_to : Rg to) (hCs : Cst D σ) : ConIp E l yX5_draw cX5_draw 4 (some .int) 6 [.ref (E.1 (0, 0)), .int (oI seed), .int (oI n), .int (oI to)] D (PubC D (drawO σ seed n to)) := by
  refine Con_of (by decide) (Nat.le_of_ble_eq_true rfl) ?_
  intro X hX hR hl; subst hl
  refine V_iload_n (pc := 0) (j := 1) hX 1 rfl rfl dX5_draw_0 ?_
  refine V_iconst (pc := 1) (z := 0) hX (oI 0) rfl dX5_draw_1 ?_
  refine V_ldc (pc := 2) hX 999999 w_467 dX5_draw_2 ?_
  refine V_oI 999999 (by decide) ?_
  refine cSI3 (pc := 4) hX (c_X5_within (by omega) (by omega) (by omega)) (by decide) st_X5_59 (Nat.le_of_ble_eq_true rfl) dX5_draw_4 ?_
  refine B_if_eq (pc := 7) (tgt := 27) hX dX5_draw_7 (by decide) (fun h7 => ?_) (fun h7 => ?_)
  · have q7 := inB_f.mp h7
    refine V_aload_n (pc := 27) (j := 0) hX 0 rfl rfl dX5_draw_27 ?_
    refine V_sipush (pc := 28) (z := (-202)) hX (oI (-202)) (by decide) dX5_draw_28 ?_
    refine cVI1 (pc := 31) hX (c_X5_answer (v := -202) (by omega)) (by decide) st_X5_66 ix_0 rfl rfl rfl (Nat.le_of_ble_eq_true rfl) dX5_draw_31 ?_
    refine V_iret (pc := 34) hX hR dX5_draw_34 ?_
    exact ⟨_, rfl, by rw [drawO, if_neg (by omega)]; exact PC_bad hCs⟩
  · have q7 := inB_t.mp h7
    refine V_iload_n (pc := 10) (j := 2) hX 2 rfl rfl dX5_draw_10 ?_
    refine V_iconst (pc := 11) (z := 1) hX (oI 1) rfl dX5_draw_11 ?_
    refine V_bipush (pc := 12) (z := 9) hX (oI 9) (by decide) dX5_draw_12 ?_
    refine cSI3 (pc := 14) hX (c_X5_within (by omega) (by omega) (by omega)) (by decide) st_X5_59 (Nat.le_of_ble_eq_true rfl) dX5_draw_14 ?_
    refine B_if_eq (pc := 17) (tgt := 27) hX dX5_draw_17 (by decide) (fun h17 => ?_) (fun h17 => ?_)
    · have q17 := inB_f.mp h17
      refine V_aload_n (pc := 27) (j := 0) hX 0 rfl rfl dX5_draw_27 ?_
      refine V_sipush (pc := 28) (z := (-202)) hX (oI (-202)) (by decide) dX5_draw_28 ?_
      refine cVI1 (pc := 31) hX (c_X5_answer (v := -202) (by omega)) (by decide) st_X5_66 ix_0 rfl rfl rfl (Nat.le_of_ble_eq_true rfl) dX5_draw_31 ?_
      refine V_iret (pc := 34) hX hR dX5_draw_34 ?_
      exact ⟨_, rfl, by rw [drawO, if_neg (by omega)]; exact PC_bad hCs⟩
    · have q17 := inB_t.mp h17
      refine V_iload_n (pc := 20) (j := 3) hX 3 rfl rfl dX5_draw_20 ?_
      refine cSI1 (pc := 21) hX (c_X5_isArea (by omega)) (by decide) st_X5_63 (Nat.le_of_ble_eq_true rfl) dX5_draw_21 ?_
      refine B_if_ne (pc := 24) (tgt := 35) hX dX5_draw_24 (by decide) (fun h24 => ?_) (fun h24 => ?_)
      · have q24 := inB_t.mp h24
        obtain ⟨sd, rfl⟩ : ∃ N0 : Nat, seed = (N0 : Int) := ⟨seed.toNat, by omega⟩
        obtain ⟨nn, rfl⟩ : ∃ N0 : Nat, n = (N0 : Int) := ⟨n.toNat, by omega⟩
        refine V_aload_n (pc := 35) (j := 0) hX 0 rfl rfl dX5_draw_35 ?_
        refine V_iload_n (pc := 36) (j := 1) hX 1 rfl rfl dX5_draw_36 ?_
        refine V_iload_n (pc := 37) (j := 2) hX 2 rfl rfl dX5_draw_37 ?_
        refine cVVp2 (pc := 38) hX (c_X5_layDrawn (sd := sd) (nn := nn) (by omega) (by omega)) (by decide) st_X5_127 ix_0 rfl rfl rfl (Nat.le_of_ble_eq_true rfl) dX5_draw_38 (fun D38 h38 => ?_)
        have hLy : LyQ D (drawC sd nn) D38 := h38
        refine V_aload_n (pc := 41) (j := 0) hX 0 rfl rfl dX5_draw_41 ?_
        refine V_aload_n (pc := 42) (j := 0) hX 0 rfl rfl dX5_draw_42 ?_
        refine V_aload_n (pc := 43) (j := 0) hX 0 rfl rfl dX5_draw_43 ?_
        refine gf_X5_11 (pc := 44) hX dX5_draw_44 ?_
        refine V_iload_n (pc := 47) (j := 3) hX 3 rfl rfl dX5_draw_47 ?_
        refine cVIp2 (pc := 48) hX (c_X5_keep (rw0 := D38.2.2 0 0) (to := to) (T := drawC sd nn) (by omega) hLy.md) (by decide) st_X5_74 ix_0 rfl rfl rfl (Nat.le_of_ble_eq_true rfl) dX5_draw_48 (fun r48 D48 h48 => ?_)
        obtain ⟨rfl, hKp⟩ := h48
        refine cVI1 (pc := 51) hX (c_X5_answer (v := mkV (drawC sd nn)) (Rg_mkV _)) (by decide) st_X5_66 ix_0 rfl rfl rfl (Nat.le_of_ble_eq_true rfl) dX5_draw_51 ?_
        refine V_iret (pc := 54) hX hR dX5_draw_54 ?_
        exact ⟨_, rfl, by rw [drawO, if_pos (by omega), Int.toNat_natCast, Int.toNat_natCast]; exact PC_keep hCs hLy (by omega) hKp⟩
      · have q24 := inB_f.mp h24
        refine V_aload_n (pc := 27) (j := 0) hX 0 rfl rfl dX5_draw_27 ?_
        refine V_sipush (pc := 28) (z := (-202)) hX (oI (-202)) (by decide) dX5_draw_28 ?_
        refine cVI1 (pc := 31) hX (c_X5_answer (v := -202) (by omega)) (by decide) st_X5_66 ix_0 rfl rfl rfl (Nat.le_of_ble_eq_true rfl) dX5_draw_31 ?_
        refine V_iret (pc := 34) hX hR dX5_draw_34 ?_
        exact ⟨_, rfl, by rw [drawO, if_neg (by omega)]; exact PC_bad hCs⟩
