/-! THE CLASS: measures, signs, what is told -/
theorem PC_lk {D D1 : Dt} {σ : AS} {v : Int} {r : Int32} (hCs : Cst D σ) (hLk : LK D D1) (hrv : r = oI v) : PubC D (v, σ) r D1 := ⟨hrv, hCs.lk hLk, hLk.mk⟩
theorem wrD_ne (D : Dt) (cs : List Int32) {t : Nat} (ht : t ≠ 18) : (wrD D cs).1 t = D.1 t := rU_ne D _ ht
theorem wr_cg {D D1 : Dt} (hEq : D1.1 18 = D.1 18) (cs : List Int32) (j : Nat) : (wrD D1 cs).1 18 j = (wrD D cs).1 18 j := by
  rw [wrD, wrD, ptU_18, ptU_18]
  unfold ph18
  rw [hEq]
theorem wr_fr {D D1 : Dt} {k : Int} (hk : Rg k) (hFk : FK (bgD D k) D1) (cs : List Int32) (hcl : cs.length < 2147483648) : (wrD D1 cs).1 18 0 = oI (cs.length : Int) ∧ (wrD D1 cs).1 18 1 = hsL (oI 0) cs ∧ (wrD D1 cs).1 18 2 = kth cs k (oI (-201)) := by
  have hEq : D1.1 18 = (bgD D k).1 18 := hFk.1 18 (by omega)
  rw [wr_cg hEq, wr_cg hEq, wr_cg hEq]
  exact wr_end D hk cs hcl
theorem PC_wr {D D1 : Dt} {σ : AS} {k v : Int} {cs : List Int32} {r : Int32} (hCs : Cst D σ) (hFk : FK (bgD D k) D1) (hrv : r = oI v) : PubC D (v, σ) r (wrD D1 cs) := by
  have hTd : ∀ t, t ≠ 18 → ¬ (5 ≤ t ∧ t ≤ 11) → (wrD D1 cs).1 t = D.1 t := fun t ht hu => by
    rw [wrD_ne D1 cs ht, hFk.1 t hu]
    exact rU_ne D _ ht
  have hTe : (wrD D1 cs).2 = D.2 := by
    show D1.2 = D.2
    rw [hFk.2]; rfl
  refine ⟨hrv, hCs.ch rfl hTe ⟨fun kk0 hkk => ?_, ⟨?_, hCs.2.2.2.1.2.1, fun kk0 hkk => ?_⟩, hCs.2.2.2.2.fr (fun t ht => hTd t (by omega) (by omega))⟩, MKf_ch (fun t ht => hTd t (by omega) (by omega)) hTe⟩
  · rw [hTd 19 (by decide) (by omega)]; exact hCs.2.2.1 kk0 hkk
  · rw [hTd 15 (by decide) (by omega)]; exact hCs.2.2.2.1.1
  · rw [hTd 16 (by decide) (by omega)]; exact hCs.2.2.2.1.2.2 kk0 hkk
def WoQ (D : Dt) (S : Cl) (D' : Dt) : Prop := ∃ D1, FK D D1 ∧ D' = wrD D1 (wrC S)
theorem PC_clear {D : Dt} {σ : AS} (hCs : Cst D σ) : PubC D (clearO σ) (oI (σ.2.2.1.1 : Int)) (rU D 15 (upd (D.1 15) 1 (oI 0))) := by
  refine ⟨rfl, hCs.ch rfl rfl ⟨fun kk0 hkk => ?_, ⟨?_, Nat.zero_le _, fun kk0 hkk => absurd hkk (Nat.not_lt_zero _)⟩, hCs.2.2.2.2.fr (fun t ht => rU_ne D _ (by omega))⟩, MKf_rU D (by decide) _⟩
  · rw [rU_ne _ _ (by decide)]; exact hCs.2.2.1 kk0 hkk
  · rw [rU_get, upd_at, if_pos rfl]; rfl
theorem told_in {D D' : Dt} {σ : AS} {w : Int} {r : Int32} (hpc : PubC D (toldO σ w) r D') (hw : 0 ≤ w ∧ w ≤ 5) : r = oI (toldV σ w) ∧ Cst D' σ ∧ MKf D D' := by
  rw [toldO, if_pos hw] at hpc
  exact hpc
theorem of_in {D D' : Dt} {σ : AS} {k : Nat} {w : Int} {r : Int32} (hpc : PubC D (ofO σ (k : Int) w) r D') (hk : k < 5) (hw : 0 ≤ w ∧ w ≤ 8) : r = oI (ofV (σ.1 k) w) ∧ Cst D' σ ∧ MKf D D' := by
  rw [ofO, if_pos (by omega), Int.toNat_natCast] at hpc
  exact hpc
theorem mark_in {D D' : Dt} {σ : AS} {k : Nat} {r : Int32} (hpc : PubC D (markO σ (k : Int)) r D') (hk : k < 5) : r = hsL (oI 0) (wrC (σ.1 k)) ∧ Cst D' σ ∧ MKf D D' := by
  rw [markO, if_pos (by omega), Int.toNat_natCast] at hpc
  obtain ⟨hra, hrb⟩ := hpc
  exact ⟨by rw [hra]; exact oI_of _, hrb⟩
def PubLC (D : Dt) (σ : AS) (r : Int64) (D' : Dt) : Prop := r = dgV σ ∧ Cst D' σ ∧ MKf D D'
theorem c_X5_of {E : Le} {l : Launch} {D : Dt} {σ : AS} {a w : Int} (r_a : Rg a) (r_w : Rg w) (hCs : Cst D σ) : ConIp E l yX5_of cX5_of 3 (some .int) 6 [.ref (E.1 (0, 0)), .int (oI a), .int (oI w)] D (PubC D (ofO σ a w)) := by
  refine Con_of (by decide) (Nat.le_of_ble_eq_true rfl) ?_
  intro X hX hR hl; subst hl
  refine V_iload_n (pc := 0) (j := 1) hX 1 rfl rfl dX5_of_0 ?_
  refine cSI1 (pc := 1) hX (c_X5_isArea (by omega)) (by decide) st_X5_63 (Nat.le_of_ble_eq_true rfl) dX5_of_1 ?_
  refine B_if_eq (pc := 4) (tgt := 17) hX dX5_of_4 (by decide) (fun h4 => ?_) (fun h4 => ?_)
  · have q4 := inB_f.mp h4
    refine V_aload_n (pc := 17) (j := 0) hX 0 rfl rfl dX5_of_17 ?_
    refine V_sipush (pc := 18) (z := (-202)) hX (oI (-202)) (by decide) dX5_of_18 ?_
    refine cVI1 (pc := 21) hX (c_X5_answer (v := -202) (by omega)) (by decide) st_X5_66 ix_0 rfl rfl rfl (Nat.le_of_ble_eq_true rfl) dX5_of_21 ?_
    refine V_iret (pc := 24) hX hR dX5_of_24 ?_
    exact ⟨_, rfl, by rw [ofO, if_neg (by omega)]; exact PC_bad hCs⟩
  · have q4 := inB_t.mp h4
    refine V_iload_n (pc := 7) (j := 2) hX 2 rfl rfl dX5_of_7 ?_
    refine V_iconst (pc := 8) (z := 0) hX (oI 0) rfl dX5_of_8 ?_
    refine V_bipush (pc := 9) (z := 8) hX (oI 8) (by decide) dX5_of_9 ?_
    refine cSI3 (pc := 11) hX (c_X5_within (by omega) (by omega) (by omega)) (by decide) st_X5_59 (Nat.le_of_ble_eq_true rfl) dX5_of_11 ?_
    refine B_if_ne (pc := 14) (tgt := 25) hX dX5_of_14 (by decide) (fun h14 => ?_) (fun h14 => ?_)
    · have q14 := inB_t.mp h14
      refine V_iload_n (pc := 25) (j := 2) hX 2 rfl rfl dX5_of_25 ?_
      by_cases h26_0 : w = 0
      · refine Z_lookIn (pc := 26) (tgt := 52) hX 0 h26_0 (by decide) dX5_of_26 (by decide) rfl (by decide) ?_
        refine V_aload_n (pc := 52) (j := 0) hX 0 rfl rfl dX5_of_52 ?_
        refine gf_X5_11 (pc := 53) hX dX5_of_53 ?_
        refine V_iload_n (pc := 56) (j := 1) hX 1 rfl rfl dX5_of_56 ?_
        refine zl_4 (pc := 57) hX (a.toNat) (by omega) (by omega) dX5_of_57 ?_
        refine cVI0 (pc := 58) hX (c_X0_cells (S := σ.1 a.toNat) (hCs.ac (by omega))) (by decide) st_X5_131 (ix_1 _) rfl rfl rfl (Nat.le_of_ble_eq_true rfl) dX5_of_58 ?_
        refine V_iret (pc := 61) hX hR dX5_of_61 ?_
        exact ⟨_, rfl, by rw [ofO, if_pos (by omega), ofV, if_pos h26_0]; exact PC_same hCs (LK.rf D)⟩
      by_cases h26_4 : w = 4
      · refine Z_lookIn (pc := 26) (tgt := 62) hX 4 h26_4 (by decide) dX5_of_26 (by decide) rfl (by decide) ?_
        refine V_aload_n (pc := 62) (j := 0) hX 0 rfl rfl dX5_of_62 ?_
        refine gf_X5_11 (pc := 63) hX dX5_of_63 ?_
        refine V_iload_n (pc := 66) (j := 1) hX 1 rfl rfl dX5_of_66 ?_
        refine zl_4 (pc := 67) hX (a.toNat) (by omega) (by omega) dX5_of_67 ?_
        refine cVI0 (pc := 68) hX (c_X0_sidesRound (S := σ.1 a.toNat) (hCs.ac (by omega))) (by decide) st_X5_134 (ix_1 _) rfl rfl rfl (Nat.le_of_ble_eq_true rfl) dX5_of_68 ?_
        refine V_iret (pc := 71) hX hR dX5_of_71 ?_
        exact ⟨_, rfl, by rw [ofO, if_pos (by omega), ofV, if_neg (by omega), if_neg (by omega), if_neg (by omega), if_neg (by omega), if_pos h26_4]; exact PC_same hCs (LK.rf D)⟩
      have h26_0s : ¬ (0 : Int) = w := fun q => h26_0 q.symm
      have h26_4s : ¬ (4 : Int) = w := fun q => h26_4 q.symm
      refine Z_look (pc := 26) (off := 46) (tgt := 72) hX (by omega) dX5_of_26 (by decide) (by simp [Op.lookupswitch.offset, *]) (by decide) ?_
      refine V_aload_n (pc := 72) (j := 0) hX 0 rfl rfl dX5_of_72 ?_
      refine gf_X5_26 (pc := 73) hX dX5_of_73 ?_
      refine V_aload_n (pc := 76) (j := 0) hX 0 rfl rfl dX5_of_76 ?_
      refine gf_X5_11 (pc := 77) hX dX5_of_77 ?_
      refine V_iload_n (pc := 80) (j := 1) hX 1 rfl rfl dX5_of_80 ?_
      refine zl_4 (pc := 81) hX (a.toNat) (by omega) (by omega) dX5_of_81 ?_
      refine cVIp1 (pc := 82) hX (c_X1_read (S := σ.1 a.toNat) (hCs.ac (by omega))) (by decide) st_X5_104 ix_5 rfl rfl rfl (Nat.le_of_ble_eq_true rfl) dX5_of_82 (fun r82 D82 h82 => ?_)
      obtain ⟨rfl, hFk, hFm⟩ := h82
      replace hFm := hFm (hCs.fit (by omega))
      refine V_pop (pc := 85) hX rfl dX5_of_85 ?_
      refine V_aload_n (pc := 86) (j := 0) hX 0 rfl rfl dX5_of_86 ?_
      refine gf_X5_26 (pc := 87) hX dX5_of_87 ?_
      refine V_iload_n (pc := 90) (j := 2) hX 2 rfl rfl dX5_of_90 ?_
      refine cVIp1 (pc := 91) hX (c_X1_measure (wh := w) hFm (by omega)) (by decide) st_X5_137 ix_5 rfl rfl rfl (Nat.le_of_ble_eq_true rfl) dX5_of_91 (fun r91 D91 h91 => ?_)
      obtain ⟨rfl, gg0, rfl⟩ := h91
      refine V_iret (pc := 94) hX hR dX5_of_94 ?_
      exact ⟨_, rfl, by rw [ofO, if_pos (by omega)]; exact PC_same hCs (hFk.lk.tr (FK_rU D82 (by omega) gg0).lk)⟩
    · have q14 := inB_f.mp h14
      refine V_aload_n (pc := 17) (j := 0) hX 0 rfl rfl dX5_of_17 ?_
      refine V_sipush (pc := 18) (z := (-202)) hX (oI (-202)) (by decide) dX5_of_18 ?_
      refine cVI1 (pc := 21) hX (c_X5_answer (v := -202) (by omega)) (by decide) st_X5_66 ix_0 rfl rfl rfl (Nat.le_of_ble_eq_true rfl) dX5_of_21 ?_
      refine V_iret (pc := 24) hX hR dX5_of_24 ?_
      exact ⟨_, rfl, by rw [ofO, if_neg (by omega)]; exact PC_bad hCs⟩
theorem c_X5_span {E : Le} {l : Launch} {D : Dt} {σ : AS} {a k wh : Int} (r_a : Rg a) (r_k : Rg k) (r_wh : Rg wh) (hCs : Cst D σ) : ConIp E l yX5_span cX5_span 4 (some .int) 5 [.ref (E.1 (0, 0)), .int (oI a), .int (oI k), .int (oI wh)] D (PubC D (spanO σ a k wh)) := by
  refine Con_of (by decide) (Nat.le_of_ble_eq_true rfl) ?_
  intro X hX hR hl; subst hl
  refine V_iload_n (pc := 0) (j := 1) hX 1 rfl rfl dX5_span_0 ?_
  refine cSI1 (pc := 1) hX (c_X5_isArea (by omega)) (by decide) st_X5_63 (Nat.le_of_ble_eq_true rfl) dX5_span_1 ?_
  refine B_if_eq (pc := 4) (tgt := 20) hX dX5_span_4 (by decide) (fun h4 => ?_) (fun h4 => ?_)
  · have q4 := inB_f.mp h4
    refine V_aload_n (pc := 20) (j := 0) hX 0 rfl rfl dX5_span_20 ?_
    refine V_sipush (pc := 21) (z := (-202)) hX (oI (-202)) (by decide) dX5_span_21 ?_
    refine cVI1 (pc := 24) hX (c_X5_answer (v := -202) (by omega)) (by decide) st_X5_66 ix_0 rfl rfl rfl (Nat.le_of_ble_eq_true rfl) dX5_span_24 ?_
    refine V_iret (pc := 27) hX hR dX5_span_27 ?_
    exact ⟨_, rfl, by rw [spanO, if_neg (by omega)]; exact PC_bad hCs⟩
  · have q4 := inB_t.mp h4
    refine V_iload_n (pc := 7) (j := 2) hX 2 rfl rfl dX5_span_7 ?_
    refine Z_if_lt (pc := 8) (tgt := 20) hX (by omega) dX5_span_8 (by decide) (fun h8 => ?_) (fun h8 => ?_)
    · refine V_aload_n (pc := 20) (j := 0) hX 0 rfl rfl dX5_span_20 ?_
      refine V_sipush (pc := 21) (z := (-202)) hX (oI (-202)) (by decide) dX5_span_21 ?_
      refine cVI1 (pc := 24) hX (c_X5_answer (v := -202) (by omega)) (by decide) st_X5_66 ix_0 rfl rfl rfl (Nat.le_of_ble_eq_true rfl) dX5_span_24 ?_
      refine V_iret (pc := 27) hX hR dX5_span_27 ?_
      exact ⟨_, rfl, by rw [spanO, if_neg (by omega)]; exact PC_bad hCs⟩
    · refine V_iload_n (pc := 11) (j := 3) hX 3 rfl rfl dX5_span_11 ?_
      refine V_iconst (pc := 12) (z := 0) hX (oI 0) rfl dX5_span_12 ?_
      refine V_iconst (pc := 13) (z := 3) hX (oI 3) rfl dX5_span_13 ?_
      refine cSI3 (pc := 14) hX (c_X5_within (by omega) (by omega) (by omega)) (by decide) st_X5_59 (Nat.le_of_ble_eq_true rfl) dX5_span_14 ?_
      refine B_if_ne (pc := 17) (tgt := 28) hX dX5_span_17 (by decide) (fun h17 => ?_) (fun h17 => ?_)
      · have q17 := inB_t.mp h17
        obtain ⟨kk, rfl⟩ : ∃ N0 : Nat, k = (N0 : Int) := ⟨k.toNat, by omega⟩
        refine V_aload_n (pc := 28) (j := 0) hX 0 rfl rfl dX5_span_28 ?_
        refine gf_X5_26 (pc := 29) hX dX5_span_29 ?_
        refine V_aload_n (pc := 32) (j := 0) hX 0 rfl rfl dX5_span_32 ?_
        refine gf_X5_11 (pc := 33) hX dX5_span_33 ?_
        refine V_iload_n (pc := 36) (j := 1) hX 1 rfl rfl dX5_span_36 ?_
        refine zl_4 (pc := 37) hX (a.toNat) (by omega) (by omega) dX5_span_37 ?_
        refine cVIp1 (pc := 38) hX (c_X1_read (S := σ.1 a.toNat) (hCs.ac (by omega))) (by decide) st_X5_104 ix_5 rfl rfl rfl (Nat.le_of_ble_eq_true rfl) dX5_span_38 (fun r38 D38 h38 => ?_)
        obtain ⟨rfl, hFk, hFm⟩ := h38
        replace hFm := hFm (hCs.fit (by omega))
        have hns := hFm.2.2.1
        refine V_pop (pc := 41) hX rfl dX5_span_41 ?_
        refine V_iload_n (pc := 42) (j := 2) hX 2 rfl rfl dX5_span_42 ?_
        refine V_aload_n (pc := 43) (j := 0) hX 0 rfl rfl dX5_span_43 ?_
        refine gf_X5_26 (pc := 44) hX dX5_span_44 ?_
        refine gf_X5_140 (pc := 47) hX dX5_span_47 ?_
        refine V_oI (nsC (σ.1 a.toNat) : Int) hFm.2.1 ?_
        refine Z_icmp_ge (pc := 50) (tgt := 65) hX (by omega) (by omega) dX5_span_50 (by decide) (fun h50 => ?_) (fun h50 => ?_)
        · refine V_sipush (pc := 65) (z := (-201)) hX (oI (-201)) (by decide) dX5_span_65 ?_
          refine V_iret (pc := 68) hX hR dX5_span_68 ?_
          exact ⟨_, rfl, by rw [spanO, if_pos (by omega), kth_fo (S := σ.1 a.toNat) (k := kk) (by omega)]; exact PC_lk hCs hFk.lk (oI_of _).symm⟩
        · refine V_aload_n (pc := 53) (j := 0) hX 0 rfl rfl dX5_span_53 ?_
          refine gf_X5_26 (pc := 54) hX dX5_span_54 ?_
          refine V_iload_n (pc := 57) (j := 2) hX 2 rfl rfl dX5_span_57 ?_
          refine V_iload_n (pc := 58) (j := 3) hX 3 rfl rfl dX5_span_58 ?_
          refine cVI2 (pc := 59) hX (c_X1_spanSide (k := kk) (wh := wh) hFm (by omega) (by omega)) (by decide) st_X5_143 ix_5 rfl rfl rfl (Nat.le_of_ble_eq_true rfl) dX5_span_59 ?_
          refine V_goto (pc := 62) (off := 6) (tgt := 68) hX (by decide) dX5_span_62 ?_
          refine V_iret (pc := 68) hX hR dX5_span_68 ?_
          exact ⟨_, rfl, by rw [spanO, if_pos (by omega), kth_fd (S := σ.1 a.toNat) (k := kk) (by omega)]; exact PC_lk hCs hFk.lk (oI_of _).symm⟩
      · have q17 := inB_f.mp h17
        refine V_aload_n (pc := 20) (j := 0) hX 0 rfl rfl dX5_span_20 ?_
        refine V_sipush (pc := 21) (z := (-202)) hX (oI (-202)) (by decide) dX5_span_21 ?_
        refine cVI1 (pc := 24) hX (c_X5_answer (v := -202) (by omega)) (by decide) st_X5_66 ix_0 rfl rfl rfl (Nat.le_of_ble_eq_true rfl) dX5_span_24 ?_
        refine V_iret (pc := 27) hX hR dX5_span_27 ?_
        exact ⟨_, rfl, by rw [spanO, if_neg (by omega)]; exact PC_bad hCs⟩
theorem c_X5_apart {E : Le} {l : Launch} {D : Dt} {σ : AS} {a b : Int} (r_a : Rg a) (r_b : Rg b) (hCs : Cst D σ) : ConIp E l yX5_apart cX5_apart 4 (some .int) 3 [.ref (E.1 (0, 0)), .int (oI a), .int (oI b)] D (PubC D (apO σ a b)) := by
  refine Con_of (by decide) (Nat.le_of_ble_eq_true rfl) ?_
  intro X hX hR hl; subst hl
  refine V_iload_n (pc := 0) (j := 1) hX 1 rfl rfl dX5_apart_0 ?_
  refine cSI1 (pc := 1) hX (c_X5_isArea (by omega)) (by decide) st_X5_63 (Nat.le_of_ble_eq_true rfl) dX5_apart_1 ?_
  refine B_if_eq (pc := 4) (tgt := 14) hX dX5_apart_4 (by decide) (fun h4 => ?_) (fun h4 => ?_)
  · have q4 := inB_f.mp h4
    refine V_aload_n (pc := 14) (j := 0) hX 0 rfl rfl dX5_apart_14 ?_
    refine V_sipush (pc := 15) (z := (-202)) hX (oI (-202)) (by decide) dX5_apart_15 ?_
    refine cVI1 (pc := 18) hX (c_X5_answer (v := -202) (by omega)) (by decide) st_X5_66 ix_0 rfl rfl rfl (Nat.le_of_ble_eq_true rfl) dX5_apart_18 ?_
    refine V_iret (pc := 21) hX hR dX5_apart_21 ?_
    exact ⟨_, rfl, by rw [apO, if_neg (by omega)]; exact PC_bad hCs⟩
  · have q4 := inB_t.mp h4
    refine V_iload_n (pc := 7) (j := 2) hX 2 rfl rfl dX5_apart_7 ?_
    refine cSI1 (pc := 8) hX (c_X5_isArea (by omega)) (by decide) st_X5_63 (Nat.le_of_ble_eq_true rfl) dX5_apart_8 ?_
    refine B_if_ne (pc := 11) (tgt := 22) hX dX5_apart_11 (by decide) (fun h11 => ?_) (fun h11 => ?_)
    · have q11 := inB_t.mp h11
      have loop : ∀ (m : Nat) (kq : Nat) (D1 : Dt), kq ≤ 10 → LK D D1 → AC D1 (D1.2.2 0 2) (itS true kq (σ.1 a.toNat)) → apV (σ.1 a.toNat) (σ.1 b.toNat) (10 - kq) kq = apV (σ.1 a.toNat) (σ.1 b.toNat) 10 0 → 10 - kq < m → Vw E X 4 D1 37 [(0, some (.ref (E.1 (0, 0)))), (1, some (.int (oI a))), (2, some (.int (oI b))), (3, some (.int (oI (kq : Int))))] [] := by
        intro m
        induction m with
        | zero => intro kq D1 g1 g2 g3 g4 g5; omega
        | succ m ih =>
          intro kq D1 g1 g2 g3 g4 g5
          have hC1 := hCs.lk g2
          refine V_iload_n (pc := 37) (j := 3) hX 3 rfl rfl dX5_apart_37 ?_
          refine V_bipush (pc := 38) (z := 9) hX (oI 9) (by decide) dX5_apart_38 ?_
          refine Z_icmp_gt (pc := 40) (tgt := 75) hX (by omega) (by omega) dX5_apart_40 (by decide) (fun h40 => ?_) (fun h40 => ?_)
          · refine V_sipush (pc := 75) (z := (-201)) hX (oI (-201)) (by decide) dX5_apart_75 ?_
            refine V_iret (pc := 78) hX hR dX5_apart_78 ?_
            rw [show 10 - kq = 0 by omega, apV] at g4
            exact ⟨_, rfl, by rw [apO, if_pos (by omega), ← g4]; exact PC_same hCs g2⟩
          · refine V_aload_n (pc := 43) (j := 0) hX 0 rfl rfl dX5_apart_43 ?_
            refine gf_X5_19 (pc := 44) hX dX5_apart_44 ?_
            refine V_aload_n (pc := 47) (j := 0) hX 0 rfl rfl dX5_apart_47 ?_
            refine gf_X5_11 (pc := 48) hX dX5_apart_48 ?_
            refine V_iload_n (pc := 51) (j := 2) hX 2 rfl rfl dX5_apart_51 ?_
            refine zl_4 (pc := 52) hX (b.toNat) (by omega) (by omega) dX5_apart_52 ?_
            refine cVI1 (pc := 53) hX (c_X0_meets (A := itS true kq (σ.1 a.toNat)) (B := σ.1 b.toNat) g3 (hC1.ac (by omega))) (by decide) st_X5_150 (ix_1 _) rfl rfl rfl (Nat.le_of_ble_eq_true rfl) dX5_apart_53 ?_
            refine B_if_eq (pc := 56) (tgt := 61) hX dX5_apart_56 (by decide) (fun h56 => ?_) (fun h56 => ?_)
            · have z56 := of_decide_eq_false h56
              rw [show 10 - kq = (9 - kq) + 1 by omega, apV, if_neg z56] at g4
              refine V_aload_n (pc := 61) (j := 0) hX 0 rfl rfl dX5_apart_61 ?_
              refine gf_X5_19 (pc := 62) hX dX5_apart_62 ?_
              refine V_iconst (pc := 65) (z := 0) hX (oI 0) rfl dX5_apart_65 ?_
              refine V_bI false (by decide) ?_
              refine cVVp1 (pc := 66) hX (c_X0_spread (S := itS true kq (σ.1 a.toNat)) g3) (by decide) st_X5_162 (ix_1 _) rfl rfl rfl (Nat.le_of_ble_eq_true rfl) dX5_apart_66 (fun D66 h66 => ?_)
              refine Z_iinc (pc := 69) hX 1 rfl rfl dX5_apart_69 ?_
              refine V_goto (pc := 72) (off := (-35)) (tgt := 37) hX (by decide) dX5_apart_72 ?_
              refine V_cut [(0, some (.ref (E.1 (0, 0)))), (1, some (.int (oI a))), (2, some (.int (oI b))), (3, some (.int (oI ((kq + 1 : Nat) : Int))))] ⟨rfl, rfl, rfl, rfl, trivial⟩ ?_
              have hq66 := g2.step h66
              exact ih (kq + 1) _ (by omega) hq66.1 (AR.congr hq66.2 step_t) (by rw [show 10 - (kq + 1) = 9 - kq by omega]; exact g4) (by omega)
            · have z56 := of_decide_eq_true h56
              rw [show 10 - kq = (9 - kq) + 1 by omega, apV, if_pos z56] at g4
              refine V_iload_n (pc := 59) (j := 3) hX 3 rfl rfl dX5_apart_59 ?_
              refine V_iret (pc := 60) hX hR dX5_apart_60 ?_
              exact ⟨_, rfl, by rw [apO, if_pos (by omega), ← g4]; exact PC_same hCs g2⟩
      refine V_aload_n (pc := 22) (j := 0) hX 0 rfl rfl dX5_apart_22 ?_
      refine gf_X5_19 (pc := 23) hX dX5_apart_23 ?_
      refine V_aload_n (pc := 26) (j := 0) hX 0 rfl rfl dX5_apart_26 ?_
      refine gf_X5_11 (pc := 27) hX dX5_apart_27 ?_
      refine V_iload_n (pc := 30) (j := 1) hX 1 rfl rfl dX5_apart_30 ?_
      refine zl_4 (pc := 31) hX (a.toNat) (by omega) (by omega) dX5_apart_31 ?_
      refine cVVp1 (pc := 32) hX (c_X0_copy (hCs.ne (a := a.toNat) (by omega)) (hCs.ac (by omega))) (by decide) st_X5_93 (ix_1 _) rfl rfl rfl (Nat.le_of_ble_eq_true rfl) dX5_apart_32 (fun D32 h32 => ?_)
      have hLs := (LK.rf D).step h32
      refine V_iconst (pc := 35) (z := 0) hX (oI 0) rfl dX5_apart_35 ?_
      refine V_istore_n (pc := 36) (j := 3) hX 3 rfl (by decide) rfl dX5_apart_36 ?_
      refine V_cut [(0, some (.ref (E.1 (0, 0)))), (1, some (.int (oI a))), (2, some (.int (oI b))), (3, some (.int (oI ((0 : Nat) : Int))))] ⟨rfl, rfl, rfl, rfl, trivial⟩ ?_
      exact loop 11 0 _ (by omega) hLs.1 hLs.2 rfl (by omega)
    · have q11 := inB_f.mp h11
      refine V_aload_n (pc := 14) (j := 0) hX 0 rfl rfl dX5_apart_14 ?_
      refine V_sipush (pc := 15) (z := (-202)) hX (oI (-202)) (by decide) dX5_apart_15 ?_
      refine cVI1 (pc := 18) hX (c_X5_answer (v := -202) (by omega)) (by decide) st_X5_66 ix_0 rfl rfl rfl (Nat.le_of_ble_eq_true rfl) dX5_apart_18 ?_
      refine V_iret (pc := 21) hX hR dX5_apart_21 ?_
      exact ⟨_, rfl, by rw [apO, if_neg (by omega)]; exact PC_bad hCs⟩
theorem c_X5_clear {E : Le} {l : Launch} {D : Dt} {σ : AS} (hCs : Cst D σ) : ConIp E l yX5_clear cX5_clear 2 (some .int) 1 [.ref (E.1 (0, 0))] D (PubC D (clearO σ)) := by
  refine Con_of (by decide) (Nat.le_of_ble_eq_true rfl) ?_
  intro X hX hR hl; subst hl
  refine V_aload_n (pc := 0) (j := 0) hX 0 rfl rfl dX5_clear_0 ?_
  refine gf_X5_40 (pc := 1) hX dX5_clear_1 ?_
  refine gf_X5_168 (pc := 4) hX dX5_clear_4 ?_
  refine V_oI (σ.2.2.1.1 : Int) hCs.2.2.2.1.1 ?_
  refine V_istore_n (pc := 7) (j := 1) hX 1 rfl (by decide) rfl dX5_clear_7 ?_
  refine V_aload_n (pc := 8) (j := 0) hX 0 rfl rfl dX5_clear_8 ?_
  refine gf_X5_40 (pc := 9) hX dX5_clear_9 ?_
  refine V_iconst (pc := 12) (z := 0) hX (oI 0) rfl dX5_clear_12 ?_
  refine pf_X5_168 (pc := 13) hX dX5_clear_13 ?_
  refine V_iload_n (pc := 16) (j := 1) hX 1 rfl rfl dX5_clear_16 ?_
  refine V_iret (pc := 17) hX hR dX5_clear_17 ?_
  exact ⟨_, rfl, PC_clear hCs⟩
theorem c_X5_writeOut {E : Le} {l : Launch} {D : Dt} {S : Cl} {a : Int} (har : 0 ≤ a ∧ a ≤ 4) (hAc : AC D (D.2.2 (raD D) a.toNat) S) (hff : fitC S = true) : ConVp E l yX5_writeOut cX5_writeOut 2 none 5 [.ref (E.1 (0, 0)), .int (oI a)] D (WoQ D S) := by
  refine Con_of (by decide) (Nat.le_of_ble_eq_true rfl) ?_
  intro X hX hR hl; subst hl
  refine V_aload_n (pc := 0) (j := 0) hX 0 rfl rfl dX5_writeOut_0 ?_
  refine gf_X5_26 (pc := 1) hX dX5_writeOut_1 ?_
  refine V_aload_n (pc := 4) (j := 0) hX 0 rfl rfl dX5_writeOut_4 ?_
  refine gf_X5_11 (pc := 5) hX dX5_writeOut_5 ?_
  refine V_iload_n (pc := 8) (j := 1) hX 1 rfl rfl dX5_writeOut_8 ?_
  refine zl_4 (pc := 9) hX (a.toNat) (by omega) (by omega) dX5_writeOut_9 ?_
  refine cVIp1 (pc := 10) hX (c_X1_read (S := S) hAc) (by decide) st_X5_104 ix_5 rfl rfl rfl (Nat.le_of_ble_eq_true rfl) dX5_writeOut_10 (fun r10 D10 h10 => ?_)
  obtain ⟨rfl, hFk, hFm⟩ := h10
  replace hFm := hFm hff
  refine V_pop (pc := 13) hX rfl dX5_writeOut_13 ?_
  refine V_aload_n (pc := 14) (j := 0) hX 0 rfl rfl dX5_writeOut_14 ?_
  refine gf_X5_26 (pc := 15) hX dX5_writeOut_15 ?_
  refine V_aload_n (pc := 18) (j := 0) hX 0 rfl rfl dX5_writeOut_18 ?_
  refine gf_X5_47 (pc := 19) hX dX5_writeOut_19 ?_
  refine cVV1 (pc := 22) hX (c_X1_write hFm) (by decide) st_X5_253 ix_5 rfl rfl rfl (Nat.le_of_ble_eq_true rfl) dX5_writeOut_22 ?_
  refine V_vret (pc := 25) hX hR dX5_writeOut_25 ?_
  exact ⟨rfl, D10, hFk, rfl⟩
theorem c_X5_writing {E : Le} {l : Launch} {D : Dt} {σ : AS} {a k : Int} (r_a : Rg a) (r_k : Rg k) (hCs : Cst D σ) : ConIp E l yX5_writing cX5_writing 3 (some .int) 6 [.ref (E.1 (0, 0)), .int (oI a), .int (oI k)] D (PubC D (wrtO σ a k)) := by
  refine Con_of (by decide) (Nat.le_of_ble_eq_true rfl) ?_
  intro X hX hR hl; subst hl
  refine V_iload_n (pc := 0) (j := 1) hX 1 rfl rfl dX5_writing_0 ?_
  refine cSI1 (pc := 1) hX (c_X5_isArea (by omega)) (by decide) st_X5_63 (Nat.le_of_ble_eq_true rfl) dX5_writing_1 ?_
  refine B_if_eq (pc := 4) (tgt := 12) hX dX5_writing_4 (by decide) (fun h4 => ?_) (fun h4 => ?_)
  · have q4 := inB_f.mp h4
    refine V_aload_n (pc := 12) (j := 0) hX 0 rfl rfl dX5_writing_12 ?_
    refine V_sipush (pc := 13) (z := (-202)) hX (oI (-202)) (by decide) dX5_writing_13 ?_
    refine cVI1 (pc := 16) hX (c_X5_answer (v := -202) (by omega)) (by decide) st_X5_66 ix_0 rfl rfl rfl (Nat.le_of_ble_eq_true rfl) dX5_writing_16 ?_
    refine V_iret (pc := 19) hX hR dX5_writing_19 ?_
    exact ⟨_, rfl, by rw [wrtO, if_neg (by omega)]; exact PC_bad hCs⟩
  · have q4 := inB_t.mp h4
    refine V_iload_n (pc := 7) (j := 2) hX 2 rfl rfl dX5_writing_7 ?_
    refine V_iconst (pc := 8) (z := (-1)) hX (oI (-1)) rfl dX5_writing_8 ?_
    refine Z_icmp_ge (pc := 9) (tgt := 20) hX (by omega) (by omega) dX5_writing_9 (by decide) (fun h9 => ?_) (fun h9 => ?_)
    · refine V_aload_n (pc := 20) (j := 0) hX 0 rfl rfl dX5_writing_20 ?_
      refine gf_X5_47 (pc := 21) hX dX5_writing_21 ?_
      refine V_iload_n (pc := 24) (j := 2) hX 2 rfl rfl dX5_writing_24 ?_
      refine cVV1 (pc := 25) hX (c_X3_begin (k := k)) (by decide) st_X5_178 ix_18 rfl rfl rfl (Nat.le_of_ble_eq_true rfl) dX5_writing_25 ?_
      refine V_aload_n (pc := 28) (j := 0) hX 0 rfl rfl dX5_writing_28 ?_
      refine V_iload_n (pc := 29) (j := 1) hX 1 rfl rfl dX5_writing_29 ?_
      refine cVVp1 (pc := 30) hX (c_X5_writeOut (S := σ.1 a.toNat) (by omega) (hCs.ac (by omega)) (hCs.fit (by omega))) (by decide) st_X5_182 ix_0 rfl rfl rfl (Nat.le_of_ble_eq_true rfl) dX5_writing_30 (fun D30 h30 => ?_)
      obtain ⟨D1, hFk, rfl⟩ := h30
      have hwe := wr_fr (k := k) (by omega) hFk (wrC (σ.1 a.toNat)) (by have := wrC_len (σ.1 a.toNat); omega)
      refine V_iload_n (pc := 33) (j := 2) hX 2 rfl rfl dX5_writing_33 ?_
      refine V_iconst (pc := 34) (z := (-1)) hX (oI (-1)) rfl dX5_writing_34 ?_
      refine Z_icmp_ne (pc := 35) (tgt := 48) hX (by omega) (by omega) dX5_writing_35 (by decide) (fun h35 => ?_) (fun h35 => ?_)
      · refine V_aload_n (pc := 48) (j := 0) hX 0 rfl rfl dX5_writing_48 ?_
        refine gf_X5_47 (pc := 49) hX dX5_writing_49 ?_
        refine gf_X5_186 (pc := 52) hX dX5_writing_52 ?_
        refine V_iret (pc := 55) hX hR dX5_writing_55 ?_
        exact ⟨_, rfl, by rw [wrtO, if_pos (by omega), if_neg (by omega)]; exact PC_wr hCs hFk (hwe.2.2.trans (oI_of _).symm)⟩
      · refine V_aload_n (pc := 38) (j := 0) hX 0 rfl rfl dX5_writing_38 ?_
        refine gf_X5_47 (pc := 39) hX dX5_writing_39 ?_
        refine gf_X5_185 (pc := 42) hX dX5_writing_42 ?_
        refine V_goto (pc := 45) (off := 10) (tgt := 55) hX (by decide) dX5_writing_45 ?_
        refine V_iret (pc := 55) hX hR dX5_writing_55 ?_
        exact ⟨_, rfl, by rw [wrtO, if_pos (by omega), if_pos (by omega)]; exact PC_wr hCs hFk hwe.1⟩
    · refine V_aload_n (pc := 12) (j := 0) hX 0 rfl rfl dX5_writing_12 ?_
      refine V_sipush (pc := 13) (z := (-202)) hX (oI (-202)) (by decide) dX5_writing_13 ?_
      refine cVI1 (pc := 16) hX (c_X5_answer (v := -202) (by omega)) (by decide) st_X5_66 ix_0 rfl rfl rfl (Nat.le_of_ble_eq_true rfl) dX5_writing_16 ?_
      refine V_iret (pc := 19) hX hR dX5_writing_19 ?_
      exact ⟨_, rfl, by rw [wrtO, if_neg (by omega)]; exact PC_bad hCs⟩
theorem c_X5_mark {E : Le} {l : Launch} {D : Dt} {σ : AS} {a : Int} (r_a : Rg a) (hCs : Cst D σ) : ConIp E l yX5_mark cX5_mark 2 (some .int) 6 [.ref (E.1 (0, 0)), .int (oI a)] D (PubC D (markO σ a)) := by
  refine Con_of (by decide) (Nat.le_of_ble_eq_true rfl) ?_
  intro X hX hR hl; subst hl
  refine V_iload_n (pc := 0) (j := 1) hX 1 rfl rfl dX5_mark_0 ?_
  refine cSI1 (pc := 1) hX (c_X5_isArea (by omega)) (by decide) st_X5_63 (Nat.le_of_ble_eq_true rfl) dX5_mark_1 ?_
  refine B_if_ne (pc := 4) (tgt := 15) hX dX5_mark_4 (by decide) (fun h4 => ?_) (fun h4 => ?_)
  · have q4 := inB_t.mp h4
    refine V_aload_n (pc := 15) (j := 0) hX 0 rfl rfl dX5_mark_15 ?_
    refine gf_X5_47 (pc := 16) hX dX5_mark_16 ?_
    refine V_iconst (pc := 19) (z := (-1)) hX (oI (-1)) rfl dX5_mark_19 ?_
    refine cVV1 (pc := 20) hX (c_X3_begin (k := -1)) (by decide) st_X5_178 ix_18 rfl rfl rfl (Nat.le_of_ble_eq_true rfl) dX5_mark_20 ?_
    refine V_aload_n (pc := 23) (j := 0) hX 0 rfl rfl dX5_mark_23 ?_
    refine V_iload_n (pc := 24) (j := 1) hX 1 rfl rfl dX5_mark_24 ?_
    refine cVVp1 (pc := 25) hX (c_X5_writeOut (S := σ.1 a.toNat) (by omega) (hCs.ac (by omega)) (hCs.fit (by omega))) (by decide) st_X5_182 ix_0 rfl rfl rfl (Nat.le_of_ble_eq_true rfl) dX5_mark_25 (fun D25 h25 => ?_)
    obtain ⟨D1, hFk, rfl⟩ := h25
    have hwe := wr_fr (k := -1) (by omega) hFk (wrC (σ.1 a.toNat)) (by have := wrC_len (σ.1 a.toNat); omega)
    refine V_aload_n (pc := 28) (j := 0) hX 0 rfl rfl dX5_mark_28 ?_
    refine gf_X5_47 (pc := 29) hX dX5_mark_29 ?_
    refine gf_X5_189 (pc := 32) hX dX5_mark_32 ?_
    refine V_iret (pc := 35) hX hR dX5_mark_35 ?_
    exact ⟨_, rfl, by rw [markO, if_pos (by omega)]; exact PC_wr hCs hFk (hwe.2.1.trans (oI_of _).symm)⟩
  · have q4 := inB_f.mp h4
    refine V_aload_n (pc := 7) (j := 0) hX 0 rfl rfl dX5_mark_7 ?_
    refine V_sipush (pc := 8) (z := (-202)) hX (oI (-202)) (by decide) dX5_mark_8 ?_
    refine cVI1 (pc := 11) hX (c_X5_answer (v := -202) (by omega)) (by decide) st_X5_66 ix_0 rfl rfl rfl (Nat.le_of_ble_eq_true rfl) dX5_mark_11 ?_
    refine V_iret (pc := 14) hX hR dX5_mark_14 ?_
    exact ⟨_, rfl, by rw [markO, if_neg (by omega)]; exact PC_bad hCs⟩
theorem c_X5_cellsOfAll {E : Le} {l : Launch} {D : Dt} {σ : AS} (hCs : Cst D σ) : ConI E l yX5_cellsOfAll cX5_cellsOfAll 3 (some .int) 3 [.ref (E.1 (0, 0))] D (oI ((fb_sm (fun a => cntC (σ.1 a)) 5 : Nat) : Int)) D := by
  refine Con_of (by decide) (Nat.le_of_ble_eq_true rfl) ?_
  intro X hX hR hl; subst hl
  have loop : ∀ (m : Nat) (kq : Nat), kq ≤ 5 → 5 - kq < m → Vw E X 3 D 4 [(0, some (.ref (E.1 (0, 0)))), (1, some (.int (oI ((fb_sm (fun a => cntC (σ.1 a)) kq : Nat) : Int)))), (2, some (.int (oI (kq : Int))))] [] := by
    intro m
    induction m with
    | zero => intro kq g1 g2; omega
    | succ m ih =>
      intro kq g1 g2
      refine V_iload_n (pc := 4) (j := 2) hX 2 rfl rfl dX5_cellsOfAll_4 ?_
      refine V_iconst (pc := 5) (z := 5) hX (oI 5) rfl dX5_cellsOfAll_5 ?_
      refine Z_icmp_ge (pc := 6) (tgt := 27) hX (by omega) (by omega) dX5_cellsOfAll_6 (by decide) (fun h6 => ?_) (fun h6 => ?_)
      · refine V_iload_n (pc := 27) (j := 1) hX 1 rfl rfl dX5_cellsOfAll_27 ?_
        refine V_iret (pc := 28) hX hR dX5_cellsOfAll_28 ?_
        have eq5 : kq = 5 := by omega
        subst eq5
        exact ⟨rfl, rfl⟩
      · refine V_iload_n (pc := 9) (j := 1) hX 1 rfl rfl dX5_cellsOfAll_9 ?_
        refine V_aload_n (pc := 10) (j := 0) hX 0 rfl rfl dX5_cellsOfAll_10 ?_
        refine gf_X5_11 (pc := 11) hX dX5_cellsOfAll_11 ?_
        refine V_iload_n (pc := 14) (j := 2) hX 2 rfl rfl dX5_cellsOfAll_14 ?_
        refine zl_4 (pc := 15) hX (kq) (rfl) (by omega) dX5_cellsOfAll_15 ?_
        refine cVI0 (pc := 16) hX (c_X0_cells (S := σ.1 kq) (hCs.ac (by omega))) (by decide) st_X5_131 (ix_1 _) rfl rfl rfl (Nat.le_of_ble_eq_true rfl) dX5_cellsOfAll_16 ?_
        refine Z_iadd (pc := 19) hX dX5_cellsOfAll_19 ?_
        refine V_istore_n (pc := 20) (j := 1) hX 1 rfl (by decide) rfl dX5_cellsOfAll_20 ?_
        refine Z_iinc (pc := 21) hX 1 rfl rfl dX5_cellsOfAll_21 ?_
        refine V_goto (pc := 24) (off := (-20)) (tgt := 4) hX (by decide) dX5_cellsOfAll_24 ?_
        refine V_cut [(0, some (.ref (E.1 (0, 0)))), (1, some (.int (oI ((fb_sm (fun a => cntC (σ.1 a)) (kq + 1) : Nat) : Int)))), (2, some (.int (oI ((kq + 1 : Nat) : Int))))] ⟨rfl, congrArg (fun q => some (Value.int (oI q))) (by first | (show ((fb_sm (fun a => cntC (σ.1 a)) kq : Nat) : Int) + (cntC (σ.1 kq) : Int) = ((fb_sm (fun a => cntC (σ.1 a)) kq + cntC (σ.1 kq) : Nat) : Int); omega) | (show ((fb_sm (fun a => cntC (σ.1 a)) kq + cntC (σ.1 kq) : Nat) : Int) = ((fb_sm (fun a => cntC (σ.1 a)) kq : Nat) : Int) + (cntC (σ.1 kq) : Int); omega)), rfl, trivial⟩ ?_
        exact ih (kq + 1) (by omega) (by omega)
  refine V_iconst (pc := 0) (z := 0) hX (oI 0) rfl dX5_cellsOfAll_0 ?_
  refine V_istore_n (pc := 1) (j := 1) hX 1 rfl (by decide) rfl dX5_cellsOfAll_1 ?_
  refine V_iconst (pc := 2) (z := 0) hX (oI 0) rfl dX5_cellsOfAll_2 ?_
  refine V_istore_n (pc := 3) (j := 2) hX 2 rfl (by decide) rfl dX5_cellsOfAll_3 ?_
  refine V_cut [(0, some (.ref (E.1 (0, 0)))), (1, some (.int (oI ((0 : Nat) : Int)))), (2, some (.int (oI ((0 : Nat) : Int))))] ⟨rfl, rfl, rfl, trivial⟩ ?_
  exact loop 6 0 (by omega) (by omega)
theorem c_X5_told {E : Le} {l : Launch} {D : Dt} {σ : AS} {w : Int} (r_w : Rg w) (hCs : Cst D σ) : ConIp E l yX5_told cX5_told 2 (some .int) 4 [.ref (E.1 (0, 0)), .int (oI w)] D (PubC D (toldO σ w)) := by
  refine Con_of (by decide) (Nat.le_of_ble_eq_true rfl) ?_
  intro X hX hR hl; subst hl
  refine V_iload_n (pc := 0) (j := 1) hX 1 rfl rfl dX5_told_0 ?_
  by_cases h1_0 : w = 0
  · refine Z_tableIn (pc := 1) (tgt := 40) hX 0 h1_0 (by decide) (by decide) (by decide) dX5_told_1 rfl (by decide) ?_
    refine V_aload_n (pc := 40) (j := 0) hX 0 rfl rfl dX5_told_40 ?_
    refine gf_X5_51 (pc := 41) hX dX5_told_41 ?_
    refine V_iload_n (pc := 44) (j := 1) hX 1 rfl rfl dX5_told_44 ?_
    refine zl_19 (pc := 45) hX (w.toNat) (by omega) (by omega) dX5_told_45 ?_
    refine V_iret (pc := 46) hX hR dX5_told_46 ?_
    exact ⟨_, rfl, by rw [toldO, if_pos (by omega), toldV, if_pos (by omega)]; exact PC_lk hCs (LK.rf D) ((hCs.2.2.1 _ (by omega)).trans (oI_of _).symm)⟩
  by_cases h1_1 : w = 1
  · refine Z_tableIn (pc := 1) (tgt := 40) hX 1 h1_1 (by decide) (by decide) (by decide) dX5_told_1 rfl (by decide) ?_
    refine V_aload_n (pc := 40) (j := 0) hX 0 rfl rfl dX5_told_40 ?_
    refine gf_X5_51 (pc := 41) hX dX5_told_41 ?_
    refine V_iload_n (pc := 44) (j := 1) hX 1 rfl rfl dX5_told_44 ?_
    refine zl_19 (pc := 45) hX (w.toNat) (by omega) (by omega) dX5_told_45 ?_
    refine V_iret (pc := 46) hX hR dX5_told_46 ?_
    exact ⟨_, rfl, by rw [toldO, if_pos (by omega), toldV, if_pos (by omega)]; exact PC_lk hCs (LK.rf D) ((hCs.2.2.1 _ (by omega)).trans (oI_of _).symm)⟩
  by_cases h1_2 : w = 2
  · refine Z_tableIn (pc := 1) (tgt := 40) hX 2 h1_2 (by decide) (by decide) (by decide) dX5_told_1 rfl (by decide) ?_
    refine V_aload_n (pc := 40) (j := 0) hX 0 rfl rfl dX5_told_40 ?_
    refine gf_X5_51 (pc := 41) hX dX5_told_41 ?_
    refine V_iload_n (pc := 44) (j := 1) hX 1 rfl rfl dX5_told_44 ?_
    refine zl_19 (pc := 45) hX (w.toNat) (by omega) (by omega) dX5_told_45 ?_
    refine V_iret (pc := 46) hX hR dX5_told_46 ?_
    exact ⟨_, rfl, by rw [toldO, if_pos (by omega), toldV, if_pos (by omega)]; exact PC_lk hCs (LK.rf D) ((hCs.2.2.1 _ (by omega)).trans (oI_of _).symm)⟩
  by_cases h1_3 : w = 3
  · refine Z_tableIn (pc := 1) (tgt := 47) hX 3 h1_3 (by decide) (by decide) (by decide) dX5_told_1 rfl (by decide) ?_
    refine V_aload_n (pc := 47) (j := 0) hX 0 rfl rfl dX5_told_47 ?_
    refine gf_X5_40 (pc := 48) hX dX5_told_48 ?_
    refine gf_X5_168 (pc := 51) hX dX5_told_51 ?_
    refine V_oI (σ.2.2.1.1 : Int) hCs.2.2.2.1.1 ?_
    refine V_iret (pc := 54) hX hR dX5_told_54 ?_
    exact ⟨_, rfl, by rw [toldO, if_pos (by omega), toldV, if_neg (by omega), if_pos (by omega)]; exact PC_same hCs (LK.rf D)⟩
  by_cases h1_4 : w = 4
  · refine Z_tableIn (pc := 1) (tgt := 55) hX 4 h1_4 (by decide) (by decide) (by decide) dX5_told_1 rfl (by decide) ?_
    refine V_aload_n (pc := 55) (j := 0) hX 0 rfl rfl dX5_told_55 ?_
    refine gf_X5_33 (pc := 56) hX dX5_told_56 ?_
    refine gf_X5_119 (pc := 59) hX dX5_told_59 ?_
    refine V_oI (σ.2.2.2.1 : Int) hCs.2.2.2.2.1 ?_
    refine V_iret (pc := 62) hX hR dX5_told_62 ?_
    exact ⟨_, rfl, by rw [toldO, if_pos (by omega), toldV, if_neg (by omega), if_neg (by omega), if_pos (by omega)]; exact PC_same hCs (LK.rf D)⟩
  by_cases h1_5 : w = 5
  · refine Z_tableIn (pc := 1) (tgt := 63) hX 5 h1_5 (by decide) (by decide) (by decide) dX5_told_1 rfl (by decide) ?_
    refine V_aload_n (pc := 63) (j := 0) hX 0 rfl rfl dX5_told_63 ?_
    refine cVI0 (pc := 64) hX (c_X5_cellsOfAll (σ := σ) hCs) (by decide) st_X5_192 ix_0 rfl rfl rfl (Nat.le_of_ble_eq_true rfl) dX5_told_64 ?_
    refine V_iret (pc := 67) hX hR dX5_told_67 ?_
    exact ⟨_, rfl, by rw [toldO, if_pos (by omega), toldV, if_neg (by omega), if_neg (by omega), if_neg (by omega)]; exact PC_same hCs (LK.rf D)⟩
  refine Z_tableOut (pc := 1) (tgt := 68) hX (by omega) (by omega) dX5_told_1 (by decide) ?_
  refine V_aload_n (pc := 68) (j := 0) hX 0 rfl rfl dX5_told_68 ?_
  refine V_sipush (pc := 69) (z := (-202)) hX (oI (-202)) (by decide) dX5_told_69 ?_
  refine cVI1 (pc := 72) hX (c_X5_answer (v := -202) (by omega)) (by decide) st_X5_66 ix_0 rfl rfl rfl (Nat.le_of_ble_eq_true rfl) dX5_told_72 ?_
  refine V_iret (pc := 75) hX hR dX5_told_75 ?_
  exact ⟨_, rfl, by rw [toldO, if_neg (by omega)]; exact PC_bad hCs⟩
theorem c_X5_digest {E : Le} {l : Launch} {D : Dt} {σ : AS} (hCs : Cst D σ) : ConLp E l yX5_digest cX5_digest 4 (some .long) 7 [.ref (E.1 (0, 0))] D (PubLC D σ) := by
  refine Con_of (by decide) (Nat.le_of_ble_eq_true rfl) ?_
  intro X hX hR hl; subst hl
  have loop2 : ∀ (m : Nat) (k : Nat) (D1 : Dt), k ≤ 5 → Cst D1 σ → MKf D D1 → 5 - k < m → Vw E X 4 D1 32 [(0, some (.ref (E.1 (0, 0)))), (1, some (.long (dgR σ k))), (3, some (.int (oI (k : Int))))] [] := by
    intro m
    induction m with
    | zero => intro k D1 g1 g2 g3 g4; omega
    | succ m ih =>
      intro k D1 g1 g2 g3 g4
      refine V_iload_n (pc := 32) (j := 3) hX 3 rfl rfl dX5_digest_32 ?_
      refine V_iconst (pc := 33) (z := 5) hX (oI 5) rfl dX5_digest_33 ?_
      refine Z_icmp_ge (pc := 34) (tgt := 98) hX (by omega) (by omega) dX5_digest_34 (by decide) (fun h34 => ?_) (fun h34 => ?_)
      · refine V_lload_n (pc := 98) (j := 1) hX 1 rfl rfl dX5_digest_98 ?_
        refine V_lret (pc := 99) hX hR dX5_digest_99 ?_
        have eq5 : k = 5 := by omega
        subst eq5
        exact ⟨_, rfl, rfl, g2, g3⟩
      · refine V_ldc2 (pc := 37) hX (31) w_707 dX5_digest_37 ?_
        refine V_lload_n (pc := 40) (j := 1) hX 1 rfl rfl dX5_digest_40 ?_
        refine V_lmul (pc := 41) hX dX5_digest_41 ?_
        refine V_aload_n (pc := 42) (j := 0) hX 0 rfl rfl dX5_digest_42 ?_
        refine V_iload_n (pc := 43) (j := 3) hX 3 rfl rfl dX5_digest_43 ?_
        refine V_iconst (pc := 44) (z := 0) hX (oI 0) rfl dX5_digest_44 ?_
        refine cVIp2 (pc := 45) hX (c_X5_of (σ := σ) (a := (k : Int)) (w := 0) (by omega) (by omega) g2) (by decide) st_X5_202 ix_0 rfl rfl rfl (Nat.le_of_ble_eq_true rfl) dX5_digest_45 (fun r45 D45 h45 => ?_)
        obtain ⟨rfl, hs45, hm45⟩ := of_in h45 (by omega) (by omega)
        refine V_oI ((cntC (σ.1 k) : Nat) : Int) (by rw [ofV, if_pos rfl]) ?_
        refine V_i2l (pc := 48) hX dX5_digest_48 ?_
        refine V_ladd (pc := 49) hX dX5_digest_49 ?_
        refine V_lstore_n (pc := 50) (j := 1) hX 1 rfl (by decide) rfl dX5_digest_50 ?_
        refine V_ldc2 (pc := 51) hX (31) w_707 dX5_digest_51 ?_
        refine V_lload_n (pc := 54) (j := 1) hX 1 rfl rfl dX5_digest_54 ?_
        refine V_lmul (pc := 55) hX dX5_digest_55 ?_
        refine V_aload_n (pc := 56) (j := 0) hX 0 rfl rfl dX5_digest_56 ?_
        refine V_iload_n (pc := 57) (j := 3) hX 3 rfl rfl dX5_digest_57 ?_
        refine V_iconst (pc := 58) (z := 1) hX (oI 1) rfl dX5_digest_58 ?_
        refine cVIp2 (pc := 59) hX (c_X5_of (σ := σ) (a := (k : Int)) (w := 1) (by omega) (by omega) hs45) (by decide) st_X5_202 ix_0 rfl rfl rfl (Nat.le_of_ble_eq_true rfl) dX5_digest_59 (fun r59 D59 h59 => ?_)
        obtain ⟨rfl, hs59, hm59⟩ := of_in h59 (by omega) (by omega)
        refine V_oI ((nbC (σ.1 k) : Nat) : Int) (by rw [ofV, if_neg (by decide), if_pos rfl]) ?_
        refine V_i2l (pc := 62) hX dX5_digest_62 ?_
        refine V_ladd (pc := 63) hX dX5_digest_63 ?_
        refine V_lstore_n (pc := 64) (j := 1) hX 1 rfl (by decide) rfl dX5_digest_64 ?_
        refine V_ldc2 (pc := 65) hX (31) w_707 dX5_digest_65 ?_
        refine V_lload_n (pc := 68) (j := 1) hX 1 rfl rfl dX5_digest_68 ?_
        refine V_lmul (pc := 69) hX dX5_digest_69 ?_
        refine V_aload_n (pc := 70) (j := 0) hX 0 rfl rfl dX5_digest_70 ?_
        refine V_iload_n (pc := 71) (j := 3) hX 3 rfl rfl dX5_digest_71 ?_
        refine V_iconst (pc := 72) (z := 2) hX (oI 2) rfl dX5_digest_72 ?_
        refine cVIp2 (pc := 73) hX (c_X5_of (σ := σ) (a := (k : Int)) (w := 2) (by omega) (by omega) hs59) (by decide) st_X5_202 ix_0 rfl rfl rfl (Nat.le_of_ble_eq_true rfl) dX5_digest_73 (fun r73 D73 h73 => ?_)
        obtain ⟨rfl, hs73, hm73⟩ := of_in h73 (by omega) (by omega)
        refine V_oI ((nsC (σ.1 k) : Nat) : Int) (by rw [ofV, if_neg (by decide), if_neg (by decide), if_pos rfl]) ?_
        refine V_i2l (pc := 76) hX dX5_digest_76 ?_
        refine V_ladd (pc := 77) hX dX5_digest_77 ?_
        refine V_lstore_n (pc := 78) (j := 1) hX 1 rfl (by decide) rfl dX5_digest_78 ?_
        refine V_ldc2 (pc := 79) hX (31) w_707 dX5_digest_79 ?_
        refine V_lload_n (pc := 82) (j := 1) hX 1 rfl rfl dX5_digest_82 ?_
        refine V_lmul (pc := 83) hX dX5_digest_83 ?_
        refine V_aload_n (pc := 84) (j := 0) hX 0 rfl rfl dX5_digest_84 ?_
        refine V_iload_n (pc := 85) (j := 3) hX 3 rfl rfl dX5_digest_85 ?_
        refine cVIp1 (pc := 86) hX (c_X5_mark (σ := σ) (a := (k : Int)) (by omega) hs73) (by decide) st_X5_205 ix_0 rfl rfl rfl (Nat.le_of_ble_eq_true rfl) dX5_digest_86 (fun r86 D86 h86 => ?_)
        obtain ⟨rfl, hs86, hm86⟩ := mark_in h86 (by omega)
        refine V_i2l (pc := 89) hX dX5_digest_89 ?_
        refine V_ladd (pc := 90) hX dX5_digest_90 ?_
        refine V_lstore_n (pc := 91) (j := 1) hX 1 rfl (by decide) rfl dX5_digest_91 ?_
        refine Z_iinc (pc := 92) hX 1 rfl rfl dX5_digest_92 ?_
        refine V_goto (pc := 95) (off := (-63)) (tgt := 32) hX (by decide) dX5_digest_95 ?_
        refine V_cut [(0, some (.ref (E.1 (0, 0)))), (1, some (.long (dgR σ (k + 1)))), (3, some (.int (oI ((k + 1 : Nat) : Int))))] ⟨rfl, rfl, rfl, trivial⟩ ?_
        exact ih (k + 1) _ (by omega) hs86 ((((g3.tr hm45).tr hm59).tr hm73).tr hm86) (by omega)
  have loop : ∀ (m : Nat) (k : Nat) (D1 : Dt), k ≤ 6 → Cst D1 σ → MKf D D1 → 6 - k < m → Vw E X 4 D1 6 [(0, some (.ref (E.1 (0, 0)))), (1, some (.long (dgT σ k))), (3, some (.int (oI (k : Int))))] [] := by
    intro m
    induction m with
    | zero => intro k D1 g1 g2 g3 g4; omega
    | succ m ih =>
      intro k D1 g1 g2 g3 g4
      refine V_iload_n (pc := 6) (j := 3) hX 3 rfl rfl dX5_digest_6 ?_
      refine V_iconst (pc := 7) (z := 5) hX (oI 5) rfl dX5_digest_7 ?_
      refine Z_icmp_gt (pc := 8) (tgt := 30) hX (by omega) (by omega) dX5_digest_8 (by decide) (fun h8 => ?_) (fun h8 => ?_)
      · refine V_iconst (pc := 30) (z := 0) hX (oI 0) rfl dX5_digest_30 ?_
        refine V_istore_n (pc := 31) (j := 3) hX 3 rfl (by decide) rfl dX5_digest_31 ?_
        have eq6 : k = 6 := by omega
        subst eq6
        refine V_cut [(0, some (.ref (E.1 (0, 0)))), (1, some (.long (dgR σ 0))), (3, some (.int (oI ((0 : Nat) : Int))))] ⟨rfl, rfl, rfl, trivial⟩ ?_
        exact loop2 6 0 D1 (by omega) g2 g3 (by omega)
      · refine V_ldc2 (pc := 11) hX (31) w_707 dX5_digest_11 ?_
        refine V_lload_n (pc := 14) (j := 1) hX 1 rfl rfl dX5_digest_14 ?_
        refine V_lmul (pc := 15) hX dX5_digest_15 ?_
        refine V_aload_n (pc := 16) (j := 0) hX 0 rfl rfl dX5_digest_16 ?_
        refine V_iload_n (pc := 17) (j := 3) hX 3 rfl rfl dX5_digest_17 ?_
        refine cVIp1 (pc := 18) hX (c_X5_told (σ := σ) (w := (k : Int)) (by omega) g2) (by decide) st_X5_199 ix_0 rfl rfl rfl (Nat.le_of_ble_eq_true rfl) dX5_digest_18 (fun r18 D18 h18 => ?_)
        obtain ⟨rfl, hs18, hm18⟩ := told_in h18 (by omega)
        refine V_i2l (pc := 21) hX dX5_digest_21 ?_
        refine V_ladd (pc := 22) hX dX5_digest_22 ?_
        refine V_lstore_n (pc := 23) (j := 1) hX 1 rfl (by decide) rfl dX5_digest_23 ?_
        refine Z_iinc (pc := 24) hX 1 rfl rfl dX5_digest_24 ?_
        refine V_goto (pc := 27) (off := (-21)) (tgt := 6) hX (by decide) dX5_digest_27 ?_
        refine V_cut [(0, some (.ref (E.1 (0, 0)))), (1, some (.long (dgT σ (k + 1)))), (3, some (.int (oI ((k + 1 : Nat) : Int))))] ⟨rfl, rfl, rfl, trivial⟩ ?_
        exact ih (k + 1) _ (by omega) hs18 (g3.tr hm18) (by omega)
  refine V_ldc2 (pc := 0) hX (1979) w_706 dX5_digest_0 ?_
  refine V_lstore_n (pc := 3) (j := 1) hX 1 rfl (by decide) rfl dX5_digest_3 ?_
  refine V_iconst (pc := 4) (z := 0) hX (oI 0) rfl dX5_digest_4 ?_
  refine V_istore_n (pc := 5) (j := 3) hX 3 rfl (by decide) rfl dX5_digest_5 ?_
  refine V_cut [(0, some (.ref (E.1 (0, 0)))), (1, some (.long (dgT σ 0))), (3, some (.int (oI ((0 : Nat) : Int))))] ⟨rfl, rfl, rfl, trivial⟩ ?_
  exact loop 7 0 D (by omega) hCs (MKf.rf D) (by omega)
