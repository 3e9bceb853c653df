/-! THE CLASS: one sentence is done among the areas on trial -/
def PfQ (D : Dt) (G : Nat → Cl) (q : Int × (Nat → Cl)) (r : Int32) (D' : Dt) : Prop := r = oI q.1 ∧ (PtW D' ∧ raD D' = raD D ∧ rtD D' = rtD D) ∧ ArR D' (rtD D') q.2 ∧ ArR D' (raD D') G ∧ (∀ t, ¬ (5 ≤ t ∧ t ≤ 11) → D'.1 t = D.1 t) ∧ ∀ z, D'.2.1 21 z = D.2.1 21 z
theorem stA_1 (F : Nat → Cl) (T : Cl) (b : Nat) : (stA F T b).1 = mkV T := by
  rw [stA, mkV]
  cases fitC T <;> rfl
theorem stA_2 (F : Nat → Cl) (T : Cl) (b : Nat) : (stA F T b).2 = (if fitC T then setF F b T else F) := by
  rw [stA]
  cases fitC T <;> rfl
theorem LK.rows {D D1 : Dt} (hLk : LK D D1) : raD D1 = raD D ∧ rtD D1 = rtD D := by
  unfold raD rtD
  rw [hLk.2.1]
  exact ⟨rfl, rfl⟩
theorem Pf_keep {D D1 D2 : Dt} {F G : Nat → Cl} {T : Cl} {to : Nat} (hPt : PtW D) (hFa : ArR D (rtD D) F) (hGa : ArR D (raD D) G) (hLy : LyQ D T D1) (hto : to < 5) (hKp : KpD D1 (D1.2.2 0 1) to T D2) : PfQ D G (stA F T to) (oI (mkV T)) D2 := by
  have hPt1 := hLy.1.pt hPt
  have hRw := hLy.1.rows
  have hFa1 : ArR D1 (rtD D1) F := by rw [hRw.2]; exact hLy.1.ar hPt.2.2.2.2.2 hFa
  have hGa1 : ArR D1 (raD D1) G := by rw [hRw.1]; exact hLy.1.ar hPt.2.2.2.2.1 hGa
  have hRo := Kp_row (r0 := D1.2.2 0 1) (p := rtD D1) (q := raD D1) hPt1.symm rfl hto hFa1 hLy.md hKp
  have hOt := Kp_oth (r0 := D1.2.2 0 1) (p := rtD D1) (q := raD D1) hPt1.symm rfl hGa1 hKp
  have hRe := hKp.rw0
  refine ⟨by rw [stA_1], ⟨?_, hRe.1.trans hRw.1, hRe.2.trans hRw.2⟩, ?_, ?_, fun t ht => (hKp.1 t ht).trans (hLy.1.1 t ht), fun z => by rw [hKp.2.1]; exact hLy.1.2.2 21 z (by omega)⟩
  · unfold PtW; rw [hRe.1, hRe.2]; exact hRo.1.symm
  · rw [hRe.2, stA_2]; exact hRo.2
  · rw [hRe.1]; exact hOt
theorem Pf_no {D D1 : Dt} {F G : Nat → Cl} (hPt : PtW D) (hFa : ArR D (rtD D) F) (hGa : ArR D (raD D) G) (hLk : LK D D1) : PfQ D G (-203, F) (oI (-203)) D1 := by
  have hRw := hLk.rows
  refine ⟨rfl, ⟨hLk.pt hPt, hRw⟩, ?_, ?_, hLk.1, fun z => hLk.2.2 21 z (by omega)⟩
  · rw [hRw.2]; exact hLk.ar hPt.2.2.2.2.2 hFa
  · rw [hRw.1]; exact hLk.ar hPt.2.2.2.2.1 hGa
theorem LyQ.cg {D D1 : Dt} {T T2 : Cl} (hLy : LyQ D T D1) (hTT : ∀ i, i < 120 → ∀ j, j < 120 → T i j = T2 i j) : LyQ D T2 D1 := ⟨hLy.1, AR.congr hLy.2 hTT⟩
theorem mv_00 (A : Cl) : ∀ i, i < 120 → ∀ j, j < 120 → A i j = moveC 0 0 A i j := fun i hi j hj => by
  unfold moveC mvB mvI
  rw [decide_eq_true (by omega), Bool.true_and, show ((i : Int) - 0).toNat = i by omega, show ((j : Int) - 0).toNat = j by omega]
theorem st_em (F : Nat → Cl) (b : Nat) : stA F noC b = (0, setF F b (fun _ _ => false)) := by
  have hfe : fitC noC = true := fit_em
  have hce : cntC noC = 0 := cntC_z (fun _ _ _ _ => rfl)
  rw [stA, hfe, hce]; rfl
theorem SnS.nm {D : Dt} {k : Nat} {vs : List Int} (hnm : ∀ (i : Nat) (v : Int), vs[i]? = some v → D.1 17 (k * 6 + 2 + i) = oI v) (i : Nat) (hi : i < vs.length) : D.1 17 (k * 6 + 2 + i) = oI (vs.getD i 0) := by
  refine hnm i _ ?_
  rw [List.getD_eq_getElem?_getD, List.getElem?_eq_getElem hi]; rfl
theorem c_X5_perform {E : Le} {l : Launch} {D : Dt} {F G : Nat → Cl} {k ar w : Nat} {vs : List Int} (hk : k < 24) (hPt : PtW D) (hFa : ArR D (rtD D) F) (hGa : ArR D (raD D) G) (hSn : SnOK (ar, w, vs)) (hsa : D.1 17 (k * 6) = oI (ar : Int)) (hsw : D.1 17 (k * 6 + 1) = oI (w : Int)) (hnm : ∀ (i : Nat) (v : Int), vs[i]? = some v → D.1 17 (k * 6 + 2 + i) = oI v) : ConIp E l yX5_perform cX5_perform 7 (some .int) 6 [.ref (E.1 (0, 0)), .int (oI (k : Int))] D (PfQ D G (dnS F ar w vs)) := by
  have har : ar < 5 := hSn.1
  have hwr : w ≤ 11 := hSn.2.1
  refine Con_of (by decide) (Nat.le_of_ble_eq_true rfl) ?_
  intro X hX hR hl; subst hl
  refine V_aload_n (pc := 0) (j := 0) hX 0 rfl rfl dX5_perform_0 ?_
  refine gf_X5_40 (pc := 1) hX dX5_perform_1 ?_
  refine V_iload_n (pc := 4) (j := 1) hX 1 rfl rfl dX5_perform_4 ?_
  refine cVI1 (pc := 5) hX (c_X4_areaOf (k := k) hk) (by decide) st_X5_244 ix_15 rfl rfl rfl (Nat.le_of_ble_eq_true rfl) dX5_perform_5 ?_
  refine V_oI (ar : Int) hsa ?_
  refine V_istore_n (pc := 8) (j := 2) hX 2 rfl (by decide) rfl dX5_perform_8 ?_
  refine V_aload_n (pc := 9) (j := 0) hX 0 rfl rfl dX5_perform_9 ?_
  refine gf_X5_40 (pc := 10) hX dX5_perform_10 ?_
  refine V_iload_n (pc := 13) (j := 1) hX 1 rfl rfl dX5_perform_13 ?_
  refine V_iconst (pc := 14) (z := 0) hX (oI 0) rfl dX5_perform_14 ?_
  refine cVI2 (pc := 15) hX (c_X4_numberOf (k := k) (i := 0) hk (by decide)) (by decide) st_X5_247 ix_15 rfl rfl rfl (Nat.le_of_ble_eq_true rfl) dX5_perform_15 ?_
  refine V_istore_n (pc := 18) (j := 3) hX 3 rfl (by decide) rfl dX5_perform_18 ?_
  refine V_aload_n (pc := 19) (j := 0) hX 0 rfl rfl dX5_perform_19 ?_
  refine gf_X5_40 (pc := 20) hX dX5_perform_20 ?_
  refine V_iload_n (pc := 23) (j := 1) hX 1 rfl rfl dX5_perform_23 ?_
  refine cVI1 (pc := 24) hX (c_X4_wordOf (k := k) hk) (by decide) st_X5_250 ix_15 rfl rfl rfl (Nat.le_of_ble_eq_true rfl) dX5_perform_24 ?_
  refine V_oI (w : Int) hsw ?_
  refine V_istore (pc := 27) hX (by decide) rfl dX5_perform_27 ?_
  refine V_aload_n (pc := 29) (j := 0) hX 0 rfl rfl dX5_perform_29 ?_
  refine gf_X5_15 (pc := 30) hX dX5_perform_30 ?_
  refine V_iload_n (pc := 33) (j := 2) hX 2 rfl rfl dX5_perform_33 ?_
  refine zl_4 (pc := 34) hX (ar) (rfl) (by omega) dX5_perform_34 ?_
  refine V_astore (pc := 35) hX (by decide) rfl dX5_perform_35 ?_
  refine V_iconst (pc := 37) (z := 1) hX (oI 1) rfl dX5_perform_37 ?_
  refine V_istore (pc := 38) hX (by decide) rfl dX5_perform_38 ?_
  refine V_iload (pc := 40) hX rfl dX5_perform_40 ?_
  by_cases h42_0 : (w : Int) = 0
  · refine Z_tableIn (pc := 42) (tgt := 100) hX 0 h42_0 (by decide) (by decide) (by decide) dX5_perform_42 rfl (by decide) ?_
    have hwl : wArg (w : Int) = [(0, 4)] := by rw [wArg, if_pos (by omega)]
    have q0 : 0 < vs.length ∧ (0 : Int) ≤ vs.getD 0 0 ∧ vs.getD 0 0 ≤ 4 := hSn.at hwl 0 (by decide)
    refine V_aload_n (pc := 100) (j := 0) hX 0 rfl rfl dX5_perform_100 ?_
    refine gf_X5_19 (pc := 101) hX dX5_perform_101 ?_
    refine V_aload_n (pc := 104) (j := 0) hX 0 rfl rfl dX5_perform_104 ?_
    refine gf_X5_15 (pc := 105) hX dX5_perform_105 ?_
    refine V_iload_n (pc := 108) (j := 3) hX 3 rfl rfl dX5_perform_108 ?_
    refine V_oI (vs.getD 0 0) (SnS.nm hnm 0 q0.1) ?_
    refine zl_4 (pc := 109) hX ((vs.getD 0 0).toNat) (by omega) (by omega) dX5_perform_109 ?_
    refine cVVp1 (pc := 110) hX (c_X0_copy (A := F (vs.getD 0 0).toNat) (hPt.2.2.2.2.2 (vs.getD 0 0).toNat (by omega)) (hFa (vs.getD 0 0).toNat (by omega)).1) (by decide) st_X5_93 (ix_1 _) rfl rfl rfl (Nat.le_of_ble_eq_true rfl) dX5_perform_110 (fun D110 h110 => ?_)
    have hLy : LyQ D (moveC 0 0 (F (vs.getD 0 0).toNat)) D110 := (LyQ_st (LK.rf D) h110).cg (mv_00 _)
    have hdn : dnS F ar w vs = stA F (moveC 0 0 (F (vs.getD 0 0).toNat)) ar := by rw [dnS, if_pos (by omega)]
    refine V_goto (pc := 113) (off := 131) (tgt := 244) hX (by decide) dX5_perform_113 ?_
    refine V_iload (pc := 244) hX rfl dX5_perform_244 ?_
    refine Z_if_eq (pc := 246) (tgt := 261) hX (by omega) dX5_perform_246 (by decide) (fun h => absurd h (by decide)) (fun _ => ?_)
    refine V_aload_n (pc := 249) (j := 0) hX 0 rfl rfl dX5_perform_249 ?_
    refine V_aload_n (pc := 250) (j := 0) hX 0 rfl rfl dX5_perform_250 ?_
    refine gf_X5_15 (pc := 251) hX dX5_perform_251 ?_
    refine V_iload_n (pc := 254) (j := 2) hX 2 rfl rfl dX5_perform_254 ?_
    refine cVIp2 (pc := 255) hX (c_X5_keep (to := (ar : Int)) (by omega) hLy.md) (by decide) st_X5_74 ix_0 rfl rfl rfl (Nat.le_of_ble_eq_true rfl) dX5_perform_255 (fun r255 D255 h255 => ?_)
    obtain ⟨rfl, hKp⟩ := h255
    rw [Int.toNat_natCast] at hKp
    refine V_goto (pc := 258) (off := 6) (tgt := 264) hX (by decide) dX5_perform_258 ?_
    refine V_iret (pc := 264) hX hR dX5_perform_264 ?_
    exact ⟨_, rfl, by rw [hdn]; exact Pf_keep hPt hFa hGa hLy (by omega) hKp⟩
  by_cases h42_1 : (w : Int) = 1
  · refine Z_tableIn (pc := 42) (tgt := 116) hX 1 h42_1 (by decide) (by decide) (by decide) dX5_perform_42 rfl (by decide) ?_
    have hwl : wArg (w : Int) = [(-60, 59), (-60, 59), (1, 99), (1, 99)] := by rw [wArg, if_neg (by omega), if_pos (by omega)]
    have q0 : 0 < vs.length ∧ (-60 : Int) ≤ vs.getD 0 0 ∧ vs.getD 0 0 ≤ 59 := hSn.at hwl 0 (by decide)
    have q1 : 1 < vs.length ∧ (-60 : Int) ≤ vs.getD 1 0 ∧ vs.getD 1 0 ≤ 59 := hSn.at hwl 1 (by decide)
    have q2 : 2 < vs.length ∧ (1 : Int) ≤ vs.getD 2 0 ∧ vs.getD 2 0 ≤ 99 := hSn.at hwl 2 (by decide)
    have q3 : 3 < vs.length ∧ (1 : Int) ≤ vs.getD 3 0 ∧ vs.getD 3 0 ≤ 99 := hSn.at hwl 3 (by decide)
    refine V_aload_n (pc := 116) (j := 0) hX 0 rfl rfl dX5_perform_116 ?_
    refine V_iload_n (pc := 117) (j := 3) hX 3 rfl rfl dX5_perform_117 ?_
    refine V_oI (vs.getD 0 0) (SnS.nm hnm 0 q0.1) ?_
    refine V_aload_n (pc := 118) (j := 0) hX 0 rfl rfl dX5_perform_118 ?_
    refine gf_X5_40 (pc := 119) hX dX5_perform_119 ?_
    refine V_iload_n (pc := 122) (j := 1) hX 1 rfl rfl dX5_perform_122 ?_
    refine V_iconst (pc := 123) (z := 1) hX (oI 1) rfl dX5_perform_123 ?_
    refine cVI2 (pc := 124) hX (c_X4_numberOf (k := k) (i := 1) hk (by decide)) (by decide) st_X5_247 ix_15 rfl rfl rfl (Nat.le_of_ble_eq_true rfl) dX5_perform_124 ?_
    refine V_oI (vs.getD 1 0) (SnS.nm hnm 1 q1.1) ?_
    refine V_aload_n (pc := 127) (j := 0) hX 0 rfl rfl dX5_perform_127 ?_
    refine gf_X5_40 (pc := 128) hX dX5_perform_128 ?_
    refine V_iload_n (pc := 131) (j := 1) hX 1 rfl rfl dX5_perform_131 ?_
    refine V_iconst (pc := 132) (z := 2) hX (oI 2) rfl dX5_perform_132 ?_
    refine cVI2 (pc := 133) hX (c_X4_numberOf (k := k) (i := 2) hk (by decide)) (by decide) st_X5_247 ix_15 rfl rfl rfl (Nat.le_of_ble_eq_true rfl) dX5_perform_133 ?_
    refine V_oI (vs.getD 2 0) (SnS.nm hnm 2 q2.1) ?_
    refine V_aload_n (pc := 136) (j := 0) hX 0 rfl rfl dX5_perform_136 ?_
    refine gf_X5_40 (pc := 137) hX dX5_perform_137 ?_
    refine V_iload_n (pc := 140) (j := 1) hX 1 rfl rfl dX5_perform_140 ?_
    refine V_iconst (pc := 141) (z := 3) hX (oI 3) rfl dX5_perform_141 ?_
    refine cVI2 (pc := 142) hX (c_X4_numberOf (k := k) (i := 3) hk (by decide)) (by decide) st_X5_247 ix_15 rfl rfl rfl (Nat.le_of_ble_eq_true rfl) dX5_perform_142 ?_
    refine V_oI (vs.getD 3 0) (SnS.nm hnm 3 q3.1) ?_
    refine cVIp4 (pc := 145) hX (c_X5_layBox (by omega) (by omega) (by omega) (by omega)) (by decide) st_X5_70 ix_0 rfl rfl rfl (Nat.le_of_ble_eq_true rfl) dX5_perform_145 (fun r145 D145 h145 => ?_)
    obtain ⟨rfl, hLb⟩ := h145
    have hdn : dnS F ar w vs = (if 60 < vs.getD 0 0 + vs.getD 2 0 ∨ 60 < vs.getD 1 0 + vs.getD 3 0 then (-203, F) else stA F (boxC (vs.getD 0 0) (vs.getD 1 0) (vs.getD 2 0) (vs.getD 3 0)) ar) := by rw [dnS, if_neg (by omega), if_pos (by omega)]
    refine V_istore (pc := 148) hX (by decide) rfl dX5_perform_148 ?_
    refine V_goto (pc := 150) (off := 94) (tgt := 244) hX (by decide) dX5_perform_150 ?_
    refine V_iload (pc := 244) hX rfl dX5_perform_244 ?_
    refine B_if_eq (pc := 246) (tgt := 261) hX dX5_perform_246 (by decide) (fun h246 => ?_) (fun h246 => ?_)
    · refine V_sipush (pc := 261) (z := (-203)) hX (oI (-203)) (by decide) dX5_perform_261 ?_
      refine V_iret (pc := 264) hX hR dX5_perform_264 ?_
      exact ⟨_, rfl, by rw [hdn, if_pos (by have := of_decide_eq_false h246; omega)]; exact Pf_no hPt hFa hGa hLb.1⟩
    · have hLy : LyQ D (boxC (vs.getD 0 0) (vs.getD 1 0) (vs.getD 2 0) (vs.getD 3 0)) D145 := ⟨hLb.1, hLb.2 h246⟩
      refine V_aload_n (pc := 249) (j := 0) hX 0 rfl rfl dX5_perform_249 ?_
      refine V_aload_n (pc := 250) (j := 0) hX 0 rfl rfl dX5_perform_250 ?_
      refine gf_X5_15 (pc := 251) hX dX5_perform_251 ?_
      refine V_iload_n (pc := 254) (j := 2) hX 2 rfl rfl dX5_perform_254 ?_
      refine cVIp2 (pc := 255) hX (c_X5_keep (to := (ar : Int)) (by omega) hLy.md) (by decide) st_X5_74 ix_0 rfl rfl rfl (Nat.le_of_ble_eq_true rfl) dX5_perform_255 (fun r255 D255 h255 => ?_)
      obtain ⟨rfl, hKp⟩ := h255
      rw [Int.toNat_natCast] at hKp
      refine V_goto (pc := 258) (off := 6) (tgt := 264) hX (by decide) dX5_perform_258 ?_
      refine V_iret (pc := 264) hX hR dX5_perform_264 ?_
      exact ⟨_, rfl, by rw [hdn, if_neg (of_decide_eq_true h246)]; exact Pf_keep hPt hFa hGa hLy (by omega) hKp⟩
  by_cases h42_2 : (w : Int) = 2
  · refine Z_tableIn (pc := 42) (tgt := 153) hX 2 h42_2 (by decide) (by decide) (by decide) dX5_perform_42 rfl (by decide) ?_
    refine V_aload_n (pc := 153) (j := 0) hX 0 rfl rfl dX5_perform_153 ?_
    refine gf_X5_19 (pc := 154) hX dX5_perform_154 ?_
    refine cVVp0 (pc := 157) hX (c_X0_empty) (by decide) st_X5_208 (ix_1 _) rfl rfl rfl (Nat.le_of_ble_eq_true rfl) dX5_perform_157 (fun D157 h157 => ?_)
    have hLy : LyQ D noC D157 := LyQ_st (LK.rf D) h157
    have hdn : dnS F ar w vs = stA F noC ar := by rw [st_em, dnS, if_neg (by omega), if_neg (by omega), if_pos (by omega)]
    refine V_goto (pc := 160) (off := 84) (tgt := 244) hX (by decide) dX5_perform_160 ?_
    refine V_iload (pc := 244) hX rfl dX5_perform_244 ?_
    refine Z_if_eq (pc := 246) (tgt := 261) hX (by omega) dX5_perform_246 (by decide) (fun h => absurd h (by decide)) (fun _ => ?_)
    refine V_aload_n (pc := 249) (j := 0) hX 0 rfl rfl dX5_perform_249 ?_
    refine V_aload_n (pc := 250) (j := 0) hX 0 rfl rfl dX5_perform_250 ?_
    refine gf_X5_15 (pc := 251) hX dX5_perform_251 ?_
    refine V_iload_n (pc := 254) (j := 2) hX 2 rfl rfl dX5_perform_254 ?_
    refine cVIp2 (pc := 255) hX (c_X5_keep (to := (ar : Int)) (by omega) hLy.md) (by decide) st_X5_74 ix_0 rfl rfl rfl (Nat.le_of_ble_eq_true rfl) dX5_perform_255 (fun r255 D255 h255 => ?_)
    obtain ⟨rfl, hKp⟩ := h255
    rw [Int.toNat_natCast] at hKp
    refine V_goto (pc := 258) (off := 6) (tgt := 264) hX (by decide) dX5_perform_258 ?_
    refine V_iret (pc := 264) hX hR dX5_perform_264 ?_
    exact ⟨_, rfl, by rw [hdn]; exact Pf_keep hPt hFa hGa hLy (by omega) hKp⟩
  by_cases h42_3 : (w : Int) = 3
  · refine Z_tableIn (pc := 42) (tgt := 163) hX 3 h42_3 (by decide) (by decide) (by decide) dX5_perform_42 rfl (by decide) ?_
    have hwl : wArg (w : Int) = [(0, 4)] := by rw [wArg, if_pos (by omega)]
    have q0 : 0 < vs.length ∧ (0 : Int) ≤ vs.getD 0 0 ∧ vs.getD 0 0 ≤ 4 := hSn.at hwl 0 (by decide)
    refine V_aload_n (pc := 163) (j := 0) hX 0 rfl rfl dX5_perform_163 ?_
    refine gf_X5_19 (pc := 164) hX dX5_perform_164 ?_
    refine V_iload (pc := 167) hX rfl dX5_perform_167 ?_
    refine V_iconst (pc := 169) (z := 3) hX (oI 3) rfl dX5_perform_169 ?_
    refine Z_isub (pc := 170) hX dX5_perform_170 ?_
    refine V_aload (pc := 171) hX rfl dX5_perform_171 ?_
    refine V_aload_n (pc := 173) (j := 0) hX 0 rfl rfl dX5_perform_173 ?_
    refine gf_X5_15 (pc := 174) hX dX5_perform_174 ?_
    refine V_iload_n (pc := 177) (j := 3) hX 3 rfl rfl dX5_perform_177 ?_
    refine V_oI (vs.getD 0 0) (SnS.nm hnm 0 q0.1) ?_
    refine zl_4 (pc := 178) hX ((vs.getD 0 0).toNat) (by omega) (by omega) dX5_perform_178 ?_
    refine cVVp3 (pc := 179) hX (c_X0_combine (A := F ar) (B := F (vs.getD 0 0).toNat) (by omega) (hPt.2.2.2.2.2 ar (by omega)) (hPt.2.2.2.2.2 (vs.getD 0 0).toNat (by omega)) (hFa ar (by omega)).1 (hFa (vs.getD 0 0).toNat (by omega)).1) (by decide) st_X5_78 (ix_1 _) rfl rfl rfl (Nat.le_of_ble_eq_true rfl) dX5_perform_179 (fun D179 h179 => ?_)
    have hLy : LyQ D (mixC ((w : Int) - 3) (F ar) (F (vs.getD 0 0).toNat)) D179 := LyQ_st (LK.rf D) h179
    have hdn : dnS F ar w vs = stA F (mixC ((w : Int) - 3) (F ar) (F (vs.getD 0 0).toNat)) ar := by rw [dnS, if_neg (by omega), if_neg (by omega), if_neg (by omega), if_pos (by omega)]
    refine V_goto (pc := 182) (off := 62) (tgt := 244) hX (by decide) dX5_perform_182 ?_
    refine V_iload (pc := 244) hX rfl dX5_perform_244 ?_
    refine Z_if_eq (pc := 246) (tgt := 261) hX (by omega) dX5_perform_246 (by decide) (fun h => absurd h (by decide)) (fun _ => ?_)
    refine V_aload_n (pc := 249) (j := 0) hX 0 rfl rfl dX5_perform_249 ?_
    refine V_aload_n (pc := 250) (j := 0) hX 0 rfl rfl dX5_perform_250 ?_
    refine gf_X5_15 (pc := 251) hX dX5_perform_251 ?_
    refine V_iload_n (pc := 254) (j := 2) hX 2 rfl rfl dX5_perform_254 ?_
    refine cVIp2 (pc := 255) hX (c_X5_keep (to := (ar : Int)) (by omega) hLy.md) (by decide) st_X5_74 ix_0 rfl rfl rfl (Nat.le_of_ble_eq_true rfl) dX5_perform_255 (fun r255 D255 h255 => ?_)
    obtain ⟨rfl, hKp⟩ := h255
    rw [Int.toNat_natCast] at hKp
    refine V_goto (pc := 258) (off := 6) (tgt := 264) hX (by decide) dX5_perform_258 ?_
    refine V_iret (pc := 264) hX hR dX5_perform_264 ?_
    exact ⟨_, rfl, by rw [hdn]; exact Pf_keep hPt hFa hGa hLy (by omega) hKp⟩
  by_cases h42_4 : (w : Int) = 4
  · refine Z_tableIn (pc := 42) (tgt := 163) hX 4 h42_4 (by decide) (by decide) (by decide) dX5_perform_42 rfl (by decide) ?_
    have hwl : wArg (w : Int) = [(0, 4)] := by rw [wArg, if_pos (by omega)]
    have q0 : 0 < vs.length ∧ (0 : Int) ≤ vs.getD 0 0 ∧ vs.getD 0 0 ≤ 4 := hSn.at hwl 0 (by decide)
    refine V_aload_n (pc := 163) (j := 0) hX 0 rfl rfl dX5_perform_163 ?_
    refine gf_X5_19 (pc := 164) hX dX5_perform_164 ?_
    refine V_iload (pc := 167) hX rfl dX5_perform_167 ?_
    refine V_iconst (pc := 169) (z := 3) hX (oI 3) rfl dX5_perform_169 ?_
    refine Z_isub (pc := 170) hX dX5_perform_170 ?_
    refine V_aload (pc := 171) hX rfl dX5_perform_171 ?_
    refine V_aload_n (pc := 173) (j := 0) hX 0 rfl rfl dX5_perform_173 ?_
    refine gf_X5_15 (pc := 174) hX dX5_perform_174 ?_
    refine V_iload_n (pc := 177) (j := 3) hX 3 rfl rfl dX5_perform_177 ?_
    refine V_oI (vs.getD 0 0) (SnS.nm hnm 0 q0.1) ?_
    refine zl_4 (pc := 178) hX ((vs.getD 0 0).toNat) (by omega) (by omega) dX5_perform_178 ?_
    refine cVVp3 (pc := 179) hX (c_X0_combine (A := F ar) (B := F (vs.getD 0 0).toNat) (by omega) (hPt.2.2.2.2.2 ar (by omega)) (hPt.2.2.2.2.2 (vs.getD 0 0).toNat (by omega)) (hFa ar (by omega)).1 (hFa (vs.getD 0 0).toNat (by omega)).1) (by decide) st_X5_78 (ix_1 _) rfl rfl rfl (Nat.le_of_ble_eq_true rfl) dX5_perform_179 (fun D179 h179 => ?_)
    have hLy : LyQ D (mixC ((w : Int) - 3) (F ar) (F (vs.getD 0 0).toNat)) D179 := LyQ_st (LK.rf D) h179
    have hdn : dnS F ar w vs = stA F (mixC ((w : Int) - 3) (F ar) (F (vs.getD 0 0).toNat)) ar := by rw [dnS, if_neg (by omega), if_neg (by omega), if_neg (by omega), if_pos (by omega)]
    refine V_goto (pc := 182) (off := 62) (tgt := 244) hX (by decide) dX5_perform_182 ?_
    refine V_iload (pc := 244) hX rfl dX5_perform_244 ?_
    refine Z_if_eq (pc := 246) (tgt := 261) hX (by omega) dX5_perform_246 (by decide) (fun h => absurd h (by decide)) (fun _ => ?_)
    refine V_aload_n (pc := 249) (j := 0) hX 0 rfl rfl dX5_perform_249 ?_
    refine V_aload_n (pc := 250) (j := 0) hX 0 rfl rfl dX5_perform_250 ?_
    refine gf_X5_15 (pc := 251) hX dX5_perform_251 ?_
    refine V_iload_n (pc := 254) (j := 2) hX 2 rfl rfl dX5_perform_254 ?_
    refine cVIp2 (pc := 255) hX (c_X5_keep (to := (ar : Int)) (by omega) hLy.md) (by decide) st_X5_74 ix_0 rfl rfl rfl (Nat.le_of_ble_eq_true rfl) dX5_perform_255 (fun r255 D255 h255 => ?_)
    obtain ⟨rfl, hKp⟩ := h255
    rw [Int.toNat_natCast] at hKp
    refine V_goto (pc := 258) (off := 6) (tgt := 264) hX (by decide) dX5_perform_258 ?_
    refine V_iret (pc := 264) hX hR dX5_perform_264 ?_
    exact ⟨_, rfl, by rw [hdn]; exact Pf_keep hPt hFa hGa hLy (by omega) hKp⟩
  by_cases h42_5 : (w : Int) = 5
  · refine Z_tableIn (pc := 42) (tgt := 163) hX 5 h42_5 (by decide) (by decide) (by decide) dX5_perform_42 rfl (by decide) ?_
    have hwl : wArg (w : Int) = [(0, 4)] := by rw [wArg, if_pos (by omega)]
    have q0 : 0 < vs.length ∧ (0 : Int) ≤ vs.getD 0 0 ∧ vs.getD 0 0 ≤ 4 := hSn.at hwl 0 (by decide)
    refine V_aload_n (pc := 163) (j := 0) hX 0 rfl rfl dX5_perform_163 ?_
    refine gf_X5_19 (pc := 164) hX dX5_perform_164 ?_
    refine V_iload (pc := 167) hX rfl dX5_perform_167 ?_
    refine V_iconst (pc := 169) (z := 3) hX (oI 3) rfl dX5_perform_169 ?_
    refine Z_isub (pc := 170) hX dX5_perform_170 ?_
    refine V_aload (pc := 171) hX rfl dX5_perform_171 ?_
    refine V_aload_n (pc := 173) (j := 0) hX 0 rfl rfl dX5_perform_173 ?_
    refine gf_X5_15 (pc := 174) hX dX5_perform_174 ?_
    refine V_iload_n (pc := 177) (j := 3) hX 3 rfl rfl dX5_perform_177 ?_
    refine V_oI (vs.getD 0 0) (SnS.nm hnm 0 q0.1) ?_
    refine zl_4 (pc := 178) hX ((vs.getD 0 0).toNat) (by omega) (by omega) dX5_perform_178 ?_
    refine cVVp3 (pc := 179) hX (c_X0_combine (A := F ar) (B := F (vs.getD 0 0).toNat) (by omega) (hPt.2.2.2.2.2 ar (by omega)) (hPt.2.2.2.2.2 (vs.getD 0 0).toNat (by omega)) (hFa ar (by omega)).1 (hFa (vs.getD 0 0).toNat (by omega)).1) (by decide) st_X5_78 (ix_1 _) rfl rfl rfl (Nat.le_of_ble_eq_true rfl) dX5_perform_179 (fun D179 h179 => ?_)
    have hLy : LyQ D (mixC ((w : Int) - 3) (F ar) (F (vs.getD 0 0).toNat)) D179 := LyQ_st (LK.rf D) h179
    have hdn : dnS F ar w vs = stA F (mixC ((w : Int) - 3) (F ar) (F (vs.getD 0 0).toNat)) ar := by rw [dnS, if_neg (by omega), if_neg (by omega), if_neg (by omega), if_pos (by omega)]
    refine V_goto (pc := 182) (off := 62) (tgt := 244) hX (by decide) dX5_perform_182 ?_
    refine V_iload (pc := 244) hX rfl dX5_perform_244 ?_
    refine Z_if_eq (pc := 246) (tgt := 261) hX (by omega) dX5_perform_246 (by decide) (fun h => absurd h (by decide)) (fun _ => ?_)
    refine V_aload_n (pc := 249) (j := 0) hX 0 rfl rfl dX5_perform_249 ?_
    refine V_aload_n (pc := 250) (j := 0) hX 0 rfl rfl dX5_perform_250 ?_
    refine gf_X5_15 (pc := 251) hX dX5_perform_251 ?_
    refine V_iload_n (pc := 254) (j := 2) hX 2 rfl rfl dX5_perform_254 ?_
    refine cVIp2 (pc := 255) hX (c_X5_keep (to := (ar : Int)) (by omega) hLy.md) (by decide) st_X5_74 ix_0 rfl rfl rfl (Nat.le_of_ble_eq_true rfl) dX5_perform_255 (fun r255 D255 h255 => ?_)
    obtain ⟨rfl, hKp⟩ := h255
    rw [Int.toNat_natCast] at hKp
    refine V_goto (pc := 258) (off := 6) (tgt := 264) hX (by decide) dX5_perform_258 ?_
    refine V_iret (pc := 264) hX hR dX5_perform_264 ?_
    exact ⟨_, rfl, by rw [hdn]; exact Pf_keep hPt hFa hGa hLy (by omega) hKp⟩
  by_cases h42_6 : (w : Int) = 6
  · refine Z_tableIn (pc := 42) (tgt := 163) hX 6 h42_6 (by decide) (by decide) (by decide) dX5_perform_42 rfl (by decide) ?_
    have hwl : wArg (w : Int) = [(0, 4)] := by rw [wArg, if_pos (by omega)]
    have q0 : 0 < vs.length ∧ (0 : Int) ≤ vs.getD 0 0 ∧ vs.getD 0 0 ≤ 4 := hSn.at hwl 0 (by decide)
    refine V_aload_n (pc := 163) (j := 0) hX 0 rfl rfl dX5_perform_163 ?_
    refine gf_X5_19 (pc := 164) hX dX5_perform_164 ?_
    refine V_iload (pc := 167) hX rfl dX5_perform_167 ?_
    refine V_iconst (pc := 169) (z := 3) hX (oI 3) rfl dX5_perform_169 ?_
    refine Z_isub (pc := 170) hX dX5_perform_170 ?_
    refine V_aload (pc := 171) hX rfl dX5_perform_171 ?_
    refine V_aload_n (pc := 173) (j := 0) hX 0 rfl rfl dX5_perform_173 ?_
    refine gf_X5_15 (pc := 174) hX dX5_perform_174 ?_
    refine V_iload_n (pc := 177) (j := 3) hX 3 rfl rfl dX5_perform_177 ?_
    refine V_oI (vs.getD 0 0) (SnS.nm hnm 0 q0.1) ?_
    refine zl_4 (pc := 178) hX ((vs.getD 0 0).toNat) (by omega) (by omega) dX5_perform_178 ?_
    refine cVVp3 (pc := 179) hX (c_X0_combine (A := F ar) (B := F (vs.getD 0 0).toNat) (by omega) (hPt.2.2.2.2.2 ar (by omega)) (hPt.2.2.2.2.2 (vs.getD 0 0).toNat (by omega)) (hFa ar (by omega)).1 (hFa (vs.getD 0 0).toNat (by omega)).1) (by decide) st_X5_78 (ix_1 _) rfl rfl rfl (Nat.le_of_ble_eq_true rfl) dX5_perform_179 (fun D179 h179 => ?_)
    have hLy : LyQ D (mixC ((w : Int) - 3) (F ar) (F (vs.getD 0 0).toNat)) D179 := LyQ_st (LK.rf D) h179
    have hdn : dnS F ar w vs = stA F (mixC ((w : Int) - 3) (F ar) (F (vs.getD 0 0).toNat)) ar := by rw [dnS, if_neg (by omega), if_neg (by omega), if_neg (by omega), if_pos (by omega)]
    refine V_goto (pc := 182) (off := 62) (tgt := 244) hX (by decide) dX5_perform_182 ?_
    refine V_iload (pc := 244) hX rfl dX5_perform_244 ?_
    refine Z_if_eq (pc := 246) (tgt := 261) hX (by omega) dX5_perform_246 (by decide) (fun h => absurd h (by decide)) (fun _ => ?_)
    refine V_aload_n (pc := 249) (j := 0) hX 0 rfl rfl dX5_perform_249 ?_
    refine V_aload_n (pc := 250) (j := 0) hX 0 rfl rfl dX5_perform_250 ?_
    refine gf_X5_15 (pc := 251) hX dX5_perform_251 ?_
    refine V_iload_n (pc := 254) (j := 2) hX 2 rfl rfl dX5_perform_254 ?_
    refine cVIp2 (pc := 255) hX (c_X5_keep (to := (ar : Int)) (by omega) hLy.md) (by decide) st_X5_74 ix_0 rfl rfl rfl (Nat.le_of_ble_eq_true rfl) dX5_perform_255 (fun r255 D255 h255 => ?_)
    obtain ⟨rfl, hKp⟩ := h255
    rw [Int.toNat_natCast] at hKp
    refine V_goto (pc := 258) (off := 6) (tgt := 264) hX (by decide) dX5_perform_258 ?_
    refine V_iret (pc := 264) hX hR dX5_perform_264 ?_
    exact ⟨_, rfl, by rw [hdn]; exact Pf_keep hPt hFa hGa hLy (by omega) hKp⟩
  by_cases h42_7 : (w : Int) = 7
  · refine Z_tableIn (pc := 42) (tgt := 185) hX 7 h42_7 (by decide) (by decide) (by decide) dX5_perform_42 rfl (by decide) ?_
    have hwl : wArg (w : Int) = [(-99, 99), (-99, 99)] := by rw [wArg, if_neg (by omega), if_neg (by omega), if_pos (by omega)]
    have q0 : 0 < vs.length ∧ (-99 : Int) ≤ vs.getD 0 0 ∧ vs.getD 0 0 ≤ 99 := hSn.at hwl 0 (by decide)
    have q1 : 1 < vs.length ∧ (-99 : Int) ≤ vs.getD 1 0 ∧ vs.getD 1 0 ≤ 99 := hSn.at hwl 1 (by decide)
    refine V_aload_n (pc := 185) (j := 0) hX 0 rfl rfl dX5_perform_185 ?_
    refine V_aload (pc := 186) hX rfl dX5_perform_186 ?_
    refine V_iload_n (pc := 188) (j := 3) hX 3 rfl rfl dX5_perform_188 ?_
    refine V_oI (vs.getD 0 0) (SnS.nm hnm 0 q0.1) ?_
    refine V_aload_n (pc := 189) (j := 0) hX 0 rfl rfl dX5_perform_189 ?_
    refine gf_X5_40 (pc := 190) hX dX5_perform_190 ?_
    refine V_iload_n (pc := 193) (j := 1) hX 1 rfl rfl dX5_perform_193 ?_
    refine V_iconst (pc := 194) (z := 1) hX (oI 1) rfl dX5_perform_194 ?_
    refine cVI2 (pc := 195) hX (c_X4_numberOf (k := k) (i := 1) hk (by decide)) (by decide) st_X5_247 ix_15 rfl rfl rfl (Nat.le_of_ble_eq_true rfl) dX5_perform_195 ?_
    refine V_oI (vs.getD 1 0) (SnS.nm hnm 1 q1.1) ?_
    refine cVIp3 (pc := 198) hX (c_X5_layMoved (S := F ar) (hFa ar (by omega)).1 (hFa ar (by omega)).2 (by omega) (by omega)) (by decide) st_X5_82 ix_0 rfl rfl rfl (Nat.le_of_ble_eq_true rfl) dX5_perform_198 (fun r198 D198 h198 => ?_)
    obtain ⟨rfl, hLb⟩ := h198
    have hdn : dnS F ar w vs = (if mvOKB (vs.getD 0 0) (vs.getD 1 0) (F ar) then stA F (moveC (vs.getD 0 0) (vs.getD 1 0) (F ar)) ar else (-203, F)) := by rw [dnS, if_neg (by omega), if_neg (by omega), if_neg (by omega), if_neg (by omega), if_pos (by omega)]
    refine V_istore (pc := 201) hX (by decide) rfl dX5_perform_201 ?_
    refine V_goto (pc := 203) (off := 41) (tgt := 244) hX (by decide) dX5_perform_203 ?_
    refine V_iload (pc := 244) hX rfl dX5_perform_244 ?_
    refine B_if_eq (pc := 246) (tgt := 261) hX dX5_perform_246 (by decide) (fun h246 => ?_) (fun h246 => ?_)
    · refine V_sipush (pc := 261) (z := (-203)) hX (oI (-203)) (by decide) dX5_perform_261 ?_
      refine V_iret (pc := 264) hX hR dX5_perform_264 ?_
      exact ⟨_, rfl, by rw [hdn, if_neg (by rw [h246]; decide)]; exact Pf_no hPt hFa hGa hLb.1⟩
    · have hLy : LyQ D (moveC (vs.getD 0 0) (vs.getD 1 0) (F ar)) D198 := ⟨hLb.1, hLb.2 h246⟩
      refine V_aload_n (pc := 249) (j := 0) hX 0 rfl rfl dX5_perform_249 ?_
      refine V_aload_n (pc := 250) (j := 0) hX 0 rfl rfl dX5_perform_250 ?_
      refine gf_X5_15 (pc := 251) hX dX5_perform_251 ?_
      refine V_iload_n (pc := 254) (j := 2) hX 2 rfl rfl dX5_perform_254 ?_
      refine cVIp2 (pc := 255) hX (c_X5_keep (to := (ar : Int)) (by omega) hLy.md) (by decide) st_X5_74 ix_0 rfl rfl rfl (Nat.le_of_ble_eq_true rfl) dX5_perform_255 (fun r255 D255 h255 => ?_)
      obtain ⟨rfl, hKp⟩ := h255
      rw [Int.toNat_natCast] at hKp
      refine V_goto (pc := 258) (off := 6) (tgt := 264) hX (by decide) dX5_perform_258 ?_
      refine V_iret (pc := 264) hX hR dX5_perform_264 ?_
      exact ⟨_, rfl, by rw [hdn, if_pos h246]; exact Pf_keep hPt hFa hGa hLy (by omega) hKp⟩
  by_cases h42_8 : (w : Int) = 8
  · refine Z_tableIn (pc := 42) (tgt := 206) hX 8 h42_8 (by decide) (by decide) (by decide) dX5_perform_42 rfl (by decide) ?_
    have hwl : wArg (w : Int) = [(1, 9)] := by rw [wArg, if_neg (by omega), if_neg (by omega), if_neg (by omega), if_pos (by omega)]
    have q0 : 0 < vs.length ∧ (1 : Int) ≤ vs.getD 0 0 ∧ vs.getD 0 0 ≤ 9 := hSn.at hwl 0 (by decide)
    refine V_aload_n (pc := 206) (j := 0) hX 0 rfl rfl dX5_perform_206 ?_
    refine V_aload (pc := 207) hX rfl dX5_perform_207 ?_
    refine V_iload_n (pc := 209) (j := 3) hX 3 rfl rfl dX5_perform_209 ?_
    refine V_oI (vs.getD 0 0) (SnS.nm hnm 0 q0.1) ?_
    refine cVVp2 (pc := 210) hX (c_X5_layGrown (S := F ar) (hPt.2.2.2.2.2 ar (by omega)) (hFa ar (by omega)).1 (by omega)) (by decide) st_X5_86 ix_0 rfl rfl rfl (Nat.le_of_ble_eq_true rfl) dX5_perform_210 (fun D210 h210 => ?_)
    have hLy : LyQ D (growC (vs.getD 0 0) (F ar)) D210 := h210
    have hdn : dnS F ar w vs = stA F (growC (vs.getD 0 0) (F ar)) ar := by rw [dnS, if_neg (by omega), if_neg (by omega), if_neg (by omega), if_neg (by omega), if_neg (by omega), if_pos (by omega), if_pos (by omega)]
    refine V_goto (pc := 213) (off := 31) (tgt := 244) hX (by decide) dX5_perform_213 ?_
    refine V_iload (pc := 244) hX rfl dX5_perform_244 ?_
    refine Z_if_eq (pc := 246) (tgt := 261) hX (by omega) dX5_perform_246 (by decide) (fun h => absurd h (by decide)) (fun _ => ?_)
    refine V_aload_n (pc := 249) (j := 0) hX 0 rfl rfl dX5_perform_249 ?_
    refine V_aload_n (pc := 250) (j := 0) hX 0 rfl rfl dX5_perform_250 ?_
    refine gf_X5_15 (pc := 251) hX dX5_perform_251 ?_
    refine V_iload_n (pc := 254) (j := 2) hX 2 rfl rfl dX5_perform_254 ?_
    refine cVIp2 (pc := 255) hX (c_X5_keep (to := (ar : Int)) (by omega) hLy.md) (by decide) st_X5_74 ix_0 rfl rfl rfl (Nat.le_of_ble_eq_true rfl) dX5_perform_255 (fun r255 D255 h255 => ?_)
    obtain ⟨rfl, hKp⟩ := h255
    rw [Int.toNat_natCast] at hKp
    refine V_goto (pc := 258) (off := 6) (tgt := 264) hX (by decide) dX5_perform_258 ?_
    refine V_iret (pc := 264) hX hR dX5_perform_264 ?_
    exact ⟨_, rfl, by rw [hdn]; exact Pf_keep hPt hFa hGa hLy (by omega) hKp⟩
  by_cases h42_9 : (w : Int) = 9
  · refine Z_tableIn (pc := 42) (tgt := 216) hX 9 h42_9 (by decide) (by decide) (by decide) dX5_perform_42 rfl (by decide) ?_
    have hwl : wArg (w : Int) = [(1, 9)] := by rw [wArg, if_neg (by omega), if_neg (by omega), if_neg (by omega), if_pos (by omega)]
    have q0 : 0 < vs.length ∧ (1 : Int) ≤ vs.getD 0 0 ∧ vs.getD 0 0 ≤ 9 := hSn.at hwl 0 (by decide)
    refine V_aload_n (pc := 216) (j := 0) hX 0 rfl rfl dX5_perform_216 ?_
    refine V_aload (pc := 217) hX rfl dX5_perform_217 ?_
    refine V_iload_n (pc := 219) (j := 3) hX 3 rfl rfl dX5_perform_219 ?_
    refine V_oI (vs.getD 0 0) (SnS.nm hnm 0 q0.1) ?_
    refine Z_ineg (pc := 220) hX dX5_perform_220 ?_
    refine cVVp2 (pc := 221) hX (c_X5_layGrown (S := F ar) (hPt.2.2.2.2.2 ar (by omega)) (hFa ar (by omega)).1 (by omega)) (by decide) st_X5_86 ix_0 rfl rfl rfl (Nat.le_of_ble_eq_true rfl) dX5_perform_221 (fun D221 h221 => ?_)
    have hLy : LyQ D (growC (-vs.getD 0 0) (F ar)) D221 := h221
    have hdn : dnS F ar w vs = stA F (growC (-vs.getD 0 0) (F ar)) ar := by rw [dnS, if_neg (by omega), if_neg (by omega), if_neg (by omega), if_neg (by omega), if_neg (by omega), if_pos (by omega), if_neg (by omega)]
    refine V_goto (pc := 224) (off := 20) (tgt := 244) hX (by decide) dX5_perform_224 ?_
    refine V_iload (pc := 244) hX rfl dX5_perform_244 ?_
    refine Z_if_eq (pc := 246) (tgt := 261) hX (by omega) dX5_perform_246 (by decide) (fun h => absurd h (by decide)) (fun _ => ?_)
    refine V_aload_n (pc := 249) (j := 0) hX 0 rfl rfl dX5_perform_249 ?_
    refine V_aload_n (pc := 250) (j := 0) hX 0 rfl rfl dX5_perform_250 ?_
    refine gf_X5_15 (pc := 251) hX dX5_perform_251 ?_
    refine V_iload_n (pc := 254) (j := 2) hX 2 rfl rfl dX5_perform_254 ?_
    refine cVIp2 (pc := 255) hX (c_X5_keep (to := (ar : Int)) (by omega) hLy.md) (by decide) st_X5_74 ix_0 rfl rfl rfl (Nat.le_of_ble_eq_true rfl) dX5_perform_255 (fun r255 D255 h255 => ?_)
    obtain ⟨rfl, hKp⟩ := h255
    rw [Int.toNat_natCast] at hKp
    refine V_goto (pc := 258) (off := 6) (tgt := 264) hX (by decide) dX5_perform_258 ?_
    refine V_iret (pc := 264) hX hR dX5_perform_264 ?_
    exact ⟨_, rfl, by rw [hdn]; exact Pf_keep hPt hFa hGa hLy (by omega) hKp⟩
  by_cases h42_10 : (w : Int) = 10
  · refine Z_tableIn (pc := 42) (tgt := 227) hX 10 h42_10 (by decide) (by decide) (by decide) dX5_perform_42 rfl (by decide) ?_
    refine V_aload_n (pc := 227) (j := 0) hX 0 rfl rfl dX5_perform_227 ?_
    refine V_aload (pc := 228) hX rfl dX5_perform_228 ?_
    refine V_iconst (pc := 230) (z := 0) hX (oI 0) rfl dX5_perform_230 ?_
    refine cVVp2 (pc := 231) hX (c_X5_layTurned (S := F ar) (way := 0) (hFa ar (by omega)).1 (hFa ar (by omega)).2 (by omega)) (by decide) st_X5_90 ix_0 rfl rfl rfl (Nat.le_of_ble_eq_true rfl) dX5_perform_231 (fun D231 h231 => ?_)
    have hLy : LyQ D (flipC 0 (F ar)) D231 := h231
    have hdn : dnS F ar w vs = stA F (flipC 0 (F ar)) ar := by rw [dnS, if_neg (by omega), if_neg (by omega), if_neg (by omega), if_neg (by omega), if_neg (by omega), if_neg (by omega), if_pos (by omega)]
    refine V_goto (pc := 234) (off := 10) (tgt := 244) hX (by decide) dX5_perform_234 ?_
    refine V_iload (pc := 244) hX rfl dX5_perform_244 ?_
    refine Z_if_eq (pc := 246) (tgt := 261) hX (by omega) dX5_perform_246 (by decide) (fun h => absurd h (by decide)) (fun _ => ?_)
    refine V_aload_n (pc := 249) (j := 0) hX 0 rfl rfl dX5_perform_249 ?_
    refine V_aload_n (pc := 250) (j := 0) hX 0 rfl rfl dX5_perform_250 ?_
    refine gf_X5_15 (pc := 251) hX dX5_perform_251 ?_
    refine V_iload_n (pc := 254) (j := 2) hX 2 rfl rfl dX5_perform_254 ?_
    refine cVIp2 (pc := 255) hX (c_X5_keep (to := (ar : Int)) (by omega) hLy.md) (by decide) st_X5_74 ix_0 rfl rfl rfl (Nat.le_of_ble_eq_true rfl) dX5_perform_255 (fun r255 D255 h255 => ?_)
    obtain ⟨rfl, hKp⟩ := h255
    rw [Int.toNat_natCast] at hKp
    refine V_goto (pc := 258) (off := 6) (tgt := 264) hX (by decide) dX5_perform_258 ?_
    refine V_iret (pc := 264) hX hR dX5_perform_264 ?_
    exact ⟨_, rfl, by rw [hdn]; exact Pf_keep hPt hFa hGa hLy (by omega) hKp⟩
  refine Z_tableOut (pc := 42) (tgt := 237) hX (by omega) (by omega) dX5_perform_42 (by decide) ?_
  refine V_aload_n (pc := 237) (j := 0) hX 0 rfl rfl dX5_perform_237 ?_
  refine V_aload (pc := 238) hX rfl dX5_perform_238 ?_
  refine V_iconst (pc := 240) (z := 2) hX (oI 2) rfl dX5_perform_240 ?_
  refine cVVp2 (pc := 241) hX (c_X5_layTurned (S := F ar) (way := 2) (hFa ar (by omega)).1 (hFa ar (by omega)).2 (by omega)) (by decide) st_X5_90 ix_0 rfl rfl rfl (Nat.le_of_ble_eq_true rfl) dX5_perform_241 (fun D241 h241 => ?_)
  have hLy : LyQ D (flipC 2 (F ar)) D241 := h241
  have hdn : dnS F ar w vs = stA F (flipC 2 (F ar)) ar := by rw [dnS, if_neg (by omega), if_neg (by omega), if_neg (by omega), if_neg (by omega), if_neg (by omega), if_neg (by omega), if_neg (by omega)]
  refine V_iload (pc := 244) hX rfl dX5_perform_244 ?_
  refine Z_if_eq (pc := 246) (tgt := 261) hX (by omega) dX5_perform_246 (by decide) (fun h => absurd h (by decide)) (fun _ => ?_)
  refine V_aload_n (pc := 249) (j := 0) hX 0 rfl rfl dX5_perform_249 ?_
  refine V_aload_n (pc := 250) (j := 0) hX 0 rfl rfl dX5_perform_250 ?_
  refine gf_X5_15 (pc := 251) hX dX5_perform_251 ?_
  refine V_iload_n (pc := 254) (j := 2) hX 2 rfl rfl dX5_perform_254 ?_
  refine cVIp2 (pc := 255) hX (c_X5_keep (to := (ar : Int)) (by omega) hLy.md) (by decide) st_X5_74 ix_0 rfl rfl rfl (Nat.le_of_ble_eq_true rfl) dX5_perform_255 (fun r255 D255 h255 => ?_)
  obtain ⟨rfl, hKp⟩ := h255
  rw [Int.toNat_natCast] at hKp
  refine V_goto (pc := 258) (off := 6) (tgt := 264) hX (by decide) dX5_perform_258 ?_
  refine V_iret (pc := 264) hX hR dX5_perform_264 ?_
  exact ⟨_, rfl, by rw [hdn]; exact Pf_keep hPt hFa hGa hLy (by omega) hKp⟩
