/-! THE CLASS: all sentences are done -/
theorem dn_rg (F : Nat → Cl) (ar w : Nat) (vs : List Int) : -204 ≤ (dnS F ar w vs).1 ∧ (dnS F ar w vs).1 ≤ 14400 := by
  have hst : ∀ T, -204 ≤ (stA F T ar).1 ∧ (stA F T ar).1 ≤ 14400 := fun T => by rw [stA_1]; exact mkV_rg T
  have hno : -204 ≤ ((-203 : Int), F).1 ∧ ((-203 : Int), F).1 ≤ 14400 := by
    show (-204 : Int) ≤ -203 ∧ (-203 : Int) ≤ 14400
    omega
  have hem : -204 ≤ ((0 : Int), setF F ar (fun _ _ => false)).1 ∧ ((0 : Int), setF F ar (fun _ _ => false)).1 ≤ 14400 := by
    show (-204 : Int) ≤ 0 ∧ (0 : Int) ≤ 14400
    omega
  unfold dnS
  repeat' split
  all_goals first | exact hst _ | exact hno | exact hem
theorem CRs.ds {D D4 D5 : Dt} {σ : AS} (hRs : CRs D σ) (hPk : PkK D D4) (hTg : ∀ t, ¬ (5 ≤ t ∧ t ≤ 11) → D5.1 t = D4.1 t) : CRs D5 σ :=
  ⟨fun kk0 hkk => by rw [hTg 19 (by omega), hPk.1 19 (by decide) (by decide)]; exact hRs.1 kk0 hkk, ⟨by rw [hTg 15 (by omega), hPk.2.1 1 (by omega)]; exact hRs.2.1.1, hRs.2.1.2.1, fun kk0 hkk => by rw [hTg 16 (by omega), hPk.1 16 (by decide) (by decide)]; exact hRs.2.1.2.2 kk0 hkk⟩, hRs.2.2.fr (fun t ht => by rw [hTg t (by omega), hPk.1 t (by omega) (by omega)])⟩
theorem MKf_ds {D D4 D5 : Dt} (hPk : PkK D D4) (hTg : ∀ t, ¬ (5 ≤ t ∧ t ≤ 11) → D5.1 t = D4.1 t) (hLz : ∀ z, D5.2.1 21 z = D4.2.1 21 z) : MKf D D5 := ⟨fun t ht => by rw [hTg t (by omega), hPk.1 t (by omega) (by omega)], fun z => by rw [hLz z, hPk.2.2]⟩
theorem PC_pk {D D4 : Dt} {σ : AS} {v : Int} {r : Int32} (hCs : Cst D σ) (hPk : PkK D D4) (hrv : r = oI v) : PubC D (v, σ) r D4 :=
  ⟨hrv, hCs.ch rfl hPk.2.2 (hCs.2.2.ds hPk (fun _ _ => rfl)), MKf_ds hPk (fun _ _ => rfl) (fun _ => rfl)⟩
def CpI (D4 : Dt) (σ : AS) (k : Nat) (D1 : Dt) : Prop := PtW D1 ∧ ArR D1 (raD D1) σ.1 ∧ (∀ a, a < k → AC D1 (D1.2.2 (rtD D1) a) (σ.1 a)) ∧ D1.1 = D4.1 ∧ ∀ z, D1.2.1 21 z = D4.2.1 21 z
theorem CpI.st {D4 D1 D2 : Dt} {σ : AS} {k : Nat} (hCp : CpI D4 σ k D1) (hk : k < 5) (hcp : Az (D1.2.2 (rtD D1) k) D1 D2 ∧ AC D2 (D1.2.2 (rtD D1) k) (σ.1 k)) : CpI D4 σ (k + 1) D2 := by
  obtain ⟨hPt, hAr, hTr, hDd, hLz⟩ := hCp
  obtain ⟨hAz, hAk⟩ := hcp
  have hRa : raD D2 = raD D1 := by unfold raD; rw [hAz.2.1]
  have hRt : rtD D2 = rtD D1 := by unfold rtD; rw [hAz.2.1]
  refine ⟨?_, ?_, ?_, hAz.1.trans hDd, fun zz0 => (hAz.2.2 21 zz0 (by omega)).trans (hLz zz0)⟩
  · unfold PtW; rw [hRa, hRt, hAz.2.1]; exact hPt
  · intro aa0 haa
    rw [hRa, hAz.2.1]
    exact ⟨hAz.ac (hPt.2.2.2.1 aa0 haa k hk) (hAr aa0 haa).1, (hAr aa0 haa).2⟩
  · intro aa0 haa
    rw [hRt, hAz.2.1]
    by_cases hcc : aa0 = k
    · rw [hcc]; exact hAk
    · exact hAz.ac (fun hq0 => hcc (hPt.2.2.1 aa0 (by omega) k hk hq0)) (hTr aa0 (by omega))
def RnI (D4 : Dt) (σ : AS) (Ls : List Sn) (k : Nat) (F : Nat → Cl) (D1 : Dt) : Prop := PtW D1 ∧ ArR D1 (rtD D1) F ∧ ArR D1 (raD D1) σ.1 ∧ (∀ t, ¬ (5 ≤ t ∧ t ≤ 11) → D1.1 t = D4.1 t) ∧ (∀ z, D1.2.1 21 z = D4.2.1 21 z) ∧ rnA F k (Ls.drop k) = rnA σ.1 0 Ls
theorem CpI.rn {D4 D1 : Dt} {σ : AS} {k : Nat} (hCp : CpI D4 σ k D1) (hk : k = 5) (Ls : List Sn) : RnI D4 σ Ls 0 σ.1 D1 := by
  obtain ⟨hPt, hAr, hTr, hDd, hLz⟩ := hCp
  exact ⟨hPt, fun aa0 haa => ⟨hTr aa0 (by omega), (hAr aa0 haa).2⟩, hAr, fun t _ => by rw [hDd], hLz, by rw [List.drop_zero]⟩
theorem RnI.cons {D4 D1 : Dt} {σ : AS} {Ls : List Sn} {k : Nat} {F : Nat → Cl} (hRn : RnI D4 σ Ls k F D1) (hk : k < Ls.length) : ∃ (ar w : Nat) (vs : List Int), Ls[k]? = some (ar, w, vs) ∧ rnA F k ((ar, w, vs) :: Ls.drop (k + 1)) = rnA σ.1 0 Ls := by
  have hdr := hRn.2.2.2.2.2
  rw [List.drop_eq_getElem_cons hk] at hdr
  exact ⟨(Ls[k]'hk).1, (Ls[k]'hk).2.1, (Ls[k]'hk).2.2, List.getElem?_eq_getElem hk, hdr⟩
theorem RnI.nx {D4 D1 D2 : Dt} {σ : AS} {Ls : List Sn} {k ar w : Nat} {vs : List Int} {F : Nat → Cl} {r : Int32} (hRn : RnI D4 σ Ls k F D1) (hrn : rnA F k ((ar, w, vs) :: Ls.drop (k + 1)) = rnA σ.1 0 Ls) (hge : ¬ (dnS F ar w vs).1 < 0) (hPf : PfQ D1 σ.1 (dnS F ar w vs) r D2) : RnI D4 σ Ls (k + 1) (dnS F ar w vs).2 D2 := by
  obtain ⟨-, hPfa, hPfb, hPfc, hPfd, hPfe⟩ := hPf
  refine ⟨hPfa.1, hPfb, hPfc, fun t ht => (hPfd t ht).trans (hRn.2.2.2.1 t ht), fun zz0 => (hPfe zz0).trans (hRn.2.2.2.2.1 zz0), ?_⟩
  rw [rnA, if_neg hge] at hrn
  exact hrn
theorem PC_neg {D D1 D2 D4 : Dt} {σ : AS} {Ls : List Sn} {k ar w : Nat} {vs : List Int} {F : Nat → Cl} {r : Int32} (hCs : Cst D σ) (hPk : PkK D D4) (hpa : prsA σ.2.2.1 = .ok Ls) (hRn : RnI D4 σ Ls k F D1) (hrn : rnA F k ((ar, w, vs) :: Ls.drop (k + 1)) = rnA σ.1 0 Ls) (hneg : (dnS F ar w vs).1 < 0) (hPf : PfQ D1 σ.1 (dnS F ar w vs) r D2) : PubC D (doesO σ) (oI (dnS F ar w vs).1) (rU D2 19 (ansS (D2.1 19) (dnS F ar w vs).1)) := by
  obtain ⟨-, hPfa, hPfb, hPfc, hPfd, hPfe⟩ := hPf
  have hdo : doesO σ = ((dnS F ar w vs).1, refA σ (dnS F ar w vs).1) := by
    rw [doesO, hpa]
    show dsR σ (rnA σ.1 0 Ls) = _
    rw [← hrn, rnA, if_pos hneg, dsR]
    exact if_pos hneg
  have hdg := (dn_neg hneg).1
  have hTg : ∀ t, ¬ (5 ≤ t ∧ t ≤ 11) → D2.1 t = D4.1 t := fun t ht => (hPfd t ht).trans (hRn.2.2.2.1 t ht)
  have hLz : ∀ z, D2.2.1 21 z = D4.2.1 21 z := fun zz0 => (hPfe zz0).trans (hRn.2.2.2.2.1 zz0)
  have hC2 : Cst D2 σ := ⟨hPfa.1, hPfc, hCs.2.2.ds hPk hTg⟩
  rw [hdo, ansS_t (by omega)]
  exact ⟨rfl, hC2.ref (by omega), (MKf_ds hPk hTg hLz).tr (MKf_rU D2 (by decide) _)⟩
theorem PC_done {D D1 D4 D6 : Dt} {σ : AS} {Ls : List Sn} {k : Nat} {F : Nat → Cl} (hCs : Cst D σ) (hPk : PkK D D4) (hpa : prsA σ.2.2.1 = .ok Ls) (hRn : RnI D4 σ Ls k F D1) (hk : k = Ls.length) (hE0 : ∀ x, x ≠ 0 → D6.2.2 x = D1.2.2 x) (h00 : D6.2.2 0 0 = D1.2.2 0 1) (h01 : D6.2.2 0 1 = D1.2.2 0 0) (h02 : D6.2.2 0 2 = D1.2.2 0 2) (hDa : D6.1 = D1.1) (hDb : D6.2.1 = D1.2.1) : PubC D (doesO σ) (oI (Ls.length : Int)) D6 := by
  obtain ⟨hPt, hFa, hGa, hTg, hLz, hrn⟩ := hRn
  have hdo : doesO σ = ((Ls.length : Int), (F, σ.2)) := by
    rw [doesO, hpa]
    show dsR σ (rnA σ.1 0 Ls) = _
    rw [← hrn, hk, List.drop_length, rnA, dsR]
    exact if_neg (by show ¬ ((Ls.length : Int) < 0); omega)
  have hRa : raD D6 = rtD D1 := by unfold raD rtD; rw [h00]
  have hRt : rtD D6 = raD D1 := by unfold raD rtD; rw [h01]
  have hEt := hE0 (rtD D1) hPt.1.2.2
  have hEa := hE0 (raD D1) hPt.1.2.1
  have hTg6 : ∀ t, ¬ (5 ≤ t ∧ t ≤ 11) → D6.1 t = D4.1 t := fun t ht => by rw [hDa]; exact hTg t ht
  rw [hdo]
  refine ⟨rfl, ⟨?_, ?_, CRs.ds (σ := σ) hCs.2.2 hPk hTg6⟩, MKf_ds hPk hTg6 (fun zz0 => by rw [hDb]; exact hLz zz0)⟩
  · unfold PtW
    rw [hRa, hRt]
    unfold PtG
    rw [hEt, hEa, h02]
    exact hPt.symm
  · intro aa0 haa
    rw [hRa, hEt]
    have hq0 := hFa aa0 haa
    unfold AC at hq0 ⊢
    rw [hDb]; exact hq0
theorem c_X5_does {E : Le} {l : Launch} {D : Dt} {σ : AS} (hCs : Cst D σ) : ConIp E l yX5_does cX5_does 4 (some .int) 11 [.ref (E.1 (0, 0))] D (PubC D (doesO σ)) := by
  refine Con_of (by decide) (Nat.le_of_ble_eq_true rfl) ?_
  intro X hX hR hl; subst hl
  refine V_aload_n (pc := 0) (j := 0) hX 0 rfl rfl dX5_does_0 ?_
  refine gf_X5_40 (pc := 1) hX dX5_does_1 ?_
  refine cVIp0 (pc := 4) hX (c_X4_parse (x := σ.2.2.1) hCs.2.2.2.1) (by decide) st_X5_171 ix_15 rfl rfl rfl (Nat.le_of_ble_eq_true rfl) dX5_does_4 (fun r4 D4 h4 => ?_)
  obtain ⟨hPk, hPr⟩ := h4
  have hC4 : Cst D4 σ := (PC_pk (v := 0) hCs hPk rfl).2.1
  cases hpa : prsA σ.2.2.1 with
  | error er0 =>
    rw [hpa] at hPr
    obtain ⟨rfl, hle⟩ := hPr
    refine V_istore_n (pc := 7) (j := 1) hX 1 rfl (by decide) rfl dX5_does_7 ?_
    refine V_iload_n (pc := 8) (j := 1) hX 1 rfl rfl dX5_does_8 ?_
    refine Z_if_lt (pc := 9) (tgt := 18) hX (by omega) dX5_does_9 (by decide) (fun h9 => ?_) (fun h9 => ?_)
    · exfalso; omega
    · refine V_sipush (pc := 12) (z := (-300)) hX (oI (-300)) (by decide) dX5_does_12 ?_
      refine V_iload_n (pc := 15) (j := 1) hX 1 rfl rfl dX5_does_15 ?_
      refine Z_isub (pc := 16) hX dX5_does_16 ?_
      refine V_iret (pc := 17) hX hR dX5_does_17 ?_
      exact ⟨_, rfl, by rw [doesO, hpa]; exact PC_pk hCs hPk rfl⟩
  | ok Ls =>
    rw [hpa] at hPr
    obtain rfl := hPr.1
    have hln : Ls.length ≤ 24 := hPr.2.2.1
    have loop2 : ∀ (m : Nat) (kq : Nat) (F : Nat → Cl) (D1 : Dt), kq ≤ Ls.length → RnI D4 σ Ls kq F D1 → Ls.length - kq < m → Vw E X 4 D1 48 [(0, some (.ref (E.1 (0, 0)))), (1, some (.int (oI (-1)))), (2, some (.int (oI (kq : Int))))] [] := by
      intro m
      induction m with
      | zero => intro kq F D1 g1 g2 g3; omega
      | succ m ih =>
        intro kq F D1 g1 g2 g3
        have h17 : D1.1 17 = D4.1 17 := g2.2.2.2.1 17 (by omega)
        have hct : D1.1 15 3 = oI (Ls.length : Int) := by rw [g2.2.2.2.1 15 (by omega)]; exact hPr.2.1
        refine V_iload_n (pc := 48) (j := 2) hX 2 rfl rfl dX5_does_48 ?_
        refine V_aload_n (pc := 49) (j := 0) hX 0 rfl rfl dX5_does_49 ?_
        refine gf_X5_40 (pc := 50) hX dX5_does_50 ?_
        refine gf_X5_174 (pc := 53) hX dX5_does_53 ?_
        refine V_oI (Ls.length : Int) hct ?_
        refine Z_icmp_ge (pc := 56) (tgt := 81) hX (by omega) (by omega) dX5_does_56 (by decide) (fun h56 => ?_) (fun h56 => ?_)
        · refine V_aload_n (pc := 81) (j := 0) hX 0 rfl rfl dX5_does_81 ?_
          refine gf_X5_11 (pc := 82) hX dX5_does_82 ?_
          refine V_astore_n (pc := 85) (j := 2) hX 2 rfl (by decide) rfl dX5_does_85 ?_
          refine V_aload_n (pc := 86) (j := 0) hX 0 rfl rfl dX5_does_86 ?_
          refine V_aload_n (pc := 87) (j := 0) hX 0 rfl rfl dX5_does_87 ?_
          refine gf_X5_15 (pc := 88) hX dX5_does_88 ?_
          refine pf_X5_11 (pc := 91) hX dX5_does_91 ?_
          refine V_aload_n (pc := 94) (j := 0) hX 0 rfl rfl dX5_does_94 ?_
          refine V_aload_n (pc := 95) (j := 2) hX 2 rfl rfl dX5_does_95 ?_
          refine pf_X5_15 (pc := 96) hX dX5_does_96 ?_
          refine V_aload_n (pc := 99) (j := 0) hX 0 rfl rfl dX5_does_99 ?_
          refine gf_X5_40 (pc := 100) hX dX5_does_100 ?_
          refine gf_X5_174 (pc := 103) hX dX5_does_103 ?_
          refine V_oI (Ls.length : Int) hct ?_
          refine V_iret (pc := 106) hX hR dX5_does_106 ?_
          exact ⟨_, rfl, PC_done hCs hPk hpa g2 (by omega) (fun xx0 hx0 => by show (if xx0 = 0 then _ else if xx0 = 0 then _ else D1.2.2 xx0) = _; rw [if_neg hx0, if_neg hx0]) rfl rfl rfl rfl rfl⟩
        · obtain ⟨arX, wX, vsX, hsk, hrn⟩ := g2.cons (by omega)
          have hSn := hPr.2.2.2.2 kq (arX, wX, vsX) hsk
          have hTb := hPr.2.2.2.1 kq (arX, wX, vsX) hsk
          refine V_aload_n (pc := 59) (j := 0) hX 0 rfl rfl dX5_does_59 ?_
          refine V_iload_n (pc := 60) (j := 2) hX 2 rfl rfl dX5_does_60 ?_
          refine cVIp1 (pc := 61) hX (c_X5_perform (k := kq) (F := F) (G := σ.1) (by omega) g2.1 g2.2.1 g2.2.2.1 hSn (by rw [h17]; exact hTb.1) (by rw [h17]; exact hTb.2.1) (by rw [h17]; exact hTb.2.2)) (by decide) st_X5_175 ix_0 rfl rfl rfl (Nat.le_of_ble_eq_true rfl) dX5_does_61 (fun r61 D61 h61 => ?_)
          have hPf := h61
          obtain rfl := h61.1
          have hdr := dn_rg F arX wX vsX
          refine V_istore_n (pc := 64) (j := 3) hX 3 rfl (by decide) rfl dX5_does_64 ?_
          refine V_iload_n (pc := 65) (j := 3) hX 3 rfl rfl dX5_does_65 ?_
          refine Z_if_ge (pc := 66) (tgt := 75) hX (by omega) dX5_does_66 (by decide) (fun h66 => ?_) (fun h66 => ?_)
          · refine Z_iinc (pc := 75) hX 1 rfl rfl dX5_does_75 ?_
            refine V_goto (pc := 78) (off := (-30)) (tgt := 48) hX (by decide) dX5_does_78 ?_
            refine V_cut [(0, some (.ref (E.1 (0, 0)))), (1, some (.int (oI (-1)))), (2, some (.int (oI ((kq + 1 : Nat) : Int))))] ⟨rfl, rfl, rfl, trivial⟩ ?_
            exact ih (kq + 1) _ _ (by omega) (g2.nx hrn (by omega) hPf) (by omega)
          · refine V_aload_n (pc := 69) (j := 0) hX 0 rfl rfl dX5_does_69 ?_
            refine V_iload_n (pc := 70) (j := 3) hX 3 rfl rfl dX5_does_70 ?_
            refine cVI1 (pc := 71) hX (c_X5_answer (v := (dnS F arX wX vsX).1) (by omega)) (by decide) st_X5_66 ix_0 rfl rfl rfl (Nat.le_of_ble_eq_true rfl) dX5_does_71 ?_
            refine V_iret (pc := 74) hX hR dX5_does_74 ?_
            exact ⟨_, rfl, PC_neg hCs hPk hpa g2 hrn (by omega) hPf⟩
    have loop1 : ∀ (m : Nat) (kq : Nat) (D1 : Dt), kq ≤ 5 → CpI D4 σ kq D1 → 5 - kq < m → Vw E X 4 D1 20 [(0, some (.ref (E.1 (0, 0)))), (1, some (.int (oI (-1)))), (2, some (.int (oI (kq : Int))))] [] := by
      intro m
      induction m with
      | zero => intro kq D1 g1 g2 g3; omega
      | succ m ih =>
        intro kq D1 g1 g2 g3
        refine V_iload_n (pc := 20) (j := 2) hX 2 rfl rfl dX5_does_20 ?_
        refine V_iconst (pc := 21) (z := 5) hX (oI 5) rfl dX5_does_21 ?_
        refine Z_icmp_ge (pc := 22) (tgt := 46) hX (by omega) (by omega) dX5_does_22 (by decide) (fun h22 => ?_) (fun h22 => ?_)
        · refine V_iconst (pc := 46) (z := 0) hX (oI 0) rfl dX5_does_46 ?_
          refine V_istore_n (pc := 47) (j := 2) hX 2 rfl (by decide) rfl dX5_does_47 ?_
          have hRn0 := g2.rn (by omega) Ls
          refine V_cut [(0, some (.ref (E.1 (0, 0)))), (1, some (.int (oI (-1)))), (2, some (.int (oI ((0 : Nat) : Int))))] ⟨rfl, rfl, rfl, trivial⟩ ?_
          exact loop2 (Ls.length + 1) 0 σ.1 D1 (by omega) hRn0 (by omega)
        · refine V_aload_n (pc := 25) (j := 0) hX 0 rfl rfl dX5_does_25 ?_
          refine gf_X5_15 (pc := 26) hX dX5_does_26 ?_
          refine V_iload_n (pc := 29) (j := 2) hX 2 rfl rfl dX5_does_29 ?_
          refine zl_4 (pc := 30) hX (kq) (rfl) (by omega) dX5_does_30 ?_
          refine V_aload_n (pc := 31) (j := 0) hX 0 rfl rfl dX5_does_31 ?_
          refine gf_X5_11 (pc := 32) hX dX5_does_32 ?_
          refine V_iload_n (pc := 35) (j := 2) hX 2 rfl rfl dX5_does_35 ?_
          refine zl_4 (pc := 36) hX (kq) (rfl) (by omega) dX5_does_36 ?_
          refine cVVp1 (pc := 37) hX (c_X0_copy (A := σ.1 kq) (g2.1.2.2.2.1 kq (by omega) kq (by omega)) (g2.2.1 kq (by omega)).1) (by decide) st_X5_93 (ix_1 _) rfl rfl rfl (Nat.le_of_ble_eq_true rfl) dX5_does_37 (fun D37 h37 => ?_)
          refine Z_iinc (pc := 40) hX 1 rfl rfl dX5_does_40 ?_
          refine V_goto (pc := 43) (off := (-23)) (tgt := 20) hX (by decide) dX5_does_43 ?_
          refine V_cut [(0, some (.ref (E.1 (0, 0)))), (1, some (.int (oI (-1)))), (2, some (.int (oI ((kq + 1 : Nat) : Int))))] ⟨rfl, rfl, rfl, trivial⟩ ?_
          exact ih (kq + 1) _ (by omega) (g2.st (by omega) h37) (by omega)
    refine V_istore_n (pc := 7) (j := 1) hX 1 rfl (by decide) rfl dX5_does_7 ?_
    refine V_iload_n (pc := 8) (j := 1) hX 1 rfl rfl dX5_does_8 ?_
    refine Z_if_lt (pc := 9) (tgt := 18) hX (by omega) dX5_does_9 (by decide) (fun h9 => ?_) (fun h9 => ?_)
    · refine V_iconst (pc := 18) (z := 0) hX (oI 0) rfl dX5_does_18 ?_
      refine V_istore_n (pc := 19) (j := 2) hX 2 rfl (by decide) rfl dX5_does_19 ?_
      refine V_cut [(0, some (.ref (E.1 (0, 0)))), (1, some (.int (oI (-1)))), (2, some (.int (oI ((0 : Nat) : Int))))] ⟨rfl, rfl, rfl, trivial⟩ ?_
      exact loop1 6 0 D4 (by omega) ⟨hC4.1, hC4.2.1, fun aa0 haa => absurd haa (Nat.not_lt_zero _), rfl, fun _ => rfl⟩ (by omega)
    · exfalso; omega
