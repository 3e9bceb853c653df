/-! THE CLASS: the other public calls -/
theorem Cst.ch {D D' : Dt} {σ τ : AS} (hCs : Cst D σ) (hTa : τ.1 = σ.1) (hTb : D'.2 = D.2) (hRs : CRs D' τ) : Cst D' τ := by
  obtain ⟨hPt, hAr, -⟩ := hCs
  refine ⟨?_, ?_, hRs⟩
  · unfold PtW raD rtD; rw [hTb]; exact hPt
  · intro aa0 haa
    rw [hTa]
    have hq0 := hAr aa0 haa
    unfold AC raD at hq0 ⊢
    rw [hTb]; exact hq0
theorem MKf_ch {D D' : Dt} (hTa : ∀ t, 20 ≤ t → D'.1 t = D.1 t) (hTb : D'.2 = D.2) : MKf D D' := ⟨hTa, fun z => by rw [hTb]⟩
theorem PC_full {D D1 : Dt} {σ : AS} (hCs : Cst D σ) (hLk : LK D D1) : PubC D (-204, refA σ (-204)) (oI (-204)) (rU D1 19 (ansS (D1.1 19) (-204))) := by
  rw [ansS_t (by omega)]
  exact ⟨rfl, (hCs.lk hLk).ref (by omega), hLk.mk.tr (MKf_rU D1 (by decide) _)⟩
theorem CrQ.ad {D D' : Dt} {n : Nat} {xs ys : Nat → Int} {x y : Int} (hCr : CrQ D n xs ys) (hn : n < 10) (hx : -60 ≤ x ∧ x ≤ 60) (hy : -60 ≤ y ∧ y ≤ 60) (hTa : D'.1 12 2 = oI ((n + 1 : Nat) : Int)) (hTb : D'.1 13 = upd (D.1 13) n (oI x)) (hTc : D'.1 14 = upd (D.1 14) n (oI y)) : CrQ D' (n + 1) (fun k => if k = n then x else xs k) (fun k => if k = n then y else ys k) := by
  refine ⟨hTa, by omega, fun kk0 hkk => ?_⟩
  show (D'.1 13 kk0 = oI (if kk0 = n then x else xs kk0) ∧ -60 ≤ (if kk0 = n then x else xs kk0) ∧ (if kk0 = n then x else xs kk0) ≤ 60) ∧ (D'.1 14 kk0 = oI (if kk0 = n then y else ys kk0) ∧ -60 ≤ (if kk0 = n then y else ys kk0) ∧ (if kk0 = n then y else ys kk0) ≤ 60)
  rw [hTb, hTc, upd_at, upd_at]
  by_cases hcc : kk0 = n
  · rw [if_pos hcc, if_pos hcc, if_pos hcc, if_pos hcc]; exact ⟨⟨rfl, hx⟩, rfl, hy⟩
  · rw [if_neg hcc, if_neg hcc, if_neg hcc, if_neg hcc]; exact hCr.2.2 kk0 (by omega)
theorem PC_corner {D D' : Dt} {σ : AS} {x y : Int} (hCs : Cst D σ) (hn : σ.2.2.2.1 < 10) (hx : -60 ≤ x ∧ x ≤ 60) (hy : -60 ≤ y ∧ y ≤ 60) (hAd : (D'.1 12 2 = oI ((σ.2.2.2.1 + 1 : Nat) : Int) ∧ D'.1 13 = upd (D.1 13) σ.2.2.2.1 (oI x) ∧ D'.1 14 = upd (D.1 14) σ.2.2.2.1 (oI y)) ∧ (∀ t, t ≠ 12 → t ≠ 13 → t ≠ 14 → D'.1 t = D.1 t) ∧ D'.2 = D.2) : PubC D (((σ.2.2.2.1 + 1 : Nat) : Int), (σ.1, σ.2.1, σ.2.2.1, (σ.2.2.2.1 + 1, (fun k => if k = σ.2.2.2.1 then x else σ.2.2.2.2.1 k), (fun k => if k = σ.2.2.2.1 then y else σ.2.2.2.2.2 k)))) (oI ((σ.2.2.2.1 + 1 : Nat) : Int)) (rU D' 19 (ansS (D'.1 19) ((σ.2.2.2.1 + 1 : Nat) : Int))) := by
  obtain ⟨⟨hTa, hTb, hTc⟩, hTd, hTe⟩ := hAd
  rw [ansS_f (by omega), rU_self]
  refine ⟨rfl, hCs.ch rfl hTe ⟨fun kk0 hkk => ?_, ⟨?_, hCs.2.2.2.1.2.1, fun kk0 hkk => ?_⟩, hCs.2.2.2.2.ad hn hx hy hTa hTb hTc⟩, MKf_ch (fun t ht => hTd t (by omega) (by omega) (by omega)) hTe⟩
  · rw [hTd 19 (by decide) (by decide) (by decide)]; exact hCs.2.2.1 kk0 hkk
  · rw [hTd 15 (by decide) (by decide) (by decide)]; exact hCs.2.2.2.1.1
  · rw [hTd 16 (by decide) (by decide) (by decide)]; exact hCs.2.2.2.1.2.2 kk0 hkk
theorem TcX.ad {D D' : Dt} {x : Tx} {c : Int} (hTx : TcX D x) (hn : x.1 < 120) (hcr : 0 ≤ c ∧ c < 128) (hTa : D'.1 15 1 = oI ((x.1 + 1 : Nat) : Int)) (hTb : D'.1 16 = upd (D.1 16) x.1 (oI c)) : TcX D' (x.1 + 1, fun k => if k = x.1 then c else x.2 k) := by
  refine ⟨hTa, by show x.1 + 1 ≤ 120; omega, fun kk0 hkk => ?_⟩
  show D'.1 16 kk0 = oI (if kk0 = x.1 then c else x.2 kk0) ∧ 0 ≤ (if kk0 = x.1 then c else x.2 kk0) ∧ (if kk0 = x.1 then c else x.2 kk0) < 128
  rw [hTb, upd_at]
  by_cases hcc : kk0 = x.1
  · rw [if_pos hcc, if_pos hcc]; exact ⟨rfl, hcr⟩
  · rw [if_neg hcc, if_neg hcc]; exact hTx.2.2 kk0 (by have : kk0 < x.1 + 1 := hkk; omega)
theorem PC_type {D D' : Dt} {σ : AS} {c : Int} (hCs : Cst D σ) (hn : σ.2.2.1.1 < 120) (hcr : 0 ≤ c ∧ c < 128) (hAd : (D'.1 15 1 = oI ((σ.2.2.1.1 + 1 : Nat) : Int) ∧ D'.1 16 = upd (D.1 16) σ.2.2.1.1 (oI c)) ∧ (∀ t, t ≠ 15 → t ≠ 16 → D'.1 t = D.1 t) ∧ D'.2 = D.2) : PubC D (((σ.2.2.1.1 + 1 : Nat) : Int), (σ.1, σ.2.1, (σ.2.2.1.1 + 1, fun k => if k = σ.2.2.1.1 then c else σ.2.2.1.2 k), σ.2.2.2)) (oI ((σ.2.2.1.1 + 1 : Nat) : Int)) (rU D' 19 (ansS (D'.1 19) ((σ.2.2.1.1 + 1 : Nat) : Int))) := by
  obtain ⟨⟨hTa, hTb⟩, hTd, hTe⟩ := hAd
  rw [ansS_f (by omega), rU_self]
  refine ⟨rfl, hCs.ch rfl hTe ⟨fun kk0 hkk => ?_, hCs.2.2.2.1.ad hn hcr hTa hTb, hCs.2.2.2.2.fr (fun t ht => hTd t (by omega) (by omega))⟩, MKf_ch (fun t ht => hTd t (by omega) (by omega)) hTe⟩
  rw [hTd 19 (by decide) (by decide)]; exact hCs.2.2.1 kk0 hkk
theorem mkV_full {T : Cl} (hmv : mkV T = -204) : fitC T = false := by
  cases hff : fitC T with
  | false => rfl
  | true =>
    rw [mkV, hff] at hmv
    exact absurd hmv (by show ¬ ((cntC T : Int) = -204); omega)
theorem mkV_fit {T : Cl} (hmv : mkV T ≠ -204) : fitC T = true := by
  cases hff : fitC T with
  | true => rfl
  | false => exact absurd (by rw [mkV, hff]; rfl) hmv
theorem PC_round {D D1 D2 : Dt} {σ : AS} {T : Cl} {to : Nat} (hCs : Cst D σ) (hLy : LyQ D T D1) (hto : to < 5) (hKp : KpD D1 (D1.2.2 0 0) to T D2) (hff : fitC T = true) : PubC D ((cntC T : Int), cor0 (setA σ to T)) (oI (mkV T)) (rU (rU D2 12 (upd (D2.1 12) 2 (oI 0))) 19 (ansS ((rU D2 12 (upd (D2.1 12) 2 (oI 0))).1 19) (mkV T))) := by
  have hkc := hCs.kp hLy hto hKp
  rw [hff] at hkc
  have hmv : mkV T = (cntC T : Int) := by rw [mkV, hff]; rfl
  rw [hmv, ansS_f (by omega), rU_self]
  refine ⟨rfl, hkc.ch rfl rfl ⟨fun kk0 hkk => ?_, ⟨?_, hCs.2.2.2.1.2.1, fun kk0 hkk => ?_⟩, ⟨?_, Nat.zero_le _, fun kk0 hkk => absurd hkk (Nat.not_lt_zero _)⟩⟩, (hLy.1.mk.tr hKp.mk).tr (MKf_rU D2 (by decide) _)⟩
  · rw [rU_ne _ _ (by decide)]; exact hkc.2.2.1 kk0 hkk
  · rw [rU_ne _ _ (by decide)]; exact hkc.2.2.2.1.1
  · rw [rU_ne _ _ (by decide)]; exact hkc.2.2.2.1.2.2 kk0 hkk
  · rw [rU_get, upd_at, if_pos rfl]; rfl
theorem PC_full2 {D D1 D2 : Dt} {σ : AS} {T : Cl} {to : Nat} (hCs : Cst D σ) (hLy : LyQ D T D1) (hto : to < 5) (hKp : KpD D1 (D1.2.2 0 0) to T D2) (hff : fitC T = false) : PubC D (-204, refA σ (-204)) (oI (mkV T)) (rU D2 19 (ansS (D2.1 19) (mkV T))) := by
  have hpk := PC_keep hCs hLy hto hKp
  rw [mkA, hff] at hpk
  exact hpk
theorem rpC_off {S : Cl} {x y : Int} (hxy : (x < -60 ∨ 59 < x) ∨ (y < -60 ∨ 59 < y)) : rpC S y x = false := by
  rw [rpC, cellB_f.mpr hxy, Bool.false_and]
theorem cnt_12 (A B : Cl) : cntC A = cntC (mixC 1 A B) + cntC (mixC 2 A B) := by
  unfold cntC
  rw [← fb_sm_add]
  refine fb_sm_cong (fun j hj => ?_)
  refine Eq.trans ?_ (fb_ct_or (p := fun i => mixC 1 A B i j) (q := fun i => mixC 2 A B i j) (fun i _ => ?_))
  · refine fb_ct_cong (fun i _ => ?_)
    show A i j = ((A i j && B i j) || (A i j && !B i j))
    cases A i j <;> cases B i j <;> rfl
  · show ¬ ((A i j && B i j) = true ∧ (A i j && !B i j) = true)
    cases A i j <;> cases B i j <;> decide
theorem cnt_sym (A B : Cl) : cntC (mixC 1 B A) = cntC (mixC 1 A B) := cntC_congr (fun i _ j _ => by
  show (B i j && A i j) = (A i j && B i j)
  exact Bool.and_comm _ _)
theorem fd_fl (wh : Int) (rp : Int → Int → Bool) : ∀ (L : List (Int × Int)) (b : Nat), fdL wh rp L = (flL rp b L).map (fun s => oI (fOf wh s.2.2.1 s.2.2.2 s.2.1.1 s.2.1.2))
  | [], _ => rfl
  | q :: r, b => by
    rw [flL, List.map_append, List.map_map, ← fd_fl wh rp r (b + 1), fdL, List.flatMap_cons]; rfl
theorem kth_fd {S : Cl} {k : Nat} (hk : k < nsC S) (wh : Int) (d : Int32) : kth (fdL wh (rpC S) (bandsC S)) (k : Int) d = oI (spV S wh k) := by
  have hle : ((flL (rpC S) 0 (bandsC S)).map (fun s => oI (fOf wh s.2.2.1 s.2.2.2 s.2.1.1 s.2.1.2))).length = nsC S := by
    rw [List.length_map]; exact flL_len _ _ _
  have hso : (flL (rpC S) 0 (bandsC S))[k]? = some (flG S k) := flG_some hk
  rw [fd_fl wh (rpC S) (bandsC S) 0, kth, if_pos ⟨by omega, by rw [hle]; omega⟩, Int.toNat_natCast, List.getD_eq_getElem?_getD, List.getElem?_map, hso]; rfl
theorem kth_fo {S : Cl} {k : Nat} (hk : ¬ k < nsC S) (wh : Int) (d : Int32) : kth (fdL wh (rpC S) (bandsC S)) (k : Int) d = d := by
  have hle : ((flL (rpC S) 0 (bandsC S)).map (fun s => oI (fOf wh s.2.2.1 s.2.2.2 s.2.1.1 s.2.1.2))).length = nsC S := by
    rw [List.length_map]; exact flL_len _ _ _
  rw [fd_fl wh (rpC S) (bandsC S) 0, kth, if_neg (by rw [hle]; omega)]
theorem c_X5_corner {E : Le} {l : Launch} {D : Dt} {σ : AS} {x y : Int} (r_x : Rg x) (r_y : Rg y) (hCs : Cst D σ) : ConIp E l yX5_corner cX5_corner 3 (some .int) 3 [.ref (E.1 (0, 0)), .int (oI x), .int (oI y)] D (PubC D (cornO σ x y)) := by
  refine Con_of (by decide) (Nat.le_of_ble_eq_true rfl) ?_
  intro X hX hR hl; subst hl
  refine V_iload_n (pc := 0) (j := 1) hX 1 rfl rfl dX5_corner_0 ?_
  refine V_bipush (pc := 1) (z := (-60)) hX (oI (-60)) (by decide) dX5_corner_1 ?_
  refine V_bipush (pc := 3) (z := 60) hX (oI 60) (by decide) dX5_corner_3 ?_
  refine cSI3 (pc := 5) hX (c_X5_within (by omega) (by omega) (by omega)) (by decide) st_X5_59 (Nat.le_of_ble_eq_true rfl) dX5_corner_5 ?_
  refine B_if_eq (pc := 8) (tgt := 22) hX dX5_corner_8 (by decide) (fun h8 => ?_) (fun h8 => ?_)
  · have q8 := inB_f.mp h8
    refine V_aload_n (pc := 22) (j := 0) hX 0 rfl rfl dX5_corner_22 ?_
    refine V_sipush (pc := 23) (z := (-202)) hX (oI (-202)) (by decide) dX5_corner_23 ?_
    refine cVI1 (pc := 26) hX (c_X5_answer (v := -202) (by omega)) (by decide) st_X5_66 ix_0 rfl rfl rfl (Nat.le_of_ble_eq_true rfl) dX5_corner_26 ?_
    refine V_iret (pc := 29) hX hR dX5_corner_29 ?_
    exact ⟨_, rfl, by rw [cornO, if_neg (by omega)]; exact PC_bad hCs⟩
  · have q8 := inB_t.mp h8
    refine V_iload_n (pc := 11) (j := 2) hX 2 rfl rfl dX5_corner_11 ?_
    refine V_bipush (pc := 12) (z := (-60)) hX (oI (-60)) (by decide) dX5_corner_12 ?_
    refine V_bipush (pc := 14) (z := 60) hX (oI 60) (by decide) dX5_corner_14 ?_
    refine cSI3 (pc := 16) hX (c_X5_within (by omega) (by omega) (by omega)) (by decide) st_X5_59 (Nat.le_of_ble_eq_true rfl) dX5_corner_16 ?_
    refine B_if_ne (pc := 19) (tgt := 30) hX dX5_corner_19 (by decide) (fun h19 => ?_) (fun h19 => ?_)
    · have q19 := inB_t.mp h19
      refine V_aload_n (pc := 30) (j := 0) hX 0 rfl rfl dX5_corner_30 ?_
      refine V_aload_n (pc := 31) (j := 0) hX 0 rfl rfl dX5_corner_31 ?_
      refine gf_X5_33 (pc := 32) hX dX5_corner_32 ?_
      refine V_iload_n (pc := 35) (j := 1) hX 1 rfl rfl dX5_corner_35 ?_
      refine V_iload_n (pc := 36) (j := 2) hX 2 rfl rfl dX5_corner_36 ?_
      refine cVIp2 (pc := 37) hX (c_X2_add (n := σ.2.2.2.1) hCs.2.2.2.2.1 hCs.2.2.2.2.2.1) (by decide) st_X5_116 ix_12 rfl rfl rfl (Nat.le_of_ble_eq_true rfl) dX5_corner_37 (fun r37 D37 h37 => ?_)
      obtain ⟨rfl, hAd, hNo⟩ := h37
      have hn10 := hCs.2.2.2.2.2.1
      refine B_if_eq (pc := 40) (tgt := 53) hX dX5_corner_40 (by decide) (fun h40 => ?_) (fun h40 => ?_)
      · refine V_sipush (pc := 53) (z := (-204)) hX (oI (-204)) (by decide) dX5_corner_53 ?_
        refine cVI1 (pc := 56) hX (c_X5_answer (v := -204) (by omega)) (by decide) st_X5_66 ix_0 rfl rfl rfl (Nat.le_of_ble_eq_true rfl) dX5_corner_56 ?_
        refine V_iret (pc := 59) hX hR dX5_corner_59 ?_
        have hn40 := of_decide_eq_false h40
        have hEq := hNo hn40
        exact ⟨_, rfl, by rw [cornO, if_pos (by omega), if_pos (by omega), hEq]; exact PC_full hCs (LK.rf D)⟩
      · refine V_aload_n (pc := 43) (j := 0) hX 0 rfl rfl dX5_corner_43 ?_
        refine gf_X5_33 (pc := 44) hX dX5_corner_44 ?_
        refine gf_X5_119 (pc := 47) hX dX5_corner_47 ?_
        refine V_oI ((σ.2.2.2.1 + 1 : Nat) : Int) (hAd (of_decide_eq_true h40)).1.1 ?_
        refine V_goto (pc := 50) (off := 6) (tgt := 56) hX (by decide) dX5_corner_50 ?_
        refine cVI1 (pc := 56) hX (c_X5_answer (v := ((σ.2.2.2.1 + 1 : Nat) : Int)) (by have := of_decide_eq_true h40; omega)) (by decide) st_X5_66 ix_0 rfl rfl rfl (Nat.le_of_ble_eq_true rfl) dX5_corner_56 ?_
        refine V_iret (pc := 59) hX hR dX5_corner_59 ?_
        have hn40 := of_decide_eq_true h40
        exact ⟨_, rfl, by rw [cornO, if_pos (by omega), if_neg (by omega)]; exact PC_corner hCs hn40 (by omega) (by omega) (hAd hn40)⟩
    · have q19 := inB_f.mp h19
      refine V_aload_n (pc := 22) (j := 0) hX 0 rfl rfl dX5_corner_22 ?_
      refine V_sipush (pc := 23) (z := (-202)) hX (oI (-202)) (by decide) dX5_corner_23 ?_
      refine cVI1 (pc := 26) hX (c_X5_answer (v := -202) (by omega)) (by decide) st_X5_66 ix_0 rfl rfl rfl (Nat.le_of_ble_eq_true rfl) dX5_corner_26 ?_
      refine V_iret (pc := 29) hX hR dX5_corner_29 ?_
      exact ⟨_, rfl, by rw [cornO, if_neg (by omega)]; exact PC_bad hCs⟩
theorem c_X5_round {E : Le} {l : Launch} {D : Dt} {σ : AS} {to : Int} (r_to : Rg to) (hCs : Cst D σ) : ConIp E l yX5_round cX5_round 3 (some .int) 6 [.ref (E.1 (0, 0)), .int (oI to)] D (PubC D (roundO σ to)) := by
  refine Con_of (by decide) (Nat.le_of_ble_eq_true rfl) ?_
  intro X hX hR hl; subst hl
  refine V_iload_n (pc := 0) (j := 1) hX 1 rfl rfl dX5_round_0 ?_
  refine cSI1 (pc := 1) hX (c_X5_isArea (by omega)) (by decide) st_X5_63 (Nat.le_of_ble_eq_true rfl) dX5_round_1 ?_
  refine B_if_ne (pc := 4) (tgt := 15) hX dX5_round_4 (by decide) (fun h4 => ?_) (fun h4 => ?_)
  · have q4 := inB_t.mp h4
    have hn10 := hCs.2.2.2.2.2.1
    refine V_aload_n (pc := 15) (j := 0) hX 0 rfl rfl dX5_round_15 ?_
    refine gf_X5_33 (pc := 16) hX dX5_round_16 ?_
    refine gf_X5_119 (pc := 19) hX dX5_round_19 ?_
    refine V_oI (σ.2.2.2.1 : Int) hCs.2.2.2.2.1 ?_
    refine V_iconst (pc := 22) (z := 3) hX (oI 3) rfl dX5_round_22 ?_
    refine Z_icmp_ge (pc := 23) (tgt := 34) hX (by omega) (by omega) dX5_round_23 (by decide) (fun h23 => ?_) (fun h23 => ?_)
    · refine V_aload_n (pc := 34) (j := 0) hX 0 rfl rfl dX5_round_34 ?_
      refine gf_X5_33 (pc := 35) hX dX5_round_35 ?_
      refine V_aload_n (pc := 38) (j := 0) hX 0 rfl rfl dX5_round_38 ?_
      refine gf_X5_19 (pc := 39) hX dX5_round_39 ?_
      refine cVVp1 (pc := 42) hX (c_X2_lay hCs.2.2.2.2) (by decide) st_X5_123 ix_12 rfl rfl rfl (Nat.le_of_ble_eq_true rfl) dX5_round_42 (fun D42 h42 => ?_)
      have hLy : LyQ D (roundC σ.2.2.2.1 σ.2.2.2.2.1 σ.2.2.2.2.2) D42 := LyQ_st (LK.rf D) h42
      refine V_aload_n (pc := 45) (j := 0) hX 0 rfl rfl dX5_round_45 ?_
      refine V_aload_n (pc := 46) (j := 0) hX 0 rfl rfl dX5_round_46 ?_
      refine gf_X5_11 (pc := 47) hX dX5_round_47 ?_
      refine V_iload_n (pc := 50) (j := 1) hX 1 rfl rfl dX5_round_50 ?_
      refine cVIp2 (pc := 51) hX (c_X5_keep (rw0 := D42.2.2 0 0) (to := to) (T := roundC σ.2.2.2.1 σ.2.2.2.2.1 σ.2.2.2.2.2) (by omega) hLy.md) (by decide) st_X5_74 ix_0 rfl rfl rfl (Nat.le_of_ble_eq_true rfl) dX5_round_51 (fun r51 D51 h51 => ?_)
      obtain ⟨rfl, hKp⟩ := h51
      have hmr := mkV_rg (roundC σ.2.2.2.1 σ.2.2.2.2.1 σ.2.2.2.2.2)
      refine V_istore_n (pc := 54) (j := 2) hX 2 rfl (by decide) rfl dX5_round_54 ?_
      refine V_iload_n (pc := 55) (j := 2) hX 2 rfl rfl dX5_round_55 ?_
      refine V_sipush (pc := 56) (z := (-204)) hX (oI (-204)) (by decide) dX5_round_56 ?_
      refine Z_icmp_eq (pc := 59) (tgt := 70) hX (by omega) (by omega) dX5_round_59 (by decide) (fun h59 => ?_) (fun h59 => ?_)
      · refine V_aload_n (pc := 70) (j := 0) hX 0 rfl rfl dX5_round_70 ?_
        refine V_iload_n (pc := 71) (j := 2) hX 2 rfl rfl dX5_round_71 ?_
        refine cVI1 (pc := 72) hX (c_X5_answer (v := mkV (roundC σ.2.2.2.1 σ.2.2.2.2.1 σ.2.2.2.2.2)) (Rg_mkV _)) (by decide) st_X5_66 ix_0 rfl rfl rfl (Nat.le_of_ble_eq_true rfl) dX5_round_72 ?_
        refine V_iret (pc := 75) hX hR dX5_round_75 ?_
        have hff := mkV_full h59
        exact ⟨_, rfl, by rw [roundO, if_pos (by omega), if_neg (by omega), if_neg (by rw [hff]; decide)]; exact PC_full2 hCs hLy (by omega) hKp hff⟩
      · refine V_aload_n (pc := 62) (j := 0) hX 0 rfl rfl dX5_round_62 ?_
        refine gf_X5_33 (pc := 63) hX dX5_round_63 ?_
        refine V_iconst (pc := 66) (z := 0) hX (oI 0) rfl dX5_round_66 ?_
        refine pf_X5_119 (pc := 67) hX dX5_round_67 ?_
        refine V_aload_n (pc := 70) (j := 0) hX 0 rfl rfl dX5_round_70 ?_
        refine V_iload_n (pc := 71) (j := 2) hX 2 rfl rfl dX5_round_71 ?_
        refine cVI1 (pc := 72) hX (c_X5_answer (v := mkV (roundC σ.2.2.2.1 σ.2.2.2.2.1 σ.2.2.2.2.2)) (Rg_mkV _)) (by decide) st_X5_66 ix_0 rfl rfl rfl (Nat.le_of_ble_eq_true rfl) dX5_round_72 ?_
        refine V_iret (pc := 75) hX hR dX5_round_75 ?_
        have hff := mkV_fit h59
        exact ⟨_, rfl, by rw [roundO, if_pos (by omega), if_neg (by omega), if_pos hff]; exact PC_round hCs hLy (by omega) hKp hff⟩
    · refine V_aload_n (pc := 26) (j := 0) hX 0 rfl rfl dX5_round_26 ?_
      refine V_sipush (pc := 27) (z := (-203)) hX (oI (-203)) (by decide) dX5_round_27 ?_
      refine cVI1 (pc := 30) hX (c_X5_answer (v := -203) (by omega)) (by decide) st_X5_66 ix_0 rfl rfl rfl (Nat.le_of_ble_eq_true rfl) dX5_round_30 ?_
      refine V_iret (pc := 33) hX hR dX5_round_33 ?_
      exact ⟨_, rfl, by rw [roundO, if_pos (by omega), if_pos (by omega)]; exact PC_no hCs (LK.rf D)⟩
  · have q4 := inB_f.mp h4
    refine V_aload_n (pc := 7) (j := 0) hX 0 rfl rfl dX5_round_7 ?_
    refine V_sipush (pc := 8) (z := (-202)) hX (oI (-202)) (by decide) dX5_round_8 ?_
    refine cVI1 (pc := 11) hX (c_X5_answer (v := -202) (by omega)) (by decide) st_X5_66 ix_0 rfl rfl rfl (Nat.le_of_ble_eq_true rfl) dX5_round_11 ?_
    refine V_iret (pc := 14) hX hR dX5_round_14 ?_
    exact ⟨_, rfl, by rw [roundO, if_neg (by omega)]; exact PC_bad hCs⟩
theorem c_X5_hit {E : Le} {l : Launch} {D : Dt} {σ : AS} {a x y : Int} (r_a : Rg a) (r_x : Rg x) (r_y : Rg y) (hCs : Cst D σ) : ConIp E l yX5_hit cX5_hit 4 (some .int) 3 [.ref (E.1 (0, 0)), .int (oI a), .int (oI x), .int (oI y)] D (PubC D (hitO σ a x y)) := by
  refine Con_of (by decide) (Nat.le_of_ble_eq_true rfl) ?_
  intro X hX hR hl; subst hl
  refine V_iload_n (pc := 0) (j := 1) hX 1 rfl rfl dX5_hit_0 ?_
  refine cSI1 (pc := 1) hX (c_X5_isArea (by omega)) (by decide) st_X5_63 (Nat.le_of_ble_eq_true rfl) dX5_hit_1 ?_
  refine B_if_ne (pc := 4) (tgt := 15) hX dX5_hit_4 (by decide) (fun h4 => ?_) (fun h4 => ?_)
  · have q4 := inB_t.mp h4
    refine V_iload_n (pc := 15) (j := 2) hX 2 rfl rfl dX5_hit_15 ?_
    refine cSI1 (pc := 16) hX (c_X5_isPlace (by omega)) (by decide) st_X5_55 (Nat.le_of_ble_eq_true rfl) dX5_hit_16 ?_
    refine B_if_eq (pc := 19) (tgt := 47) hX dX5_hit_19 (by decide) (fun h19 => ?_) (fun h19 => ?_)
    · have q19 := inB_f.mp h19
      refine V_iconst (pc := 47) (z := 0) hX (oI 0) rfl dX5_hit_47 ?_
      refine V_iret (pc := 48) hX hR dX5_hit_48 ?_
      exact ⟨_, rfl, by rw [hitO, if_pos (by omega), rpC_off (S := σ.1 a.toNat) (x := x) (y := y) (by omega), if_neg (by decide)]; exact PC_same hCs (LK.rf D)⟩
    · have q19 := inB_t.mp h19
      refine V_iload_n (pc := 22) (j := 3) hX 3 rfl rfl dX5_hit_22 ?_
      refine cSI1 (pc := 23) hX (c_X5_isPlace (by omega)) (by decide) st_X5_55 (Nat.le_of_ble_eq_true rfl) dX5_hit_23 ?_
      refine B_if_eq (pc := 26) (tgt := 47) hX dX5_hit_26 (by decide) (fun h26 => ?_) (fun h26 => ?_)
      · have q26 := inB_f.mp h26
        refine V_iconst (pc := 47) (z := 0) hX (oI 0) rfl dX5_hit_47 ?_
        refine V_iret (pc := 48) hX hR dX5_hit_48 ?_
        exact ⟨_, rfl, by rw [hitO, if_pos (by omega), rpC_off (S := σ.1 a.toNat) (x := x) (y := y) (by omega), if_neg (by decide)]; exact PC_same hCs (LK.rf D)⟩
      · have q26 := inB_t.mp h26
        refine V_aload_n (pc := 29) (j := 0) hX 0 rfl rfl dX5_hit_29 ?_
        refine gf_X5_11 (pc := 30) hX dX5_hit_30 ?_
        refine V_iload_n (pc := 33) (j := 1) hX 1 rfl rfl dX5_hit_33 ?_
        refine zl_4 (pc := 34) hX (a.toNat) (by omega) (by omega) dX5_hit_34 ?_
        refine V_iload_n (pc := 35) (j := 2) hX 2 rfl rfl dX5_hit_35 ?_
        refine V_iload_n (pc := 36) (j := 3) hX 3 rfl rfl dX5_hit_36 ?_
        refine cVI2 (pc := 37) hX (c_X0_holds (S := σ.1 a.toNat) (by omega) (by omega) (hCs.ac (by omega))) (by decide) st_X5_100 (ix_1 _) rfl rfl rfl (Nat.le_of_ble_eq_true rfl) dX5_hit_37 ?_
        refine B_if_eq (pc := 40) (tgt := 47) hX dX5_hit_40 (by decide) (fun h40 => ?_) (fun h40 => ?_)
        · refine V_iconst (pc := 47) (z := 0) hX (oI 0) rfl dX5_hit_47 ?_
          refine V_iret (pc := 48) hX hR dX5_hit_48 ?_
          exact ⟨_, rfl, by rw [hitO, if_pos (by omega), h40, if_neg (by decide)]; exact PC_same hCs (LK.rf D)⟩
        · refine V_iconst (pc := 43) (z := 1) hX (oI 1) rfl dX5_hit_43 ?_
          refine V_goto (pc := 44) (off := 4) (tgt := 48) hX (by decide) dX5_hit_44 ?_
          refine V_iret (pc := 48) hX hR dX5_hit_48 ?_
          exact ⟨_, rfl, by rw [hitO, if_pos (by omega), if_pos h40]; exact PC_same hCs (LK.rf D)⟩
  · have q4 := inB_f.mp h4
    refine V_aload_n (pc := 7) (j := 0) hX 0 rfl rfl dX5_hit_7 ?_
    refine V_sipush (pc := 8) (z := (-202)) hX (oI (-202)) (by decide) dX5_hit_8 ?_
    refine cVI1 (pc := 11) hX (c_X5_answer (v := -202) (by omega)) (by decide) st_X5_66 ix_0 rfl rfl rfl (Nat.le_of_ble_eq_true rfl) dX5_hit_11 ?_
    refine V_iret (pc := 14) hX hR dX5_hit_14 ?_
    exact ⟨_, rfl, by rw [hitO, if_neg (by omega)]; exact PC_bad hCs⟩
theorem c_X5_common {E : Le} {l : Launch} {D : Dt} {σ : AS} {a b : Int} (r_a : Rg a) (r_b : Rg b) (hCs : Cst D σ) : ConIp E l yX5_common cX5_common 3 (some .int) 3 [.ref (E.1 (0, 0)), .int (oI a), .int (oI b)] D (PubC D (commO σ a b)) := by
  refine Con_of (by decide) (Nat.le_of_ble_eq_true rfl) ?_
  intro X hX hR hl; subst hl
  refine V_iload_n (pc := 0) (j := 1) hX 1 rfl rfl dX5_common_0 ?_
  refine cSI1 (pc := 1) hX (c_X5_isArea (by omega)) (by decide) st_X5_63 (Nat.le_of_ble_eq_true rfl) dX5_common_1 ?_
  refine B_if_eq (pc := 4) (tgt := 14) hX dX5_common_4 (by decide) (fun h4 => ?_) (fun h4 => ?_)
  · have q4 := inB_f.mp h4
    refine V_aload_n (pc := 14) (j := 0) hX 0 rfl rfl dX5_common_14 ?_
    refine V_sipush (pc := 15) (z := (-202)) hX (oI (-202)) (by decide) dX5_common_15 ?_
    refine cVI1 (pc := 18) hX (c_X5_answer (v := -202) (by omega)) (by decide) st_X5_66 ix_0 rfl rfl rfl (Nat.le_of_ble_eq_true rfl) dX5_common_18 ?_
    refine V_iret (pc := 21) hX hR dX5_common_21 ?_
    exact ⟨_, rfl, by rw [commO, if_neg (by omega)]; exact PC_bad hCs⟩
  · have q4 := inB_t.mp h4
    refine V_iload_n (pc := 7) (j := 2) hX 2 rfl rfl dX5_common_7 ?_
    refine cSI1 (pc := 8) hX (c_X5_isArea (by omega)) (by decide) st_X5_63 (Nat.le_of_ble_eq_true rfl) dX5_common_8 ?_
    refine B_if_ne (pc := 11) (tgt := 22) hX dX5_common_11 (by decide) (fun h11 => ?_) (fun h11 => ?_)
    · have q11 := inB_t.mp h11
      refine V_aload_n (pc := 22) (j := 0) hX 0 rfl rfl dX5_common_22 ?_
      refine gf_X5_19 (pc := 23) hX dX5_common_23 ?_
      refine V_iconst (pc := 26) (z := 1) hX (oI 1) rfl dX5_common_26 ?_
      refine V_aload_n (pc := 27) (j := 0) hX 0 rfl rfl dX5_common_27 ?_
      refine gf_X5_11 (pc := 28) hX dX5_common_28 ?_
      refine V_iload_n (pc := 31) (j := 1) hX 1 rfl rfl dX5_common_31 ?_
      refine zl_4 (pc := 32) hX (a.toNat) (by omega) (by omega) dX5_common_32 ?_
      refine V_aload_n (pc := 33) (j := 0) hX 0 rfl rfl dX5_common_33 ?_
      refine gf_X5_11 (pc := 34) hX dX5_common_34 ?_
      refine V_iload_n (pc := 37) (j := 2) hX 2 rfl rfl dX5_common_37 ?_
      refine zl_4 (pc := 38) hX (b.toNat) (by omega) (by omega) dX5_common_38 ?_
      refine cVVp3 (pc := 39) hX (c_X0_combine (so := 1) (by omega) (hCs.ne (by omega)) (hCs.ne (by omega)) (hCs.ac (by omega)) (hCs.ac (by omega))) (by decide) st_X5_78 (ix_1 _) rfl rfl rfl (Nat.le_of_ble_eq_true rfl) dX5_common_39 (fun D39 h39 => ?_)
      have hLy : LyQ D (mixC 1 (σ.1 a.toNat) (σ.1 b.toNat)) D39 := LyQ_st (LK.rf D) h39
      refine V_aload_n (pc := 42) (j := 0) hX 0 rfl rfl dX5_common_42 ?_
      refine gf_X5_19 (pc := 43) hX dX5_common_43 ?_
      refine cVI0 (pc := 46) hX (c_X0_cells (S := mixC 1 (σ.1 a.toNat) (σ.1 b.toNat)) hLy.md) (by decide) st_X5_131 (ix_1 _) rfl rfl rfl (Nat.le_of_ble_eq_true rfl) dX5_common_46 ?_
      refine V_iret (pc := 49) hX hR dX5_common_49 ?_
      exact ⟨_, rfl, by rw [commO, if_pos (by omega)]; exact PC_same hCs hLy.1⟩
    · have q11 := inB_f.mp h11
      refine V_aload_n (pc := 14) (j := 0) hX 0 rfl rfl dX5_common_14 ?_
      refine V_sipush (pc := 15) (z := (-202)) hX (oI (-202)) (by decide) dX5_common_15 ?_
      refine cVI1 (pc := 18) hX (c_X5_answer (v := -202) (by omega)) (by decide) st_X5_66 ix_0 rfl rfl rfl (Nat.le_of_ble_eq_true rfl) dX5_common_18 ?_
      refine V_iret (pc := 21) hX hR dX5_common_21 ?_
      exact ⟨_, rfl, by rw [commO, if_neg (by omega)]; exact PC_bad hCs⟩
theorem c_X5_two {E : Le} {l : Launch} {D : Dt} {σ : AS} {a b w : Int} (r_a : Rg a) (r_b : Rg b) (r_w : Rg w) (hCs : Cst D σ) : ConIp E l yX5_two cX5_two 5 (some .int) 3 [.ref (E.1 (0, 0)), .int (oI a), .int (oI b), .int (oI w)] D (PubC D (twoO σ a b w)) := by
  refine Con_of (by decide) (Nat.le_of_ble_eq_true rfl) ?_
  intro X hX hR hl; subst hl
  refine V_iload_n (pc := 0) (j := 1) hX 1 rfl rfl dX5_two_0 ?_
  refine cSI1 (pc := 1) hX (c_X5_isArea (by omega)) (by decide) st_X5_63 (Nat.le_of_ble_eq_true rfl) dX5_two_1 ?_
  refine B_if_eq (pc := 4) (tgt := 23) hX dX5_two_4 (by decide) (fun h4 => ?_) (fun h4 => ?_)
  · have q4 := inB_f.mp h4
    refine V_aload_n (pc := 23) (j := 0) hX 0 rfl rfl dX5_two_23 ?_
    refine V_sipush (pc := 24) (z := (-202)) hX (oI (-202)) (by decide) dX5_two_24 ?_
    refine cVI1 (pc := 27) hX (c_X5_answer (v := -202) (by omega)) (by decide) st_X5_66 ix_0 rfl rfl rfl (Nat.le_of_ble_eq_true rfl) dX5_two_27 ?_
    refine V_iret (pc := 30) hX hR dX5_two_30 ?_
    exact ⟨_, rfl, by rw [twoO, if_neg (by omega)]; exact PC_bad hCs⟩
  · have q4 := inB_t.mp h4
    refine V_iload_n (pc := 7) (j := 2) hX 2 rfl rfl dX5_two_7 ?_
    refine cSI1 (pc := 8) hX (c_X5_isArea (by omega)) (by decide) st_X5_63 (Nat.le_of_ble_eq_true rfl) dX5_two_8 ?_
    refine B_if_eq (pc := 11) (tgt := 23) hX dX5_two_11 (by decide) (fun h11 => ?_) (fun h11 => ?_)
    · have q11 := inB_f.mp h11
      refine V_aload_n (pc := 23) (j := 0) hX 0 rfl rfl dX5_two_23 ?_
      refine V_sipush (pc := 24) (z := (-202)) hX (oI (-202)) (by decide) dX5_two_24 ?_
      refine cVI1 (pc := 27) hX (c_X5_answer (v := -202) (by omega)) (by decide) st_X5_66 ix_0 rfl rfl rfl (Nat.le_of_ble_eq_true rfl) dX5_two_27 ?_
      refine V_iret (pc := 30) hX hR dX5_two_30 ?_
      exact ⟨_, rfl, by rw [twoO, if_neg (by omega)]; exact PC_bad hCs⟩
    · have q11 := inB_t.mp h11
      refine V_iload_n (pc := 14) (j := 3) hX 3 rfl rfl dX5_two_14 ?_
      refine V_iconst (pc := 15) (z := 0) hX (oI 0) rfl dX5_two_15 ?_
      refine V_iconst (pc := 16) (z := 3) hX (oI 3) rfl dX5_two_16 ?_
      refine cSI3 (pc := 17) hX (c_X5_within (by omega) (by omega) (by omega)) (by decide) st_X5_59 (Nat.le_of_ble_eq_true rfl) dX5_two_17 ?_
      refine B_if_ne (pc := 20) (tgt := 31) hX dX5_two_20 (by decide) (fun h20 => ?_) (fun h20 => ?_)
      · have q20 := inB_t.mp h20
        have hcA := cnt_12 (σ.1 a.toNat) (σ.1 b.toNat)
        have hcB := cnt_12 (σ.1 b.toNat) (σ.1 a.toNat)
        rw [cnt_sym (σ.1 a.toNat) (σ.1 b.toNat)] at hcB
        refine V_iload_n (pc := 31) (j := 3) hX 3 rfl rfl dX5_two_31 ?_
        by_cases h32_0 : w = 0
        · refine Z_tableIn (pc := 32) (tgt := 60) hX 0 h32_0 (by decide) (by decide) (by decide) dX5_two_32 rfl (by decide) ?_
          refine V_aload_n (pc := 60) (j := 0) hX 0 rfl rfl dX5_two_60 ?_
          refine gf_X5_11 (pc := 61) hX dX5_two_61 ?_
          refine V_iload_n (pc := 64) (j := 1) hX 1 rfl rfl dX5_two_64 ?_
          refine zl_4 (pc := 65) hX (a.toNat) (by omega) (by omega) dX5_two_65 ?_
          refine V_aload_n (pc := 66) (j := 0) hX 0 rfl rfl dX5_two_66 ?_
          refine gf_X5_11 (pc := 67) hX dX5_two_67 ?_
          refine V_iload_n (pc := 70) (j := 2) hX 2 rfl rfl dX5_two_70 ?_
          refine zl_4 (pc := 71) hX (b.toNat) (by omega) (by omega) dX5_two_71 ?_
          refine cVI1 (pc := 72) hX (c_X0_isIn (A := σ.1 a.toNat) (B := σ.1 b.toNat) (hCs.ac (by omega)) (hCs.ac (by omega))) (by decide) st_X5_147 (ix_1 _) rfl rfl rfl (Nat.le_of_ble_eq_true rfl) dX5_two_72 ?_
          refine B_if_eq (pc := 75) (tgt := 100) hX dX5_two_75 (by decide) (fun h75 => ?_) (fun h75 => ?_)
          · have z75 := of_decide_eq_false h75
            refine V_iconst (pc := 100) (z := 0) hX (oI 0) rfl dX5_two_100 ?_
            refine V_istore (pc := 101) hX (by decide) rfl dX5_two_101 ?_
            refine V_goto (pc := 103) (off := 60) (tgt := 163) hX (by decide) dX5_two_103 ?_
            refine V_iload (pc := 163) hX rfl dX5_two_163 ?_
            refine Z_if_eq (pc := 165) (tgt := 172) hX (by omega) dX5_two_165 (by decide) (fun _ => ?_) (fun h => absurd h (by decide))
            refine V_iconst (pc := 172) (z := 0) hX (oI 0) rfl dX5_two_172 ?_
            refine V_iret (pc := 173) hX hR dX5_two_173 ?_
            exact ⟨_, rfl, by rw [twoO, if_pos (by omega), twV, if_neg (by omega)]; exact PC_same hCs (LK.rf D)⟩
          · have z75 := of_decide_eq_true h75
            refine V_aload_n (pc := 78) (j := 0) hX 0 rfl rfl dX5_two_78 ?_
            refine gf_X5_11 (pc := 79) hX dX5_two_79 ?_
            refine V_iload_n (pc := 82) (j := 2) hX 2 rfl rfl dX5_two_82 ?_
            refine zl_4 (pc := 83) hX (b.toNat) (by omega) (by omega) dX5_two_83 ?_
            refine V_aload_n (pc := 84) (j := 0) hX 0 rfl rfl dX5_two_84 ?_
            refine gf_X5_11 (pc := 85) hX dX5_two_85 ?_
            refine V_iload_n (pc := 88) (j := 1) hX 1 rfl rfl dX5_two_88 ?_
            refine zl_4 (pc := 89) hX (a.toNat) (by omega) (by omega) dX5_two_89 ?_
            refine cVI1 (pc := 90) hX (c_X0_isIn (A := σ.1 b.toNat) (B := σ.1 a.toNat) (hCs.ac (by omega)) (hCs.ac (by omega))) (by decide) st_X5_147 (ix_1 _) rfl rfl rfl (Nat.le_of_ble_eq_true rfl) dX5_two_90 ?_
            refine B_if_eq (pc := 93) (tgt := 100) hX dX5_two_93 (by decide) (fun h93 => ?_) (fun h93 => ?_)
            · have z93 := of_decide_eq_false h93
              refine V_iconst (pc := 100) (z := 0) hX (oI 0) rfl dX5_two_100 ?_
              refine V_istore (pc := 101) hX (by decide) rfl dX5_two_101 ?_
              refine V_goto (pc := 103) (off := 60) (tgt := 163) hX (by decide) dX5_two_103 ?_
              refine V_iload (pc := 163) hX rfl dX5_two_163 ?_
              refine Z_if_eq (pc := 165) (tgt := 172) hX (by omega) dX5_two_165 (by decide) (fun _ => ?_) (fun h => absurd h (by decide))
              refine V_iconst (pc := 172) (z := 0) hX (oI 0) rfl dX5_two_172 ?_
              refine V_iret (pc := 173) hX hR dX5_two_173 ?_
              exact ⟨_, rfl, by rw [twoO, if_pos (by omega), twV, if_neg (by omega)]; exact PC_same hCs (LK.rf D)⟩
            · have z93 := of_decide_eq_true h93
              refine V_iconst (pc := 96) (z := 1) hX (oI 1) rfl dX5_two_96 ?_
              refine V_goto (pc := 97) (off := 4) (tgt := 101) hX (by decide) dX5_two_97 ?_
              refine V_istore (pc := 101) hX (by decide) rfl dX5_two_101 ?_
              refine V_goto (pc := 103) (off := 60) (tgt := 163) hX (by decide) dX5_two_103 ?_
              refine V_iload (pc := 163) hX rfl dX5_two_163 ?_
              refine Z_if_eq (pc := 165) (tgt := 172) hX (by omega) dX5_two_165 (by decide) (fun h => absurd h (by decide)) (fun _ => ?_)
              refine V_iconst (pc := 168) (z := 1) hX (oI 1) rfl dX5_two_168 ?_
              refine V_goto (pc := 169) (off := 4) (tgt := 173) hX (by decide) dX5_two_169 ?_
              refine V_iret (pc := 173) hX hR dX5_two_173 ?_
              exact ⟨_, rfl, by rw [twoO, if_pos (by omega), twV, if_pos (by omega)]; exact PC_same hCs (LK.rf D)⟩
        by_cases h32_1 : w = 1
        · refine Z_tableIn (pc := 32) (tgt := 106) hX 1 h32_1 (by decide) (by decide) (by decide) dX5_two_32 rfl (by decide) ?_
          refine V_aload_n (pc := 106) (j := 0) hX 0 rfl rfl dX5_two_106 ?_
          refine gf_X5_11 (pc := 107) hX dX5_two_107 ?_
          refine V_iload_n (pc := 110) (j := 1) hX 1 rfl rfl dX5_two_110 ?_
          refine zl_4 (pc := 111) hX (a.toNat) (by omega) (by omega) dX5_two_111 ?_
          refine V_aload_n (pc := 112) (j := 0) hX 0 rfl rfl dX5_two_112 ?_
          refine gf_X5_11 (pc := 113) hX dX5_two_113 ?_
          refine V_iload_n (pc := 116) (j := 2) hX 2 rfl rfl dX5_two_116 ?_
          refine zl_4 (pc := 117) hX (b.toNat) (by omega) (by omega) dX5_two_117 ?_
          refine cVI1 (pc := 118) hX (c_X0_isIn (A := σ.1 a.toNat) (B := σ.1 b.toNat) (hCs.ac (by omega)) (hCs.ac (by omega))) (by decide) st_X5_147 (ix_1 _) rfl rfl rfl (Nat.le_of_ble_eq_true rfl) dX5_two_118 ?_
          refine V_istore (pc := 121) hX (by decide) rfl dX5_two_121 ?_
          refine V_goto (pc := 123) (off := 40) (tgt := 163) hX (by decide) dX5_two_123 ?_
          refine V_iload (pc := 163) hX rfl dX5_two_163 ?_
          refine B_if_eq (pc := 165) (tgt := 172) hX dX5_two_165 (by decide) (fun h165 => ?_) (fun h165 => ?_)
          · have z165 := of_decide_eq_false h165
            refine V_iconst (pc := 172) (z := 0) hX (oI 0) rfl dX5_two_172 ?_
            refine V_iret (pc := 173) hX hR dX5_two_173 ?_
            exact ⟨_, rfl, by rw [twoO, if_pos (by omega), twV, if_neg (by omega)]; exact PC_same hCs (LK.rf D)⟩
          · have z165 := of_decide_eq_true h165
            refine V_iconst (pc := 168) (z := 1) hX (oI 1) rfl dX5_two_168 ?_
            refine V_goto (pc := 169) (off := 4) (tgt := 173) hX (by decide) dX5_two_169 ?_
            refine V_iret (pc := 173) hX hR dX5_two_173 ?_
            exact ⟨_, rfl, by rw [twoO, if_pos (by omega), twV, if_pos (by omega)]; exact PC_same hCs (LK.rf D)⟩
        by_cases h32_2 : w = 2
        · refine Z_tableIn (pc := 32) (tgt := 126) hX 2 h32_2 (by decide) (by decide) (by decide) dX5_two_32 rfl (by decide) ?_
          refine V_aload_n (pc := 126) (j := 0) hX 0 rfl rfl dX5_two_126 ?_
          refine gf_X5_11 (pc := 127) hX dX5_two_127 ?_
          refine V_iload_n (pc := 130) (j := 1) hX 1 rfl rfl dX5_two_130 ?_
          refine zl_4 (pc := 131) hX (a.toNat) (by omega) (by omega) dX5_two_131 ?_
          refine V_aload_n (pc := 132) (j := 0) hX 0 rfl rfl dX5_two_132 ?_
          refine gf_X5_11 (pc := 133) hX dX5_two_133 ?_
          refine V_iload_n (pc := 136) (j := 2) hX 2 rfl rfl dX5_two_136 ?_
          refine zl_4 (pc := 137) hX (b.toNat) (by omega) (by omega) dX5_two_137 ?_
          refine cVI1 (pc := 138) hX (c_X0_meets (A := σ.1 a.toNat) (B := σ.1 b.toNat) (hCs.ac (by omega)) (hCs.ac (by omega))) (by decide) st_X5_150 (ix_1 _) rfl rfl rfl (Nat.le_of_ble_eq_true rfl) dX5_two_138 ?_
          refine V_istore (pc := 141) hX (by decide) rfl dX5_two_141 ?_
          refine V_goto (pc := 143) (off := 20) (tgt := 163) hX (by decide) dX5_two_143 ?_
          refine V_iload (pc := 163) hX rfl dX5_two_163 ?_
          refine B_if_eq (pc := 165) (tgt := 172) hX dX5_two_165 (by decide) (fun h165 => ?_) (fun h165 => ?_)
          · have z165 := of_decide_eq_false h165
            refine V_iconst (pc := 172) (z := 0) hX (oI 0) rfl dX5_two_172 ?_
            refine V_iret (pc := 173) hX hR dX5_two_173 ?_
            exact ⟨_, rfl, by rw [twoO, if_pos (by omega), twV, if_neg (by omega)]; exact PC_same hCs (LK.rf D)⟩
          · have z165 := of_decide_eq_true h165
            refine V_iconst (pc := 168) (z := 1) hX (oI 1) rfl dX5_two_168 ?_
            refine V_goto (pc := 169) (off := 4) (tgt := 173) hX (by decide) dX5_two_169 ?_
            refine V_iret (pc := 173) hX hR dX5_two_173 ?_
            exact ⟨_, rfl, by rw [twoO, if_pos (by omega), twV, if_pos (by omega)]; exact PC_same hCs (LK.rf D)⟩
        refine Z_tableOut (pc := 32) (tgt := 146) hX (by omega) (by omega) dX5_two_32 (by decide) ?_
        refine V_aload_n (pc := 146) (j := 0) hX 0 rfl rfl dX5_two_146 ?_
        refine gf_X5_11 (pc := 147) hX dX5_two_147 ?_
        refine V_iload_n (pc := 150) (j := 1) hX 1 rfl rfl dX5_two_150 ?_
        refine zl_4 (pc := 151) hX (a.toNat) (by omega) (by omega) dX5_two_151 ?_
        refine V_aload_n (pc := 152) (j := 0) hX 0 rfl rfl dX5_two_152 ?_
        refine gf_X5_11 (pc := 153) hX dX5_two_153 ?_
        refine V_iload_n (pc := 156) (j := 2) hX 2 rfl rfl dX5_two_156 ?_
        refine zl_4 (pc := 157) hX (b.toNat) (by omega) (by omega) dX5_two_157 ?_
        refine cVI1 (pc := 158) hX (c_X0_touches (A := σ.1 a.toNat) (B := σ.1 b.toNat) (hCs.ac (by omega)) (hCs.ac (by omega))) (by decide) st_X5_153 (ix_1 _) rfl rfl rfl (Nat.le_of_ble_eq_true rfl) dX5_two_158 ?_
        refine V_istore (pc := 161) hX (by decide) rfl dX5_two_161 ?_
        refine V_iload (pc := 163) hX rfl dX5_two_163 ?_
        refine B_if_eq (pc := 165) (tgt := 172) hX dX5_two_165 (by decide) (fun h165 => ?_) (fun h165 => ?_)
        · have z165 := of_decide_eq_false h165
          refine V_iconst (pc := 172) (z := 0) hX (oI 0) rfl dX5_two_172 ?_
          refine V_iret (pc := 173) hX hR dX5_two_173 ?_
          exact ⟨_, rfl, by rw [twoO, if_pos (by omega), twV, if_neg (by omega)]; exact PC_same hCs (LK.rf D)⟩
        · have z165 := of_decide_eq_true h165
          refine V_iconst (pc := 168) (z := 1) hX (oI 1) rfl dX5_two_168 ?_
          refine V_goto (pc := 169) (off := 4) (tgt := 173) hX (by decide) dX5_two_169 ?_
          refine V_iret (pc := 173) hX hR dX5_two_173 ?_
          exact ⟨_, rfl, by rw [twoO, if_pos (by omega), twV, if_pos (by omega)]; exact PC_same hCs (LK.rf D)⟩
      · have q20 := inB_f.mp h20
        refine V_aload_n (pc := 23) (j := 0) hX 0 rfl rfl dX5_two_23 ?_
        refine V_sipush (pc := 24) (z := (-202)) hX (oI (-202)) (by decide) dX5_two_24 ?_
        refine cVI1 (pc := 27) hX (c_X5_answer (v := -202) (by omega)) (by decide) st_X5_66 ix_0 rfl rfl rfl (Nat.le_of_ble_eq_true rfl) dX5_two_27 ?_
        refine V_iret (pc := 30) hX hR dX5_two_30 ?_
        exact ⟨_, rfl, by rw [twoO, if_neg (by omega)]; exact PC_bad hCs⟩
theorem c_X5_across {E : Le} {l : Launch} {D : Dt} {σ : AS} {a line v : Int} (r_a : Rg a) (r_line : Rg line) (r_v : Rg v) (hCs : Cst D σ) : ConIp E l yX5_across cX5_across 4 (some .int) 3 [.ref (E.1 (0, 0)), .int (oI a), .int (oI line), .int (oI v)] D (PubC D (acrO σ a line v)) := by
  refine Con_of (by decide) (Nat.le_of_ble_eq_true rfl) ?_
  intro X hX hR hl; subst hl
  refine V_iload_n (pc := 0) (j := 1) hX 1 rfl rfl dX5_across_0 ?_
  refine cSI1 (pc := 1) hX (c_X5_isArea (by omega)) (by decide) st_X5_63 (Nat.le_of_ble_eq_true rfl) dX5_across_1 ?_
  refine B_if_eq (pc := 4) (tgt := 23) hX dX5_across_4 (by decide) (fun h4 => ?_) (fun h4 => ?_)
  · have q4 := inB_f.mp h4
    refine V_aload_n (pc := 23) (j := 0) hX 0 rfl rfl dX5_across_23 ?_
    refine V_sipush (pc := 24) (z := (-202)) hX (oI (-202)) (by decide) dX5_across_24 ?_
    refine cVI1 (pc := 27) hX (c_X5_answer (v := -202) (by omega)) (by decide) st_X5_66 ix_0 rfl rfl rfl (Nat.le_of_ble_eq_true rfl) dX5_across_27 ?_
    refine V_iret (pc := 30) hX hR dX5_across_30 ?_
    exact ⟨_, rfl, by rw [acrO, if_neg (by omega)]; exact PC_bad hCs⟩
  · have q4 := inB_t.mp h4
    refine V_iload_n (pc := 7) (j := 2) hX 2 rfl rfl dX5_across_7 ?_
    refine V_iconst (pc := 8) (z := 0) hX (oI 0) rfl dX5_across_8 ?_
    refine V_iconst (pc := 9) (z := 1) hX (oI 1) rfl dX5_across_9 ?_
    refine cSI3 (pc := 10) hX (c_X5_within (by omega) (by omega) (by omega)) (by decide) st_X5_59 (Nat.le_of_ble_eq_true rfl) dX5_across_10 ?_
    refine B_if_eq (pc := 13) (tgt := 23) hX dX5_across_13 (by decide) (fun h13 => ?_) (fun h13 => ?_)
    · have q13 := inB_f.mp h13
      refine V_aload_n (pc := 23) (j := 0) hX 0 rfl rfl dX5_across_23 ?_
      refine V_sipush (pc := 24) (z := (-202)) hX (oI (-202)) (by decide) dX5_across_24 ?_
      refine cVI1 (pc := 27) hX (c_X5_answer (v := -202) (by omega)) (by decide) st_X5_66 ix_0 rfl rfl rfl (Nat.le_of_ble_eq_true rfl) dX5_across_27 ?_
      refine V_iret (pc := 30) hX hR dX5_across_30 ?_
      exact ⟨_, rfl, by rw [acrO, if_neg (by omega)]; exact PC_bad hCs⟩
    · have q13 := inB_t.mp h13
      refine V_iload_n (pc := 16) (j := 3) hX 3 rfl rfl dX5_across_16 ?_
      refine cSI1 (pc := 17) hX (c_X5_isPlace (by omega)) (by decide) st_X5_55 (Nat.le_of_ble_eq_true rfl) dX5_across_17 ?_
      refine B_if_ne (pc := 20) (tgt := 31) hX dX5_across_20 (by decide) (fun h20 => ?_) (fun h20 => ?_)
      · have q20 := inB_t.mp h20
        refine V_iload_n (pc := 31) (j := 2) hX 2 rfl rfl dX5_across_31 ?_
        refine Z_if_ne (pc := 32) (tgt := 48) hX (by omega) dX5_across_32 (by decide) (fun h32 => ?_) (fun h32 => ?_)
        · refine V_aload_n (pc := 48) (j := 0) hX 0 rfl rfl dX5_across_48 ?_
          refine gf_X5_11 (pc := 49) hX dX5_across_49 ?_
          refine V_iload_n (pc := 52) (j := 1) hX 1 rfl rfl dX5_across_52 ?_
          refine zl_4 (pc := 53) hX (a.toNat) (by omega) (by omega) dX5_across_53 ?_
          refine V_iload_n (pc := 54) (j := 3) hX 3 rfl rfl dX5_across_54 ?_
          refine cVI1 (pc := 55) hX (c_X0_cellsInColumn (S := σ.1 a.toNat) (by omega) (hCs.ac (by omega))) (by decide) st_X5_159 (ix_1 _) rfl rfl rfl (Nat.le_of_ble_eq_true rfl) dX5_across_55 ?_
          refine V_iret (pc := 58) hX hR dX5_across_58 ?_
          have hac : acrC (σ.1 a.toNat) line (v + 60).toNat = fun kk0 => σ.1 a.toNat (v + 60).toNat kk0 := by funext kk0; rw [acrC, if_neg (by omega)]
          exact ⟨_, rfl, by rw [acrO, if_pos (by omega), hac]; exact PC_same hCs (LK.rf D)⟩
        · refine V_aload_n (pc := 35) (j := 0) hX 0 rfl rfl dX5_across_35 ?_
          refine gf_X5_11 (pc := 36) hX dX5_across_36 ?_
          refine V_iload_n (pc := 39) (j := 1) hX 1 rfl rfl dX5_across_39 ?_
          refine zl_4 (pc := 40) hX (a.toNat) (by omega) (by omega) dX5_across_40 ?_
          refine V_iload_n (pc := 41) (j := 3) hX 3 rfl rfl dX5_across_41 ?_
          refine cVI1 (pc := 42) hX (c_X0_cellsInRow (S := σ.1 a.toNat) (by omega) (hCs.ac (by omega))) (by decide) st_X5_156 (ix_1 _) rfl rfl rfl (Nat.le_of_ble_eq_true rfl) dX5_across_42 ?_
          refine V_goto (pc := 45) (off := 13) (tgt := 58) hX (by decide) dX5_across_45 ?_
          refine V_iret (pc := 58) hX hR dX5_across_58 ?_
          have hac : acrC (σ.1 a.toNat) line (v + 60).toNat = fun kk0 => σ.1 a.toNat kk0 (v + 60).toNat := by funext kk0; rw [acrC, if_pos (by omega)]
          exact ⟨_, rfl, by rw [acrO, if_pos (by omega), hac]; exact PC_same hCs (LK.rf D)⟩
      · have q20 := inB_f.mp h20
        refine V_aload_n (pc := 23) (j := 0) hX 0 rfl rfl dX5_across_23 ?_
        refine V_sipush (pc := 24) (z := (-202)) hX (oI (-202)) (by decide) dX5_across_24 ?_
        refine cVI1 (pc := 27) hX (c_X5_answer (v := -202) (by omega)) (by decide) st_X5_66 ix_0 rfl rfl rfl (Nat.le_of_ble_eq_true rfl) dX5_across_27 ?_
        refine V_iret (pc := 30) hX hR dX5_across_30 ?_
        exact ⟨_, rfl, by rw [acrO, if_neg (by omega)]; exact PC_bad hCs⟩
theorem c_X5_type {E : Le} {l : Launch} {D : Dt} {σ : AS} {c : Int} (r_c : Rg c) (hCs : Cst D σ) : ConIp E l yX5_type cX5_type 2 (some .int) 3 [.ref (E.1 (0, 0)), .int (oI c)] D (PubC D (typeO σ c)) := by
  refine Con_of (by decide) (Nat.le_of_ble_eq_true rfl) ?_
  intro X hX hR hl; subst hl
  refine V_iload_n (pc := 0) (j := 1) hX 1 rfl rfl dX5_type_0 ?_
  refine V_iconst (pc := 1) (z := 0) hX (oI 0) rfl dX5_type_1 ?_
  refine V_bipush (pc := 2) (z := 127) hX (oI 127) (by decide) dX5_type_2 ?_
  refine cSI3 (pc := 4) hX (c_X5_within (by omega) (by omega) (by omega)) (by decide) st_X5_59 (Nat.le_of_ble_eq_true rfl) dX5_type_4 ?_
  refine B_if_ne (pc := 7) (tgt := 18) hX dX5_type_7 (by decide) (fun h7 => ?_) (fun h7 => ?_)
  · have q7 := inB_t.mp h7
    refine V_aload_n (pc := 18) (j := 0) hX 0 rfl rfl dX5_type_18 ?_
    refine V_aload_n (pc := 19) (j := 0) hX 0 rfl rfl dX5_type_19 ?_
    refine gf_X5_40 (pc := 20) hX dX5_type_20 ?_
    refine V_iload_n (pc := 23) (j := 1) hX 1 rfl rfl dX5_type_23 ?_
    refine cVIp1 (pc := 24) hX (c_X4_add (n := σ.2.2.1.1) hCs.2.2.2.1.1 hCs.2.2.2.1.2.1 (by omega)) (by decide) st_X5_166 ix_15 rfl rfl rfl (Nat.le_of_ble_eq_true rfl) dX5_type_24 (fun r24 D24 h24 => ?_)
    obtain ⟨rfl, hAd, hNo⟩ := h24
    have hn120 := hCs.2.2.2.1.2.1
    refine B_if_eq (pc := 27) (tgt := 40) hX dX5_type_27 (by decide) (fun h27 => ?_) (fun h27 => ?_)
    · refine V_sipush (pc := 40) (z := (-204)) hX (oI (-204)) (by decide) dX5_type_40 ?_
      refine cVI1 (pc := 43) hX (c_X5_answer (v := -204) (by omega)) (by decide) st_X5_66 ix_0 rfl rfl rfl (Nat.le_of_ble_eq_true rfl) dX5_type_43 ?_
      refine V_iret (pc := 46) hX hR dX5_type_46 ?_
      have hn27 := of_decide_eq_false h27
      have hEq := hNo hn27
      exact ⟨_, rfl, by rw [typeO, if_pos (by omega), if_pos (by omega), hEq]; exact PC_full hCs (LK.rf D)⟩
    · refine V_aload_n (pc := 30) (j := 0) hX 0 rfl rfl dX5_type_30 ?_
      refine gf_X5_40 (pc := 31) hX dX5_type_31 ?_
      refine gf_X5_168 (pc := 34) hX dX5_type_34 ?_
      refine V_oI ((σ.2.2.1.1 + 1 : Nat) : Int) (hAd (of_decide_eq_true h27)).1.1 ?_
      refine V_goto (pc := 37) (off := 6) (tgt := 43) hX (by decide) dX5_type_37 ?_
      refine cVI1 (pc := 43) hX (c_X5_answer (v := ((σ.2.2.1.1 + 1 : Nat) : Int)) (by have := of_decide_eq_true h27; omega)) (by decide) st_X5_66 ix_0 rfl rfl rfl (Nat.le_of_ble_eq_true rfl) dX5_type_43 ?_
      refine V_iret (pc := 46) hX hR dX5_type_46 ?_
      have hn27 := of_decide_eq_true h27
      exact ⟨_, rfl, by rw [typeO, if_pos (by omega), if_neg (by omega)]; exact PC_type hCs hn27 (by omega) (hAd hn27)⟩
  · have q7 := inB_f.mp h7
    refine V_aload_n (pc := 10) (j := 0) hX 0 rfl rfl dX5_type_10 ?_
    refine V_sipush (pc := 11) (z := (-202)) hX (oI (-202)) (by decide) dX5_type_11 ?_
    refine cVI1 (pc := 14) hX (c_X5_answer (v := -202) (by omega)) (by decide) st_X5_66 ix_0 rfl rfl rfl (Nat.le_of_ble_eq_true rfl) dX5_type_14 ?_
    refine V_iret (pc := 17) hX hR dX5_type_17 ?_
    exact ⟨_, rfl, by rw [typeO, if_neg (by omega)]; exact PC_bad hCs⟩
