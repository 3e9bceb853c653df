def typeO (σ : AS) (c : Int) : Int × AS := if 0 ≤ c ∧ c ≤ 127 then (if σ.2.2.1.1 = 120 then (-204, refA σ (-204)) else (((σ.2.2.1.1 + 1 : Nat) : Int), (σ.1, σ.2.1, (σ.2.2.1.1 + 1, fun k => if k = σ.2.2.1.1 then c else σ.2.2.1.2 k), σ.2.2.2))) else badA σ
def clearO (σ : AS) : Int × AS := ((σ.2.2.1.1 : Int), (σ.1, σ.2.1, (0, σ.2.2.1.2), σ.2.2.2))
theorem MR.type {D : Dt} {σ : AS} (h : MR D σ) {c : Int} (hc : 0 ≤ c ∧ c ≤ 127) (hn : σ.2.2.1.1 < 120) : MR (rU (rU D 23 (upd (D.1 23) σ.2.2.1.1 (oI c))) 20 (upd (D.1 20) 3 (oI ((σ.2.2.1.1 + 1 : Nat) : Int)))) (σ.1, σ.2.1, (σ.2.2.1.1 + 1, fun k => if k = σ.2.2.1.1 then c else σ.2.2.1.2 k), σ.2.2.2) := by
  obtain ⟨h1, h2, h3, h4⟩ := h
  refine ⟨h1, ⟨rfl, by show σ.2.2.1.1 + 1 ≤ 120; omega, fun k hk => ?_⟩, h3, h4⟩
  have hk : k < σ.2.2.1.1 + 1 := hk
  show (if k = σ.2.2.1.1 then oI c else D.1 23 k) = oI (if k = σ.2.2.1.1 then c else σ.2.2.1.2 k) ∧ 0 ≤ (if k = σ.2.2.1.1 then c else σ.2.2.1.2 k) ∧ (if k = σ.2.2.1.1 then c else σ.2.2.1.2 k) < 128
  by_cases e : k = σ.2.2.1.1
  · simp only [if_pos e]
    exact ⟨trivial, by omega, by omega⟩
  · simp only [if_neg e]
    exact h2.2.2 k (by omega)
theorem Mst.clear {D : Dt} {σ : AS} (h : Mst D σ) : Mst (rU D 20 (upd (D.1 20) 3 (oI 0))) (clearO σ).2 := by
  obtain ⟨h0, h1, h2, h3, h4⟩ := h
  exact ⟨h0, h1, ⟨rfl, Nat.zero_le _, fun k hk => absurd hk (Nat.not_lt_zero k)⟩, h3, h4⟩
theorem c_X6_type {E : Le} {l : Launch} {D : Dt} {σ : AS} {c : Int} (r_c : Rg c) (hM : Mst D σ) : ConIp E l yX6_type cX6_type 2 (some .int) 2 [.ref (E.1 (20, 0)), .int (oI c)] D (PubP D (typeO σ c)) := by
  refine Con_of (by decide) (Nat.le_of_ble_eq_true rfl) ?_
  intro X hX hR hl; subst hl
  have h12 := hM.2.2.1.2.1
  refine V_iload_n (pc := 0) (j := 1) hX 1 rfl rfl dX6_type_0 ?_
  refine V_iconst (pc := 1) (z := 0) hX (oI 0) rfl dX6_type_1 ?_
  refine V_bipush (pc := 2) (z := 127) hX (oI 127) (by decide) dX6_type_2 ?_
  refine cSI3 (pc := 4) hX (c_X6_in (by omega) (by omega) (by omega)) (by decide) st_X6_33 (Nat.le_of_ble_eq_true rfl) dX6_type_4 ?_
  refine B_if_ne (pc := 7) (tgt := 18) hX dX6_type_7 (by decide) (fun h7 => ?_) (fun h7 => ?_)
  · have q7 := inB_t.mp h7
    refine V_aload_n (pc := 18) (j := 0) hX 0 rfl rfl dX6_type_18 ?_
    refine gf_X6_197 (pc := 19) hX dX6_type_19 ?_
    refine V_oI (σ.2.2.1.1 : Int) hM.2.2.1.1 ?_
    refine V_bipush (pc := 22) (z := 120) hX (oI 120) (by decide) dX6_type_22 ?_
    refine Z_icmp_ne (pc := 24) (tgt := 35) hX (by omega) (by omega) dX6_type_24 (by decide) (fun h24 => ?_) (fun h24 => ?_)
    · refine V_aload_n (pc := 35) (j := 0) hX 0 rfl rfl dX6_type_35 ?_
      refine gf_X6_17 (pc := 36) hX dX6_type_36 ?_
      refine V_aload_n (pc := 39) (j := 0) hX 0 rfl rfl dX6_type_39 ?_
      refine gf_X6_197 (pc := 40) hX dX6_type_40 ?_
      refine V_oI (σ.2.2.1.1 : Int) hM.2.2.1.1 ?_
      refine V_iload_n (pc := 43) (j := 1) hX 1 rfl rfl dX6_type_43 ?_
      refine zs_23 (pc := 44) hX (σ.2.2.1.1) (rfl) (by omega) dX6_type_44 ?_
      refine V_aload_n (pc := 45) (j := 0) hX 0 rfl rfl dX6_type_45 ?_
      refine V_dup (pc := 46) hX rfl dX6_type_46 ?_
      refine gf_X6_197 (pc := 47) hX dX6_type_47 ?_
      refine V_oI (σ.2.2.1.1 : Int) hM.2.2.1.1 ?_
      refine V_iconst (pc := 50) (z := 1) hX (oI 1) rfl dX6_type_50 ?_
      refine Z_iadd (pc := 51) hX dX6_type_51 ?_
      refine pf_X6_197 (pc := 52) hX dX6_type_52 ?_
      refine V_heap (D' := rU (rU D 23 (upd (D.1 23) σ.2.2.1.1 (oI c))) 20 (upd (D.1 20) 3 (oI ((σ.2.2.1.1 + 1 : Nat) : Int)))) rfl ?_
      refine V_aload_n (pc := 55) (j := 0) hX 0 rfl rfl dX6_type_55 ?_
      refine gf_X6_197 (pc := 56) hX dX6_type_56 ?_
      refine V_oI (((σ.2.2.1.1 + 1 : Nat)) : Int) rfl ?_
      refine V_iret (pc := 59) hX hR dX6_type_59 ?_
      exact ⟨_, rfl, by rw [typeO, if_pos (by omega), if_neg (by omega)]; exact ⟨rfl, ⟨hM.1, hM.2.type (by omega) (by omega)⟩, (CK_rU D (by decide) _).tr (CK_rU _ (by decide) _)⟩⟩
    · refine V_aload_n (pc := 27) (j := 0) hX 0 rfl rfl dX6_type_27 ?_
      refine V_sipush (pc := 28) (z := (-204)) hX (oI (-204)) (by decide) dX6_type_28 ?_
      refine cVI1 (pc := 31) hX (c_X6_refuses (by omega)) (by decide) st_X6_105 ix_20 rfl rfl rfl (Nat.le_of_ble_eq_true rfl) dX6_type_31 ?_
      refine V_iret (pc := 34) hX hR dX6_type_34 ?_
      exact ⟨_, rfl, by rw [typeO, if_pos (by omega), if_pos (by omega)]; exact ⟨rfl, hM.ref (by omega), CK_rU D (by decide) _⟩⟩
  · have q7 := inB_f.mp h7
    refine V_aload_n (pc := 10) (j := 0) hX 0 rfl rfl dX6_type_10 ?_
    refine V_sipush (pc := 11) (z := (-202)) hX (oI (-202)) (by decide) dX6_type_11 ?_
    refine cVI1 (pc := 14) hX (c_X6_refuses (by omega)) (by decide) st_X6_105 ix_20 rfl rfl rfl (Nat.le_of_ble_eq_true rfl) dX6_type_14 ?_
    refine V_iret (pc := 17) hX hR dX6_type_17 ?_
    exact ⟨_, rfl, by rw [typeO, if_neg (by omega)]; exact Pub_bad hM⟩
theorem c_X6_clear {E : Le} {l : Launch} {D : Dt} {σ : AS} (hM : Mst D σ) : ConIp E l yX6_clear cX6_clear 2 (some .int) 1 [.ref (E.1 (20, 0))] D (PubP D (clearO σ)) := by
  refine Con_of (by decide) (Nat.le_of_ble_eq_true rfl) ?_
  intro X hX hR hl; subst hl
  refine V_aload_n (pc := 0) (j := 0) hX 0 rfl rfl dX6_clear_0 ?_
  refine gf_X6_197 (pc := 1) hX dX6_clear_1 ?_
  refine V_oI (σ.2.2.1.1 : Int) hM.2.2.1.1 ?_
  refine V_istore_n (pc := 4) (j := 1) hX 1 rfl (by decide) rfl dX6_clear_4 ?_
  refine V_aload_n (pc := 5) (j := 0) hX 0 rfl rfl dX6_clear_5 ?_
  refine V_iconst (pc := 6) (z := 0) hX (oI 0) rfl dX6_clear_6 ?_
  refine pf_X6_197 (pc := 7) hX dX6_clear_7 ?_
  refine V_iload_n (pc := 10) (j := 1) hX 1 rfl rfl dX6_clear_10 ?_
  refine V_iret (pc := 11) hX hR dX6_clear_11 ?_
  exact ⟨_, rfl, rfl, hM.clear, CK_rU D (by decide) _⟩
def wrtO (σ : AS) (a k : Int) : Int × AS := if (0 ≤ a ∧ a ≤ 4) ∧ -1 ≤ k then (if k = -1 then (((wrC (σ.1 a.toNat)).length : Int)) else (kth (wrC (σ.1 a.toNat)) k (oI (-201))).toInt, σ) else badA σ
def markO (σ : AS) (a : Int) : Int × AS := if 0 ≤ a ∧ a ≤ 4 then ((hsL (oI 0) (wrC (σ.1 a.toNat))).toInt, σ) else badA σ
def spanO (σ : AS) (a k wh : Int) : Int × AS := if (0 ≤ a ∧ a ≤ 4) ∧ 0 ≤ k ∧ 0 ≤ wh ∧ wh ≤ 3 then ((kth (fdL wh (rpC (σ.1 a.toNat)) (bandsC (σ.1 a.toNat))) k (oI (-201))).toInt, σ) else badA σ
theorem Mst.form {D : Dt} {σ : AS} (h : Mst D σ) (a : Nat) (k wh w : Int) : Mst (rU D 20 (formI (D.1 20) (D.2.1 21 0) a k wh w)) σ := h.fr (Fr_form D _ a k wh w) (Out8.rf _)
theorem Pub_rd {D D' : Dt} {σ : AS} {r : Int32} (h : Mst D' σ) (k : CK D D') : PubP D (r.toInt, σ) r D' := ⟨(oI_of r).symm, h, k⟩
theorem c_X6_writing {E : Le} {l : Launch} {D : Dt} {σ : AS} {a k : Int} (r_a : Rg a) (r_k : Rg k) (hM : Mst D σ) : ConIp E l yX6_writing cX6_writing 3 (some .int) 6 [.ref (E.1 (20, 0)), .int (oI a), .int (oI k)] D (PubP D (wrtO σ a k)) := by
  refine Con_of (by decide) (Nat.le_of_ble_eq_true rfl) ?_
  intro X hX hR hl; subst hl
  refine V_iload_n (pc := 0) (j := 1) hX 1 rfl rfl dX6_writing_0 ?_
  refine cSI1 (pc := 1) hX (c_X6_isArea (by omega)) (by decide) st_X6_129 (Nat.le_of_ble_eq_true rfl) dX6_writing_1 ?_
  refine B_if_eq (pc := 4) (tgt := 12) hX dX6_writing_4 (by decide) (fun h4 => ?_) (fun h4 => ?_)
  · have q4 := inB_f.mp h4
    refine V_aload_n (pc := 12) (j := 0) hX 0 rfl rfl dX6_writing_12 ?_
    refine V_sipush (pc := 13) (z := (-202)) hX (oI (-202)) (by decide) dX6_writing_13 ?_
    refine cVI1 (pc := 16) hX (c_X6_refuses (by omega)) (by decide) st_X6_105 ix_20 rfl rfl rfl (Nat.le_of_ble_eq_true rfl) dX6_writing_16 ?_
    refine V_iret (pc := 19) hX hR dX6_writing_19 ?_
    exact ⟨_, rfl, by rw [wrtO, if_neg (by omega)]; exact Pub_bad hM⟩
  · have q4 := inB_t.mp h4
    refine V_iload_n (pc := 7) (j := 2) hX 2 rfl rfl dX6_writing_7 ?_
    refine V_iconst (pc := 8) (z := (-1)) hX (oI (-1)) rfl dX6_writing_8 ?_
    refine Z_icmp_ge (pc := 9) (tgt := 20) hX (by omega) (by omega) dX6_writing_9 (by decide) (fun h9 => ?_) (fun h9 => ?_)
    · obtain ⟨a, rfl⟩ : ∃ N0 : Nat, a = (N0 : Int) := ⟨a.toNat, by omega⟩
      refine V_aload_n (pc := 20) (j := 0) hX 0 rfl rfl dX6_writing_20 ?_
      refine V_iload_n (pc := 21) (j := 1) hX 1 rfl rfl dX6_writing_21 ?_
      refine V_iconst (pc := 22) (z := 0) hX (oI 0) rfl dX6_writing_22 ?_
      refine V_iconst (pc := 23) (z := 0) hX (oI 0) rfl dX6_writing_23 ?_
      refine V_iload_n (pc := 24) (j := 2) hX 2 rfl rfl dX6_writing_24 ?_
      refine cVV4 (pc := 25) hX (c_X6_forms (a := a) (by omega) (by omega)) (by decide) st_X6_94 ix_20 rfl rfl rfl (Nat.le_of_ble_eq_true rfl) dX6_writing_25 ?_
      refine V_iload_n (pc := 28) (j := 2) hX 2 rfl rfl dX6_writing_28 ?_
      refine V_iconst (pc := 29) (z := (-1)) hX (oI (-1)) rfl dX6_writing_29 ?_
      refine Z_icmp_ne (pc := 30) (tgt := 40) hX (by omega) (by omega) dX6_writing_30 (by decide) (fun h30 => ?_) (fun h30 => ?_)
      · refine V_aload_n (pc := 40) (j := 0) hX 0 rfl rfl dX6_writing_40 ?_
        refine gf_X6_52 (pc := 41) hX dX6_writing_41 ?_
        refine V_iret (pc := 44) hX hR dX6_writing_44 ?_
        refine ⟨_, rfl, ?_⟩
        rw [wrtO, if_pos (by omega), if_neg (by omega), Int.toNat_natCast]
        refine ⟨?_, hM.form a _ _ _, (Fr_form D _ a _ _ _).ck⟩
        rw [oI_of]
        exact (form_sg (hM.1 a (by omega)).1 _ _ _ r_k).2.2
      · refine V_aload_n (pc := 33) (j := 0) hX 0 rfl rfl dX6_writing_33 ?_
        refine gf_X6_45 (pc := 34) hX dX6_writing_34 ?_
        refine V_goto (pc := 37) (off := 7) (tgt := 44) hX (by decide) dX6_writing_37 ?_
        refine V_iret (pc := 44) hX hR dX6_writing_44 ?_
        refine ⟨_, rfl, ?_⟩
        rw [wrtO, if_pos (by omega), if_pos (by omega), Int.toNat_natCast]
        exact ⟨(form_sg (hM.1 a (by omega)).1 _ _ _ r_k).1, hM.form a _ _ _, (Fr_form D _ a _ _ _).ck⟩
    · refine V_aload_n (pc := 12) (j := 0) hX 0 rfl rfl dX6_writing_12 ?_
      refine V_sipush (pc := 13) (z := (-202)) hX (oI (-202)) (by decide) dX6_writing_13 ?_
      refine cVI1 (pc := 16) hX (c_X6_refuses (by omega)) (by decide) st_X6_105 ix_20 rfl rfl rfl (Nat.le_of_ble_eq_true rfl) dX6_writing_16 ?_
      refine V_iret (pc := 19) hX hR dX6_writing_19 ?_
      exact ⟨_, rfl, by rw [wrtO, if_neg (by omega)]; exact Pub_bad hM⟩
theorem c_X6_markOf {E : Le} {l : Launch} {D : Dt} {σ : AS} {a : Nat} (ha : a < 5) (hM : Mst D σ) : ConIp E l yX6_markOf cX6_markOf 2 (some .int) 6 [.ref (E.1 (20, 0)), .int (oI (a : Int))] D (fun r D' => r = hsL (oI 0) (wrC (σ.1 a)) ∧ D' = rU D 20 (formI (D.1 20) (D.2.1 21 0) a 0 0 0)) := by
  refine Con_of (by decide) (Nat.le_of_ble_eq_true rfl) ?_
  intro X hX hR hl; subst hl
  refine V_aload_n (pc := 0) (j := 0) hX 0 rfl rfl dX6_markOf_0 ?_
  refine V_iload_n (pc := 1) (j := 1) hX 1 rfl rfl dX6_markOf_1 ?_
  refine V_iconst (pc := 2) (z := 0) hX (oI 0) rfl dX6_markOf_2 ?_
  refine V_iconst (pc := 3) (z := 0) hX (oI 0) rfl dX6_markOf_3 ?_
  refine V_iconst (pc := 4) (z := 0) hX (oI 0) rfl dX6_markOf_4 ?_
  refine cVV4 (pc := 5) hX (c_X6_forms (a := a) (by omega) (by omega)) (by decide) st_X6_94 ix_20 rfl rfl rfl (Nat.le_of_ble_eq_true rfl) dX6_markOf_5 ?_
  refine V_aload_n (pc := 8) (j := 0) hX 0 rfl rfl dX6_markOf_8 ?_
  refine gf_X6_55 (pc := 9) hX dX6_markOf_9 ?_
  refine V_iret (pc := 12) hX hR dX6_markOf_12 ?_
  exact ⟨_, rfl, (form_sg (hM.1 a ha).1 _ _ _ (by omega)).2.1, rfl⟩
theorem c_X6_mark {E : Le} {l : Launch} {D : Dt} {σ : AS} {a : Int} (r_a : Rg a) (hM : Mst D σ) : ConIp E l yX6_mark cX6_mark 2 (some .int) 7 [.ref (E.1 (20, 0)), .int (oI a)] D (PubP D (markO σ a)) := by
  refine Con_of (by decide) (Nat.le_of_ble_eq_true rfl) ?_
  intro X hX hR hl; subst hl
  refine V_iload_n (pc := 0) (j := 1) hX 1 rfl rfl dX6_mark_0 ?_
  refine cSI1 (pc := 1) hX (c_X6_isArea (by omega)) (by decide) st_X6_129 (Nat.le_of_ble_eq_true rfl) dX6_mark_1 ?_
  refine B_if_eq (pc := 4) (tgt := 15) hX dX6_mark_4 (by decide) (fun h4 => ?_) (fun h4 => ?_)
  · have q4 := inB_f.mp h4
    refine V_aload_n (pc := 15) (j := 0) hX 0 rfl rfl dX6_mark_15 ?_
    refine V_sipush (pc := 16) (z := (-202)) hX (oI (-202)) (by decide) dX6_mark_16 ?_
    refine cVI1 (pc := 19) hX (c_X6_refuses (by omega)) (by decide) st_X6_105 ix_20 rfl rfl rfl (Nat.le_of_ble_eq_true rfl) dX6_mark_19 ?_
    refine V_iret (pc := 22) hX hR dX6_mark_22 ?_
    exact ⟨_, rfl, by rw [markO, if_neg (by omega)]; exact Pub_bad hM⟩
  · have q4 := inB_t.mp h4
    obtain ⟨a, rfl⟩ : ∃ N0 : Nat, a = (N0 : Int) := ⟨a.toNat, by omega⟩
    refine V_aload_n (pc := 7) (j := 0) hX 0 rfl rfl dX6_mark_7 ?_
    refine V_iload_n (pc := 8) (j := 1) hX 1 rfl rfl dX6_mark_8 ?_
    refine cVIp1 (pc := 9) hX (c_X6_markOf (σ := σ) (a := a) (by omega) hM) (by decide) st_X6_235 ix_20 rfl rfl rfl (Nat.le_of_ble_eq_true rfl) dX6_mark_9 (fun r9 D9 h9 => ?_)
    obtain ⟨e1, rfl⟩ := h9
    refine V_goto (pc := 12) (off := 10) (tgt := 22) hX (by decide) dX6_mark_12 ?_
    refine V_iret (pc := 22) hX hR dX6_mark_22 ?_
    refine ⟨_, rfl, ?_⟩
    rw [markO, if_pos (by omega), Int.toNat_natCast]
    exact ⟨by rw [oI_of]; exact e1, hM.form a _ _ _, (Fr_form D _ a _ _ _).ck⟩
theorem c_X6_span {E : Le} {l : Launch} {D : Dt} {σ : AS} {a k wh : Int} (r_a : Rg a) (r_k : Rg k) (r_w : Rg wh) (hM : Mst D σ) : ConIp E l yX6_span cX6_span 4 (some .int) 6 [.ref (E.1 (20, 0)), .int (oI a), .int (oI k), .int (oI wh)] D (PubP D (spanO σ a k wh)) := by
  refine Con_of (by decide) (Nat.le_of_ble_eq_true rfl) ?_
  intro X hX hR hl; subst hl
  refine V_iload_n (pc := 0) (j := 1) hX 1 rfl rfl dX6_span_0 ?_
  refine cSI1 (pc := 1) hX (c_X6_isArea (by omega)) (by decide) st_X6_129 (Nat.le_of_ble_eq_true rfl) dX6_span_1 ?_
  refine B_if_eq (pc := 4) (tgt := 20) hX dX6_span_4 (by decide) (fun h4 => ?_) (fun h4 => ?_)
  · have q4 := inB_f.mp h4
    refine V_aload_n (pc := 20) (j := 0) hX 0 rfl rfl dX6_span_20 ?_
    refine V_sipush (pc := 21) (z := (-202)) hX (oI (-202)) (by decide) dX6_span_21 ?_
    refine cVI1 (pc := 24) hX (c_X6_refuses (by omega)) (by decide) st_X6_105 ix_20 rfl rfl rfl (Nat.le_of_ble_eq_true rfl) dX6_span_24 ?_
    refine V_iret (pc := 27) hX hR dX6_span_27 ?_
    exact ⟨_, rfl, by rw [spanO, if_neg (by omega)]; exact Pub_bad hM⟩
  · have q4 := inB_t.mp h4
    refine V_iload_n (pc := 7) (j := 2) hX 2 rfl rfl dX6_span_7 ?_
    refine Z_if_lt (pc := 8) (tgt := 20) hX (by omega) dX6_span_8 (by decide) (fun h8 => ?_) (fun h8 => ?_)
    · refine V_aload_n (pc := 20) (j := 0) hX 0 rfl rfl dX6_span_20 ?_
      refine V_sipush (pc := 21) (z := (-202)) hX (oI (-202)) (by decide) dX6_span_21 ?_
      refine cVI1 (pc := 24) hX (c_X6_refuses (by omega)) (by decide) st_X6_105 ix_20 rfl rfl rfl (Nat.le_of_ble_eq_true rfl) dX6_span_24 ?_
      refine V_iret (pc := 27) hX hR dX6_span_27 ?_
      exact ⟨_, rfl, by rw [spanO, if_neg (by omega)]; exact Pub_bad hM⟩
    · refine V_iload_n (pc := 11) (j := 3) hX 3 rfl rfl dX6_span_11 ?_
      refine V_iconst (pc := 12) (z := 0) hX (oI 0) rfl dX6_span_12 ?_
      refine V_iconst (pc := 13) (z := 3) hX (oI 3) rfl dX6_span_13 ?_
      refine cSI3 (pc := 14) hX (c_X6_in (by omega) (by omega) (by omega)) (by decide) st_X6_33 (Nat.le_of_ble_eq_true rfl) dX6_span_14 ?_
      refine B_if_ne (pc := 17) (tgt := 28) hX dX6_span_17 (by decide) (fun h17 => ?_) (fun h17 => ?_)
      · have q17 := inB_t.mp h17
        obtain ⟨a, rfl⟩ : ∃ N0 : Nat, a = (N0 : Int) := ⟨a.toNat, by omega⟩
        refine V_aload_n (pc := 28) (j := 0) hX 0 rfl rfl dX6_span_28 ?_
        refine V_iload_n (pc := 29) (j := 1) hX 1 rfl rfl dX6_span_29 ?_
        refine V_iload_n (pc := 30) (j := 2) hX 2 rfl rfl dX6_span_30 ?_
        refine V_iload_n (pc := 31) (j := 3) hX 3 rfl rfl dX6_span_31 ?_
        refine V_iconst (pc := 32) (z := 0) hX (oI 0) rfl dX6_span_32 ?_
        refine cVV4 (pc := 33) hX (c_X6_forms (a := a) (by omega) (by omega)) (by decide) st_X6_94 ix_20 rfl rfl rfl (Nat.le_of_ble_eq_true rfl) dX6_span_33 ?_
        refine V_aload_n (pc := 36) (j := 0) hX 0 rfl rfl dX6_span_36 ?_
        refine gf_X6_78 (pc := 37) hX dX6_span_37 ?_
        refine V_iret (pc := 40) hX hR dX6_span_40 ?_
        refine ⟨_, rfl, ?_⟩
        rw [spanO, if_pos (by omega), Int.toNat_natCast]
        exact ⟨by rw [oI_of]; exact form_fd (hM.1 a (by omega)).1 _ r_k _ _, hM.form a _ _ _, (Fr_form D _ a _ _ _).ck⟩
      · have q17 := inB_f.mp h17
        refine V_aload_n (pc := 20) (j := 0) hX 0 rfl rfl dX6_span_20 ?_
        refine V_sipush (pc := 21) (z := (-202)) hX (oI (-202)) (by decide) dX6_span_21 ?_
        refine cVI1 (pc := 24) hX (c_X6_refuses (by omega)) (by decide) st_X6_105 ix_20 rfl rfl rfl (Nat.le_of_ble_eq_true rfl) dX6_span_24 ?_
        refine V_iret (pc := 27) hX hR dX6_span_27 ?_
        exact ⟨_, rfl, by rw [spanO, if_neg (by omega)]; exact Pub_bad hM⟩
def toldV (σ : AS) (what : Int) : Int := if what = 0 ∨ what = 1 ∨ what = 2 then (σ.2.1 what.toNat).toInt else if what = 3 then (σ.2.2.1.1 : Int) else if what = 4 then (σ.2.2.2.1 : Int) else ((fb_sm (fun a => cntC (σ.1 a)) 5 : Nat) : Int)
def toldO (σ : AS) (what : Int) : Int × AS := if 0 ≤ what ∧ what ≤ 5 then (toldV σ what, σ) else badA σ
theorem c_X6_toldOf {E : Le} {l : Launch} {D : Dt} {σ : AS} {what : Int} (hw : 0 ≤ what ∧ what ≤ 5) (hM : Mst D σ) : ConI E l yX6_toldOf cX6_toldOf 4 (some .int) 3 [.ref (E.1 (20, 0)), .int (oI what)] D (oI (toldV σ what)) D := by
  refine Con_of (by decide) (Nat.le_of_ble_eq_true rfl) ?_
  intro X hX hR hl; subst hl
  have loop : what = 5 → ∀ (m : Nat) (k : Nat), k ≤ 5 → 5 - k < m → Vw E X 4 D 55 [(0, some (.ref (E.1 (20, 0)))), (1, some (.int (oI what))), (2, some (.int (oI ((fb_sm (fun a => cntC (σ.1 a)) k : Nat) : Int)))), (3, some (.int (oI (k : Int))))] [] := by
    intro h5 m
    induction m with
    | zero => intro k g1 g2; omega
    | succ m ih =>
      intro k g1 g2
      refine V_iload_n (pc := 55) (j := 3) hX 3 rfl rfl dX6_toldOf_55 ?_
      refine V_iconst (pc := 56) (z := 5) hX (oI 5) rfl dX6_toldOf_56 ?_
      refine Z_icmp_ge (pc := 57) (tgt := 74) hX (by omega) (by omega) dX6_toldOf_57 (by decide) (fun h57 => ?_) (fun h57 => ?_)
      · refine V_iload_n (pc := 74) (j := 2) hX 2 rfl rfl dX6_toldOf_74 ?_
        refine V_iret (pc := 75) hX hR dX6_toldOf_75 ?_
        have e : k = 5 := by omega
        subst e
        exact ⟨some_int (by rw [toldV, if_neg (by omega), if_neg (by omega), if_neg (by omega)]), rfl⟩
      · refine V_iload_n (pc := 60) (j := 2) hX 2 rfl rfl dX6_toldOf_60 ?_
        refine V_aload_n (pc := 61) (j := 0) hX 0 rfl rfl dX6_toldOf_61 ?_
        refine V_iload_n (pc := 62) (j := 3) hX 3 rfl rfl dX6_toldOf_62 ?_
        refine cVI1 (pc := 63) hX (c_X6_cells (a := k) (by omega)) (by decide) st_X6_101 ix_20 rfl rfl rfl (Nat.le_of_ble_eq_true rfl) dX6_toldOf_63 ?_
        refine Z_iadd (pc := 66) hX dX6_toldOf_66 ?_
        refine V_istore_n (pc := 67) (j := 2) hX 2 rfl (by decide) rfl dX6_toldOf_67 ?_
        refine Z_iinc (pc := 68) hX 1 rfl rfl dX6_toldOf_68 ?_
        refine V_goto (pc := 71) (off := (-16)) (tgt := 55) hX (by decide) dX6_toldOf_71 ?_
        refine V_cut [(0, some (.ref (E.1 (20, 0)))), (1, some (.int (oI what))), (2, some (.int (oI ((fb_sm (fun a => cntC (σ.1 a)) (k + 1) : Nat) : Int)))), (3, some (.int (oI ((k + 1 : Nat) : Int))))] ⟨rfl, rfl, congrArg (fun q => some (Value.int (oI q))) (by rw [AR_cnt (hM.1 k (by omega)).1, fb_sm_succ]; rfl), rfl, trivial⟩ ?_
        exact ih (k + 1) (by omega) (by omega)
  refine V_iconst (pc := 0) (z := 0) hX (oI 0) rfl dX6_toldOf_0 ?_
  refine V_istore_n (pc := 1) (j := 2) hX 2 rfl (by decide) rfl dX6_toldOf_1 ?_
  refine V_iload_n (pc := 2) (j := 1) hX 1 rfl rfl dX6_toldOf_2 ?_
  by_cases h3_0 : what = 0
  · refine Z_tableIn (pc := 3) (tgt := 36) hX 0 h3_0 (by decide) (by decide) (by decide) dX6_toldOf_3 rfl (by decide) ?_
    refine V_aload_n (pc := 36) (j := 0) hX 0 rfl rfl dX6_toldOf_36 ?_
    refine gf_X6_13 (pc := 37) hX dX6_toldOf_37 ?_
    refine V_iload_n (pc := 40) (j := 1) hX 1 rfl rfl dX6_toldOf_40 ?_
    refine zl_22 (pc := 41) hX (what.toNat) (by omega) (by omega) dX6_toldOf_41 ?_
    refine V_iret (pc := 42) hX hR dX6_toldOf_42 ?_
    exact ⟨some_int (by rw [toldV, if_pos (by omega), oI_of]; exact hM.2.1 _ (by omega)), rfl⟩
  by_cases h3_1 : what = 1
  · refine Z_tableIn (pc := 3) (tgt := 36) hX 1 h3_1 (by decide) (by decide) (by decide) dX6_toldOf_3 rfl (by decide) ?_
    refine V_aload_n (pc := 36) (j := 0) hX 0 rfl rfl dX6_toldOf_36 ?_
    refine gf_X6_13 (pc := 37) hX dX6_toldOf_37 ?_
    refine V_iload_n (pc := 40) (j := 1) hX 1 rfl rfl dX6_toldOf_40 ?_
    refine zl_22 (pc := 41) hX (what.toNat) (by omega) (by omega) dX6_toldOf_41 ?_
    refine V_iret (pc := 42) hX hR dX6_toldOf_42 ?_
    exact ⟨some_int (by rw [toldV, if_pos (by omega), oI_of]; exact hM.2.1 _ (by omega)), rfl⟩
  by_cases h3_2 : what = 2
  · refine Z_tableIn (pc := 3) (tgt := 36) hX 2 h3_2 (by decide) (by decide) (by decide) dX6_toldOf_3 rfl (by decide) ?_
    refine V_aload_n (pc := 36) (j := 0) hX 0 rfl rfl dX6_toldOf_36 ?_
    refine gf_X6_13 (pc := 37) hX dX6_toldOf_37 ?_
    refine V_iload_n (pc := 40) (j := 1) hX 1 rfl rfl dX6_toldOf_40 ?_
    refine zl_22 (pc := 41) hX (what.toNat) (by omega) (by omega) dX6_toldOf_41 ?_
    refine V_iret (pc := 42) hX hR dX6_toldOf_42 ?_
    exact ⟨some_int (by rw [toldV, if_pos (by omega), oI_of]; exact hM.2.1 _ (by omega)), rfl⟩
  by_cases h3_3 : what = 3
  · refine Z_tableIn (pc := 3) (tgt := 43) hX 3 h3_3 (by decide) (by decide) (by decide) dX6_toldOf_3 rfl (by decide) ?_
    refine V_aload_n (pc := 43) (j := 0) hX 0 rfl rfl dX6_toldOf_43 ?_
    refine gf_X6_197 (pc := 44) hX dX6_toldOf_44 ?_
    refine V_iret (pc := 47) hX hR dX6_toldOf_47 ?_
    exact ⟨some_int (by rw [toldV, if_neg (by omega), if_pos (by omega)]; exact hM.2.2.1.1), rfl⟩
  by_cases h3_4 : what = 4
  · refine Z_tableIn (pc := 3) (tgt := 48) hX 4 h3_4 (by decide) (by decide) (by decide) dX6_toldOf_3 rfl (by decide) ?_
    refine V_aload_n (pc := 48) (j := 0) hX 0 rfl rfl dX6_toldOf_48 ?_
    refine gf_X6_156 (pc := 49) hX dX6_toldOf_49 ?_
    refine V_iret (pc := 52) hX hR dX6_toldOf_52 ?_
    exact ⟨some_int (by rw [toldV, if_neg (by omega), if_neg (by omega), if_pos (by omega)]; exact hM.2.2.2.1.1), rfl⟩
  refine Z_tableOut (pc := 3) (tgt := 53) hX (by omega) (by omega) dX6_toldOf_3 (by decide) ?_
  refine V_iconst (pc := 53) (z := 0) hX (oI 0) rfl dX6_toldOf_53 ?_
  refine V_istore_n (pc := 54) (j := 3) hX 3 rfl (by decide) rfl dX6_toldOf_54 ?_
  have h5 : what = 5 := by omega
  have loop := loop h5
  refine V_cut [(0, some (.ref (E.1 (20, 0)))), (1, some (.int (oI what))), (2, some (.int (oI ((0 : Nat) : Int)))), (3, some (.int (oI ((0 : Nat) : Int))))] ⟨rfl, rfl, rfl, rfl, trivial⟩ ?_
  exact loop 6 0 (by omega) (by omega)
theorem c_X6_told {E : Le} {l : Launch} {D : Dt} {σ : AS} {what : Int} (r_w : Rg what) (hM : Mst D σ) : ConIp E l yX6_told cX6_told 2 (some .int) 4 [.ref (E.1 (20, 0)), .int (oI what)] D (PubP D (toldO σ what)) := by
  refine Con_of (by decide) (Nat.le_of_ble_eq_true rfl) ?_
  intro X hX hR hl; subst hl
  refine V_iload_n (pc := 0) (j := 1) hX 1 rfl rfl dX6_told_0 ?_
  refine V_iconst (pc := 1) (z := 0) hX (oI 0) rfl dX6_told_1 ?_
  refine V_iconst (pc := 2) (z := 5) hX (oI 5) rfl dX6_told_2 ?_
  refine cSI3 (pc := 3) hX (c_X6_in (by omega) (by omega) (by omega)) (by decide) st_X6_33 (Nat.le_of_ble_eq_true rfl) dX6_told_3 ?_
  refine B_if_eq (pc := 6) (tgt := 17) hX dX6_told_6 (by decide) (fun h6 => ?_) (fun h6 => ?_)
  · have q6 := inB_f.mp h6
    refine V_aload_n (pc := 17) (j := 0) hX 0 rfl rfl dX6_told_17 ?_
    refine V_sipush (pc := 18) (z := (-202)) hX (oI (-202)) (by decide) dX6_told_18 ?_
    refine cVI1 (pc := 21) hX (c_X6_refuses (by omega)) (by decide) st_X6_105 ix_20 rfl rfl rfl (Nat.le_of_ble_eq_true rfl) dX6_told_21 ?_
    refine V_iret (pc := 24) hX hR dX6_told_24 ?_
    exact ⟨_, rfl, by rw [toldO, if_neg (by omega)]; exact Pub_bad hM⟩
  · have q6 := inB_t.mp h6
    refine V_aload_n (pc := 9) (j := 0) hX 0 rfl rfl dX6_told_9 ?_
    refine V_iload_n (pc := 10) (j := 1) hX 1 rfl rfl dX6_told_10 ?_
    refine cVI1 (pc := 11) hX (c_X6_toldOf (σ := σ) (by omega) hM) (by decide) st_X6_238 ix_20 rfl rfl rfl (Nat.le_of_ble_eq_true rfl) dX6_told_11 ?_
    refine V_goto (pc := 14) (off := 10) (tgt := 24) hX (by decide) dX6_told_14 ?_
    refine V_iret (pc := 24) hX hR dX6_told_24 ?_
    exact ⟨_, rfl, by rw [toldO, if_pos (by omega)]; exact ⟨rfl, hM, CK.rf D⟩⟩
def ConLp (E : Le) (l : Launch) (y : MethodName) (cy : ByteArray) (mL : Nat) (ret : Option FieldType) (n : Nat) (as : List Value) (D : Dt) (Q : Int64 → Dt → Prop) : Prop := Con E l y cy mL ret n as D (fun v D' => ∃ r, v = some (.long r) ∧ Q r D')
def dgT (σ : AS) : Nat → Int64
  | 0 => 1979
  | k + 1 => 31 * dgT σ k + (oI (toldV σ (k : Int))).toInt64
def dgR (σ : AS) : Nat → Int64
  | 0 => dgT σ 6
  | a + 1 => 31 * (31 * (31 * (31 * dgR σ a + (oI ((cntC (σ.1 a) : Nat) : Int)).toInt64) + (oI ((nbC (σ.1 a) : Nat) : Int)).toInt64) + (oI ((nsC (σ.1 a) : Nat) : Int)).toInt64) + (hsL (oI 0) (wrC (σ.1 a))).toInt64
def dgV (σ : AS) : Int64 := dgR σ 5
def PubL (D : Dt) (σ : AS) (r : Int64) (D' : Dt) : Prop := r = dgV σ ∧ Mst D' σ ∧ CK D D'
theorem c_X6_digest {E : Le} {l : Launch} {D : Dt} {σ : AS} (hM : Mst D σ) : ConLp E l yX6_digest cX6_digest 5 (some .long) 7 [.ref (E.1 (20, 0))] D (PubL D σ) := by
  refine Con_of (by decide) (Nat.le_of_ble_eq_true rfl) ?_
  intro X hX hR hl; subst hl
  have loop2 : ∀ (m : Nat) (k : Nat) (D1 : Dt), k ≤ 5 → (Mst D1 σ ∧ CK D D1) → 5 - k < m → Vw E X 5 D1 33 [(0, some (.ref (E.1 (20, 0)))), (1, some (.long (dgR σ k))), (3, some (.int (oI (k : Int))))] [] := by
    intro m
    induction m with
    | zero => intro k D1 g1 g2 g3; omega
    | succ m ih =>
      intro k D1 g1 g2 g3
      refine V_iload_n (pc := 33) (j := 3) hX 3 rfl rfl dX6_digest_33 ?_
      refine V_iconst (pc := 34) (z := 5) hX (oI 5) rfl dX6_digest_34 ?_
      refine Z_icmp_ge (pc := 35) (tgt := 98) hX (by omega) (by omega) dX6_digest_35 (by decide) (fun h35 => ?_) (fun h35 => ?_)
      · refine V_lload_n (pc := 98) (j := 1) hX 1 rfl rfl dX6_digest_98 ?_
        refine V_lret (pc := 99) hX hR dX6_digest_99 ?_
        have e : k = 5 := by omega
        subst e
        exact ⟨_, rfl, rfl, g2.1, g2.2⟩
      · refine V_aload_n (pc := 38) (j := 0) hX 0 rfl rfl dX6_digest_38 ?_
        refine V_iload_n (pc := 39) (j := 3) hX 3 rfl rfl dX6_digest_39 ?_
        refine cVIp1 (pc := 40) hX (c_X6_markOf (σ := σ) (a := k) (by omega) g2.1) (by decide) st_X6_235 ix_20 rfl rfl rfl (Nat.le_of_ble_eq_true rfl) dX6_digest_40 (fun r40 D40 h40 => ?_)
        obtain ⟨rfl, rfl⟩ := h40
        refine V_istore (pc := 43) hX (by decide) rfl dX6_digest_43 ?_
        refine V_ldc2 (pc := 45) hX (31) w_1055 dX6_digest_45 ?_
        refine V_lload_n (pc := 48) (j := 1) hX 1 rfl rfl dX6_digest_48 ?_
        refine V_lmul (pc := 49) hX dX6_digest_49 ?_
        refine V_aload_n (pc := 50) (j := 0) hX 0 rfl rfl dX6_digest_50 ?_
        refine V_iload_n (pc := 51) (j := 3) hX 3 rfl rfl dX6_digest_51 ?_
        refine cVI1 (pc := 52) hX (c_X6_cells (a := k) (by omega)) (by decide) st_X6_101 ix_20 rfl rfl rfl (Nat.le_of_ble_eq_true rfl) dX6_digest_52 ?_
        refine V_oI (((cntC (σ.1 k) : Nat)) : Int) (congrArg (fun q : Nat => oI (q : Int)) (AR_cnt (g2.1.1 k (by omega)).1)) ?_
        refine V_i2l (pc := 55) hX dX6_digest_55 ?_
        refine V_ladd (pc := 56) hX dX6_digest_56 ?_
        refine V_lstore_n (pc := 57) (j := 1) hX 1 rfl (by decide) rfl dX6_digest_57 ?_
        refine V_ldc2 (pc := 58) hX (31) w_1055 dX6_digest_58 ?_
        refine V_lload_n (pc := 61) (j := 1) hX 1 rfl rfl dX6_digest_61 ?_
        refine V_lmul (pc := 62) hX dX6_digest_62 ?_
        refine V_aload_n (pc := 63) (j := 0) hX 0 rfl rfl dX6_digest_63 ?_
        refine gf_X6_81 (pc := 64) hX dX6_digest_64 ?_
        refine V_oI (((nbC (σ.1 k) : Nat)) : Int) (form_n (g2.1.1 k (by omega)).1 _ _ _ _).2 ?_
        refine V_i2l (pc := 67) hX dX6_digest_67 ?_
        refine V_ladd (pc := 68) hX dX6_digest_68 ?_
        refine V_lstore_n (pc := 69) (j := 1) hX 1 rfl (by decide) rfl dX6_digest_69 ?_
        refine V_ldc2 (pc := 70) hX (31) w_1055 dX6_digest_70 ?_
        refine V_lload_n (pc := 73) (j := 1) hX 1 rfl rfl dX6_digest_73 ?_
        refine V_lmul (pc := 74) hX dX6_digest_74 ?_
        refine V_aload_n (pc := 75) (j := 0) hX 0 rfl rfl dX6_digest_75 ?_
        refine gf_X6_68 (pc := 76) hX dX6_digest_76 ?_
        refine V_oI (((nsC (σ.1 k) : Nat)) : Int) (form_n (g2.1.1 k (by omega)).1 _ _ _ _).1 ?_
        refine V_i2l (pc := 79) hX dX6_digest_79 ?_
        refine V_ladd (pc := 80) hX dX6_digest_80 ?_
        refine V_lstore_n (pc := 81) (j := 1) hX 1 rfl (by decide) rfl dX6_digest_81 ?_
        refine V_ldc2 (pc := 82) hX (31) w_1055 dX6_digest_82 ?_
        refine V_lload_n (pc := 85) (j := 1) hX 1 rfl rfl dX6_digest_85 ?_
        refine V_lmul (pc := 86) hX dX6_digest_86 ?_
        refine V_iload (pc := 87) hX rfl dX6_digest_87 ?_
        refine V_i2l (pc := 89) hX dX6_digest_89 ?_
        refine V_ladd (pc := 90) hX dX6_digest_90 ?_
        refine V_lstore_n (pc := 91) (j := 1) hX 1 rfl (by decide) rfl dX6_digest_91 ?_
        refine Z_iinc (pc := 92) hX 1 rfl rfl dX6_digest_92 ?_
        refine V_goto (pc := 95) (off := (-62)) (tgt := 33) hX (by decide) dX6_digest_95 ?_
        refine V_cut [(0, some (.ref (E.1 (20, 0)))), (1, some (.long (dgR σ (k + 1)))), (3, some (.int (oI ((k + 1 : Nat) : Int))))] ⟨rfl, rfl, rfl, trivial⟩ ?_
        exact ih (k + 1) _ (by omega) ⟨g2.1.form k _ _ _, g2.2.tr (Fr_form _ _ k _ _ _).ck⟩ (by omega)
  have loop : ∀ (m : Nat) (k : Nat), k ≤ 6 → 6 - k < m → Vw E X 5 D 6 [(0, some (.ref (E.1 (20, 0)))), (1, some (.long (dgT σ k))), (3, some (.int (oI (k : Int))))] [] := by
    intro m
    induction m with
    | zero => intro k g1 g2; omega
    | succ m ih =>
      intro k g1 g2
      refine V_iload_n (pc := 6) (j := 3) hX 3 rfl rfl dX6_digest_6 ?_
      refine V_bipush (pc := 7) (z := 6) hX (oI 6) (by decide) dX6_digest_7 ?_
      refine Z_icmp_ge (pc := 9) (tgt := 31) hX (by omega) (by omega) dX6_digest_9 (by decide) (fun h9 => ?_) (fun h9 => ?_)
      · refine V_iconst (pc := 31) (z := 0) hX (oI 0) rfl dX6_digest_31 ?_
        refine V_istore_n (pc := 32) (j := 3) hX 3 rfl (by decide) rfl dX6_digest_32 ?_
        have e : k = 6 := by omega
        subst e
        refine V_cut [(0, some (.ref (E.1 (20, 0)))), (1, some (.long (dgR σ 0))), (3, some (.int (oI ((0 : Nat) : Int))))] ⟨rfl, rfl, rfl, trivial⟩ ?_
        exact loop2 6 0 D (by omega) ⟨hM, CK.rf D⟩ (by omega)
      · refine V_ldc2 (pc := 12) hX (31) w_1055 dX6_digest_12 ?_
        refine V_lload_n (pc := 15) (j := 1) hX 1 rfl rfl dX6_digest_15 ?_
        refine V_lmul (pc := 16) hX dX6_digest_16 ?_
        refine V_aload_n (pc := 17) (j := 0) hX 0 rfl rfl dX6_digest_17 ?_
        refine V_iload_n (pc := 18) (j := 3) hX 3 rfl rfl dX6_digest_18 ?_
        refine cVI1 (pc := 19) hX (c_X6_toldOf (σ := σ) (by omega) hM) (by decide) st_X6_238 ix_20 rfl rfl rfl (Nat.le_of_ble_eq_true rfl) dX6_digest_19 ?_
        refine V_i2l (pc := 22) hX dX6_digest_22 ?_
        refine V_ladd (pc := 23) hX dX6_digest_23 ?_
        refine V_lstore_n (pc := 24) (j := 1) hX 1 rfl (by decide) rfl dX6_digest_24 ?_
        refine Z_iinc (pc := 25) hX 1 rfl rfl dX6_digest_25 ?_
        refine V_goto (pc := 28) (off := (-22)) (tgt := 6) hX (by decide) dX6_digest_28 ?_
        refine V_cut [(0, some (.ref (E.1 (20, 0)))), (1, some (.long (dgT σ (k + 1)))), (3, some (.int (oI ((k + 1 : Nat) : Int))))] ⟨rfl, rfl, rfl, trivial⟩ ?_
        exact ih (k + 1) (by omega) (by omega)
  refine V_ldc2 (pc := 0) hX (1979) w_1054 dX6_digest_0 ?_
  refine V_lstore_n (pc := 3) (j := 1) hX 1 rfl (by decide) rfl dX6_digest_3 ?_
  refine V_iconst (pc := 4) (z := 0) hX (oI 0) rfl dX6_digest_4 ?_
  refine V_istore_n (pc := 5) (j := 3) hX 3 rfl (by decide) rfl dX6_digest_5 ?_
  refine V_cut [(0, some (.ref (E.1 (20, 0)))), (1, some (.long (dgT σ 0))), (3, some (.int (oI ((0 : Nat) : Int))))] ⟨rfl, rfl, rfl, trivial⟩ ?_
  exact loop 7 0 (by omega) (by omega)
