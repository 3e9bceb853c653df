set_option maxRecDepth 20000 in
theorem ws_38 : Cond.fieldLink RJ0 38 "java/lang/String" "COMPACT_STRINGS" "Z" ∈ tblG := inG (List.mem_of_getElem? (i := 588) rfl) rfl
set_option maxRecDepth 20000 in
theorem ws_1053 : Cond.fieldLink RJ0 1053 "jdk/internal/util/Preconditions" "SIOOBE_FORMATTER" "Ljava/util/function/BiFunction;" ∈ tblG := inG (List.mem_of_getElem? (i := 596) rfl) rfl
set_option maxRecDepth 20000 in
theorem ws_15 : Cond.fieldLink RJ0 15 "java/lang/String" "coder" "B" ∈ tblG := inG (List.mem_of_getElem? (i := 1056) rfl) rfl
set_option maxRecDepth 20000 in
theorem ws_9 : Cond.fieldLink RJ0 9 "java/lang/String" "value" "[B" ∈ tblG := inG (List.mem_of_getElem? (i := 1057) rfl) rfl
/-! the text of the words: a String constant -/
def wbI (k : Nat) : Int := ([98, 101, 32, 32, 32, 32, 98, 111, 120, 32, 32, 32, 110, 111, 110, 101, 32, 32, 111, 114, 32, 32, 32, 32, 97, 110, 100, 32, 32, 32, 98, 117, 116, 32, 32, 32, 120, 111, 114, 32, 32, 32, 109, 111, 118, 101, 32, 32, 103, 114, 111, 119, 32, 32, 115, 104, 114, 105, 110, 107, 102, 108, 105, 112, 32, 32, 116, 117, 114, 110, 32, 32] : List Int).getD k 0
theorem wbI_by : ∀ k, k < 72 → wby.getD k 0 = oI (wbI k) ∧ 0 ≤ wbI k ∧ wbI k < 128 := by decide +kernel
theorem and255 {c : Int} (h : 0 ≤ c ∧ c < 128) : oI c &&& oI 255 = oI c := by
  have : ∀ k : Nat, k < 128 → oI (k : Int) &&& oI 255 = oI (k : Int) := by decide +kernel
  have q := this c.toNat (by omega)
  rw [show ((c.toNat : Nat) : Int) = c by omega] at q
  exact q
theorem V_ldcK {E : Le} {X : Cx} {cc : ByteArray} {nL n : Nat} {D : Dt} {pc : Nat} {lv : Lv} {st : List Value} (hX : Amb E X cc RX4 nL n) (d : decode cc pc = .ok (.ldc 79, 2)) (k : Vw E X nL D (pc + 2) lv (.ref E.2.2.2.1 :: st)) : Vw E X nL D pc lv st := by
  obtain ⟨p, l, e, R, s, m, args, below, meth, c, cells, slots, Q, A⟩ := X
  exact fun H locs ls hP hS hl => va_ldcS hX.1 hX.2.1 hX.2.2.2.1 hX.2.2.2.2.2.2.2.2.2.2.2.1 d (k H locs ls hP hS hl)
theorem V_gs38 {E : Le} {X : Cx} {cc : ByteArray} {nL n : Nat} {D : Dt} {pc : Nat} {lv : Lv} {st : List Value} (hX : Amb E X cc RJ0 nL n) (d : decode cc pc = .ok (.getstatic 38, 3)) (k : Vw E X nL D (pc + 3) lv (.int 1 :: st)) : Vw E X nL D pc lv st := by
  obtain ⟨p, l, e, R, s, m, args, below, meth, c, cells, slots, Q, A⟩ := X
  exact fun H locs ls hP hS hl => va_gets hX.1 hX.2.1 hX.2.2.2.2.2.2.2.2.2.2.2.2.2.1 hS hX.2.2.2.1 (hX.2.2.2.2.1 _ ws_38) (fun _ h => h) d (k H locs ls hP hS hl)
theorem V_gs1053 {E : Le} {X : Cx} {cc : ByteArray} {nL n : Nat} {D : Dt} {pc : Nat} {lv : Lv} {st : List Value} (hX : Amb E X cc RJ0 nL n) (d : decode cc pc = .ok (.getstatic 1053, 3)) (k1 : Vw E X nL D (pc + 3) lv (.null :: st)) (k2 : ∀ t : Nat, Vw E X nL D (pc + 3) lv (.ref t :: st)) : Vw E X nL D pc lv st := by
  obtain ⟨p, l, e, R, s, m, args, below, meth, c, cells, slots, Q, A⟩ := X
  intro H locs ls hP hS hl
  rcases hX.2.2.2.2.2.2.2.2.2.2.2.2.2.2 with hz | ⟨t, hz⟩
  · exact va_gets hX.1 hX.2.1 hz hS hX.2.2.2.1 (hX.2.2.2.2.1 _ ws_1053) (fun _ h => h) d (k1 H locs ls hP hS hl)
  · exact va_gets hX.1 hX.2.1 hz hS hX.2.2.2.1 (hX.2.2.2.2.1 _ ws_1053) (fun _ h => h) d (k2 t H locs ls hP hS hl)
theorem V_gfC {E : Le} {X : Cx} {cc : ByteArray} {nL n : Nat} {D : Dt} {pc : Nat} {lv : Lv} {st : List Value} (hX : Amb E X cc RJ0 nL n) (d : decode cc pc = .ok (.getfield 15, 3)) (k : Vw E X nL D (pc + 3) lv (.int 0 :: st)) : Vw E X nL D pc lv (.ref E.2.2.2.1 :: st) := by
  obtain ⟨p, l, e, R, s, m, args, below, meth, c, cells, slots, Q, A⟩ := X
  exact fun H locs ls hP hS hl => vk_getf hX.1 hX.2.1 (hX.2.2.2.2.2.2.2.2.2.2.2.2.1.1 0 (by decide)).2.1 hS hX.2.2.2.1 (hX.2.2.2.2.1 _ ws_15) (fun _ h => h) d (k H locs ls hP hS hl)
theorem V_gfV {E : Le} {X : Cx} {cc : ByteArray} {nL n : Nat} {D : Dt} {pc : Nat} {lv : Lv} {st : List Value} (hX : Amb E X cc RJ0 nL n) (d : decode cc pc = .ok (.getfield 9, 3)) (k : Vw E X nL D (pc + 3) lv (.ref E.2.2.2.2 :: st)) : Vw E X nL D pc lv (.ref E.2.2.2.1 :: st) := by
  obtain ⟨p, l, e, R, s, m, args, below, meth, c, cells, slots, Q, A⟩ := X
  exact fun H locs ls hP hS hl => vk_getf hX.1 hX.2.1 (hX.2.2.2.2.2.2.2.2.2.2.2.2.1.1 0 (by decide)).2.2.1 hS hX.2.2.2.1 (hX.2.2.2.2.1 _ ws_9) (fun _ h => h) d (k H locs ls hP hS hl)
theorem V_tlK {E : Le} {X : Cx} {cc : ByteArray} {own : String} {nL n : Nat} {D : Dt} {pc : Nat} {lv : Lv} {st : List Value} (hX : Amb E X cc own nL n) (d : decode cc pc = .ok (.arraylength, 1)) (k : Vw E X nL D (pc + 1) lv (.int 72 :: st)) : Vw E X nL D pc lv (.ref E.2.2.2.2 :: st) := by
  obtain ⟨p, l, e, R, s, m, args, below, meth, c, cells, slots, Q, A⟩ := X
  exact fun H locs ls hP hS hl => va_tlen hX.1 hX.2.1 (hX.2.2.2.2.2.2.2.2.2.2.2.2.1.1 0 (by decide)).2.2.2 hS rfl d (k H locs ls hP hS hl)
theorem V_tbK {E : Le} {X : Cx} {cc : ByteArray} {own : String} {nL n : Nat} {D : Dt} {pc : Nat} {lv : Lv} {st : List Value} (hX : Amb E X cc own nL n) {x : Int32} (i : Nat) (hx : x = nI i) (hi : i < 72) (d : decode cc pc = .ok (.baload, 1)) (k : Vw E X nL D (pc + 1) lv (.int (wby.getD i 0) :: st)) : Vw E X nL D pc lv (.int x :: .ref E.2.2.2.2 :: st) := by
  obtain ⟨p, l, e, R, s, m, args, below, meth, c, cells, slots, Q, A⟩ := X
  subst hx
  exact fun H locs ls hP hS hl => va_tb hX.1 hX.2.1 (hX.2.2.2.2.2.2.2.2.2.2.2.2.1.1 0 (by decide)).2.2.2 hS (vp_in_nI hi (by decide)) (by rw [nI_clamp (Nat.lt_trans hi (by decide))]; rfl) d (k H locs ls hP hS hl)
theorem V_cret {E : Le} {X : Cx} {cc : ByteArray} {own : String} {nL n : Nat} {D : Dt} {pc : Nat} {lv : Lv} {Φ : Option Value → Dt → Prop} (hX : Amb E X cc own nL n) (hR : Ret E X (some .char) Φ) {x : Int} (hx : 0 ≤ x ∧ x < 65536) (d : decode cc pc = .ok (.ireturn, 1)) (hq : Φ (some (.int (oI x))) D) : Vw E X nL D pc lv [.int (oI x)] := by
  obtain ⟨p, l, e, R, s, m, args, below, meth, c, cells, slots, Q, A⟩ := X
  obtain ⟨h1, h2, rfl, rfl⟩ := hR
  exact fun H locs ls hP hS hl => W.zret hX.1 hX.2.1 h1 (by rw [oI_toNat hx.1]; exact (pk_charN (by omega)).1) (fun t ht hW => ⟨⟨_, D, rfl, hq, by rw [ht]; exact hP⟩, hS.F ht⟩) hS.2.2 d h2
theorem V_callK {E : Le} {X : Cx} {cc : ByteArray} {own : String} {nL n : Nat} {D : Dt} {pc : Nat} {lv : Lv} {y : MethodName} {cy : ByteArray} {mL : Nat} {ret : Option FieldType} {n2 na idx : Nat} {as rest st0 : List Value} {Φ : Option Value → Dt → Prop} (hX : Amb E X cc own nL n)
    (hM : Con E (Xl X) y cy mL ret n2 (.ref E.2.2.2.1 :: as) D Φ) (hn : n2 < n) (hs : SiteV own idx y cy mL ret na RJ0) (hna : as.length = na) (hst : st0 = as.reverse ++ .ref E.2.2.2.1 :: rest) (hsm : (rest.map fun v => v.category).sum ≤ 8) (d : decode cc pc = .ok (.invokevirtual idx, 3))
    (k : ∀ (v : Option Value) (D' : Dt), Φ v D' → Vw E X nL D' (pc + 3) lv (v.toList ++ rest)) : Vw E X nL D pc lv st0 := by
  have hR := roomB hX hn hs.1.2.2.2.2
  refine V_callCore (y := y) (cy := cy) (mL := mL) (ret := ret) (n2 := n2) (as := .ref E.2.2.2.1 :: as) (rest := rest) hX ?_ k
  obtain ⟨p, l, e, R, s, m, args, below, meth, c, cells, slots, Q, A⟩ := X
  intro H locs ls hP hS hl
  have hw := hX.2.2.2.2.1
  have hT := hX.2.2.2.2.2.2.2.2.2
  refine va_runV (As := as) (rest := rest) (Ts := tblG) (C := RJ0) ⟨hX.1, hX.2.1, hX.2.2.1, hX.2.2.2.1, hw⟩ hM ⟨callB_of na hw (goodTbl hs.1.2.2.1) rfl rfl rfl (hw _ hs.1.2.1) (hw _ hs.1.1) hs.1.2.2.2.1 hR, hw _ hs.2.1, hw _ hs.2.2.1⟩ ⟨pcb_blind, vk_recv hT.2.2.2.1 (i := 0) (by decide) hS, pre_B hX hP hS⟩ rfl hna hl hst (lv_room hsm) d ⟨hX.2.2.2.2.2.2.2.2.1.2.2.1, hX.2.2.2.2.2.2.2.2.1.2.2.2⟩
theorem c_J3_n {E : Le} {l : Launch} {D : Dt} {i n0 : Int} (hi : 0 ≤ i ∧ i < n0) (hn0 : n0 < 2147483648) : ConI E l yJ3_checkIndex_8e157 cJ3_checkIndex_8e157 3 (some .int) 1 [.int (oI i), .int (oI n0), .null] D (oI i) D := by
  refine Con_of (by decide) (Nat.le_of_ble_eq_true rfl) ?_
  intro X hX hR hl; subst hl
  refine V_iload_n (pc := 0) (j := 0) hX 0 rfl rfl dJ3_checkIndex_8e157_0 ?_
  refine Z_if_lt (pc := 1) (tgt := 9) hX (by omega) dJ3_checkIndex_8e157_1 (by decide) (fun h1 => ?_) (fun h1 => ?_)
  · exfalso; omega
  · refine V_iload_n (pc := 4) (j := 0) hX 0 rfl rfl dJ3_checkIndex_8e157_4 ?_
    refine V_iload_n (pc := 5) (j := 1) hX 1 rfl rfl dJ3_checkIndex_8e157_5 ?_
    refine Z_icmp_lt (pc := 6) (tgt := 16) hX (by omega) (by omega) dJ3_checkIndex_8e157_6 (by decide) (fun h6 => ?_) (fun h6 => ?_)
    · refine V_iload_n (pc := 16) (j := 0) hX 0 rfl rfl dJ3_checkIndex_8e157_16 ?_
      refine V_iret (pc := 17) hX hR dJ3_checkIndex_8e157_17 ?_
      exact ⟨rfl, rfl⟩
    · exfalso; omega
theorem c_J3_r {E : Le} {l : Launch} {D : Dt} {i n0 : Int} {t : Nat} (hi : 0 ≤ i ∧ i < n0) (hn0 : n0 < 2147483648) : ConI E l yJ3_checkIndex_8e157 cJ3_checkIndex_8e157 3 (some .int) 1 [.int (oI i), .int (oI n0), .ref t] D (oI i) D := by
  refine Con_of (by decide) (Nat.le_of_ble_eq_true rfl) ?_
  intro X hX hR hl; subst hl
  refine V_iload_n (pc := 0) (j := 0) hX 0 rfl rfl dJ3_checkIndex_8e157_0 ?_
  refine Z_if_lt (pc := 1) (tgt := 9) hX (by omega) dJ3_checkIndex_8e157_1 (by decide) (fun h1 => ?_) (fun h1 => ?_)
  · exfalso; omega
  · refine V_iload_n (pc := 4) (j := 0) hX 0 rfl rfl dJ3_checkIndex_8e157_4 ?_
    refine V_iload_n (pc := 5) (j := 1) hX 1 rfl rfl dJ3_checkIndex_8e157_5 ?_
    refine Z_icmp_lt (pc := 6) (tgt := 16) hX (by omega) (by omega) dJ3_checkIndex_8e157_6 (by decide) (fun h6 => ?_) (fun h6 => ?_)
    · refine V_iload_n (pc := 16) (j := 0) hX 0 rfl rfl dJ3_checkIndex_8e157_16 ?_
      refine V_iret (pc := 17) hX hR dJ3_checkIndex_8e157_17 ?_
      exact ⟨rfl, rfl⟩
    · exfalso; omega
theorem c_J0_checkIndex_df160 {E : Le} {l : Launch} {D : Dt} {i n0 : Int} (hi : 0 ≤ i ∧ i < n0) (hn0 : n0 < 2147483648) : ConV E l yJ0_checkIndex_df160 cJ0_checkIndex_df160 2 none 2 [.int (oI i), .int (oI n0)] D D := by
  refine Con_of (by decide) (Nat.le_of_ble_eq_true rfl) ?_
  intro X hX hR hl; subst hl
  refine V_iload_n (pc := 0) (j := 0) hX 0 rfl rfl dJ0_checkIndex_df160_0 ?_
  refine V_iload_n (pc := 1) (j := 1) hX 1 rfl rfl dJ0_checkIndex_df160_1 ?_
  refine V_gs1053 (pc := 2) hX dJ0_checkIndex_df160_2 ?_ (fun t => ?_)
  · refine cSI3 (pc := 5) hX (c_J3_n hi hn0) (by decide) st_J0_1059 (Nat.le_of_ble_eq_true rfl) dJ0_checkIndex_df160_5 ?_
    refine V_pop (pc := 8) hX rfl dJ0_checkIndex_df160_8 ?_
    refine V_vret (pc := 9) hX hR dJ0_checkIndex_df160_9 ?_
    exact ⟨rfl, rfl⟩
  · refine cSI3 (pc := 5) hX (c_J3_r hi hn0) (by decide) st_J0_1059 (Nat.le_of_ble_eq_true rfl) dJ0_checkIndex_df160_5 ?_
    refine V_pop (pc := 8) hX rfl dJ0_checkIndex_df160_8 ?_
    refine V_vret (pc := 9) hX hR dJ0_checkIndex_df160_9 ?_
    exact ⟨rfl, rfl⟩
theorem c_J1_charAt_3b067 {E : Le} {l : Launch} {D : Dt} {k : Nat} (hk : k < 72) : ConI E l yJ1_charAt_3b067 cJ1_charAt_3b067 2 (some .char) 3 [.ref E.2.2.2.2, .int (oI (k : Int))] D (oI (wbI k)) D := by
  refine Con_of (by decide) (Nat.le_of_ble_eq_true rfl) ?_
  intro X hX hR hl; subst hl
  refine V_iload_n (pc := 0) (j := 1) hX 1 rfl rfl dJ1_charAt_3b067_0 ?_
  refine V_aload_n (pc := 1) (j := 0) hX 0 rfl rfl dJ1_charAt_3b067_1 ?_
  refine V_tlK (pc := 2) hX dJ1_charAt_3b067_2 ?_
  refine V_oI 72 (by decide) ?_
  refine cSV2 (pc := 3) hX (c_J0_checkIndex_df160 (i := (k : Int)) (n0 := 72) (by omega) (by omega)) (by decide) st_J1_9 (Nat.le_of_ble_eq_true rfl) dJ1_charAt_3b067_3 ?_
  refine V_aload_n (pc := 6) (j := 0) hX 0 rfl rfl dJ1_charAt_3b067_6 ?_
  refine V_iload_n (pc := 7) (j := 1) hX 1 rfl rfl dJ1_charAt_3b067_7 ?_
  refine V_tbK (pc := 8) hX k (oI_nat k) hk dJ1_charAt_3b067_8 ?_
  refine V_oI (wbI k) (wbI_by k hk).1 ?_
  refine V_sipush (pc := 9) (z := 255) hX (oI 255) (by decide) dJ1_charAt_3b067_9 ?_
  refine V_iand (pc := 12) hX dJ1_charAt_3b067_12 ?_
  refine V_oI (wbI k) (and255 (wbI_by k hk).2) ?_
  refine Z_i2c (pc := 13) hX (by have := (wbI_by k hk).2; omega) (by have := (wbI_by k hk).2; omega) dJ1_charAt_3b067_13 ?_
  refine V_cret (pc := 14) hX hR (by have := (wbI_by k hk).2; omega) dJ1_charAt_3b067_14 ?_
  exact ⟨rfl, rfl⟩
theorem c_J0_isLatin1_aae02 {E : Le} {l : Launch} {D : Dt}  : ConI E l yJ0_isLatin1_aae02 cJ0_isLatin1_aae02 1 (some .boolean) 1 [.ref E.2.2.2.1] D (bI true) D := by
  refine Con_of (by decide) (Nat.le_of_ble_eq_true rfl) ?_
  intro X hX hR hl; subst hl
  refine V_gs38 (pc := 0) hX dJ0_isLatin1_aae02_0 ?_
  refine V_oI 1 (by decide) ?_
  refine Z_if_eq (pc := 3) (tgt := 17) hX (by omega) dJ0_isLatin1_aae02_3 (by decide) (fun h => absurd h (by decide)) (fun _ => ?_)
  refine V_aload_n (pc := 6) (j := 0) hX 0 rfl rfl dJ0_isLatin1_aae02_6 ?_
  refine V_gfC (pc := 7) hX dJ0_isLatin1_aae02_7 ?_
  refine V_oI 0 (by decide) ?_
  refine Z_if_ne (pc := 10) (tgt := 17) hX (by omega) dJ0_isLatin1_aae02_10 (by decide) (fun h => absurd rfl h) (fun _ => ?_)
  refine V_iconst (pc := 13) (z := 1) hX (oI 1) rfl dJ0_isLatin1_aae02_13 ?_
  refine V_goto (pc := 14) (off := 4) (tgt := 18) hX (by decide) dJ0_isLatin1_aae02_14 ?_
  refine V_zret (pc := 18) hX hR (by decide) dJ0_isLatin1_aae02_18 ?_
  exact ⟨some_int (bI_1 rfl), rfl⟩
theorem c_J0_charAt_5068e {E : Le} {l : Launch} {D : Dt} {k : Nat} (hk : k < 72) : ConI E l yJ0_charAt_5068e cJ0_charAt_5068e 2 (some .char) 5 [.ref E.2.2.2.1, .int (oI (k : Int))] D (oI (wbI k)) D := by
  refine Con_of (by decide) (Nat.le_of_ble_eq_true rfl) ?_
  intro X hX hR hl; subst hl
  refine V_aload_n (pc := 0) (j := 0) hX 0 rfl rfl dJ0_charAt_5068e_0 ?_
  refine V_callK (pc := 1) (as := []) hX c_J0_isLatin1_aae02 (by decide) st_J0_492 rfl rfl (Nat.le_of_ble_eq_true rfl) dJ0_charAt_5068e_1 (fun v D2 h => ?_)
  obtain ⟨rfl, rfl⟩ := h
  refine B_if_eq (pc := 4) (tgt := 16) hX dJ0_charAt_5068e_4 (by decide) (fun h => by cases h) (fun _ => ?_)
  refine V_aload_n (pc := 7) (j := 0) hX 0 rfl rfl dJ0_charAt_5068e_7 ?_
  refine V_gfV (pc := 8) hX dJ0_charAt_5068e_8 ?_
  refine V_iload_n (pc := 11) (j := 1) hX 1 rfl rfl dJ0_charAt_5068e_11 ?_
  refine cSI2 (pc := 12) hX (c_J1_charAt_3b067 hk) (by decide) st_J0_495 (Nat.le_of_ble_eq_true rfl) dJ0_charAt_5068e_12 ?_
  refine V_cret (pc := 15) hX hR (by have := (wbI_by k hk).2; omega) dJ0_charAt_5068e_15 ?_
  exact ⟨rfl, rfl⟩
