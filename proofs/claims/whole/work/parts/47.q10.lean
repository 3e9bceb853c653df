/-! THE FORM: its borders, moved, turned -/
def BsQ (S : Cl) (wh : Int) (k : Nat) (r : Int) : Prop := (∃ t, t < k ∧ spV S (wh - 5) t = r) ∧ ∀ t, t < k → ((wh = 5 ∨ wh = 7) → r ≤ spV S (wh - 5) t) ∧ ((wh = 6 ∨ wh = 8) → spV S (wh - 5) t ≤ r)
theorem BsQ.nx {S : Cl} {wh r : Int} {k : Nat} (h : BsQ S wh k r) {v : Int} (hv : (wh = 5 ∨ wh = 7) ∧ v = min r (spV S (wh - 5) k) ∨ (wh = 6 ∨ wh = 8) ∧ v = max r (spV S (wh - 5) k)) : BsQ S wh (k + 1) v := by
  obtain ⟨⟨t, ht, e⟩, h2⟩ := h
  refine ⟨?_, fun u hu => ?_⟩
  · by_cases q : v = r
    · exact ⟨t, by omega, by rw [q]; exact e⟩
    · exact ⟨k, by omega, by omega⟩
  · by_cases q : u = k
    · subst q; constructor <;> intro w <;> omega
    · have := h2 u (by omega)
      constructor
      · intro w; have := this.1 w; omega
      · intro w; have := this.2 w; omega
theorem BsQ_P {S : Cl} {wh r : Int} (hw : 5 ≤ wh ∧ wh ≤ 8) (h : BsQ S wh (nsC S) r) : BdP S wh r := by
  obtain ⟨⟨t, ht, e⟩, h2⟩ := h
  have hr := sp_rg ht
  have hc : wh = 5 ∨ wh = 6 ∨ wh = 7 ∨ wh = 8 := by omega
  refine ⟨fun _ => ?_, fun i hi j hj _ hS => ?_, fun hn => ?_⟩
  · rcases hc with rfl | rfl | rfl | rfl
    · exact ⟨(spV S 0 t + 60).toNat, by omega, (spV S 2 t + 60).toNat, by omega, trivial, sp_in ht (by omega) (by omega) (by omega), by rw [itC, if_pos rfl, ← e]; show _ = spV S 0 t; omega⟩
    · exact ⟨(spV S 1 t - 1 + 60).toNat, by omega, (spV S 2 t + 60).toNat, by omega, trivial, sp_in ht (by omega) (by omega) (by omega), by rw [itC, if_neg (by decide), if_pos rfl, ← e]; show _ = spV S 1 t; omega⟩
    · exact ⟨(spV S 0 t + 60).toNat, by omega, (spV S 2 t + 60).toNat, by omega, trivial, sp_in ht (by omega) (by omega) (by omega), by rw [itC, if_neg (by decide), if_neg (by decide), if_pos rfl, ← e]; show _ = spV S 2 t; omega⟩
    · exact ⟨(spV S 0 t + 60).toNat, by omega, (spV S 3 t - 1 + 60).toNat, by omega, trivial, sp_in ht (by omega) (by omega) (by omega), by rw [itC, if_neg (by decide), if_neg (by decide), if_neg (by decide), ← e]; show _ = spV S 3 t; omega⟩
  · obtain ⟨u, hu, hx, hy⟩ := sp_ex hi hj hS
    have hb := h2 u hu
    rcases hc with rfl | rfl | rfl | rfl
    · refine ⟨fun w => ?_, fun w => by omega⟩
      have := hb.1 w
      rw [itC, if_pos rfl]
      exact Int.le_trans this hx.1
    · refine ⟨fun w => by omega, fun w => ?_⟩
      have := hb.2 w
      rw [itC, if_neg (by decide), if_pos rfl]
      exact Int.le_trans (show _ ≤ spV S 1 u by omega) this
    · refine ⟨fun w => ?_, fun w => by omega⟩
      have := hb.1 w
      rw [itC, if_neg (by decide), if_neg (by decide), if_pos rfl]
      exact Int.le_trans this hy.1
    · refine ⟨fun w => by omega, fun w => ?_⟩
      have := hb.2 w
      rw [itC, if_neg (by decide), if_neg (by decide), if_neg (by decide)]
      exact Int.le_trans (show _ ≤ spV S 3 u by omega) this
  · exact absurd ⟨(spV S 0 t + 60).toNat, by omega, (spV S 2 t + 60).toNat, by omega, trivial, sp_in ht (by omega) (by omega) (by omega)⟩ hn
theorem BsQ.fin {S : Cl} {wh r : Int} (hw : 5 ≤ wh ∧ wh ≤ 8) (h : BsQ S wh (nsC S) r) : bdV S wh = r := bdV_eq hw (BsQ_P hw h)
theorem c_X1_border {E : Le} {l : Launch} {D : Dt} {S : Cl} {wh : Int} (hF : FormP D S) (hn : 0 < nsC S) (hw : 5 ≤ wh ∧ wh ≤ 8) : ConI E l yX1_border cX1_border 5 (some .int) 2 [.ref (E.1 (5, 0)), .int (oI wh)] D (oI (bdV S wh)) D := by
  have hl := hF.2.2.1.2
  refine Con_of (by decide) (Nat.le_of_ble_eq_true rfl) ?_
  intro X hX hR hl; subst hl
  have loop : ∀ (m : Nat) (k : Nat) (r : Int), (1 ≤ k ∧ k ≤ nsC S) ∧ -60 ≤ r ∧ r ≤ 60 → BsQ S wh k r → nsC S - k < m → Vw E X 5 D 11 [(0, some (.ref (E.1 (5, 0)))), (1, some (.int (oI wh))), (2, some (.int (oI r))), (3, some (.int (oI (k : Int))))] [] := by
    intro m
    induction m with
    | zero => intro k r g1 g2 g3; omega
    | succ m ih =>
      intro k r g1 g2 g3
      refine V_iload_n (pc := 11) (j := 3) hX 3 rfl rfl dX1_border_11 ?_
      refine V_aload_n (pc := 12) (j := 0) hX 0 rfl rfl dX1_border_12 ?_
      refine gf_X1_34 (pc := 13) hX dX1_border_13 ?_
      refine V_oI (nsC S : Int) hF.2.1 ?_
      refine Z_icmp_ge (pc := 16) (tgt := 62) hX (by omega) (by omega) dX1_border_16 (by decide) (fun h16 => ?_) (fun h16 => ?_)
      · refine V_iload_n (pc := 62) (j := 2) hX 2 rfl rfl dX1_border_62 ?_
        refine V_iret (pc := 63) hX hR dX1_border_63 ?_
        have e : k = nsC S := by omega
        subst e
        exact ⟨some_int (by rw [g2.fin hw]), rfl⟩
      · refine V_aload_n (pc := 19) (j := 0) hX 0 rfl rfl dX1_border_19 ?_
        refine V_iload_n (pc := 20) (j := 3) hX 3 rfl rfl dX1_border_20 ?_
        refine V_iload_n (pc := 21) (j := 1) hX 1 rfl rfl dX1_border_21 ?_
        refine V_iconst (pc := 22) (z := 5) hX (oI 5) rfl dX1_border_22 ?_
        refine Z_isub (pc := 23) hX dX1_border_23 ?_
        refine cVI2 (pc := 24) hX (c_X1_spanSide (S := S) (k := k) hF (by omega) (by omega)) (by decide) st_X1_82 ix_5 rfl rfl rfl (Nat.le_of_ble_eq_true rfl) dX1_border_24 ?_
        refine V_istore (pc := 27) hX (by decide) rfl dX1_border_27 ?_
        have hv := spV_rg (S := S) (k := k) (by omega) (wh := wh - 5)
        refine V_iload_n (pc := 29) (j := 1) hX 1 rfl rfl dX1_border_29 ?_
        refine V_iconst (pc := 30) (z := 5) hX (oI 5) rfl dX1_border_30 ?_
        refine Z_icmp_eq (pc := 31) (tgt := 40) hX (by omega) (by omega) dX1_border_31 (by decide) (fun h31 => ?_) (fun h31 => ?_)
        · refine V_iload_n (pc := 40) (j := 2) hX 2 rfl rfl dX1_border_40 ?_
          refine V_iload (pc := 41) hX rfl dX1_border_41 ?_
          refine Z_mmin (pc := 43) hX (by omega) (by omega) (by decide) wm_X1_68 (Nat.le_of_ble_eq_true rfl) dX1_border_43 ?_
          refine V_goto (pc := 46) (off := 9) (tgt := 55) hX (by decide) dX1_border_46 ?_
          refine V_istore_n (pc := 55) (j := 2) hX 2 rfl (by decide) rfl dX1_border_55 ?_
          refine Z_iinc (pc := 56) hX 1 rfl rfl dX1_border_56 ?_
          refine V_goto (pc := 59) (off := (-48)) (tgt := 11) hX (by decide) dX1_border_59 ?_
          refine V_cut [(0, some (.ref (E.1 (5, 0)))), (1, some (.int (oI wh))), (2, some (.int (oI (min r (spV S (wh - 5) k))))), (3, some (.int (oI ((k + 1 : Nat) : Int))))] ⟨rfl, rfl, rfl, rfl, trivial⟩ ?_
          exact ih (k + 1) _ ⟨by omega, by omega⟩ (g2.nx (Or.inl ⟨by omega, rfl⟩)) (by omega)
        · refine V_iload_n (pc := 34) (j := 1) hX 1 rfl rfl dX1_border_34 ?_
          refine V_bipush (pc := 35) (z := 7) hX (oI 7) (by decide) dX1_border_35 ?_
          refine Z_icmp_ne (pc := 37) (tgt := 49) hX (by omega) (by omega) dX1_border_37 (by decide) (fun h37 => ?_) (fun h37 => ?_)
          · refine V_iload_n (pc := 49) (j := 2) hX 2 rfl rfl dX1_border_49 ?_
            refine V_iload (pc := 50) hX rfl dX1_border_50 ?_
            refine Z_mmax (pc := 52) hX (by omega) (by omega) (by decide) wm_X1_85 (Nat.le_of_ble_eq_true rfl) dX1_border_52 ?_
            refine V_istore_n (pc := 55) (j := 2) hX 2 rfl (by decide) rfl dX1_border_55 ?_
            refine Z_iinc (pc := 56) hX 1 rfl rfl dX1_border_56 ?_
            refine V_goto (pc := 59) (off := (-48)) (tgt := 11) hX (by decide) dX1_border_59 ?_
            refine V_cut [(0, some (.ref (E.1 (5, 0)))), (1, some (.int (oI wh))), (2, some (.int (oI (max r (spV S (wh - 5) k))))), (3, some (.int (oI ((k + 1 : Nat) : Int))))] ⟨rfl, rfl, rfl, rfl, trivial⟩ ?_
            exact ih (k + 1) _ ⟨by omega, by omega⟩ (g2.nx (Or.inr ⟨by omega, rfl⟩)) (by omega)
          · refine V_iload_n (pc := 40) (j := 2) hX 2 rfl rfl dX1_border_40 ?_
            refine V_iload (pc := 41) hX rfl dX1_border_41 ?_
            refine Z_mmin (pc := 43) hX (by omega) (by omega) (by decide) wm_X1_68 (Nat.le_of_ble_eq_true rfl) dX1_border_43 ?_
            refine V_goto (pc := 46) (off := 9) (tgt := 55) hX (by decide) dX1_border_46 ?_
            refine V_istore_n (pc := 55) (j := 2) hX 2 rfl (by decide) rfl dX1_border_55 ?_
            refine Z_iinc (pc := 56) hX 1 rfl rfl dX1_border_56 ?_
            refine V_goto (pc := 59) (off := (-48)) (tgt := 11) hX (by decide) dX1_border_59 ?_
            refine V_cut [(0, some (.ref (E.1 (5, 0)))), (1, some (.int (oI wh))), (2, some (.int (oI (min r (spV S (wh - 5) k))))), (3, some (.int (oI ((k + 1 : Nat) : Int))))] ⟨rfl, rfl, rfl, rfl, trivial⟩ ?_
            exact ih (k + 1) _ ⟨by omega, by omega⟩ (g2.nx (Or.inl ⟨by omega, rfl⟩)) (by omega)
  refine V_aload_n (pc := 0) (j := 0) hX 0 rfl rfl dX1_border_0 ?_
  refine V_iconst (pc := 1) (z := 0) hX (oI 0) rfl dX1_border_1 ?_
  refine V_iload_n (pc := 2) (j := 1) hX 1 rfl rfl dX1_border_2 ?_
  refine V_iconst (pc := 3) (z := 5) hX (oI 5) rfl dX1_border_3 ?_
  refine Z_isub (pc := 4) hX dX1_border_4 ?_
  refine cVI2 (pc := 5) hX (c_X1_spanSide (S := S) (k := 0) hF (by omega) (by omega)) (by decide) st_X1_82 ix_5 rfl rfl rfl (Nat.le_of_ble_eq_true rfl) dX1_border_5 ?_
  refine V_istore_n (pc := 8) (j := 2) hX 2 rfl (by decide) rfl dX1_border_8 ?_
  refine V_iconst (pc := 9) (z := 1) hX (oI 1) rfl dX1_border_9 ?_
  refine V_istore_n (pc := 10) (j := 3) hX 3 rfl (by decide) rfl dX1_border_10 ?_
  have hv := spV_rg (S := S) (k := 0) (by omega) (wh := wh - 5)
  refine V_cut [(0, some (.ref (E.1 (5, 0)))), (1, some (.int (oI wh))), (2, some (.int (oI (spV S (wh - 5) 0)))), (3, some (.int (oI ((1 : Nat) : Int))))] ⟨rfl, rfl, rfl, rfl, trivial⟩ ?_
  refine loop (nsC S + 1) 1 _ ⟨by omega, hv⟩ ⟨⟨0, by omega, rfl⟩, fun t ht => ?_⟩ (by omega)
  have e : t = 0 := by omega
  subst e
  exact ⟨fun _ => Int.le_refl _, fun _ => Int.le_refl _⟩
theorem bdV_sp {S : Cl} (hn : 0 < nsC S) {wh : Int} (hw : 5 ≤ wh ∧ wh ≤ 8) : BdP S wh (bdV S wh) ∧ -60 ≤ bdV S wh ∧ bdV S wh ≤ 60 := by
  have hx : ∃ r, BsQ S wh (nsC S) r := by
    have key : ∀ k, k < nsC S → ∃ r, BsQ S wh (k + 1) r := by
      intro k
      induction k with
      | zero => exact fun _ => ⟨spV S (wh - 5) 0, ⟨0, by omega, rfl⟩, fun t ht => by
          have e : t = 0 := by omega
          subst e
          exact ⟨fun _ => Int.le_refl _, fun _ => Int.le_refl _⟩⟩
      | succ k ih =>
        intro hk
        obtain ⟨r, hr⟩ := ih (by omega)
        by_cases q : wh = 5 ∨ wh = 7
        · exact ⟨_, hr.nx (Or.inl ⟨q, rfl⟩)⟩
        · exact ⟨_, hr.nx (Or.inr ⟨by omega, rfl⟩)⟩
    obtain ⟨r, hr⟩ := key (nsC S - 1) (by omega)
    exact ⟨r, by rw [show nsC S - 1 + 1 = nsC S by omega] at hr; exact hr⟩
  obtain ⟨r, hr⟩ := hx
  have e := hr.fin hw
  have hh : BdP S wh (bdV S wh) := by
    have hr2 := sp_rg (S := S) (k := 0) hn
    obtain ⟨t, ht, e2⟩ := hr.1
    exact Classical.epsilon_spec (p := fun r => BdP S wh r) ⟨r, BsQ_P hw hr⟩
  refine ⟨hh, ?_⟩
  obtain ⟨t, ht, e2⟩ := hr.1
  rw [e, ← e2]
  exact spV_rg ht
theorem mv_iff {S : Cl} (hn : 0 < nsC S) {x y : Int} : mvOK x y S ↔ ((-60 ≤ bdV S 5 + x ∧ bdV S 6 + x ≤ 60) ∧ -60 ≤ bdV S 7 + y ∧ bdV S 8 + y ≤ 60) := by
  have h5 := (bdV_sp hn (wh := 5) (by omega)).1
  have h6 := (bdV_sp hn (wh := 6) (by omega)).1
  have h7 := (bdV_sp hn (wh := 7) (by omega)).1
  have h8 := (bdV_sp hn (wh := 8) (by omega)).1
  have hr := sp_rg (S := S) (k := 0) hn
  have hx : ∃ i, i < 120 ∧ ∃ j, j < 120 ∧ True ∧ S i j = true := ⟨(spV S 0 0 + 60).toNat, by omega, (spV S 2 0 + 60).toNat, by omega, trivial, sp_in hn (by omega) (by omega) (by omega)⟩
  constructor
  · intro h
    obtain ⟨i5, a5, j5, b5, -, c5, d5⟩ := h5.1 hx
    obtain ⟨i6, a6, j6, b6, -, c6, d6⟩ := h6.1 hx
    obtain ⟨i7, a7, j7, b7, -, c7, d7⟩ := h7.1 hx
    obtain ⟨i8, a8, j8, b8, -, c8, d8⟩ := h8.1 hx
    have e5 := cellB_t.mp (h i5 a5 j5 b5 c5)
    have e6 := cellB_t.mp (h i6 a6 j6 b6 c6)
    have e7 := cellB_t.mp (h i7 a7 j7 b7 c7)
    have e8 := cellB_t.mp (h i8 a8 j8 b8 c8)
    rw [itC, if_pos rfl] at d5
    rw [itC, if_neg (by decide), if_pos rfl] at d6
    rw [itC, if_neg (by decide), if_neg (by decide), if_pos rfl] at d7
    rw [itC, if_neg (by decide), if_neg (by decide), if_neg (by decide)] at d8
    omega
  · intro h i hi j hj hS
    have e5 := (h5.2.1 i hi j hj trivial hS).1 (Or.inl rfl)
    have e6 := (h6.2.1 i hi j hj trivial hS).2 (Or.inl rfl)
    have e7 := (h7.2.1 i hi j hj trivial hS).1 (Or.inr rfl)
    have e8 := (h8.2.1 i hi j hj trivial hS).2 (Or.inr rfl)
    rw [itC, if_pos rfl] at e5
    rw [itC, if_neg (by decide), if_pos rfl] at e6
    rw [itC, if_neg (by decide), if_neg (by decide), if_pos rfl] at e7
    rw [itC, if_neg (by decide), if_neg (by decide), if_neg (by decide)] at e8
    exact cellB_t.mpr (by omega)
theorem mv_0 {S : Cl} (hn : nsC S = 0) (x y : Int) : mvOK x y S := fun i hi j hj hS => by rw [ns_0 hn i hi j hj] at hS; cases hS
theorem c_X1_staysInside {E : Le} {l : Launch} {D : Dt} {S : Cl} {x y : Int} (hF : FormP D S) (hx : -120 ≤ x ∧ x ≤ 120) (hy : -120 ≤ y ∧ y ≤ 120) : ConI E l yX1_staysInside cX1_staysInside 3 (some .boolean) 3 [.ref (E.1 (5, 0)), .int (oI x), .int (oI y)] D (bI (mvOKB x y S)) D := by
  have hl := hF.2.2.1.2
  refine Con_of (by decide) (Nat.le_of_ble_eq_true rfl) ?_
  intro X hX hR hl; subst hl
  refine V_aload_n (pc := 0) (j := 0) hX 0 rfl rfl dX1_staysInside_0 ?_
  refine gf_X1_34 (pc := 1) hX dX1_staysInside_1 ?_
  refine V_oI (nsC S : Int) hF.2.1 ?_
  refine Z_if_eq (pc := 4) (tgt := 58) hX (by omega) dX1_staysInside_4 (by decide) (fun h4 => ?_) (fun h4 => ?_)
  · refine V_iconst (pc := 58) (z := 1) hX (oI 1) rfl dX1_staysInside_58 ?_
    refine V_goto (pc := 59) (off := 4) (tgt := 63) hX (by decide) dX1_staysInside_59 ?_
    refine V_zret (pc := 63) hX hR (by decide) dX1_staysInside_63 ?_
    exact ⟨some_int (bI_1 (mvOKB_t.mpr (mv_0 (by omega) x y))), rfl⟩
  · have hn : 0 < nsC S := by omega
    have b5 := (bdV_sp hn (wh := 5) (by omega)).2
    have b6 := (bdV_sp hn (wh := 6) (by omega)).2
    have b7 := (bdV_sp hn (wh := 7) (by omega)).2
    have b8 := (bdV_sp hn (wh := 8) (by omega)).2
    refine V_aload_n (pc := 7) (j := 0) hX 0 rfl rfl dX1_staysInside_7 ?_
    refine V_iconst (pc := 8) (z := 5) hX (oI 5) rfl dX1_staysInside_8 ?_
    refine cVI1 (pc := 9) hX (c_X1_border hF hn (by omega)) (by decide) st_X1_78 ix_5 rfl rfl rfl (Nat.le_of_ble_eq_true rfl) dX1_staysInside_9 ?_
    refine V_iload_n (pc := 12) (j := 1) hX 1 rfl rfl dX1_staysInside_12 ?_
    refine Z_iadd (pc := 13) hX dX1_staysInside_13 ?_
    refine V_bipush (pc := 14) (z := (-60)) hX (oI (-60)) (by decide) dX1_staysInside_14 ?_
    refine Z_icmp_lt (pc := 16) (tgt := 62) hX (by omega) (by omega) dX1_staysInside_16 (by decide) (fun h16 => ?_) (fun h16 => ?_)
    · refine V_iconst (pc := 62) (z := 0) hX (oI 0) rfl dX1_staysInside_62 ?_
      refine V_zret (pc := 63) hX hR (by decide) dX1_staysInside_63 ?_
      exact ⟨some_int (bI_0 (Bool.eq_false_iff.mpr (fun q => by have := (mv_iff hn).mp (mvOKB_t.mp q); omega))), rfl⟩
    · refine V_aload_n (pc := 19) (j := 0) hX 0 rfl rfl dX1_staysInside_19 ?_
      refine V_bipush (pc := 20) (z := 6) hX (oI 6) (by decide) dX1_staysInside_20 ?_
      refine cVI1 (pc := 22) hX (c_X1_border hF hn (by omega)) (by decide) st_X1_78 ix_5 rfl rfl rfl (Nat.le_of_ble_eq_true rfl) dX1_staysInside_22 ?_
      refine V_iload_n (pc := 25) (j := 1) hX 1 rfl rfl dX1_staysInside_25 ?_
      refine Z_iadd (pc := 26) hX dX1_staysInside_26 ?_
      refine V_bipush (pc := 27) (z := 60) hX (oI 60) (by decide) dX1_staysInside_27 ?_
      refine Z_icmp_gt (pc := 29) (tgt := 62) hX (by omega) (by omega) dX1_staysInside_29 (by decide) (fun h29 => ?_) (fun h29 => ?_)
      · refine V_iconst (pc := 62) (z := 0) hX (oI 0) rfl dX1_staysInside_62 ?_
        refine V_zret (pc := 63) hX hR (by decide) dX1_staysInside_63 ?_
        exact ⟨some_int (bI_0 (Bool.eq_false_iff.mpr (fun q => by have := (mv_iff hn).mp (mvOKB_t.mp q); omega))), rfl⟩
      · refine V_aload_n (pc := 32) (j := 0) hX 0 rfl rfl dX1_staysInside_32 ?_
        refine V_bipush (pc := 33) (z := 7) hX (oI 7) (by decide) dX1_staysInside_33 ?_
        refine cVI1 (pc := 35) hX (c_X1_border hF hn (by omega)) (by decide) st_X1_78 ix_5 rfl rfl rfl (Nat.le_of_ble_eq_true rfl) dX1_staysInside_35 ?_
        refine V_iload_n (pc := 38) (j := 2) hX 2 rfl rfl dX1_staysInside_38 ?_
        refine Z_iadd (pc := 39) hX dX1_staysInside_39 ?_
        refine V_bipush (pc := 40) (z := (-60)) hX (oI (-60)) (by decide) dX1_staysInside_40 ?_
        refine Z_icmp_lt (pc := 42) (tgt := 62) hX (by omega) (by omega) dX1_staysInside_42 (by decide) (fun h42 => ?_) (fun h42 => ?_)
        · refine V_iconst (pc := 62) (z := 0) hX (oI 0) rfl dX1_staysInside_62 ?_
          refine V_zret (pc := 63) hX hR (by decide) dX1_staysInside_63 ?_
          exact ⟨some_int (bI_0 (Bool.eq_false_iff.mpr (fun q => by have := (mv_iff hn).mp (mvOKB_t.mp q); omega))), rfl⟩
        · refine V_aload_n (pc := 45) (j := 0) hX 0 rfl rfl dX1_staysInside_45 ?_
          refine V_bipush (pc := 46) (z := 8) hX (oI 8) (by decide) dX1_staysInside_46 ?_
          refine cVI1 (pc := 48) hX (c_X1_border hF hn (by omega)) (by decide) st_X1_78 ix_5 rfl rfl rfl (Nat.le_of_ble_eq_true rfl) dX1_staysInside_48 ?_
          refine V_iload_n (pc := 51) (j := 2) hX 2 rfl rfl dX1_staysInside_51 ?_
          refine Z_iadd (pc := 52) hX dX1_staysInside_52 ?_
          refine V_bipush (pc := 53) (z := 60) hX (oI 60) (by decide) dX1_staysInside_53 ?_
          refine Z_icmp_gt (pc := 55) (tgt := 62) hX (by omega) (by omega) dX1_staysInside_55 (by decide) (fun h55 => ?_) (fun h55 => ?_)
          · refine V_iconst (pc := 62) (z := 0) hX (oI 0) rfl dX1_staysInside_62 ?_
            refine V_zret (pc := 63) hX hR (by decide) dX1_staysInside_63 ?_
            exact ⟨some_int (bI_0 (Bool.eq_false_iff.mpr (fun q => by have := (mv_iff hn).mp (mvOKB_t.mp q); omega))), rfl⟩
          · refine V_iconst (pc := 58) (z := 1) hX (oI 1) rfl dX1_staysInside_58 ?_
            refine V_goto (pc := 59) (off := 4) (tgt := 63) hX (by decide) dX1_staysInside_59 ?_
            refine V_zret (pc := 63) hX hR (by decide) dX1_staysInside_63 ?_
            exact ⟨some_int (bI_1 (mvOKB_t.mpr ((mv_iff hn).mpr (by omega)))), rfl⟩
def fiC (f : Nat → Int × Int × Int × Int) : Nat → Cl
  | 0 => noC
  | k + 1 => fillC (fiC f k) (f k).1 (f k).2.1 (f k).2.2.1 (f k).2.2.2
theorem fiC_t {f : Nat → Int × Int × Int × Int} {i j : Nat} : ∀ n, fiC f n i j = true ↔ ∃ t, t < n ∧ ((f t).1 ≤ (i : Int) - 60 ∧ (i : Int) - 60 < (f t).2.2.1) ∧ (f t).2.1 ≤ (j : Int) - 60 ∧ (j : Int) - 60 < (f t).2.2.2
  | 0 => ⟨fun h => (by cases h), fun ⟨t, ht, _⟩ => absurd ht (Nat.not_lt_zero t)⟩
  | n + 1 => by
    show (fiC f n i j || decide _) = true ↔ _
    rw [Bool.or_eq_true, decide_eq_true_iff, fiC_t n]
    constructor
    · rintro (⟨t, ht, h⟩ | h)
      · exact ⟨t, by omega, h⟩
      · exact ⟨n, by omega, h⟩
    · rintro ⟨t, ht, h⟩
      by_cases q : t = n
      · subst q; exact Or.inr h
      · exact Or.inl ⟨t, by omega, h⟩
def mvR (S : Cl) (x y : Int) (k : Nat) : Int × Int × Int × Int := (spV S 0 k + x, spV S 2 k + y, spV S 1 k + x, spV S 3 k + y)
theorem mv_fi {S : Cl} {x y : Int} : ∀ i, i < 120 → ∀ j, j < 120 → fiC (mvR S x y) (nsC S) i j = moveC x y S i j := by
  intro i hi j hj
  rw [Bool.eq_iff_iff, fiC_t, moveC, Bool.and_eq_true, mvB, decide_eq_true_iff]
  constructor
  · rintro ⟨t, ht, h1, h2⟩
    have hr := sp_rg ht
    unfold mvR at h1 h2
    dsimp only at h1 h2
    refine ⟨by omega, ?_⟩
    unfold mvI
    exact sp_in ht (by omega) (by omega) (by omega)
  · rintro ⟨h1, h2⟩
    unfold mvI at h2
    obtain ⟨t, ht, h3, h4⟩ := sp_ex (by omega) (by omega) h2
    refine ⟨t, ht, ?_⟩
    unfold mvR
    dsimp only
    omega
def tuR (S : Cl) (way : Int) (k : Nat) : Int × Int × Int × Int := if way = 0 then (-spV S 1 k, spV S 2 k, -spV S 0 k, spV S 3 k) else if way = 1 then (spV S 0 k, -spV S 3 k, spV S 1 k, -spV S 2 k) else (spV S 2 k, spV S 0 k, spV S 3 k, spV S 1 k)
theorem tu_fi {S : Cl} {way : Int} (hw : 0 ≤ way ∧ way ≤ 2) : ∀ i, i < 120 → ∀ j, j < 120 → fiC (tuR S way) (nsC S) i j = flipC way S i j := by
  intro i hi j hj
  rw [Bool.eq_iff_iff, fiC_t, flipC]
  have hc : way = 0 ∨ way = 1 ∨ way = 2 := by omega
  constructor
  · rintro ⟨t, ht, h1, h2⟩
    have hr := sp_rg ht
    rcases hc with rfl | rfl | rfl
    · rw [tuR, if_pos rfl] at h1 h2
      dsimp only at h1 h2
      rw [flI_0, flJ_0]
      exact sp_in ht (by omega) (by omega) (by omega)
    · rw [tuR, if_neg (by decide), if_pos rfl] at h1 h2
      dsimp only at h1 h2
      rw [flI_1, flJ_1]
      exact sp_in ht (by omega) (by omega) (by omega)
    · rw [tuR, if_neg (by decide), if_neg (by decide)] at h1 h2
      dsimp only at h1 h2
      rw [flI_2, flJ_2]
      exact sp_in ht (by omega) (by omega) (by omega)
  · intro h
    rcases hc with rfl | rfl | rfl
    · rw [flI_0, flJ_0] at h
      obtain ⟨t, ht, h3, h4⟩ := sp_ex (by omega) (by omega) h
      refine ⟨t, ht, ?_⟩
      rw [tuR, if_pos rfl]
      dsimp only
      omega
    · rw [flI_1, flJ_1] at h
      obtain ⟨t, ht, h3, h4⟩ := sp_ex (by omega) (by omega) h
      refine ⟨t, ht, ?_⟩
      rw [tuR, if_neg (by decide), if_pos rfl]
      dsimp only
      omega
    · rw [flI_2, flJ_2] at h
      obtain ⟨t, ht, h3, h4⟩ := sp_ex (by omega) (by omega) h
      refine ⟨t, ht, ?_⟩
      rw [tuR, if_neg (by decide), if_neg (by decide)]
      dsimp only
      omega
theorem c_X1_layMoved {E : Le} {l : Launch} {D : Dt} {S : Cl} {z : Fin 11} {x y : Int} (hF : FormP D S) (hx : -120 ≤ x ∧ x ≤ 120) (hy : -120 ≤ y ∧ y ≤ 120) : ConVp E l yX1_layMoved cX1_layMoved 5 none 3 [.ref (E.1 (5, 0)), .ref (E.1 (1, z)), .int (oI x), .int (oI y)] D (fun D' => Az z D D' ∧ AC D' z (moveC x y S)) := by
  have hl := hF.2.2.1.2
  refine Con_of (by decide) (Nat.le_of_ble_eq_true rfl) ?_
  intro X hX hR hl; subst hl
  have loop : ∀ (m : Nat) (k : Nat) (D1 : Dt), k ≤ nsC S → Az z D D1 → AC D1 z (fiC (mvR S x y) k) → nsC S - k < m → Vw E X 5 D1 7 [(0, some (.ref (E.1 (5, 0)))), (1, some (.ref (E.1 (1, z)))), (2, some (.int (oI x))), (3, some (.int (oI y))), (4, some (.int (oI (k : Int))))] [] := by
    intro m
    induction m with
    | zero => intro k D1 g1 g2 g3 g4; omega
    | succ m ih =>
      intro k D1 g1 g2 g3 g4
      refine V_iload (pc := 7) hX rfl dX1_layMoved_7 ?_
      refine V_aload_n (pc := 9) (j := 0) hX 0 rfl rfl dX1_layMoved_9 ?_
      refine gf_X1_34 (pc := 10) hX dX1_layMoved_10 ?_
      refine V_oI (nsC S : Int) (hF.fr g2.1).2.1 ?_
      refine Z_icmp_ge (pc := 13) (tgt := 62) hX (by omega) (by omega) dX1_layMoved_13 (by decide) (fun h13 => ?_) (fun h13 => ?_)
      · refine V_vret (pc := 62) hX hR dX1_layMoved_62 ?_
        have e : k = nsC S := by omega
        subst e
        exact ⟨rfl, g2, AR.congr g3 mv_fi⟩
      · have hF1 := hF.fr g2.1
        have hr := sp_rg (S := S) (k := k) (by omega)
        refine V_aload_n (pc := 16) (j := 1) hX 1 rfl rfl dX1_layMoved_16 ?_
        refine V_aload_n (pc := 17) (j := 0) hX 0 rfl rfl dX1_layMoved_17 ?_
        refine V_iload (pc := 18) hX rfl dX1_layMoved_18 ?_
        refine V_iconst (pc := 20) (z := 0) hX (oI 0) rfl dX1_layMoved_20 ?_
        refine cVI2 (pc := 21) hX (c_X1_spanSide (S := S) (k := k) hF1 (by omega) (by omega)) (by decide) st_X1_82 ix_5 rfl rfl rfl (Nat.le_of_ble_eq_true rfl) dX1_layMoved_21 ?_
        refine V_iload_n (pc := 24) (j := 2) hX 2 rfl rfl dX1_layMoved_24 ?_
        refine Z_iadd (pc := 25) hX dX1_layMoved_25 ?_
        refine V_aload_n (pc := 26) (j := 0) hX 0 rfl rfl dX1_layMoved_26 ?_
        refine V_iload (pc := 27) hX rfl dX1_layMoved_27 ?_
        refine V_iconst (pc := 29) (z := 2) hX (oI 2) rfl dX1_layMoved_29 ?_
        refine cVI2 (pc := 30) hX (c_X1_spanSide (S := S) (k := k) hF1 (by omega) (by omega)) (by decide) st_X1_82 ix_5 rfl rfl rfl (Nat.le_of_ble_eq_true rfl) dX1_layMoved_30 ?_
        refine V_iload_n (pc := 33) (j := 3) hX 3 rfl rfl dX1_layMoved_33 ?_
        refine Z_iadd (pc := 34) hX dX1_layMoved_34 ?_
        refine V_aload_n (pc := 35) (j := 0) hX 0 rfl rfl dX1_layMoved_35 ?_
        refine V_iload (pc := 36) hX rfl dX1_layMoved_36 ?_
        refine V_iconst (pc := 38) (z := 1) hX (oI 1) rfl dX1_layMoved_38 ?_
        refine cVI2 (pc := 39) hX (c_X1_spanSide (S := S) (k := k) hF1 (by omega) (by omega)) (by decide) st_X1_82 ix_5 rfl rfl rfl (Nat.le_of_ble_eq_true rfl) dX1_layMoved_39 ?_
        refine V_iload_n (pc := 42) (j := 2) hX 2 rfl rfl dX1_layMoved_42 ?_
        refine Z_iadd (pc := 43) hX dX1_layMoved_43 ?_
        refine V_aload_n (pc := 44) (j := 0) hX 0 rfl rfl dX1_layMoved_44 ?_
        refine V_iload (pc := 45) hX rfl dX1_layMoved_45 ?_
        refine V_iconst (pc := 47) (z := 3) hX (oI 3) rfl dX1_layMoved_47 ?_
        refine cVI2 (pc := 48) hX (c_X1_spanSide (S := S) (k := k) hF1 (by omega) (by omega)) (by decide) st_X1_82 ix_5 rfl rfl rfl (Nat.le_of_ble_eq_true rfl) dX1_layMoved_48 ?_
        refine V_iload_n (pc := 51) (j := 3) hX 3 rfl rfl dX1_layMoved_51 ?_
        refine Z_iadd (pc := 52) hX dX1_layMoved_52 ?_
        refine cVVp4 (pc := 53) hX (c_X0_fill (S := fiC (mvR S x y) k) (by omega) (by omega) (by omega) (by omega) g3) (by decide) st_X1_91 (ix_1 _) rfl rfl rfl (Nat.le_of_ble_eq_true rfl) dX1_layMoved_53 (fun D53 h53 => ?_)
        refine Z_iinc (pc := 56) hX 1 rfl rfl dX1_layMoved_56 ?_
        refine V_goto (pc := 59) (off := (-52)) (tgt := 7) hX (by decide) dX1_layMoved_59 ?_
        refine V_cut [(0, some (.ref (E.1 (5, 0)))), (1, some (.ref (E.1 (1, z)))), (2, some (.int (oI x))), (3, some (.int (oI y))), (4, some (.int (oI ((k + 1 : Nat) : Int))))] ⟨rfl, rfl, rfl, rfl, rfl, trivial⟩ ?_
        exact ih (k + 1) _ (by omega) (g2.tr h53.1) h53.2 (by omega)
  refine V_aload_n (pc := 0) (j := 1) hX 1 rfl rfl dX1_layMoved_0 ?_
  refine cVVp0 (pc := 1) hX (c_X0_empty) (by decide) st_X1_88 (ix_1 _) rfl rfl rfl (Nat.le_of_ble_eq_true rfl) dX1_layMoved_1 (fun D1 h1 => ?_)
  refine V_iconst (pc := 4) (z := 0) hX (oI 0) rfl dX1_layMoved_4 ?_
  refine V_istore (pc := 5) hX (by decide) rfl dX1_layMoved_5 ?_
  refine V_cut [(0, some (.ref (E.1 (5, 0)))), (1, some (.ref (E.1 (1, z)))), (2, some (.int (oI x))), (3, some (.int (oI y))), (4, some (.int (oI ((0 : Nat) : Int))))] ⟨rfl, rfl, rfl, rfl, rfl, trivial⟩ ?_
  exact loop (nsC S + 1) 0 _ (by omega) h1.1 h1.2 (by omega)
theorem c_X1_layTurned {E : Le} {l : Launch} {D : Dt} {S : Cl} {z : Fin 11} {way : Int} (hF : FormP D S) (hw : 0 ≤ way ∧ way ≤ 2) : ConVp E l yX1_layTurned cX1_layTurned 8 none 3 [.ref (E.1 (5, 0)), .ref (E.1 (1, z)), .int (oI way)] D (fun D' => Az z D D' ∧ AC D' z (flipC way S)) := by
  have hl := hF.2.2.1.2
  refine Con_of (by decide) (Nat.le_of_ble_eq_true rfl) ?_
  intro X hX hR hl; subst hl
  have loop : ∀ (m : Nat) (k : Nat) (D1 : Dt), k ≤ nsC S → Az z D D1 → AC D1 z (fiC (tuR S way) k) → nsC S - k < m → Vw E X 8 D1 6 [(0, some (.ref (E.1 (5, 0)))), (1, some (.ref (E.1 (1, z)))), (2, some (.int (oI way))), (3, some (.int (oI (k : Int))))] [] := by
    intro m
    induction m with
    | zero => intro k D1 g1 g2 g3 g4; omega
    | succ m ih =>
      intro k D1 g1 g2 g3 g4
      refine V_iload_n (pc := 6) (j := 3) hX 3 rfl rfl dX1_layTurned_6 ?_
      refine V_aload_n (pc := 7) (j := 0) hX 0 rfl rfl dX1_layTurned_7 ?_
      refine gf_X1_34 (pc := 8) hX dX1_layTurned_8 ?_
      refine V_oI (nsC S : Int) (hF.fr g2.1).2.1 ?_
      refine Z_icmp_ge (pc := 11) (tgt := 124) hX (by omega) (by omega) dX1_layTurned_11 (by decide) (fun h11 => ?_) (fun h11 => ?_)
      · refine V_vret (pc := 124) hX hR dX1_layTurned_124 ?_
        have e : k = nsC S := by omega
        subst e
        exact ⟨rfl, g2, AR.congr g3 (tu_fi hw)⟩
      · have hF1 := hF.fr g2.1
        have hr := sp_rg (S := S) (k := k) (by omega)
        refine V_aload_n (pc := 14) (j := 0) hX 0 rfl rfl dX1_layTurned_14 ?_
        refine V_iload_n (pc := 15) (j := 3) hX 3 rfl rfl dX1_layTurned_15 ?_
        refine V_iconst (pc := 16) (z := 0) hX (oI 0) rfl dX1_layTurned_16 ?_
        refine cVI2 (pc := 17) hX (c_X1_spanSide (S := S) (k := k) hF1 (by omega) (by omega)) (by decide) st_X1_82 ix_5 rfl rfl rfl (Nat.le_of_ble_eq_true rfl) dX1_layTurned_17 ?_
        refine V_istore (pc := 20) hX (by decide) rfl dX1_layTurned_20 ?_
        refine V_aload_n (pc := 22) (j := 0) hX 0 rfl rfl dX1_layTurned_22 ?_
        refine V_iload_n (pc := 23) (j := 3) hX 3 rfl rfl dX1_layTurned_23 ?_
        refine V_iconst (pc := 24) (z := 1) hX (oI 1) rfl dX1_layTurned_24 ?_
        refine cVI2 (pc := 25) hX (c_X1_spanSide (S := S) (k := k) hF1 (by omega) (by omega)) (by decide) st_X1_82 ix_5 rfl rfl rfl (Nat.le_of_ble_eq_true rfl) dX1_layTurned_25 ?_
        refine V_istore (pc := 28) hX (by decide) rfl dX1_layTurned_28 ?_
        refine V_aload_n (pc := 30) (j := 0) hX 0 rfl rfl dX1_layTurned_30 ?_
        refine V_iload_n (pc := 31) (j := 3) hX 3 rfl rfl dX1_layTurned_31 ?_
        refine V_iconst (pc := 32) (z := 2) hX (oI 2) rfl dX1_layTurned_32 ?_
        refine cVI2 (pc := 33) hX (c_X1_spanSide (S := S) (k := k) hF1 (by omega) (by omega)) (by decide) st_X1_82 ix_5 rfl rfl rfl (Nat.le_of_ble_eq_true rfl) dX1_layTurned_33 ?_
        refine V_istore (pc := 36) hX (by decide) rfl dX1_layTurned_36 ?_
        refine V_aload_n (pc := 38) (j := 0) hX 0 rfl rfl dX1_layTurned_38 ?_
        refine V_iload_n (pc := 39) (j := 3) hX 3 rfl rfl dX1_layTurned_39 ?_
        refine V_iconst (pc := 40) (z := 3) hX (oI 3) rfl dX1_layTurned_40 ?_
        refine cVI2 (pc := 41) hX (c_X1_spanSide (S := S) (k := k) hF1 (by omega) (by omega)) (by decide) st_X1_82 ix_5 rfl rfl rfl (Nat.le_of_ble_eq_true rfl) dX1_layTurned_41 ?_
        refine V_istore (pc := 44) hX (by decide) rfl dX1_layTurned_44 ?_
        refine V_iload_n (pc := 46) (j := 2) hX 2 rfl rfl dX1_layTurned_46 ?_
        by_cases h47_0 : way = 0
        · refine Z_lookIn (pc := 47) (tgt := 72) hX 0 h47_0 (by decide) dX1_layTurned_47 (by decide) rfl (by decide) ?_
          refine V_aload_n (pc := 72) (j := 1) hX 1 rfl rfl dX1_layTurned_72 ?_
          refine V_iload (pc := 73) hX rfl dX1_layTurned_73 ?_
          refine Z_ineg (pc := 75) hX dX1_layTurned_75 ?_
          refine V_iload (pc := 76) hX rfl dX1_layTurned_76 ?_
          refine V_iload (pc := 78) hX rfl dX1_layTurned_78 ?_
          refine Z_ineg (pc := 80) hX dX1_layTurned_80 ?_
          refine V_iload (pc := 81) hX rfl dX1_layTurned_81 ?_
          refine cVVp4 (pc := 83) hX (c_X0_fill (S := fiC (tuR S way) k) (by omega) (by omega) (by omega) (by omega) g3) (by decide) st_X1_91 (ix_1 _) rfl rfl rfl (Nat.le_of_ble_eq_true rfl) dX1_layTurned_83 (fun D83 h83 => ?_)
          refine V_goto (pc := 86) (off := 32) (tgt := 118) hX (by decide) dX1_layTurned_86 ?_
          refine Z_iinc (pc := 118) hX 1 rfl rfl dX1_layTurned_118 ?_
          refine V_goto (pc := 121) (off := (-115)) (tgt := 6) hX (by decide) dX1_layTurned_121 ?_
          refine V_cut [(0, some (.ref (E.1 (5, 0)))), (1, some (.ref (E.1 (1, z)))), (2, some (.int (oI way))), (3, some (.int (oI ((k + 1 : Nat) : Int))))] ⟨rfl, rfl, rfl, rfl, trivial⟩ ?_
          refine ih (k + 1) _ (by omega) (g2.tr h83.1) ?_ (by omega)
          have h3 := h83.2
          show AC _ z (fillC _ _ _ _ _)
          rw [tuR, if_pos h47_0]
          exact h3
        by_cases h47_1 : way = 1
        · refine Z_lookIn (pc := 47) (tgt := 89) hX 1 h47_1 (by decide) dX1_layTurned_47 (by decide) rfl (by decide) ?_
          refine V_aload_n (pc := 89) (j := 1) hX 1 rfl rfl dX1_layTurned_89 ?_
          refine V_iload (pc := 90) hX rfl dX1_layTurned_90 ?_
          refine V_iload (pc := 92) hX rfl dX1_layTurned_92 ?_
          refine Z_ineg (pc := 94) hX dX1_layTurned_94 ?_
          refine V_iload (pc := 95) hX rfl dX1_layTurned_95 ?_
          refine V_iload (pc := 97) hX rfl dX1_layTurned_97 ?_
          refine Z_ineg (pc := 99) hX dX1_layTurned_99 ?_
          refine cVVp4 (pc := 100) hX (c_X0_fill (S := fiC (tuR S way) k) (by omega) (by omega) (by omega) (by omega) g3) (by decide) st_X1_91 (ix_1 _) rfl rfl rfl (Nat.le_of_ble_eq_true rfl) dX1_layTurned_100 (fun D100 h100 => ?_)
          refine V_goto (pc := 103) (off := 15) (tgt := 118) hX (by decide) dX1_layTurned_103 ?_
          refine Z_iinc (pc := 118) hX 1 rfl rfl dX1_layTurned_118 ?_
          refine V_goto (pc := 121) (off := (-115)) (tgt := 6) hX (by decide) dX1_layTurned_121 ?_
          refine V_cut [(0, some (.ref (E.1 (5, 0)))), (1, some (.ref (E.1 (1, z)))), (2, some (.int (oI way))), (3, some (.int (oI ((k + 1 : Nat) : Int))))] ⟨rfl, rfl, rfl, rfl, trivial⟩ ?_
          refine ih (k + 1) _ (by omega) (g2.tr h100.1) ?_ (by omega)
          have h3 := h100.2
          show AC _ z (fillC _ _ _ _ _)
          rw [tuR, if_neg h47_0, if_pos h47_1]
          exact h3
        have h47_0s : ¬ (0 : Int) = way := fun q => h47_0 q.symm
        have h47_1s : ¬ (1 : Int) = way := fun q => h47_1 q.symm
        refine Z_look (pc := 47) (off := 59) (tgt := 106) hX (by omega) dX1_layTurned_47 (by decide) (by simp [Op.lookupswitch.offset, *]) (by decide) ?_
        refine V_aload_n (pc := 106) (j := 1) hX 1 rfl rfl dX1_layTurned_106 ?_
        refine V_iload (pc := 107) hX rfl dX1_layTurned_107 ?_
        refine V_iload (pc := 109) hX rfl dX1_layTurned_109 ?_
        refine V_iload (pc := 111) hX rfl dX1_layTurned_111 ?_
        refine V_iload (pc := 113) hX rfl dX1_layTurned_113 ?_
        refine cVVp4 (pc := 115) hX (c_X0_fill (S := fiC (tuR S way) k) (by omega) (by omega) (by omega) (by omega) g3) (by decide) st_X1_91 (ix_1 _) rfl rfl rfl (Nat.le_of_ble_eq_true rfl) dX1_layTurned_115 (fun D115 h115 => ?_)
        refine Z_iinc (pc := 118) hX 1 rfl rfl dX1_layTurned_118 ?_
        refine V_goto (pc := 121) (off := (-115)) (tgt := 6) hX (by decide) dX1_layTurned_121 ?_
        refine V_cut [(0, some (.ref (E.1 (5, 0)))), (1, some (.ref (E.1 (1, z)))), (2, some (.int (oI way))), (3, some (.int (oI ((k + 1 : Nat) : Int))))] ⟨rfl, rfl, rfl, rfl, trivial⟩ ?_
        refine ih (k + 1) _ (by omega) (g2.tr h115.1) ?_ (by omega)
        have h3 := h115.2
        show AC _ z (fillC _ _ _ _ _)
        rw [tuR, if_neg h47_0, if_neg h47_1]
        exact h3
  refine V_aload_n (pc := 0) (j := 1) hX 1 rfl rfl dX1_layTurned_0 ?_
  refine cVVp0 (pc := 1) hX (c_X0_empty) (by decide) st_X1_88 (ix_1 _) rfl rfl rfl (Nat.le_of_ble_eq_true rfl) dX1_layTurned_1 (fun D1 h1 => ?_)
  refine V_iconst (pc := 4) (z := 0) hX (oI 0) rfl dX1_layTurned_4 ?_
  refine V_istore_n (pc := 5) (j := 3) hX 3 rfl (by decide) rfl dX1_layTurned_5 ?_
  refine V_cut [(0, some (.ref (E.1 (5, 0)))), (1, some (.ref (E.1 (1, z)))), (2, some (.int (oI way))), (3, some (.int (oI ((0 : Nat) : Int))))] ⟨rfl, rfl, rfl, rfl, trivial⟩ ?_
  exact loop (nsC S + 1) 0 _ (by omega) h1.1 h1.2 (by omega)
