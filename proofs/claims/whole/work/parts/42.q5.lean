/-! THE FORM: sides of spans out of bits -/
theorem bitL_64 {i m : Nat} (hi : i < 64) (hm : m < 64) : tb (bitL i) m = decide (m = i) := by
  have : ∀ i, i < 64 → ∀ m, m < 64 → tb (bitL i) m = decide (m = i) := by decide +kernel
  exact this i hi m hm
theorem bitL_ct {i : Nat} (hi : i < 64) : bct (bitL i - 1) = i := by
  have : ∀ i, i < 64 → bct (bitL i - 1) = i := by decide +kernel
  exact this i hi
theorem low_bit {v : Int64} {i : Nat} (hi : i < 64) (h1 : tb v i = true) (h0 : ∀ m, m < i → tb v m = false) : v &&& -v = bitL i := by
  apply tb_ext
  intro m hm
  rw [tb_and, bitL_64 hi hm]
  show (v.toBitVec.getLsbD m && (-v).toBitVec.getLsbD m) = _
  rw [Int64.toBitVec_neg, BitVec.getLsbD_neg]
  rcases Nat.lt_trichotomy m i with h | h | h
  · rw [show v.toBitVec.getLsbD m = false from h0 m h, decide_eq_false (by omega : ¬ m = i)]; rfl
  · subst h
    rw [show v.toBitVec.getLsbD m = true from h1, decide_eq_false (p := ∃ j, j < m ∧ v.toBitVec.getLsbD j = true) (fun ⟨j, hj, hb⟩ => by rw [show v.toBitVec.getLsbD j = false from h0 j hj] at hb; cases hb)]
    simp
  · rw [decide_eq_true (p := ∃ j, j < m ∧ v.toBitVec.getLsbD j = true) ⟨i, h, h1⟩, decide_eq_false (by omega : ¬ m = i), decide_eq_true hm]
    cases v.toBitVec.getLsbD m <;> rfl
/-- the next bit from place p on -/
theorem nx_bit {v u : Int64} {p t : Nat} (hp : p ≤ 64) (hc : fb_ct (tb v) p = t) (hu : ∀ i, i < 64 → tb u i = (decide (p ≤ i) && tb v i)) (ht : t < bct v) : ∃ i, (i < 64 ∧ p ≤ i) ∧ tb v i = true ∧ fb_ct (tb v) i = t ∧ u &&& -u = bitL i ∧ (∀ m, p ≤ m → m < i → tb v m = false) ∧ ∀ m, m < 64 → tb (u ^^^ (u &&& -u)) m = (decide (i + 1 ≤ m) && tb v m) := by
  obtain ⟨i, hi, hv, hf⟩ := fb_ct_kth (p := tb v) (n := 64) ht
  have h1 : p ≤ i := by
    by_cases q : p ≤ i
    · exact q
    · have := fb_ct_mono (tb v) (show i + 1 ≤ p by omega)
      rw [fb_ct_succ, hv, if_pos rfl] at this
      omega
  have h2 : ∀ m, p ≤ m → m < i → tb v m = false := by
    intro m q1 q2
    apply Bool.eq_false_iff.mpr
    intro q
    have e1 := fb_ct_mono (tb v) q1
    have e2 := fb_ct_mono (tb v) (show m + 1 ≤ i by omega)
    rw [fb_ct_succ, q, if_pos rfl] at e2
    omega
  have hl : u &&& -u = bitL i := by
    refine low_bit hi (by rw [hu i hi, hv, decide_eq_true h1]; rfl) (fun m hm => ?_)
    rw [hu m (by omega)]
    by_cases q : p ≤ m
    · rw [h2 m q hm, Bool.and_false]
    · rw [decide_eq_false q]; rfl
  refine ⟨i, ⟨hi, h1⟩, hv, hf, hl, h2, fun m hm => ?_⟩
  rw [tb_xor, hl, bitL_64 hi hm, hu m hm]
  rcases Nat.lt_trichotomy m i with h | h | h
  · rw [decide_eq_false (by omega : ¬ i + 1 ≤ m), decide_eq_false (by omega : ¬ m = i)]
    by_cases q : p ≤ m
    · rw [h2 m q h, Bool.and_false]; rfl
    · rw [decide_eq_false q]; rfl
  · subst h
    rw [hv, decide_eq_true h1, decide_eq_true rfl, decide_eq_false (by omega)]; rfl
  · rw [decide_eq_true (by omega : p ≤ m), decide_eq_true (by omega : i + 1 ≤ m), decide_eq_false (by omega : ¬ m = i)]
    cases tb v m <;> rfl
def SdQ (D : Dt) (v : Int64) (x : Int) (f : Nat) (r : Int32) (D' : Dt) : Prop := r = oI ((f + bct v : Nat) : Int) ∧ ∃ g, D' = rU D 10 g ∧ (∀ s, (s < f ∨ f + bct v ≤ s) → g s = D.1 10 s) ∧ ∀ i, i < 64 → tb v i = true → g (f + fb_ct (tb v) i) = oI (x + i)
theorem c_X1_addSides {E : Le} {l : Launch} {D : Dt} {v : Int64} {x : Int} {f : Nat} (hx : -1000 ≤ x ∧ x ≤ 1000) (hf : f + bct v ≤ 600) : ConIp E l yX1_addSides cX1_addSides 11 (some .int) 2 [.ref (E.1 (5, 0)), .long v, .int (oI x), .int (oI (f : Int))] D (SdQ D v x f) := by
  refine Con_of (by decide) (Nat.le_of_ble_eq_true rfl) ?_
  intro X hX hR hl; subst hl
  have loop : ∀ (m : Nat) (t p : Nat) (u : Int64) (g : Nat → Int32), p ≤ 64 ∧ fb_ct (tb v) p = t ∧ t ≤ bct v → (∀ i, i < 64 → tb u i = (decide (p ≤ i) && tb v i)) → (∀ s, (s < f ∨ f + bct v ≤ s) → g s = D.1 10 s) → (∀ i, i < p → tb v i = true → g (f + fb_ct (tb v) i) = oI (x + i)) → bct v - t < m → Vw E X 11 (rU D 10 g) 24 [(0, some (.ref (E.1 (5, 0)))), (3, some (.int (oI x))), (5, some (.int (oI ((f + bct v : Nat) : Int)))), (6, some (.long u)), (8, some (.int (oI ((f + t : Nat) : Int))))] [] := by
    intro m
    induction m with
    | zero => intro t p u g g1 g2 g3 g4 g5; omega
    | succ m ih =>
      intro t p u g g1 g2 g3 g4 g5
      refine V_iload (pc := 24) hX rfl dX1_addSides_24 ?_
      refine V_iload (pc := 26) hX rfl dX1_addSides_26 ?_
      refine Z_icmp_ge (pc := 28) (tgt := 68) hX (by omega) (by omega) dX1_addSides_28 (by decide) (fun h28 => ?_) (fun h28 => ?_)
      · refine V_iload (pc := 68) hX rfl dX1_addSides_68 ?_
        refine V_iret (pc := 70) hX hR dX1_addSides_70 ?_
        refine ⟨_, rfl, rfl, g, rfl, g3, fun i hi hv => g4 i ?_ hv⟩
        have e : bct v = fb_ct (tb v) 64 := rfl
        by_cases q : i < p
        · exact q
        · have q2 := fb_ct_mono (tb v) (show p ≤ i by omega)
          have q3 := fb_ct_mono (tb v) (show i + 1 ≤ 64 by omega)
          rw [fb_ct_succ, hv, if_pos rfl] at q3
          omega
      · obtain ⟨i, e1, e2, e3, e4, e5, e6⟩ := nx_bit g1.1 g1.2.1 g2 (by omega)
        have hbl := bct_le (u &&& -u - 1)
        refine V_lload (pc := 31) hX rfl dX1_addSides_31 ?_
        refine V_lload (pc := 33) hX rfl dX1_addSides_33 ?_
        refine V_lneg (pc := 35) hX dX1_addSides_35 ?_
        refine V_land (pc := 36) hX dX1_addSides_36 ?_
        refine V_lstore (pc := 37) hX (by decide) rfl dX1_addSides_37 ?_
        refine V_aload_n (pc := 39) (j := 0) hX 0 rfl rfl dX1_addSides_39 ?_
        refine gf_X1_24 (pc := 40) hX dX1_addSides_40 ?_
        refine V_iload (pc := 43) hX rfl dX1_addSides_43 ?_
        refine V_iload_n (pc := 45) (j := 3) hX 3 rfl rfl dX1_addSides_45 ?_
        refine V_lload (pc := 46) hX rfl dX1_addSides_46 ?_
        refine V_lconst (pc := 48) (z := 1) hX 1 (by decide) dX1_addSides_48 ?_
        refine V_lsub (pc := 49) hX dX1_addSides_49 ?_
        refine cSI1 (pc := 50) hX (c_J13_bitCount_95d88) (by decide) st_X1_58 (Nat.le_of_ble_eq_true rfl) dX1_addSides_50 ?_
        refine Z_iadd (pc := 53) hX dX1_addSides_53 ?_
        refine zs_10 (pc := 54) hX (f + t) (by omega) (by omega) dX1_addSides_54 ?_
        refine V_lload (pc := 55) hX rfl dX1_addSides_55 ?_
        refine V_lload (pc := 57) hX rfl dX1_addSides_57 ?_
        refine V_lxor (pc := 59) hX dX1_addSides_59 ?_
        refine V_lstore (pc := 60) hX (by decide) rfl dX1_addSides_60 ?_
        refine Z_iinc (pc := 62) hX 1 rfl rfl dX1_addSides_62 ?_
        refine V_goto (pc := 65) (off := (-41)) (tgt := 24) hX (by decide) dX1_addSides_65 ?_
        rw [rU_rU, rU_get]
        refine V_cut [(0, some (.ref (E.1 (5, 0)))), (3, some (.int (oI x))), (5, some (.int (oI ((f + bct v : Nat) : Int)))), (6, some (.long (u ^^^ (u &&& -u)))), (8, some (.int (oI ((f + (t + 1) : Nat) : Int))))] ⟨rfl, rfl, rfl, rfl, congrArg (fun q => some (Value.int (oI q))) (by omega), trivial⟩ ?_
        refine ih (t + 1) (i + 1) _ _ ⟨by omega, by rw [fb_ct_succ, e3, e2]; rfl, by omega⟩ e6 (fun s hs => ?_) (fun m hm hv => ?_) (by omega)
        · rw [upd_at, if_neg (by omega)]; exact g3 s hs
        · rw [upd_at]
          by_cases q : m = i
          · rw [q, e3, if_pos rfl, e4, bitL_ct e1.1]
          · have hmp : m < p := by
              by_cases q2 : m < p
              · exact q2
              · rw [e5 m (by omega) (by omega)] at hv; cases hv
            have hlt : fb_ct (tb v) m < t := by
              have := fb_ct_mono (tb v) (show m + 1 ≤ p by omega)
              rw [fb_ct_succ, hv, if_pos rfl] at this
              omega
            rw [if_neg (by omega)]; exact g4 m hmp hv
  refine V_iload (pc := 0) hX rfl dX1_addSides_0 ?_
  refine V_lload_n (pc := 2) (j := 1) hX 1 rfl rfl dX1_addSides_2 ?_
  refine cSI1 (pc := 3) hX (c_J13_bitCount_95d88) (by decide) st_X1_58 (Nat.le_of_ble_eq_true rfl) dX1_addSides_3 ?_
  have hbl := bct_le v
  refine Z_iadd (pc := 6) hX dX1_addSides_6 ?_
  refine V_aload_n (pc := 7) (j := 0) hX 0 rfl rfl dX1_addSides_7 ?_
  refine gf_X1_24 (pc := 8) hX dX1_addSides_8 ?_
  refine an_10 (pc := 11) hX dX1_addSides_11 ?_
  refine V_oI 600 (by decide) ?_
  refine Z_mmin (pc := 12) hX (by omega) (by omega) (by decide) wm_X1_68 (Nat.le_of_ble_eq_true rfl) dX1_addSides_12 ?_
  refine V_istore (pc := 15) hX (by decide) rfl dX1_addSides_15 ?_
  refine V_lload_n (pc := 17) (j := 1) hX 1 rfl rfl dX1_addSides_17 ?_
  refine V_lstore (pc := 18) hX (by decide) rfl dX1_addSides_18 ?_
  refine V_iload (pc := 20) hX rfl dX1_addSides_20 ?_
  refine V_istore (pc := 22) hX (by decide) rfl dX1_addSides_22 ?_
  refine V_cut [(0, some (.ref (E.1 (5, 0)))), (3, some (.int (oI x))), (5, some (.int (oI ((f + bct v : Nat) : Int)))), (6, some (.long v)), (8, some (.int (oI ((f + 0 : Nat) : Int))))] ⟨rfl, rfl, congrArg (fun q => some (Value.int (oI q))) (by omega), rfl, congrArg (fun q => some (Value.int (oI q))) (by omega), trivial⟩ ?_
  have hL := loop (bct v + 1) 0 0 v (D.1 10) ⟨by omega, rfl, by omega⟩ (fun i hi => by rw [decide_eq_true (Nat.zero_le i), Bool.true_and]) (fun _ _ => rfl) (fun i hi => absurd hi (Nat.not_lt_zero i)) (by omega)
  rw [rU_self] at hL
  exact hL
