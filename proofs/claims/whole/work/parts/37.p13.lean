/-! does -/
theorem rnA_neg : ∀ (l : List Sn) (F : Nat → Cl) (n : Nat), (rnA F n l).1 < 0 → (rnA F n l).1 = -204 ∨ (rnA F n l).1 = -203 := by
  intro l
  induction l with
  | nil => intro F n h; exact absurd h (by show ¬ ((n : Int) < 0); omega)
  | cons s l ih =>
    intro F n h
    rw [rnA] at h ⊢
    by_cases c : (dnS F s.1 s.2.1 s.2.2).1 < 0
    · rw [if_pos c]; exact (dn_neg c).1
    · rw [if_neg c] at h ⊢; exact ih _ _ h
theorem Hr.ck {D D' : Dt} (h : Hr D D') : CK D D' := ⟨fun t ht => h.1 t (by omega) (by omega), h.2.2.1, h.2.2.2⟩
theorem MR.hr {D D' : Dt} {σ : AS} (h : MR D σ) (k : Hr D D') : MR D' σ := by
  obtain ⟨h1, h2, h3, h4⟩ := h
  obtain ⟨k1, k2, -, -⟩ := k
  refine ⟨fun j hj => by rw [k1 22 (by decide) (by decide)]; exact h1 j hj, ⟨by rw [k2 3 (by decide) (by decide) (by decide)]; exact h2.1, h2.2.1, fun j hj => by rw [k1 23 (by decide) (by decide)]; exact h2.2.2 j hj⟩, ⟨by rw [k2 6 (by decide) (by decide) (by decide)]; exact h3.1, h3.2.1, fun j hj => by rw [k1 24 (by decide) (by decide), k1 25 (by decide) (by decide)]; exact h3.2.2 j hj⟩, fun j hj => by rw [k1 27 (by decide) (by decide)]; exact h4 j hj⟩
theorem MR.set {D : Dt} {σ : AS} (h : MR D σ) (F : Nat → Cl) : MR D (F, σ.2) := h
noncomputable def dsR (σ : AS) (q : Int × (Nat → Cl)) : Int × AS := if q.1 < 0 then (q.1, refA σ q.1) else (q.1, (q.2, σ.2))
noncomputable def dsX (σ : AS) : Except Nat (List Sn) → Int × AS
  | .error e => (-300 - (e : Int), σ)
  | .ok L => dsR σ (rnA σ.1 0 L)
noncomputable def doesO (σ : AS) : Int × AS := dsX σ (prsA σ.2.2.1)
theorem Pub_does {D D' : Dt} {σ : AS} {q : Int × (Nat → Cl)} (hM : Mst D σ) (hH : Hr D D') (hq : q.1 < 0 → q.1 = -204 ∨ q.1 = -203) (hF : FA5 D' (if q.1 < 0 then σ.1 else q.2)) : PubP D (dsR σ q) (oI q.1) (rU D' 22 (endS (D'.1 22) q.1)) := by
  by_cases c : q.1 < 0
  · rw [if_pos c] at hF
    rw [dsR, if_pos c, endS, if_pos (hq c)]
    refine ⟨rfl, Mst.ref (σ := σ) ⟨hF, hM.2.hr hH⟩ (by have := hq c; omega), hH.ck.tr (CK_rU _ (by decide) _)⟩
  · rw [if_neg c] at hF
    rw [dsR, if_neg c, endS, if_neg (by omega), rU_self]
    exact ⟨rfl, ⟨hF, (hM.2.hr hH).set q.2⟩, hH.ck⟩
theorem c_X6_does {E : Le} {l : Launch} {D : Dt} {σ : AS} (hM : Mst D σ) : ConIp E l yX6_does cX6_does 3 (some .int) 10 [.ref (E.1 (20, 0))] D (PubP D (doesO σ)) := by
  refine Con_of (by decide) (Nat.le_of_ble_eq_true rfl) ?_
  intro X hX hR hl; subst hl
  have hT : TX D σ.2.2.1 := hM.2.2.1
  have hW : WX D := hM.2.2.2.2
  refine V_aload_n (pc := 0) (j := 0) hX 0 rfl rfl dX6_does_0 ?_
  refine V_iconst (pc := 1) (z := 0) hX (oI 0) rfl dX6_does_1 ?_
  refine V_bI false (by decide) ?_
  refine cVIp1 (pc := 2) hX (c_X6_goes0 (x := σ.2.2.1) hT hW) (by decide) st_X6_231 ix_20 rfl rfl rfl (Nat.le_of_ble_eq_true rfl) dX6_does_2 (fun r2 D2 h2 => ?_)
  obtain ⟨G2, Q2⟩ := h2
  have hF2 : FA5 D2 σ.1 := FA5.gr hM.1 G2
  cases hp : prsA σ.2.2.1 with
  | error e =>
    rw [hp] at Q2
    obtain ⟨rfl, T2⟩ := Q2
    refine V_sipush (pc := 5) (z := (-201)) hX (oI (-201)) (by decide) dX6_does_5 ?_
    refine Z_icmp_ne (pc := 8) (tgt := 20) hX (by omega) (by omega) dX6_does_8 (by decide) (fun h => absurd h (by decide)) (fun _ => ?_)
    refine V_sipush (pc := 11) (z := (-300)) hX (oI (-300)) (by decide) dX6_does_11 ?_
    refine V_aload_n (pc := 14) (j := 0) hX 0 rfl rfl dX6_does_14 ?_
    refine gf_X6_200 (pc := 15) hX dX6_does_15 ?_
    refine V_oI (e : Int) T2 ?_
    refine Z_isub (pc := 18) hX dX6_does_18 ?_
    refine V_iret (pc := 19) hX hR dX6_does_19 ?_
    exact ⟨_, rfl, by rw [doesO, hp]; exact ⟨rfl, ⟨hF2, hM.2.hr G2.hr⟩, G2.hr.ck⟩⟩
  | ok L =>
    rw [hp] at Q2
    obtain ⟨rfl, hLn⟩ := Q2
    refine V_oI (L.length : Int) rfl ?_
    have loop : ∀ (m : Nat) (k : Nat) (D3 : Dt) (t : Nat → Int64), k ≤ 5 → D3 = lU D2 21 0 t → (∀ i, i < 1920 → t i = D2.2.1 21 0 i) → (∀ b, b < k → ∀ j, j < 240 → t (240 * (8 + b) + j) = D2.2.1 21 0 (240 * b + j)) → 5 - k < m → Vw E X 3 D3 22 [(0, some (.ref (E.1 (20, 0)))), (1, some (.int (oI (k : Int))))] [] := by
      intro m
      induction m with
      | zero => intro k D3 t g1 g2 g3 g4 g5; omega
      | succ m ih =>
        intro k D3 t g1 g2 g3 g4 g5
        refine V_iload_n (pc := 22) (j := 1) hX 1 rfl rfl dX6_does_22 ?_
        refine V_iconst (pc := 23) (z := 5) hX (oI 5) rfl dX6_does_23 ?_
        refine Z_icmp_ge (pc := 24) (tgt := 42) hX (by omega) (by omega) dX6_does_24 (by decide) (fun h24 => ?_) (fun h24 => ?_)
        · have e : k = 5 := by omega
          subst e
          subst g2
          have hF3 : FA5 (lU D2 21 0 t) σ.1 := fun b hb => by
            rw [lU_get]
            exact ⟨(hM.1 b hb).1.same (fun j hj => by rw [g3 _ (by omega), G2.2.2]), (hM.1 b hb).2⟩
          refine V_aload_n (pc := 42) (j := 0) hX 0 rfl rfl dX6_does_42 ?_
          refine V_iconst (pc := 43) (z := 1) hX (oI 1) rfl dX6_does_43 ?_
          refine V_bI true (by decide) ?_
          refine cVIp1 (pc := 44) hX (c_X6_goes1 (x := σ.2.2.1) (F0 := σ.1) (L := L) (hT.hr (G2.hr.tr (Fr_lU D2 t).hr)) (hW.hr (G2.hr.tr (Fr_lU D2 t).hr)) hp hF3) (by decide) st_X6_231 ix_20 rfl rfl rfl (Nat.le_of_ble_eq_true rfl) dX6_does_44 (fun r44 D44 h44 => ?_)
          obtain ⟨rfl, R44, H44, A44, K44⟩ := h44
          have H44 : Hr D D44 := (G2.hr.tr (Fr_lU D2 t).hr).tr H44
          have A44 : FA5 D44 (rnA σ.1 0 L).2 := A44
          have K44 : BK (lU D2 21 0 t) D44 := K44
          have hB : ∀ b, b < 5 → ∀ j, j < 240 → D44.2.1 21 0 (240 * (8 + b) + j) = D.2.1 21 0 (240 * b + j) := fun b hb j hj => by
            rw [K44 (8 + b) (by omega) (by omega) j hj, lU_get, g4 b hb j hj, G2.2.2]
          refine V_istore_n (pc := 47) (j := 1) hX 1 rfl (by decide) rfl dX6_does_47 ?_
          refine V_iload_n (pc := 48) (j := 1) hX 1 rfl rfl dX6_does_48 ?_
          refine Z_if_ge (pc := 49) (tgt := 74) hX (by omega) dX6_does_49 (by decide) (fun h49 => ?_) (fun h49 => ?_)
          · refine V_aload_n (pc := 74) (j := 0) hX 0 rfl rfl dX6_does_74 ?_
            refine V_iload_n (pc := 75) (j := 1) hX 1 rfl rfl dX6_does_75 ?_
            refine cVI1 (pc := 76) hX (c_X6_ends (by omega)) (by decide) st_X6_136 ix_20 rfl rfl rfl (Nat.le_of_ble_eq_true rfl) dX6_does_76 ?_
            refine V_iret (pc := 79) hX hR dX6_does_79 ?_
            refine ⟨_, rfl, ?_⟩
            rw [doesO, hp]
            refine Pub_does hM H44 (rnA_neg L σ.1 0) ?_
            rw [if_neg (by omega)]
            exact A44
          · refine V_iconst (pc := 52) (z := 0) hX (oI 0) rfl dX6_does_52 ?_
            refine V_istore_n (pc := 53) (j := 2) hX 2 rfl (by decide) rfl dX6_does_53 ?_
            have back : ∀ (m : Nat) (k : Nat) (D4 : Dt) (t : Nat → Int64), k ≤ 5 → D4 = lU D44 21 0 t → (∀ i, 1920 ≤ i → t i = D44.2.1 21 0 i) → (∀ b, b < k → ∀ j, j < 240 → t (240 * b + j) = D.2.1 21 0 (240 * b + j)) → 5 - k < m → Vw E X 3 D4 54 [(0, some (.ref (E.1 (20, 0)))), (1, some (.int (oI (rnA σ.1 0 L).1))), (2, some (.int (oI (k : Int))))] [] := by
              intro m
              induction m with
              | zero => intro k D4 t b1 b2 b3 b4 b5; omega
              | succ m ih =>
                intro k D4 t b1 b2 b3 b4 b5
                refine V_iload_n (pc := 54) (j := 2) hX 2 rfl rfl dX6_does_54 ?_
                refine V_iconst (pc := 55) (z := 5) hX (oI 5) rfl dX6_does_55 ?_
                refine Z_icmp_ge (pc := 56) (tgt := 74) hX (by omega) (by omega) dX6_does_56 (by decide) (fun h56 => ?_) (fun h56 => ?_)
                · refine V_aload_n (pc := 74) (j := 0) hX 0 rfl rfl dX6_does_74 ?_
                  refine V_iload_n (pc := 75) (j := 1) hX 1 rfl rfl dX6_does_75 ?_
                  refine cVI1 (pc := 76) hX (c_X6_ends (by omega)) (by decide) st_X6_136 ix_20 rfl rfl rfl (Nat.le_of_ble_eq_true rfl) dX6_does_76 ?_
                  refine V_iret (pc := 79) hX hR dX6_does_79 ?_
                  have e : k = 5 := by omega
                  subst e
                  subst b2
                  refine ⟨_, rfl, ?_⟩
                  rw [doesO, hp]
                  refine Pub_does hM (H44.tr (Fr_lU _ t).hr) (rnA_neg L σ.1 0) ?_
                  rw [if_pos (by omega)]
                  intro b hb
                  rw [lU_get]
                  exact ⟨(hM.1 b hb).1.same (fun j hj => b4 b hb j hj), (hM.1 b hb).2⟩
                · refine V_aload_n (pc := 59) (j := 0) hX 0 rfl rfl dX6_does_59 ?_
                  refine V_bipush (pc := 60) (z := 8) hX (oI 8) (by decide) dX6_does_60 ?_
                  refine V_iload_n (pc := 62) (j := 2) hX 2 rfl rfl dX6_does_62 ?_
                  refine Z_iadd (pc := 63) hX dX6_does_63 ?_
                  refine V_oI (((8 + k : Nat)) : Int) (congrArg oI (by omega)) ?_
                  refine V_iload_n (pc := 64) (j := 2) hX 2 rfl rfl dX6_does_64 ?_
                  refine cVV2 (pc := 65) hX (c_X6_copies (a := 8 + k) (b := k) (by omega) (by omega)) (by decide) st_X6_97 ix_20 rfl rfl rfl (Nat.le_of_ble_eq_true rfl) dX6_does_65 ?_
                  refine Z_iinc (pc := 68) hX 1 rfl rfl dX6_does_68 ?_
                  refine V_goto (pc := 71) (off := (-17)) (tgt := 54) hX (by decide) dX6_does_71 ?_
                  subst b2
                  refine V_cut [(0, some (.ref (E.1 (20, 0)))), (1, some (.int (oI (rnA σ.1 0 L).1))), (2, some (.int (oI ((k + 1 : Nat) : Int))))] ⟨rfl, rfl, rfl, trivial⟩ ?_
                  refine ih (k + 1) _ (blk t k (fun i => t (240 * (8 + k) + i)) 240) (by omega) (by rw [lU_get, lU_lU]) (fun i hi => ?_) (fun b hb j hj => ?_) (by omega)
                  · rw [blk_out (by omega)]; exact b3 i hi
                  · by_cases q : b = k
                    · subst q
                      rw [blk_in hj, b3 _ (by omega)]
                      exact hB b (by omega) j hj
                    · rw [blk_out (by omega)]; exact b4 b (by omega) j hj
            refine V_cut [(0, some (.ref (E.1 (20, 0)))), (1, some (.int (oI (rnA σ.1 0 L).1))), (2, some (.int (oI ((0 : Nat) : Int))))] ⟨rfl, rfl, rfl, trivial⟩ ?_
            exact back 6 0 D44 (D44.2.1 21 0) (by omega) (lU_self D44 21 0).symm (fun _ _ => rfl) (fun b hb => absurd hb (Nat.not_lt_zero b)) (by omega)
        · refine V_aload_n (pc := 27) (j := 0) hX 0 rfl rfl dX6_does_27 ?_
          refine V_iload_n (pc := 28) (j := 1) hX 1 rfl rfl dX6_does_28 ?_
          refine V_bipush (pc := 29) (z := 8) hX (oI 8) (by decide) dX6_does_29 ?_
          refine V_iload_n (pc := 31) (j := 1) hX 1 rfl rfl dX6_does_31 ?_
          refine Z_iadd (pc := 32) hX dX6_does_32 ?_
          refine V_oI (((8 + k : Nat)) : Int) (congrArg oI (by omega)) ?_
          refine cVV2 (pc := 33) hX (c_X6_copies (a := k) (b := 8 + k) (by omega) (by omega)) (by decide) st_X6_97 ix_20 rfl rfl rfl (Nat.le_of_ble_eq_true rfl) dX6_does_33 ?_
          refine Z_iinc (pc := 36) hX 1 rfl rfl dX6_does_36 ?_
          refine V_goto (pc := 39) (off := (-17)) (tgt := 22) hX (by decide) dX6_does_39 ?_
          subst g2
          refine V_cut [(0, some (.ref (E.1 (20, 0)))), (1, some (.int (oI ((k + 1 : Nat) : Int))))] ⟨rfl, rfl, trivial⟩ ?_
          refine ih (k + 1) _ (blk t (8 + k) (fun i => t (240 * k + i)) 240) (by omega) (by rw [lU_get, lU_lU]) (fun i hi => ?_) (fun b hb j hj => ?_) (by omega)
          · rw [blk_out (by omega)]; exact g3 i hi
          · by_cases q : b = k
            · subst q
              rw [blk_in hj]
              exact g3 _ (by omega)
            · rw [blk_out (by omega)]; exact g4 b (by omega) j hj
    refine V_sipush (pc := 5) (z := (-201)) hX (oI (-201)) (by decide) dX6_does_5 ?_
    refine Z_icmp_ne (pc := 8) (tgt := 20) hX (by omega) (by omega) dX6_does_8 (by decide) (fun h8 => ?_) (fun h8 => ?_)
    · refine V_iconst (pc := 20) (z := 0) hX (oI 0) rfl dX6_does_20 ?_
      refine V_istore_n (pc := 21) (j := 1) hX 1 rfl (by decide) rfl dX6_does_21 ?_
      refine V_cut [(0, some (.ref (E.1 (20, 0)))), (1, some (.int (oI ((0 : Nat) : Int))))] ⟨rfl, rfl, trivial⟩ ?_
      exact loop 6 0 D2 (D2.2.1 21 0) (by omega) (lU_self D2 21 0).symm (fun _ _ => rfl) (fun b hb => absurd hb (Nat.not_lt_zero b)) (by omega)
    · exfalso; omega
