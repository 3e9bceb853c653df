/-! words -/
def WX (D : Dt) : Prop := ∀ k, k < 54 → D.1 27 k = oI (wdM k)
theorem WX.gr {D D' : Dt} (h : WX D) (k : Gr D D') : WX D' := fun j hj => by rw [k.1 27 (by decide) (by decide)]; exact h j hj
theorem wdM_rg : ∀ k, k < 54 → 0 ≤ wdM k ∧ wdM k < 128 := by decide +kernel
def iwA (x : Tx) (k fr : Nat) : Nat → Bool
  | 0 => true
  | j + 1 => iwA x k fr j && decide (byt x (k + j) = wdM (fr + j))
def iwB (x : Tx) (k fr len : Nat) : Bool := iwA x k fr len && !inB (byt x (k + len)) 97 122
theorem iwA_s (x : Tx) (k fr j : Nat) : iwA x k fr (j + 1) = (iwA x k fr j && decide (byt x (k + j) = wdM (fr + j))) := rfl
def wf (w : Nat) : Nat := ([0, 3, 7, 12, 15, 19, 23, 27, 32, 37, 44, 49, 54] : List Nat).getD w 0
def wl (w : Nat) : Nat := ([2, 3, 4, 2, 3, 3, 3, 4, 4, 6, 4, 4] : List Nat).getD w 0
theorem wT : ∀ w, w < 12 → (wf (w + 1) = wf w + wl w + 1 ∧ wdM (wf w + wl w) = 32 ∧ wf w + wl w < 54 ∧ 2 ≤ wl w) ∧ ∀ j, j < wl w → wdM (wf w + j) ≠ 32 := by decide +kernel
def wsF (x : Tx) (k : Nat) : Nat → Nat → Int × Nat
  | 0, _ => (-1, k)
  | m + 1, w => if iwB x k (wf w) (wl w) then ((w : Int), k + wl w) else wsF x k m (w + 1)
/-- the word that begins at k (from 0 on; -1: none), and where it goes on -/
def wdR (x : Tx) (k : Nat) : Int × Nat := wsF x k 12 0
theorem c_X6_isWord {E : Le} {l : Launch} {D : Dt} {x : Tx} {k fr len : Nat} (hT : TX D x) (hW : WX D) (hk : k ≤ 120) (hl : fr + len ≤ 54) (h7 : D.1 20 7 = oI (k : Int)) : ConI E l yX6_isWord cX6_isWord 5 (some .boolean) 2 [.ref (E.1 (20, 0)), .int (oI (fr : Int)), .int (oI (len : Int))] D (bI (iwB x k fr len)) D := by
  refine Con_of (by decide) (Nat.le_of_ble_eq_true rfl) ?_
  intro X hX hR hl; subst hl
  have loop : ∀ (m : Nat) (j : Nat) (w : Bool), j ≤ len → w = iwA x k fr j → len - j < m → Vw E X 5 D 5 [(0, some (.ref (E.1 (20, 0)))), (1, some (.int (oI (fr : Int)))), (2, some (.int (oI (len : Int)))), (3, some (.int (bI w))), (4, some (.int (oI (j : Int))))] [] := by
    intro m
    induction m with
    | zero => intro j w g1 g2 g3; omega
    | succ m ih =>
      intro j w g1 g2 g3
      refine V_iload (pc := 5) hX rfl dX6_isWord_5 ?_
      refine V_iload_n (pc := 7) (j := 2) hX 2 rfl rfl dX6_isWord_7 ?_
      refine Z_icmp_ge (pc := 8) (tgt := 50) hX (by omega) (by omega) dX6_isWord_8 (by decide) (fun h8 => ?_) (fun h8 => ?_)
      · have e : len = j := by omega
        subst e
        refine V_iload_n (pc := 50) (j := 3) hX 3 rfl rfl dX6_isWord_50 ?_
        refine B_if_eq (pc := 51) (tgt := 78) hX dX6_isWord_51 (by decide) (fun h51 => ?_) (fun h51 => ?_)
        · refine V_iconst (pc := 78) (z := 0) hX (oI 0) rfl dX6_isWord_78 ?_
          refine V_zret (pc := 79) hX hR (by decide) dX6_isWord_79 ?_
          exact ⟨some_int (by rw [iwB, ← g2, h51, Bool.false_and]; decide), rfl⟩
        · refine V_aload_n (pc := 54) (j := 0) hX 0 rfl rfl dX6_isWord_54 ?_
          refine V_aload_n (pc := 55) (j := 0) hX 0 rfl rfl dX6_isWord_55 ?_
          refine gf_X6_200 (pc := 56) hX dX6_isWord_56 ?_
          refine V_oI (k : Int) h7 ?_
          refine V_iload_n (pc := 59) (j := 2) hX 2 rfl rfl dX6_isWord_59 ?_
          refine Z_iadd (pc := 60) hX dX6_isWord_60 ?_
          refine V_oI (((k + len : Nat)) : Int) (congrArg oI (by omega)) ?_
          refine cVI1 (pc := 61) hX (c_X6_byteAt (x := x) (k := k + len) hT (by omega)) (by decide) st_X6_203 ix_20 rfl rfl rfl (Nat.le_of_ble_eq_true rfl) dX6_isWord_61 ?_
          have hb := hT.rg (k + len)
          refine V_bipush (pc := 64) (z := 97) hX (oI 97) (by decide) dX6_isWord_64 ?_
          refine V_bipush (pc := 66) (z := 122) hX (oI 122) (by decide) dX6_isWord_66 ?_
          refine cSI3 (pc := 68) hX (c_X6_in (by omega) (by omega) (by omega)) (by decide) st_X6_33 (Nat.le_of_ble_eq_true rfl) dX6_isWord_68 ?_
          refine B_if_ne (pc := 71) (tgt := 78) hX dX6_isWord_71 (by decide) (fun h71 => ?_) (fun h71 => ?_)
          · refine V_iconst (pc := 78) (z := 0) hX (oI 0) rfl dX6_isWord_78 ?_
            refine V_zret (pc := 79) hX hR (by decide) dX6_isWord_79 ?_
            exact ⟨some_int (by rw [iwB, ← g2, h51, h71]; decide), rfl⟩
          · refine V_iconst (pc := 74) (z := 1) hX (oI 1) rfl dX6_isWord_74 ?_
            refine V_goto (pc := 75) (off := 4) (tgt := 79) hX (by decide) dX6_isWord_75 ?_
            refine V_zret (pc := 79) hX hR (by decide) dX6_isWord_79 ?_
            exact ⟨some_int (by rw [iwB, ← g2, h51, h71]; decide), rfl⟩
      · refine V_iload_n (pc := 11) (j := 3) hX 3 rfl rfl dX6_isWord_11 ?_
        refine B_if_eq (pc := 12) (tgt := 42) hX dX6_isWord_12 (by decide) (fun h12 => ?_) (fun h12 => ?_)
        · refine V_iconst (pc := 42) (z := 0) hX (oI 0) rfl dX6_isWord_42 ?_
          refine V_istore_n (pc := 43) (j := 3) hX 3 rfl (by decide) rfl dX6_isWord_43 ?_
          refine Z_iinc (pc := 44) hX 1 rfl rfl dX6_isWord_44 ?_
          refine V_goto (pc := 47) (off := (-42)) (tgt := 5) hX (by decide) dX6_isWord_47 ?_
          refine V_cut [(0, some (.ref (E.1 (20, 0)))), (1, some (.int (oI (fr : Int)))), (2, some (.int (oI (len : Int)))), (3, some (.int (bI false))), (4, some (.int (oI ((j + 1 : Nat) : Int))))] ⟨rfl, rfl, rfl, congrArg (fun q => some (Value.int q)) (by first | rfl | decide), rfl, trivial⟩ ?_
          exact ih (j + 1) false (by omega) (Eq.symm (by rw [iwA_s, ← g2, h12]; rfl)) (by omega)
        · refine V_aload_n (pc := 15) (j := 0) hX 0 rfl rfl dX6_isWord_15 ?_
          refine V_aload_n (pc := 16) (j := 0) hX 0 rfl rfl dX6_isWord_16 ?_
          refine gf_X6_200 (pc := 17) hX dX6_isWord_17 ?_
          refine V_oI (k : Int) h7 ?_
          refine V_iload (pc := 20) hX rfl dX6_isWord_20 ?_
          refine Z_iadd (pc := 22) hX dX6_isWord_22 ?_
          refine V_oI (((k + j : Nat)) : Int) (congrArg oI (by omega)) ?_
          refine cVI1 (pc := 23) hX (c_X6_byteAt (x := x) (k := k + j) hT (by omega)) (by decide) st_X6_203 ix_20 rfl rfl rfl (Nat.le_of_ble_eq_true rfl) dX6_isWord_23 ?_
          have hb := hT.rg (k + j)
          refine V_aload_n (pc := 26) (j := 0) hX 0 rfl rfl dX6_isWord_26 ?_
          refine gf_X6_29 (pc := 27) hX dX6_isWord_27 ?_
          refine V_iload_n (pc := 30) (j := 1) hX 1 rfl rfl dX6_isWord_30 ?_
          refine V_iload (pc := 31) hX rfl dX6_isWord_31 ?_
          refine Z_iadd (pc := 33) hX dX6_isWord_33 ?_
          refine zl_27 (pc := 34) hX (fr + j) (by omega) (by omega) dX6_isWord_34 ?_
          refine V_oI (wdM (fr + j)) (hW _ (by omega)) ?_
          have hwr := wdM_rg (fr + j) (by omega)
          refine Z_icmp_ne (pc := 35) (tgt := 42) hX (by omega) (by omega) dX6_isWord_35 (by decide) (fun h35 => ?_) (fun h35 => ?_)
          · refine V_iconst (pc := 42) (z := 0) hX (oI 0) rfl dX6_isWord_42 ?_
            refine V_istore_n (pc := 43) (j := 3) hX 3 rfl (by decide) rfl dX6_isWord_43 ?_
            refine Z_iinc (pc := 44) hX 1 rfl rfl dX6_isWord_44 ?_
            refine V_goto (pc := 47) (off := (-42)) (tgt := 5) hX (by decide) dX6_isWord_47 ?_
            refine V_cut [(0, some (.ref (E.1 (20, 0)))), (1, some (.int (oI (fr : Int)))), (2, some (.int (oI (len : Int)))), (3, some (.int (bI false))), (4, some (.int (oI ((j + 1 : Nat) : Int))))] ⟨rfl, rfl, rfl, congrArg (fun q => some (Value.int q)) (by first | rfl | decide), rfl, trivial⟩ ?_
            exact ih (j + 1) false (by omega) (Eq.symm (by rw [iwA_s, decide_eq_false h35, Bool.and_false])) (by omega)
          · refine V_iconst (pc := 38) (z := 1) hX (oI 1) rfl dX6_isWord_38 ?_
            refine V_goto (pc := 39) (off := 4) (tgt := 43) hX (by decide) dX6_isWord_39 ?_
            refine V_istore_n (pc := 43) (j := 3) hX 3 rfl (by decide) rfl dX6_isWord_43 ?_
            refine Z_iinc (pc := 44) hX 1 rfl rfl dX6_isWord_44 ?_
            refine V_goto (pc := 47) (off := (-42)) (tgt := 5) hX (by decide) dX6_isWord_47 ?_
            refine V_cut [(0, some (.ref (E.1 (20, 0)))), (1, some (.int (oI (fr : Int)))), (2, some (.int (oI (len : Int)))), (3, some (.int (bI true))), (4, some (.int (oI ((j + 1 : Nat) : Int))))] ⟨rfl, rfl, rfl, congrArg (fun q => some (Value.int q)) (by first | rfl | decide), rfl, trivial⟩ ?_
            exact ih (j + 1) true (by omega) (Eq.symm (by rw [iwA_s, ← g2, h12, decide_eq_true h35]; rfl)) (by omega)
  refine V_iconst (pc := 0) (z := 1) hX (oI 1) rfl dX6_isWord_0 ?_
  refine V_istore_n (pc := 1) (j := 3) hX 3 rfl (by decide) rfl dX6_isWord_1 ?_
  refine V_iconst (pc := 2) (z := 0) hX (oI 0) rfl dX6_isWord_2 ?_
  refine V_istore (pc := 3) hX (by decide) rfl dX6_isWord_3 ?_
  refine V_cut [(0, some (.ref (E.1 (20, 0)))), (1, some (.int (oI (fr : Int)))), (2, some (.int (oI (len : Int)))), (3, some (.int (bI true))), (4, some (.int (oI ((0 : Nat) : Int))))] ⟨rfl, rfl, rfl, congrArg (fun q => some (Value.int q)) (by first | rfl | decide), rfl, trivial⟩ ?_
  exact loop (len + 1) 0 true (by omega) rfl (by omega)
def WordP (x : Tx) (D : Dt) (k0 : Nat) (r : Int32) (D' : Dt) : Prop := Gr D D' ∧ D'.1 20 18 = D.1 20 18 ∧ D'.1 26 = D.1 26 ∧ r = oI (wdR x (skp x k0)).1 ∧ D'.1 20 7 = oI ((wdR x (skp x k0)).2 : Int)
theorem wordP_mk {x : Tx} {D : Dt} {k0 k2 : Nat} {w : Int} {r : Int32} (h : wdR x (skp x k0) = (w, k2)) (hr : r = oI w) : WordP x D k0 r (atU D k2) := by
  refine ⟨atU_gr D k2, rfl, rfl, by rw [h, hr], by rw [h]; rfl⟩
theorem c_X6_word {E : Le} {l : Launch} {D : Dt} {x : Tx} {k0 : Nat} (hT : TX D x) (hW : WX D) (h_k : k0 ≤ x.1) (h7 : D.1 20 7 = oI (k0 : Int)) : ConIp E l yX6_word cX6_word 4 (some .int) 3 [.ref (E.1 (20, 0))] D (WordP x D k0) := by
  refine Con_of (by decide) (Nat.le_of_ble_eq_true rfl) ?_
  intro X hX hR hl; subst hl
  have h12 := hT.2.1
  have hsk := skp_le h_k
  have hT1 := hT.gr (atU_gr D (skp x k0))
  have hW1 := hW.gr (atU_gr D (skp x k0))
  have outer : ∀ (m w : Nat), w ≤ 12 → wsF x (skp x k0) (12 - w) w = wdR x (skp x k0) → 12 - w < m → Vw E X 4 (atU D (skp x k0)) 8 [(0, some (.ref (E.1 (20, 0)))), (1, some (.int (oI (w : Int)))), (2, some (.int (oI ((wf w : Nat) : Int))))] [] := by
    intro m
    induction m with
    | zero => intro w g1 g2 g4; omega
    | succ m ihO =>
      intro w g1 g2 g4
      have inner : w < 12 → ∀ (m j : Nat), j ≤ wl w → wl w - j < m → Vw E X 4 (atU D (skp x k0)) 19 [(0, some (.ref (E.1 (20, 0)))), (1, some (.int (oI (w : Int)))), (2, some (.int (oI ((wf w : Nat) : Int)))), (3, some (.int (oI (j : Int))))] [] := by
        intro hv m
        obtain ⟨hw1, hw2⟩ := wT w hv
        induction m with
        | zero => intro j g5 g6; omega
        | succ m ih =>
          intro j g5 g6
          refine V_aload_n (pc := 19) (j := 0) hX 0 rfl rfl dX6_word_19 ?_
          refine gf_X6_29 (pc := 20) hX dX6_word_20 ?_
          refine V_iload_n (pc := 23) (j := 2) hX 2 rfl rfl dX6_word_23 ?_
          refine V_iload_n (pc := 24) (j := 3) hX 3 rfl rfl dX6_word_24 ?_
          refine Z_iadd (pc := 25) hX dX6_word_25 ?_
          refine zl_27 (pc := 26) hX (wf w + j) (by omega) (by omega) dX6_word_26 ?_
          refine V_oI (wdM (wf w + j)) (hW1 _ (by omega)) ?_
          have hwr := wdM_rg (wf w + j) (by omega)
          refine V_bipush (pc := 27) (z := 32) hX (oI 32) (by decide) dX6_word_27 ?_
          refine Z_icmp_eq (pc := 29) (tgt := 38) hX (by omega) (by omega) dX6_word_29 (by decide) (fun h29 => ?_) (fun h29 => ?_)
          · have e : j = wl w := by
              rcases Nat.lt_or_ge j (wl w) with q | q
              · exact absurd h29 (hw2 j q)
              · omega
            subst e
            refine V_aload_n (pc := 38) (j := 0) hX 0 rfl rfl dX6_word_38 ?_
            refine V_iload_n (pc := 39) (j := 2) hX 2 rfl rfl dX6_word_39 ?_
            refine V_iload_n (pc := 40) (j := 3) hX 3 rfl rfl dX6_word_40 ?_
            refine cVI2 (pc := 41) hX (c_X6_isWord (x := x) (k := skp x k0) (fr := wf w) (len := wl w) hT1 hW1 (by omega) (by omega) (atU_at D _)) (by decide) st_X6_212 ix_20 rfl rfl rfl (Nat.le_of_ble_eq_true rfl) dX6_word_41 ?_
            refine B_if_eq (pc := 44) (tgt := 59) hX dX6_word_44 (by decide) (fun h44 => ?_) (fun h44 => ?_)
            · refine Z_iinc (pc := 59) hX 1 rfl rfl dX6_word_59 ?_
              refine V_iload_n (pc := 62) (j := 2) hX 2 rfl rfl dX6_word_62 ?_
              refine V_iload_n (pc := 63) (j := 3) hX 3 rfl rfl dX6_word_63 ?_
              refine V_iconst (pc := 64) (z := 1) hX (oI 1) rfl dX6_word_64 ?_
              refine Z_iadd (pc := 65) hX dX6_word_65 ?_
              refine Z_iadd (pc := 66) hX dX6_word_66 ?_
              refine V_istore_n (pc := 67) (j := 2) hX 2 rfl (by decide) rfl dX6_word_67 ?_
              refine V_goto (pc := 68) (off := (-60)) (tgt := 8) hX (by decide) dX6_word_68 ?_
              refine V_cut [(0, some (.ref (E.1 (20, 0)))), (1, some (.int (oI ((w + 1 : Nat) : Int)))), (2, some (.int (oI ((wf (w + 1) : Nat) : Int))))] ⟨rfl, rfl, congrArg (fun q => some (Value.int (oI q))) (by rw [hw1.1]; omega), trivial⟩ ?_
              exact ihO (w + 1) (by omega) (by rw [← g2, show 12 - w = (12 - (w + 1)) + 1 by omega, wsF, h44]; rfl) (by omega)
            · refine V_aload_n (pc := 47) (j := 0) hX 0 rfl rfl dX6_word_47 ?_
              refine V_dup (pc := 48) hX rfl dX6_word_48 ?_
              refine gf_X6_200 (pc := 49) hX dX6_word_49 ?_
              refine V_oI (((skp x k0 : Nat)) : Int) (atU_at D _) ?_
              refine V_iload_n (pc := 52) (j := 3) hX 3 rfl rfl dX6_word_52 ?_
              refine Z_iadd (pc := 53) hX dX6_word_53 ?_
              refine V_oI (((skp x k0 + wl w : Nat)) : Int) (congrArg oI (by omega)) ?_
              refine pf_X6_200 (pc := 54) hX dX6_word_54 ?_
              refine V_iload_n (pc := 57) (j := 1) hX 1 rfl rfl dX6_word_57 ?_
              refine V_iret (pc := 58) hX hR dX6_word_58 ?_
              have e2 : wdR x (skp x k0) = ((w : Int), skp x k0 + wl w) := by rw [← g2, show 12 - w = (12 - (w + 1)) + 1 by omega, wsF, h44]; rfl
              exact ⟨_, rfl, by rw [atU_up D (skp x k0) (skp x k0 + wl w)]; exact wordP_mk e2 rfl⟩
          · have hj : j < wl w := by
              rcases Nat.lt_or_ge j (wl w) with q | q
              · exact q
              · exact absurd (by rw [show j = wl w by omega]; exact hw1.2.1) h29
            refine Z_iinc (pc := 32) hX 1 rfl rfl dX6_word_32 ?_
            refine V_goto (pc := 35) (off := (-16)) (tgt := 19) hX (by decide) dX6_word_35 ?_
            refine V_cut [(0, some (.ref (E.1 (20, 0)))), (1, some (.int (oI (w : Int)))), (2, some (.int (oI ((wf w : Nat) : Int)))), (3, some (.int (oI ((j + 1 : Nat) : Int))))] ⟨rfl, rfl, rfl, rfl, trivial⟩ ?_
            exact ih (j + 1) (by omega) (by omega)
      have hwf : wf w ≤ 54 := by
        rcases Nat.lt_or_ge w 12 with q | q
        · have := wT w q; omega
        · rw [show w = 12 by omega]; decide
      refine V_iload_n (pc := 8) (j := 2) hX 2 rfl rfl dX6_word_8 ?_
      refine V_aload_n (pc := 9) (j := 0) hX 0 rfl rfl dX6_word_9 ?_
      refine gf_X6_29 (pc := 10) hX dX6_word_10 ?_
      refine an_27 (pc := 13) hX dX6_word_13 ?_
      refine V_oI 54 (by decide) ?_
      refine Z_icmp_ge (pc := 14) (tgt := 71) hX (by omega) (by omega) dX6_word_14 (by decide) (fun h14 => ?_) (fun h14 => ?_)
      · refine V_iconst (pc := 71) (z := (-1)) hX (oI (-1)) rfl dX6_word_71 ?_
        refine V_iret (pc := 72) hX hR dX6_word_72 ?_
        have e : w = 12 := by
          rcases Nat.lt_or_ge w 12 with q | q
          · have := wT w q; omega
          · omega
        subst e
        have e2 : wdR x (skp x k0) = (-1, skp x k0) := by rw [← g2]; rfl
        exact ⟨_, rfl, wordP_mk e2 rfl⟩
      · refine V_iconst (pc := 17) (z := 0) hX (oI 0) rfl dX6_word_17 ?_
        refine V_istore_n (pc := 18) (j := 3) hX 3 rfl (by decide) rfl dX6_word_18 ?_
        have hv : w < 12 := by
          rcases Nat.lt_or_ge w 12 with q | q
          · exact q
          · rw [show w = 12 by omega] at h14; exact absurd (by decide) h14
        refine V_cut [(0, some (.ref (E.1 (20, 0)))), (1, some (.int (oI (w : Int)))), (2, some (.int (oI ((wf w : Nat) : Int)))), (3, some (.int (oI ((0 : Nat) : Int))))] ⟨rfl, rfl, rfl, rfl, trivial⟩ ?_
        exact inner hv (wl w + 1) 0 (by omega) (by omega)
  refine V_aload_n (pc := 0) (j := 0) hX 0 rfl rfl dX6_word_0 ?_
  refine cVV0 (pc := 1) hX (c_X6_skips (x := x) (k0 := k0) hT h_k h7) (by decide) st_X6_206 ix_20 rfl rfl rfl (Nat.le_of_ble_eq_true rfl) dX6_word_1 ?_
  refine V_iconst (pc := 4) (z := 0) hX (oI 0) rfl dX6_word_4 ?_
  refine V_istore_n (pc := 5) (j := 1) hX 1 rfl (by decide) rfl dX6_word_5 ?_
  refine V_iconst (pc := 6) (z := 0) hX (oI 0) rfl dX6_word_6 ?_
  refine V_istore_n (pc := 7) (j := 2) hX 2 rfl (by decide) rfl dX6_word_7 ?_
  refine V_cut [(0, some (.ref (E.1 (20, 0)))), (1, some (.int (oI ((0 : Nat) : Int)))), (2, some (.int (oI ((wf 0 : Nat) : Int))))] ⟨rfl, rfl, rfl, trivial⟩ ?_
  exact outer 13 0 (by omega) rfl (by omega)
