/-- the bands from row y on: as many rows as are the same; empty ones are left out -/
def bdX (sm : Int → Int → Bool) (em : Int → Bool) (y : Int) : List (Int × Int) :=
  if _h : y ≤ 59 then (if em y = true then bdX sm em (rnX (sm y) (y + 1)) else (y, rnX (sm y) (y + 1)) :: bdX sm em (rnX (sm y) (y + 1))) else []
termination_by (60 - y).toNat
decreasing_by all_goals (have := rnX_ge (sm y) _ (y + 1) (Nat.le_refl _); omega)
theorem bdX_0 {sm : Int → Int → Bool} {em : Int → Bool} {y : Int} (h : 59 < y) : bdX sm em y = [] := by rw [bdX, dif_neg (by omega)]
theorem bdX_t {sm : Int → Int → Bool} {em : Int → Bool} {y : Int} (h : y ≤ 59) (h2 : em y = true) : bdX sm em y = bdX sm em (rnX (sm y) (y + 1)) := by rw [bdX, dif_pos h, if_pos h2]
theorem bdX_f {sm : Int → Int → Bool} {em : Int → Bool} {y : Int} (h : y ≤ 59) (h2 : em y = false) : bdX sm em y = (y, rnX (sm y) (y + 1)) :: bdX sm em (rnX (sm y) (y + 1)) := by rw [bdX, dif_pos h, if_neg (by rw [h2]; decide)]
/-- all bands are written -/
def fmS (I : Nat → Int32) (wh : Int) (rp : Int → Int → Bool) (φ : Ph) (L : List (Int × Int)) : Ph := L.foldl (fun φ q => bandS I wh q.1 q.2 φ (spX (rp q.1) (-60))) φ
def smM (s : Nat → Int64) (a : Nat) (y z : Int) : Bool := sameM s a (y + 60).toNat (z + 60).toNat
def emM (s : Nat → Int64) (a : Nat) (y : Int) : Bool := emptyM s a (y + 60).toNat
def rpM (s : Nat → Int64) (a : Nat) (y x : Int) : Bool := hasM s a x y
def bandsM (s : Nat → Int64) (a : Nat) : List (Int × Int) := bdX (smM s a) (emM s a) (-60)
def phi0 : Ph := (oI 0, oI 0, oI (-201), oI 0, oI 0, oI (-201))
/-- what forms(a, k, what, w) leaves in the object's ints -/
def formI (I : Nat → Int32) (s : Nat → Int64) (a : Nat) (k wh w : Int) : Nat → Int32 := pf (upd (upd I 11 (oI k)) 14 (oI w)) (fmS (upd (upd I 11 (oI k)) 14 (oI w)) wh (rpM s a) phi0 (bandsM s a))
theorem hp_init (I : Nat → Int32) (k w : Int32) : upd (upd (upd (upd (upd (upd (upd (upd I 9 (oI 0)) 10 (oI 0)) 13 (oI 0)) 16 (oI 0)) 11 k) 14 w) 12 (oI (-201))) 15 (oI (-201)) = pf (upd (upd I 11 k) 14 w) phi0 := by
  funext j
  by_cases q13 : j = 13
  · subst q13; rfl
  by_cases q16 : j = 16
  · subst q16; rfl
  by_cases q15 : j = 15
  · subst q15; rfl
  by_cases q9 : j = 9
  · subst q9; rfl
  by_cases q10 : j = 10
  · subst q10; rfl
  by_cases q12 : j = 12
  · subst q12; rfl
  by_cases q11 : j = 11
  · subst q11; rfl
  by_cases q14 : j = 14
  · subst q14; rfl
  simp only [pf_at, upd_at, q13, q16, q15, q9, q10, q12, q11, q14, if_false]
theorem c_X6_forms {E : Le} {l : Launch} {D : Dt} {a : Nat} {k wh w : Int} (ha : a < 13) (hw : Rg wh) : ConV E l yX6_forms cX6_forms 7 none 5 [.ref (E.1 (20, 0)), .int (oI (a : Int)), .int (oI k), .int (oI wh), .int (oI w)] D (rU D 20 (formI (D.1 20) (D.2.1 21 0) a k wh w)) := by
  refine Con_of (by decide) (Nat.le_of_ble_eq_true rfl) ?_
  intro X hX hR hl; subst hl
  obtain ⟨I1, hI1⟩ : ∃ I, I = (upd (upd (D.1 20) 11 (oI k)) 14 (oI w)) := ⟨_, rfl⟩
  obtain ⟨ψ0, hψ⟩ : ∃ ψ, fmS I1 wh (rpM (D.2.1 21 0) a) phi0 (bandsM (D.2.1 21 0) a) = ψ := ⟨_, rfl⟩
  have outer : ∀ (m : Nat) (y : Int) (φ : Ph), (-60 ≤ y ∧ y ≤ 60) → fmS I1 wh (rpM (D.2.1 21 0) a) φ (bdX (smM (D.2.1 21 0) a) (emM (D.2.1 21 0) a) y) = ψ0 → (60 - y).toNat < m → Vw E X 7 (rU D 20 (pf I1 φ)) 49 [(0, some (.ref (E.1 (20, 0)))), (1, some (.int (oI (a : Int)))), (2, some (.int (oI k))), (3, some (.int (oI wh))), (4, some (.int (oI w))), (5, some (.int (oI y)))] [] := by
    intro m
    induction m with
    | zero => intro y φ g1 hL g4; omega
    | succ m ihO =>
      intro y φ g1 hL g4
      have inner : y ≤ 59 → ∀ (m : Nat) (b : Int), (y + 1 ≤ b ∧ b ≤ 60) → rnX (smM (D.2.1 21 0) a y) b = rnX (smM (D.2.1 21 0) a y) (y + 1) → (60 - b).toNat < m → Vw E X 7 (rU D 20 (pf I1 φ)) 62 [(0, some (.ref (E.1 (20, 0)))), (1, some (.int (oI (a : Int)))), (2, some (.int (oI k))), (3, some (.int (oI wh))), (4, some (.int (oI w))), (5, some (.int (oI y))), (6, some (.int (oI b)))] [] := by
        intro hy59 m
        induction m with
        | zero => intro b g1 g2 g3; omega
        | succ m ih =>
          intro b g1 g2 g3
          refine V_iload (pc := 62) hX rfl dX6_forms_62 ?_
          refine V_bipush (pc := 64) (z := 59) hX (oI 59) (by decide) dX6_forms_64 ?_
          refine Z_icmp_gt (pc := 66) (tgt := 87) hX (by omega) (by omega) dX6_forms_66 (by decide) (fun h66 => ?_) (fun h66 => ?_)
          · have eb : rnX (smM (D.2.1 21 0) a y) (y + 1) = b := by rw [← g2]; exact rnX_f (fun q => by omega)
            refine V_aload_n (pc := 87) (j := 0) hX 0 rfl rfl dX6_forms_87 ?_
            refine V_iload_n (pc := 88) (j := 1) hX 1 rfl rfl dX6_forms_88 ?_
            refine V_iload (pc := 89) hX rfl dX6_forms_89 ?_
            refine cVI2 (pc := 91) hX (c_X6_isEmptyRow (by omega) (by omega)) (by decide) st_X6_87 ix_20 rfl rfl rfl (Nat.le_of_ble_eq_true rfl) dX6_forms_91 ?_
            refine B_if_ne (pc := 94) (tgt := 107) hX dX6_forms_94 (by decide) (fun h94 => ?_) (fun h94 => ?_)
            · refine V_iload (pc := 107) hX rfl dX6_forms_107 ?_
              refine V_istore (pc := 109) hX (by decide) rfl dX6_forms_109 ?_
              refine V_goto (pc := 111) (off := (-62)) (tgt := 49) hX (by decide) dX6_forms_111 ?_
              refine V_cut [(0, some (.ref (E.1 (20, 0)))), (1, some (.int (oI (a : Int)))), (2, some (.int (oI k))), (3, some (.int (oI wh))), (4, some (.int (oI w))), (5, some (.int (oI b)))] ⟨rfl, rfl, rfl, rfl, rfl, rfl, trivial⟩ ?_
              rw [bdX_t (by omega) h94, eb] at hL
              exact ihO b φ (by omega) hL (by omega)
            · refine V_aload_n (pc := 97) (j := 0) hX 0 rfl rfl dX6_forms_97 ?_
              refine V_iload_n (pc := 98) (j := 1) hX 1 rfl rfl dX6_forms_98 ?_
              refine V_iload (pc := 99) hX rfl dX6_forms_99 ?_
              refine V_iload (pc := 101) hX rfl dX6_forms_101 ?_
              refine V_iload_n (pc := 103) (j := 3) hX 3 rfl rfl dX6_forms_103 ?_
              refine cVV4 (pc := 104) hX (c_X6_band (by omega) (by omega) (by omega) (by omega)) (by decide) st_X6_90 ix_20 rfl rfl rfl (Nat.le_of_ble_eq_true rfl) dX6_forms_104 ?_
              refine V_iload (pc := 107) hX rfl dX6_forms_107 ?_
              refine V_istore (pc := 109) hX (by decide) rfl dX6_forms_109 ?_
              refine V_goto (pc := 111) (off := (-62)) (tgt := 49) hX (by decide) dX6_forms_111 ?_
              refine V_cut [(0, some (.ref (E.1 (20, 0)))), (1, some (.int (oI (a : Int)))), (2, some (.int (oI k))), (3, some (.int (oI wh))), (4, some (.int (oI w))), (5, some (.int (oI b)))] ⟨rfl, rfl, rfl, rfl, rfl, rfl, trivial⟩ ?_
              rw [bdX_f (by omega) h94, eb] at hL
              exact ihO b _ (by omega) hL (by omega)
          · refine V_aload_n (pc := 69) (j := 0) hX 0 rfl rfl dX6_forms_69 ?_
            refine V_iload_n (pc := 70) (j := 1) hX 1 rfl rfl dX6_forms_70 ?_
            refine V_iload (pc := 71) hX rfl dX6_forms_71 ?_
            refine V_iload (pc := 73) hX rfl dX6_forms_73 ?_
            refine cVI3 (pc := 75) hX (c_X6_sameRow (by omega) (by omega) (by omega)) (by decide) st_X6_84 ix_20 rfl rfl rfl (Nat.le_of_ble_eq_true rfl) dX6_forms_75 ?_
            refine B_if_eq (pc := 78) (tgt := 87) hX dX6_forms_78 (by decide) (fun h78 => ?_) (fun h78 => ?_)
            · have eb : rnX (smM (D.2.1 21 0) a y) (y + 1) = b := by rw [← g2]; exact rnX_f (fun q => by rw [show smM (D.2.1 21 0) a y b = false from h78] at q; cases q.2)
              refine V_aload_n (pc := 87) (j := 0) hX 0 rfl rfl dX6_forms_87 ?_
              refine V_iload_n (pc := 88) (j := 1) hX 1 rfl rfl dX6_forms_88 ?_
              refine V_iload (pc := 89) hX rfl dX6_forms_89 ?_
              refine cVI2 (pc := 91) hX (c_X6_isEmptyRow (by omega) (by omega)) (by decide) st_X6_87 ix_20 rfl rfl rfl (Nat.le_of_ble_eq_true rfl) dX6_forms_91 ?_
              refine B_if_ne (pc := 94) (tgt := 107) hX dX6_forms_94 (by decide) (fun h94 => ?_) (fun h94 => ?_)
              · refine V_iload (pc := 107) hX rfl dX6_forms_107 ?_
                refine V_istore (pc := 109) hX (by decide) rfl dX6_forms_109 ?_
                refine V_goto (pc := 111) (off := (-62)) (tgt := 49) hX (by decide) dX6_forms_111 ?_
                refine V_cut [(0, some (.ref (E.1 (20, 0)))), (1, some (.int (oI (a : Int)))), (2, some (.int (oI k))), (3, some (.int (oI wh))), (4, some (.int (oI w))), (5, some (.int (oI b)))] ⟨rfl, rfl, rfl, rfl, rfl, rfl, trivial⟩ ?_
                rw [bdX_t (by omega) h94, eb] at hL
                exact ihO b φ (by omega) hL (by omega)
              · refine V_aload_n (pc := 97) (j := 0) hX 0 rfl rfl dX6_forms_97 ?_
                refine V_iload_n (pc := 98) (j := 1) hX 1 rfl rfl dX6_forms_98 ?_
                refine V_iload (pc := 99) hX rfl dX6_forms_99 ?_
                refine V_iload (pc := 101) hX rfl dX6_forms_101 ?_
                refine V_iload_n (pc := 103) (j := 3) hX 3 rfl rfl dX6_forms_103 ?_
                refine cVV4 (pc := 104) hX (c_X6_band (by omega) (by omega) (by omega) (by omega)) (by decide) st_X6_90 ix_20 rfl rfl rfl (Nat.le_of_ble_eq_true rfl) dX6_forms_104 ?_
                refine V_iload (pc := 107) hX rfl dX6_forms_107 ?_
                refine V_istore (pc := 109) hX (by decide) rfl dX6_forms_109 ?_
                refine V_goto (pc := 111) (off := (-62)) (tgt := 49) hX (by decide) dX6_forms_111 ?_
                refine V_cut [(0, some (.ref (E.1 (20, 0)))), (1, some (.int (oI (a : Int)))), (2, some (.int (oI k))), (3, some (.int (oI wh))), (4, some (.int (oI w))), (5, some (.int (oI b)))] ⟨rfl, rfl, rfl, rfl, rfl, rfl, trivial⟩ ?_
                rw [bdX_f (by omega) h94, eb] at hL
                exact ihO b _ (by omega) hL (by omega)
            · refine Z_iinc (pc := 81) hX 1 rfl rfl dX6_forms_81 ?_
              refine V_goto (pc := 84) (off := (-22)) (tgt := 62) hX (by decide) dX6_forms_84 ?_
              refine V_cut [(0, some (.ref (E.1 (20, 0)))), (1, some (.int (oI (a : Int)))), (2, some (.int (oI k))), (3, some (.int (oI wh))), (4, some (.int (oI w))), (5, some (.int (oI y))), (6, some (.int (oI (b + 1))))] ⟨rfl, rfl, rfl, rfl, rfl, rfl, rfl, trivial⟩ ?_
              exact ih (b + 1) (by omega) ((rnX_t (by omega) h78).symm.trans g2) (by omega)
      refine V_iload (pc := 49) hX rfl dX6_forms_49 ?_
      refine V_bipush (pc := 51) (z := 59) hX (oI 59) (by decide) dX6_forms_51 ?_
      refine Z_icmp_gt (pc := 53) (tgt := 114) hX (by omega) (by omega) dX6_forms_53 (by decide) (fun h53 => ?_) (fun h53 => ?_)
      · refine V_vret (pc := 114) hX hR dX6_forms_114 ?_
        have e : φ = ψ0 := by rw [← hL, bdX_0 (by omega)]; rfl
        subst e
        exact ⟨rfl, by rw [formI, ← hI1, hψ]⟩
      · refine V_iload (pc := 56) hX rfl dX6_forms_56 ?_
        refine V_iconst (pc := 58) (z := 1) hX (oI 1) rfl dX6_forms_58 ?_
        refine Z_iadd (pc := 59) hX dX6_forms_59 ?_
        refine V_istore (pc := 60) hX (by decide) rfl dX6_forms_60 ?_
        refine V_cut [(0, some (.ref (E.1 (20, 0)))), (1, some (.int (oI (a : Int)))), (2, some (.int (oI k))), (3, some (.int (oI wh))), (4, some (.int (oI w))), (5, some (.int (oI y))), (6, some (.int (oI (y + 1))))] ⟨rfl, rfl, rfl, rfl, rfl, rfl, rfl, trivial⟩ ?_
        exact inner (by omega) _ (y + 1) (by omega) rfl (Nat.lt_succ_self _)
  refine V_aload_n (pc := 0) (j := 0) hX 0 rfl rfl dX6_forms_0 ?_
  refine V_iconst (pc := 1) (z := 0) hX (oI 0) rfl dX6_forms_1 ?_
  refine pf_X6_68 (pc := 2) hX dX6_forms_2 ?_
  refine V_aload_n (pc := 5) (j := 0) hX 0 rfl rfl dX6_forms_5 ?_
  refine V_iconst (pc := 6) (z := 0) hX (oI 0) rfl dX6_forms_6 ?_
  refine pf_X6_81 (pc := 7) hX dX6_forms_7 ?_
  refine V_aload_n (pc := 10) (j := 0) hX 0 rfl rfl dX6_forms_10 ?_
  refine V_iconst (pc := 11) (z := 0) hX (oI 0) rfl dX6_forms_11 ?_
  refine pf_X6_45 (pc := 12) hX dX6_forms_12 ?_
  refine V_aload_n (pc := 15) (j := 0) hX 0 rfl rfl dX6_forms_15 ?_
  refine V_iconst (pc := 16) (z := 0) hX (oI 0) rfl dX6_forms_16 ?_
  refine pf_X6_55 (pc := 17) hX dX6_forms_17 ?_
  refine V_aload_n (pc := 20) (j := 0) hX 0 rfl rfl dX6_forms_20 ?_
  refine V_iload_n (pc := 21) (j := 2) hX 2 rfl rfl dX6_forms_21 ?_
  refine pf_X6_71 (pc := 22) hX dX6_forms_22 ?_
  refine V_aload_n (pc := 25) (j := 0) hX 0 rfl rfl dX6_forms_25 ?_
  refine V_iload (pc := 26) hX rfl dX6_forms_26 ?_
  refine pf_X6_49 (pc := 28) hX dX6_forms_28 ?_
  refine V_aload_n (pc := 31) (j := 0) hX 0 rfl rfl dX6_forms_31 ?_
  refine V_sipush (pc := 32) (z := (-201)) hX (oI (-201)) (by decide) dX6_forms_32 ?_
  refine pf_X6_78 (pc := 35) hX dX6_forms_35 ?_
  refine V_aload_n (pc := 38) (j := 0) hX 0 rfl rfl dX6_forms_38 ?_
  refine V_sipush (pc := 39) (z := (-201)) hX (oI (-201)) (by decide) dX6_forms_39 ?_
  refine pf_X6_52 (pc := 42) hX dX6_forms_42 ?_
  refine V_heap (D' := rU D 20 (pf I1 phi0)) (by rw [rU_rU, rU_rU, rU_rU, rU_rU, rU_rU, rU_rU, rU_rU, hI1]; exact congrArg (rU D 20) (hp_init (D.1 20) (oI k) (oI w))) ?_
  refine V_bipush (pc := 45) (z := (-60)) hX (oI (-60)) (by decide) dX6_forms_45 ?_
  refine V_istore (pc := 47) hX (by decide) rfl dX6_forms_47 ?_
  refine V_cut [(0, some (.ref (E.1 (20, 0)))), (1, some (.int (oI (a : Int)))), (2, some (.int (oI k))), (3, some (.int (oI wh))), (4, some (.int (oI w))), (5, some (.int (oI (-60))))] ⟨rfl, rfl, rfl, rfl, rfl, rfl, trivial⟩ ?_
  exact outer 121 (-60) phi0 (by omega) hψ (by omega)
