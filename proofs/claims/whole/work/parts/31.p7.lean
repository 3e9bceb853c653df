/-- a cell of A at or beside which B has one -/
def n5 (A B : Cl) (i j : Nat) : Bool := A i j && ((((B i j || pd B i (j + 1)) || pd B (i + 2) (j + 1)) || pd B (i + 1) j) || pd B (i + 1) (j + 2))
def besN (A B : Cl) : Nat := fb_sm (fun j => fb_ct (fun i => n5 A B i j) 120) 120
theorem c_X6_beside {E : Le} {l : Launch} {D : Dt} {A B : Cl} {a b : Nat} (ha : a < 5) (hb : b < 5) (hA : AR (D.2.1 21 0) a A) (hB : AR (D.2.1 21 0) b B) : ConI E l yX6_beside cX6_beside 6 (some .boolean) 4 [.ref (E.1 (20, 0)), .int (oI (a : Int)), .int (oI (b : Int))] D (bI (decide (0 < besN A B))) D := by
  refine Con_of (by decide) (Nat.le_of_ble_eq_true rfl) ?_
  intro X hX hR hl; subst hl
  have outer : ∀ (m v : Nat) (w : Bool), v ≤ 120 → (w = true ↔ 0 < fb_sm (fun j => fb_ct (fun i => n5 A B i j) 120) v + fb_ct (fun i => n5 A B i v) 0) → 120 - v < m → Vw E X 6 D 6 [(0, some (.ref (E.1 (20, 0)))), (1, some (.int (oI (a : Int)))), (2, some (.int (oI (b : Int)))), (3, some (.int (bI w))), (4, some (.int (oI ((v : Int) - 60))))] [] := by
    intro m
    induction m with
    | zero => intro v w g1 g2 g4; omega
    | succ m ihO =>
      intro v w g1 g2 g4
      have inner : v < 120 → ∀ (m u : Nat) (w : Bool), u ≤ 120 → (w = true ↔ 0 < fb_sm (fun j => fb_ct (fun i => n5 A B i j) 120) v + fb_ct (fun i => n5 A B i v) u) → 120 - u < m → Vw E X 6 D 17 [(0, some (.ref (E.1 (20, 0)))), (1, some (.int (oI (a : Int)))), (2, some (.int (oI (b : Int)))), (3, some (.int (bI w))), (4, some (.int (oI ((v : Int) - 60)))), (5, some (.int (oI ((u : Int) - 60))))] [] := by
        intro hv m
        induction m with
        | zero => intro u w g1 g2 g4; omega
        | succ m ih =>
          intro u w g1 g2 g4
          refine V_iload (pc := 17) hX rfl dX6_beside_17 ?_
          refine V_bipush (pc := 19) (z := 59) hX (oI 59) (by decide) dX6_beside_19 ?_
          refine Z_icmp_gt (pc := 21) (tgt := 120) hX (by omega) (by omega) dX6_beside_21 (by decide) (fun h21 => ?_) (fun h21 => ?_)
          · refine Z_iinc (pc := 120) hX 1 rfl rfl dX6_beside_120 ?_
            refine V_goto (pc := 123) (off := (-117)) (tgt := 6) hX (by decide) dX6_beside_123 ?_
            have e : u = 120 := by omega
            subst e
            refine V_cut [(0, some (.ref (E.1 (20, 0)))), (1, some (.int (oI (a : Int)))), (2, some (.int (oI (b : Int)))), (3, some (.int (bI w))), (4, some (.int (oI (((v + 1 : Nat) : Int) - 60))))] ⟨rfl, rfl, rfl, rfl, congrArg (fun q => some (Value.int (oI q))) (by omega), trivial⟩ ?_
            exact ihO (v + 1) w (by omega) (g2.trans (by rw [fb_sm_succ]; exact Iff.rfl)) (by omega)
          · refine V_iload_n (pc := 24) (j := 3) hX 3 rfl rfl dX6_beside_24 ?_
            refine B_if_ne (pc := 25) (tgt := 108) hX dX6_beside_25 (by decide) (fun h25 => ?_) (fun h25 => ?_)
            · refine V_iconst (pc := 108) (z := 1) hX (oI 1) rfl dX6_beside_108 ?_
              refine V_goto (pc := 109) (off := 4) (tgt := 113) hX (by decide) dX6_beside_109 ?_
              refine V_istore_n (pc := 113) (j := 3) hX 3 rfl (by decide) rfl dX6_beside_113 ?_
              refine Z_iinc (pc := 114) hX 1 rfl rfl dX6_beside_114 ?_
              refine V_goto (pc := 117) (off := (-100)) (tgt := 17) hX (by decide) dX6_beside_117 ?_
              subst h25
              refine V_cut [(0, some (.ref (E.1 (20, 0)))), (1, some (.int (oI (a : Int)))), (2, some (.int (oI (b : Int)))), (3, some (.int (bI true))), (4, some (.int (oI ((v : Int) - 60)))), (5, some (.int (oI (((u + 1 : Nat) : Int) - 60))))] ⟨rfl, rfl, rfl, congrArg (fun q => some (Value.int q)) (by first | rfl | decide), rfl, congrArg (fun q => some (Value.int (oI q))) (by omega), trivial⟩ ?_
              exact ih (u + 1) true (by omega) ⟨fun _ => by have := g2.mp rfl; rw [fb_ct_succ]; omega, fun _ => rfl⟩ (by omega)
            · refine V_aload_n (pc := 28) (j := 0) hX 0 rfl rfl dX6_beside_28 ?_
              refine V_iload_n (pc := 29) (j := 1) hX 1 rfl rfl dX6_beside_29 ?_
              refine V_iload (pc := 30) hX rfl dX6_beside_30 ?_
              refine V_iload (pc := 32) hX rfl dX6_beside_32 ?_
              refine cVI3 (pc := 34) hX (c_X6_has (by omega) (by omega) (by omega)) (by decide) st_X6_65 ix_20 rfl rfl rfl (Nat.le_of_ble_eq_true rfl) dX6_beside_34 ?_
              refine B_if_eq (pc := 37) (tgt := 112) hX dX6_beside_37 (by decide) (fun h37 => ?_) (fun h37 => ?_)
              · rw [AR_has hA, rp_pd (i := u + 1) (j := v + 1) (by omega) (by omega), pd_in (by omega) (by omega)] at h37
                refine V_iconst (pc := 112) (z := 0) hX (oI 0) rfl dX6_beside_112 ?_
                refine V_istore_n (pc := 113) (j := 3) hX 3 rfl (by decide) rfl dX6_beside_113 ?_
                refine Z_iinc (pc := 114) hX 1 rfl rfl dX6_beside_114 ?_
                refine V_goto (pc := 117) (off := (-100)) (tgt := 17) hX (by decide) dX6_beside_117 ?_
                subst h25
                have hc : n5 A B u v = false := by rw [n5, h37]; simp
                refine V_cut [(0, some (.ref (E.1 (20, 0)))), (1, some (.int (oI (a : Int)))), (2, some (.int (oI (b : Int)))), (3, some (.int (bI false))), (4, some (.int (oI ((v : Int) - 60)))), (5, some (.int (oI (((u + 1 : Nat) : Int) - 60))))] ⟨rfl, rfl, rfl, congrArg (fun q => some (Value.int q)) (by first | rfl | decide), rfl, congrArg (fun q => some (Value.int (oI q))) (by omega), trivial⟩ ?_
                exact ih (u + 1) false (by omega) ⟨fun h => (by cases h), fun h => by rw [fb_ct_succ, hc] at h; simp at h; have := g2.mpr (by omega); cases this⟩ (by omega)
              · rw [AR_has hA, rp_pd (i := u + 1) (j := v + 1) (by omega) (by omega), pd_in (by omega) (by omega)] at h37
                refine V_aload_n (pc := 40) (j := 0) hX 0 rfl rfl dX6_beside_40 ?_
                refine V_iload_n (pc := 41) (j := 2) hX 2 rfl rfl dX6_beside_41 ?_
                refine V_iload (pc := 42) hX rfl dX6_beside_42 ?_
                refine V_iload (pc := 44) hX rfl dX6_beside_44 ?_
                refine cVI3 (pc := 46) hX (c_X6_has (by omega) (by omega) (by omega)) (by decide) st_X6_65 ix_20 rfl rfl rfl (Nat.le_of_ble_eq_true rfl) dX6_beside_46 ?_
                refine B_if_ne (pc := 49) (tgt := 108) hX dX6_beside_49 (by decide) (fun h49 => ?_) (fun h49 => ?_)
                · rw [AR_has hB, rp_pd (i := u + 1) (j := v + 1) (by omega) (by omega), pd_in (by omega) (by omega)] at h49
                  refine V_iconst (pc := 108) (z := 1) hX (oI 1) rfl dX6_beside_108 ?_
                  refine V_goto (pc := 109) (off := 4) (tgt := 113) hX (by decide) dX6_beside_109 ?_
                  refine V_istore_n (pc := 113) (j := 3) hX 3 rfl (by decide) rfl dX6_beside_113 ?_
                  refine Z_iinc (pc := 114) hX 1 rfl rfl dX6_beside_114 ?_
                  refine V_goto (pc := 117) (off := (-100)) (tgt := 17) hX (by decide) dX6_beside_117 ?_
                  subst h25
                  have hc : n5 A B u v = true := by rw [n5, h37, h49]; simp
                  refine V_cut [(0, some (.ref (E.1 (20, 0)))), (1, some (.int (oI (a : Int)))), (2, some (.int (oI (b : Int)))), (3, some (.int (bI true))), (4, some (.int (oI ((v : Int) - 60)))), (5, some (.int (oI (((u + 1 : Nat) : Int) - 60))))] ⟨rfl, rfl, rfl, congrArg (fun q => some (Value.int q)) (by first | rfl | decide), rfl, congrArg (fun q => some (Value.int (oI q))) (by omega), trivial⟩ ?_
                  exact ih (u + 1) true (by omega) ⟨fun _ => by rw [fb_ct_succ, hc]; simp; omega, fun _ => rfl⟩ (by omega)
                · rw [AR_has hB, rp_pd (i := u + 1) (j := v + 1) (by omega) (by omega), pd_in (by omega) (by omega)] at h49
                  refine V_aload_n (pc := 52) (j := 0) hX 0 rfl rfl dX6_beside_52 ?_
                  refine V_iload_n (pc := 53) (j := 2) hX 2 rfl rfl dX6_beside_53 ?_
                  refine V_iload (pc := 54) hX rfl dX6_beside_54 ?_
                  refine V_iconst (pc := 56) (z := 1) hX (oI 1) rfl dX6_beside_56 ?_
                  refine Z_isub (pc := 57) hX dX6_beside_57 ?_
                  refine V_iload (pc := 58) hX rfl dX6_beside_58 ?_
                  refine cVI3 (pc := 60) hX (c_X6_has (by omega) (by omega) (by omega)) (by decide) st_X6_65 ix_20 rfl rfl rfl (Nat.le_of_ble_eq_true rfl) dX6_beside_60 ?_
                  refine B_if_ne (pc := 63) (tgt := 108) hX dX6_beside_63 (by decide) (fun h63 => ?_) (fun h63 => ?_)
                  · rw [AR_has hB, rp_pd (i := u) (j := v + 1) (by omega) (by omega)] at h63
                    refine V_iconst (pc := 108) (z := 1) hX (oI 1) rfl dX6_beside_108 ?_
                    refine V_goto (pc := 109) (off := 4) (tgt := 113) hX (by decide) dX6_beside_109 ?_
                    refine V_istore_n (pc := 113) (j := 3) hX 3 rfl (by decide) rfl dX6_beside_113 ?_
                    refine Z_iinc (pc := 114) hX 1 rfl rfl dX6_beside_114 ?_
                    refine V_goto (pc := 117) (off := (-100)) (tgt := 17) hX (by decide) dX6_beside_117 ?_
                    subst h25
                    have hc : n5 A B u v = true := by rw [n5, h37, h49, h63]; simp
                    refine V_cut [(0, some (.ref (E.1 (20, 0)))), (1, some (.int (oI (a : Int)))), (2, some (.int (oI (b : Int)))), (3, some (.int (bI true))), (4, some (.int (oI ((v : Int) - 60)))), (5, some (.int (oI (((u + 1 : Nat) : Int) - 60))))] ⟨rfl, rfl, rfl, congrArg (fun q => some (Value.int q)) (by first | rfl | decide), rfl, congrArg (fun q => some (Value.int (oI q))) (by omega), trivial⟩ ?_
                    exact ih (u + 1) true (by omega) ⟨fun _ => by rw [fb_ct_succ, hc]; simp; omega, fun _ => rfl⟩ (by omega)
                  · rw [AR_has hB, rp_pd (i := u) (j := v + 1) (by omega) (by omega)] at h63
                    refine V_aload_n (pc := 66) (j := 0) hX 0 rfl rfl dX6_beside_66 ?_
                    refine V_iload_n (pc := 67) (j := 2) hX 2 rfl rfl dX6_beside_67 ?_
                    refine V_iload (pc := 68) hX rfl dX6_beside_68 ?_
                    refine V_iconst (pc := 70) (z := 1) hX (oI 1) rfl dX6_beside_70 ?_
                    refine Z_iadd (pc := 71) hX dX6_beside_71 ?_
                    refine V_iload (pc := 72) hX rfl dX6_beside_72 ?_
                    refine cVI3 (pc := 74) hX (c_X6_has (by omega) (by omega) (by omega)) (by decide) st_X6_65 ix_20 rfl rfl rfl (Nat.le_of_ble_eq_true rfl) dX6_beside_74 ?_
                    refine B_if_ne (pc := 77) (tgt := 108) hX dX6_beside_77 (by decide) (fun h77 => ?_) (fun h77 => ?_)
                    · rw [AR_has hB, rp_pd (i := u + 2) (j := v + 1) (by omega) (by omega)] at h77
                      refine V_iconst (pc := 108) (z := 1) hX (oI 1) rfl dX6_beside_108 ?_
                      refine V_goto (pc := 109) (off := 4) (tgt := 113) hX (by decide) dX6_beside_109 ?_
                      refine V_istore_n (pc := 113) (j := 3) hX 3 rfl (by decide) rfl dX6_beside_113 ?_
                      refine Z_iinc (pc := 114) hX 1 rfl rfl dX6_beside_114 ?_
                      refine V_goto (pc := 117) (off := (-100)) (tgt := 17) hX (by decide) dX6_beside_117 ?_
                      subst h25
                      have hc : n5 A B u v = true := by rw [n5, h37, h49, h63, h77]; simp
                      refine V_cut [(0, some (.ref (E.1 (20, 0)))), (1, some (.int (oI (a : Int)))), (2, some (.int (oI (b : Int)))), (3, some (.int (bI true))), (4, some (.int (oI ((v : Int) - 60)))), (5, some (.int (oI (((u + 1 : Nat) : Int) - 60))))] ⟨rfl, rfl, rfl, congrArg (fun q => some (Value.int q)) (by first | rfl | decide), rfl, congrArg (fun q => some (Value.int (oI q))) (by omega), trivial⟩ ?_
                      exact ih (u + 1) true (by omega) ⟨fun _ => by rw [fb_ct_succ, hc]; simp; omega, fun _ => rfl⟩ (by omega)
                    · rw [AR_has hB, rp_pd (i := u + 2) (j := v + 1) (by omega) (by omega)] at h77
                      refine V_aload_n (pc := 80) (j := 0) hX 0 rfl rfl dX6_beside_80 ?_
                      refine V_iload_n (pc := 81) (j := 2) hX 2 rfl rfl dX6_beside_81 ?_
                      refine V_iload (pc := 82) hX rfl dX6_beside_82 ?_
                      refine V_iload (pc := 84) hX rfl dX6_beside_84 ?_
                      refine V_iconst (pc := 86) (z := 1) hX (oI 1) rfl dX6_beside_86 ?_
                      refine Z_isub (pc := 87) hX dX6_beside_87 ?_
                      refine cVI3 (pc := 88) hX (c_X6_has (by omega) (by omega) (by omega)) (by decide) st_X6_65 ix_20 rfl rfl rfl (Nat.le_of_ble_eq_true rfl) dX6_beside_88 ?_
                      refine B_if_ne (pc := 91) (tgt := 108) hX dX6_beside_91 (by decide) (fun h91 => ?_) (fun h91 => ?_)
                      · rw [AR_has hB, rp_pd (i := u + 1) (j := v) (by omega) (by omega)] at h91
                        refine V_iconst (pc := 108) (z := 1) hX (oI 1) rfl dX6_beside_108 ?_
                        refine V_goto (pc := 109) (off := 4) (tgt := 113) hX (by decide) dX6_beside_109 ?_
                        refine V_istore_n (pc := 113) (j := 3) hX 3 rfl (by decide) rfl dX6_beside_113 ?_
                        refine Z_iinc (pc := 114) hX 1 rfl rfl dX6_beside_114 ?_
                        refine V_goto (pc := 117) (off := (-100)) (tgt := 17) hX (by decide) dX6_beside_117 ?_
                        subst h25
                        have hc : n5 A B u v = true := by rw [n5, h37, h49, h63, h77, h91]; simp
                        refine V_cut [(0, some (.ref (E.1 (20, 0)))), (1, some (.int (oI (a : Int)))), (2, some (.int (oI (b : Int)))), (3, some (.int (bI true))), (4, some (.int (oI ((v : Int) - 60)))), (5, some (.int (oI (((u + 1 : Nat) : Int) - 60))))] ⟨rfl, rfl, rfl, congrArg (fun q => some (Value.int q)) (by first | rfl | decide), rfl, congrArg (fun q => some (Value.int (oI q))) (by omega), trivial⟩ ?_
                        exact ih (u + 1) true (by omega) ⟨fun _ => by rw [fb_ct_succ, hc]; simp; omega, fun _ => rfl⟩ (by omega)
                      · rw [AR_has hB, rp_pd (i := u + 1) (j := v) (by omega) (by omega)] at h91
                        refine V_aload_n (pc := 94) (j := 0) hX 0 rfl rfl dX6_beside_94 ?_
                        refine V_iload_n (pc := 95) (j := 2) hX 2 rfl rfl dX6_beside_95 ?_
                        refine V_iload (pc := 96) hX rfl dX6_beside_96 ?_
                        refine V_iload (pc := 98) hX rfl dX6_beside_98 ?_
                        refine V_iconst (pc := 100) (z := 1) hX (oI 1) rfl dX6_beside_100 ?_
                        refine Z_iadd (pc := 101) hX dX6_beside_101 ?_
                        refine cVI3 (pc := 102) hX (c_X6_has (by omega) (by omega) (by omega)) (by decide) st_X6_65 ix_20 rfl rfl rfl (Nat.le_of_ble_eq_true rfl) dX6_beside_102 ?_
                        refine B_if_eq (pc := 105) (tgt := 112) hX dX6_beside_105 (by decide) (fun h105 => ?_) (fun h105 => ?_)
                        · rw [AR_has hB, rp_pd (i := u + 1) (j := v + 2) (by omega) (by omega)] at h105
                          refine V_iconst (pc := 112) (z := 0) hX (oI 0) rfl dX6_beside_112 ?_
                          refine V_istore_n (pc := 113) (j := 3) hX 3 rfl (by decide) rfl dX6_beside_113 ?_
                          refine Z_iinc (pc := 114) hX 1 rfl rfl dX6_beside_114 ?_
                          refine V_goto (pc := 117) (off := (-100)) (tgt := 17) hX (by decide) dX6_beside_117 ?_
                          subst h25
                          have hc : n5 A B u v = false := by rw [n5, h37, h49, h63, h77, h91, h105]; simp
                          refine V_cut [(0, some (.ref (E.1 (20, 0)))), (1, some (.int (oI (a : Int)))), (2, some (.int (oI (b : Int)))), (3, some (.int (bI false))), (4, some (.int (oI ((v : Int) - 60)))), (5, some (.int (oI (((u + 1 : Nat) : Int) - 60))))] ⟨rfl, rfl, rfl, congrArg (fun q => some (Value.int q)) (by first | rfl | decide), rfl, congrArg (fun q => some (Value.int (oI q))) (by omega), trivial⟩ ?_
                          exact ih (u + 1) false (by omega) ⟨fun h => (by cases h), fun h => by rw [fb_ct_succ, hc] at h; simp at h; have := g2.mpr (by omega); cases this⟩ (by omega)
                        · rw [AR_has hB, rp_pd (i := u + 1) (j := v + 2) (by omega) (by omega)] at h105
                          refine V_iconst (pc := 108) (z := 1) hX (oI 1) rfl dX6_beside_108 ?_
                          refine V_goto (pc := 109) (off := 4) (tgt := 113) hX (by decide) dX6_beside_109 ?_
                          refine V_istore_n (pc := 113) (j := 3) hX 3 rfl (by decide) rfl dX6_beside_113 ?_
                          refine Z_iinc (pc := 114) hX 1 rfl rfl dX6_beside_114 ?_
                          refine V_goto (pc := 117) (off := (-100)) (tgt := 17) hX (by decide) dX6_beside_117 ?_
                          subst h25
                          have hc : n5 A B u v = true := by rw [n5, h37, h49, h63, h77, h91, h105]; simp
                          refine V_cut [(0, some (.ref (E.1 (20, 0)))), (1, some (.int (oI (a : Int)))), (2, some (.int (oI (b : Int)))), (3, some (.int (bI true))), (4, some (.int (oI ((v : Int) - 60)))), (5, some (.int (oI (((u + 1 : Nat) : Int) - 60))))] ⟨rfl, rfl, rfl, congrArg (fun q => some (Value.int q)) (by first | rfl | decide), rfl, congrArg (fun q => some (Value.int (oI q))) (by omega), trivial⟩ ?_
                          exact ih (u + 1) true (by omega) ⟨fun _ => by rw [fb_ct_succ, hc]; simp; omega, fun _ => rfl⟩ (by omega)
      refine V_iload (pc := 6) hX rfl dX6_beside_6 ?_
      refine V_bipush (pc := 8) (z := 59) hX (oI 59) (by decide) dX6_beside_8 ?_
      refine Z_icmp_gt (pc := 10) (tgt := 126) hX (by omega) (by omega) dX6_beside_10 (by decide) (fun h10 => ?_) (fun h10 => ?_)
      · refine V_iload_n (pc := 126) (j := 3) hX 3 rfl rfl dX6_beside_126 ?_
        refine V_zret (pc := 127) hX hR (bI_nar _) dX6_beside_127 ?_
        have e : v = 120 := by omega
        subst e
        exact ⟨congrArg (fun q => some (Value.int (bI q))) (by rw [Bool.eq_iff_iff, decide_eq_true_iff]; rw [g2, besN, show fb_ct (fun i => n5 A B i 120) 0 = 0 from rfl, Nat.add_zero]), rfl⟩
      · refine V_bipush (pc := 13) (z := (-60)) hX (oI (-60)) (by decide) dX6_beside_13 ?_
        refine V_istore (pc := 15) hX (by decide) rfl dX6_beside_15 ?_
        refine V_cut [(0, some (.ref (E.1 (20, 0)))), (1, some (.int (oI (a : Int)))), (2, some (.int (oI (b : Int)))), (3, some (.int (bI w))), (4, some (.int (oI ((v : Int) - 60)))), (5, some (.int (oI (((0 : Nat) : Int) - 60))))] ⟨rfl, rfl, rfl, rfl, rfl, rfl, trivial⟩ ?_
        exact inner (by omega) 121 0 w (by omega) g2 (by omega)
  refine V_iconst (pc := 0) (z := 0) hX (oI 0) rfl dX6_beside_0 ?_
  refine V_istore_n (pc := 1) (j := 3) hX 3 rfl (by decide) rfl dX6_beside_1 ?_
  refine V_bipush (pc := 2) (z := (-60)) hX (oI (-60)) (by decide) dX6_beside_2 ?_
  refine V_istore (pc := 4) hX (by decide) rfl dX6_beside_4 ?_
  refine V_cut [(0, some (.ref (E.1 (20, 0)))), (1, some (.int (oI (a : Int)))), (2, some (.int (oI (b : Int)))), (3, some (.int (bI false))), (4, some (.int (oI (((0 : Nat) : Int) - 60))))] ⟨rfl, rfl, rfl, congrArg (fun q => some (Value.int q)) (by first | rfl | decide), rfl, trivial⟩ ?_
  exact outer 121 0 false (by omega) ⟨fun h => (by cases h), fun h => absurd h (Nat.lt_irrefl 0)⟩ (by omega)
def twV (c ca cb n : Nat) (w : Int) : Int := if (w = 0 ∧ c = ca ∧ c = cb) ∨ (w = 1 ∧ c = ca) ∨ (w = 2 ∧ 0 < c) ∨ (w = 3 ∧ 0 < n) then 1 else 0
def twoO (σ : AS) (a b w : Int) : Int × AS := if (0 ≤ a ∧ a ≤ 4) ∧ (0 ≤ b ∧ b ≤ 4) ∧ 0 ≤ w ∧ w ≤ 3 then (twV (cntC (mixC 1 (σ.1 a.toNat) (σ.1 b.toNat))) (cntC (σ.1 a.toNat)) (cntC (σ.1 b.toNat)) (besN (σ.1 a.toNat) (σ.1 b.toNat)) w, σ) else badA σ
theorem c_X6_two {E : Le} {l : Launch} {D : Dt} {σ : AS} {a b w : Int} (r_a : Rg a) (r_b : Rg b) (r_w : Rg w) (hM : Mst D σ) : ConIp E l yX6_two cX6_two 7 (some .int) 5 [.ref (E.1 (20, 0)), .int (oI a), .int (oI b), .int (oI w)] D (PubP D (twoO σ a b w)) := by
  refine Con_of (by decide) (Nat.le_of_ble_eq_true rfl) ?_
  intro X hX hR hl; subst hl
  refine V_iload_n (pc := 0) (j := 1) hX 1 rfl rfl dX6_two_0 ?_
  refine cSI1 (pc := 1) hX (c_X6_isArea (by omega)) (by decide) st_X6_129 (Nat.le_of_ble_eq_true rfl) dX6_two_1 ?_
  refine B_if_eq (pc := 4) (tgt := 23) hX dX6_two_4 (by decide) (fun h4 => ?_) (fun h4 => ?_)
  · have q4 := inB_f.mp h4
    refine V_aload_n (pc := 23) (j := 0) hX 0 rfl rfl dX6_two_23 ?_
    refine V_sipush (pc := 24) (z := (-202)) hX (oI (-202)) (by decide) dX6_two_24 ?_
    refine cVI1 (pc := 27) hX (c_X6_refuses (by omega)) (by decide) st_X6_105 ix_20 rfl rfl rfl (Nat.le_of_ble_eq_true rfl) dX6_two_27 ?_
    refine V_iret (pc := 30) hX hR dX6_two_30 ?_
    exact ⟨_, rfl, by rw [twoO, if_neg (by omega)]; exact Pub_bad hM⟩
  · have q4 := inB_t.mp h4
    refine V_iload_n (pc := 7) (j := 2) hX 2 rfl rfl dX6_two_7 ?_
    refine cSI1 (pc := 8) hX (c_X6_isArea (by omega)) (by decide) st_X6_129 (Nat.le_of_ble_eq_true rfl) dX6_two_8 ?_
    refine B_if_eq (pc := 11) (tgt := 23) hX dX6_two_11 (by decide) (fun h11 => ?_) (fun h11 => ?_)
    · have q11 := inB_f.mp h11
      refine V_aload_n (pc := 23) (j := 0) hX 0 rfl rfl dX6_two_23 ?_
      refine V_sipush (pc := 24) (z := (-202)) hX (oI (-202)) (by decide) dX6_two_24 ?_
      refine cVI1 (pc := 27) hX (c_X6_refuses (by omega)) (by decide) st_X6_105 ix_20 rfl rfl rfl (Nat.le_of_ble_eq_true rfl) dX6_two_27 ?_
      refine V_iret (pc := 30) hX hR dX6_two_30 ?_
      exact ⟨_, rfl, by rw [twoO, if_neg (by omega)]; exact Pub_bad hM⟩
    · have q11 := inB_t.mp h11
      refine V_iload_n (pc := 14) (j := 3) hX 3 rfl rfl dX6_two_14 ?_
      refine V_iconst (pc := 15) (z := 0) hX (oI 0) rfl dX6_two_15 ?_
      refine V_iconst (pc := 16) (z := 3) hX (oI 3) rfl dX6_two_16 ?_
      refine cSI3 (pc := 17) hX (c_X6_in (by omega) (by omega) (by omega)) (by decide) st_X6_33 (Nat.le_of_ble_eq_true rfl) dX6_two_17 ?_
      refine B_if_ne (pc := 20) (tgt := 31) hX dX6_two_20 (by decide) (fun h20 => ?_) (fun h20 => ?_)
      · have q20 := inB_t.mp h20
        obtain ⟨a, rfl⟩ : ∃ N0 : Nat, a = (N0 : Int) := ⟨a.toNat, by omega⟩
        obtain ⟨b, rfl⟩ : ∃ N0 : Nat, b = (N0 : Int) := ⟨b.toNat, by omega⟩
        have hcn := AR_cnt (hM.1 a (by omega)).1
        have hcm := AR_cnt (hM.1 b (by omega)).1
        have hc1 := cntC_max (mixC 1 (σ.1 a) (σ.1 b))
        have hc2 := cntC_max (σ.1 a)
        have hc3 := cntC_max (σ.1 b)
        refine V_aload_n (pc := 31) (j := 0) hX 0 rfl rfl dX6_two_31 ?_
        refine V_iload_n (pc := 32) (j := 1) hX 1 rfl rfl dX6_two_32 ?_
        refine V_iload_n (pc := 33) (j := 2) hX 2 rfl rfl dX6_two_33 ?_
        refine cVI2 (pc := 34) hX (c_X6_commonOf (a := a) (b := b) (by omega) (by omega) (hM.1 a (by omega)).1 (hM.1 b (by omega)).1) (by decide) st_X6_191 ix_20 rfl rfl rfl (Nat.le_of_ble_eq_true rfl) dX6_two_34 ?_
        refine V_istore (pc := 37) hX (by decide) rfl dX6_two_37 ?_
        refine V_iload (pc := 39) hX rfl dX6_two_39 ?_
        refine V_aload_n (pc := 41) (j := 0) hX 0 rfl rfl dX6_two_41 ?_
        refine V_iload_n (pc := 42) (j := 1) hX 1 rfl rfl dX6_two_42 ?_
        refine cVI1 (pc := 43) hX (c_X6_cells (a := a) (by omega)) (by decide) st_X6_101 ix_20 rfl rfl rfl (Nat.le_of_ble_eq_true rfl) dX6_two_43 ?_
        refine Z_icmp_ne (pc := 46) (tgt := 53) hX (by omega) (by omega) dX6_two_46 (by decide) (fun h46 => ?_) (fun h46 => ?_)
        · refine V_iconst (pc := 53) (z := 0) hX (oI 0) rfl dX6_two_53 ?_
          refine V_istore (pc := 54) hX (by decide) rfl dX6_two_54 ?_
          refine V_iload_n (pc := 56) (j := 3) hX 3 rfl rfl dX6_two_56 ?_
          refine Z_if_ne (pc := 57) (tgt := 83) hX (by omega) dX6_two_57 (by decide) (fun h57 => ?_) (fun h57 => ?_)
          · refine V_iload_n (pc := 83) (j := 3) hX 3 rfl rfl dX6_two_83 ?_
            refine V_iconst (pc := 84) (z := 1) hX (oI 1) rfl dX6_two_84 ?_
            refine Z_icmp_ne (pc := 85) (tgt := 93) hX (by omega) (by omega) dX6_two_85 (by decide) (fun h85 => ?_) (fun h85 => ?_)
            · refine V_iload_n (pc := 93) (j := 3) hX 3 rfl rfl dX6_two_93 ?_
              refine V_iconst (pc := 94) (z := 2) hX (oI 2) rfl dX6_two_94 ?_
              refine Z_icmp_ne (pc := 95) (tgt := 111) hX (by omega) (by omega) dX6_two_95 (by decide) (fun h95 => ?_) (fun h95 => ?_)
              · refine V_aload_n (pc := 111) (j := 0) hX 0 rfl rfl dX6_two_111 ?_
                refine V_iload_n (pc := 112) (j := 1) hX 1 rfl rfl dX6_two_112 ?_
                refine V_iload_n (pc := 113) (j := 2) hX 2 rfl rfl dX6_two_113 ?_
                refine cVI2 (pc := 114) hX (c_X6_beside (a := a) (b := b) (by omega) (by omega) (hM.1 a (by omega)).1 (hM.1 b (by omega)).1) (by decide) st_X6_194 ix_20 rfl rfl rfl (Nat.le_of_ble_eq_true rfl) dX6_two_114 ?_
                refine V_istore (pc := 117) hX (by decide) rfl dX6_two_117 ?_
                refine V_iload (pc := 119) hX rfl dX6_two_119 ?_
                refine B_if_eq (pc := 121) (tgt := 128) hX dX6_two_121 (by decide) (fun h121 => ?_) (fun h121 => ?_)
                · have h121 := of_decide_eq_false h121
                  refine V_iconst (pc := 128) (z := 0) hX (oI 0) rfl dX6_two_128 ?_
                  refine V_iret (pc := 129) hX hR dX6_two_129 ?_
                  refine ⟨_, rfl, ?_⟩
                  rw [twoO, if_pos (by omega), Int.toNat_natCast, Int.toNat_natCast]
                  exact ⟨by rw [twV, if_neg (by omega)], hM, CK.rf D⟩
                · have h121 := of_decide_eq_true h121
                  refine V_iconst (pc := 124) (z := 1) hX (oI 1) rfl dX6_two_124 ?_
                  refine V_goto (pc := 125) (off := 4) (tgt := 129) hX (by decide) dX6_two_125 ?_
                  refine V_iret (pc := 129) hX hR dX6_two_129 ?_
                  refine ⟨_, rfl, ?_⟩
                  rw [twoO, if_pos (by omega), Int.toNat_natCast, Int.toNat_natCast]
                  exact ⟨by rw [twV, if_pos (by omega)], hM, CK.rf D⟩
              · refine V_iload (pc := 98) hX rfl dX6_two_98 ?_
                refine Z_if_le (pc := 100) (tgt := 107) hX (by omega) dX6_two_100 (by decide) (fun h100 => ?_) (fun h100 => ?_)
                · refine V_iconst (pc := 107) (z := 0) hX (oI 0) rfl dX6_two_107 ?_
                  refine V_goto (pc := 108) (off := 9) (tgt := 117) hX (by decide) dX6_two_108 ?_
                  refine V_istore (pc := 117) hX (by decide) rfl dX6_two_117 ?_
                  refine V_iload (pc := 119) hX rfl dX6_two_119 ?_
                  refine Z_if_eq (pc := 121) (tgt := 128) hX (by omega) dX6_two_121 (by decide) (fun _ => ?_) (fun h => absurd h (by decide))
                  refine V_iconst (pc := 128) (z := 0) hX (oI 0) rfl dX6_two_128 ?_
                  refine V_iret (pc := 129) hX hR dX6_two_129 ?_
                  refine ⟨_, rfl, ?_⟩
                  rw [twoO, if_pos (by omega), Int.toNat_natCast, Int.toNat_natCast]
                  exact ⟨by rw [twV, if_neg (by omega)], hM, CK.rf D⟩
                · refine V_iconst (pc := 103) (z := 1) hX (oI 1) rfl dX6_two_103 ?_
                  refine V_goto (pc := 104) (off := 13) (tgt := 117) hX (by decide) dX6_two_104 ?_
                  refine V_istore (pc := 117) hX (by decide) rfl dX6_two_117 ?_
                  refine V_iload (pc := 119) hX rfl dX6_two_119 ?_
                  refine Z_if_eq (pc := 121) (tgt := 128) hX (by omega) dX6_two_121 (by decide) (fun h => absurd h (by decide)) (fun _ => ?_)
                  refine V_iconst (pc := 124) (z := 1) hX (oI 1) rfl dX6_two_124 ?_
                  refine V_goto (pc := 125) (off := 4) (tgt := 129) hX (by decide) dX6_two_125 ?_
                  refine V_iret (pc := 129) hX hR dX6_two_129 ?_
                  refine ⟨_, rfl, ?_⟩
                  rw [twoO, if_pos (by omega), Int.toNat_natCast, Int.toNat_natCast]
                  exact ⟨by rw [twV, if_pos (by omega)], hM, CK.rf D⟩
            · refine V_iload (pc := 88) hX rfl dX6_two_88 ?_
              refine V_goto (pc := 90) (off := 27) (tgt := 117) hX (by decide) dX6_two_90 ?_
              refine V_istore (pc := 117) hX (by decide) rfl dX6_two_117 ?_
              refine V_iload (pc := 119) hX rfl dX6_two_119 ?_
              refine Z_if_eq (pc := 121) (tgt := 128) hX (by omega) dX6_two_121 (by decide) (fun _ => ?_) (fun h => absurd h (by decide))
              refine V_iconst (pc := 128) (z := 0) hX (oI 0) rfl dX6_two_128 ?_
              refine V_iret (pc := 129) hX hR dX6_two_129 ?_
              refine ⟨_, rfl, ?_⟩
              rw [twoO, if_pos (by omega), Int.toNat_natCast, Int.toNat_natCast]
              exact ⟨by rw [twV, if_neg (by omega)], hM, CK.rf D⟩
          · refine V_iload (pc := 60) hX rfl dX6_two_60 ?_
            refine Z_if_eq (pc := 62) (tgt := 79) hX (by omega) dX6_two_62 (by decide) (fun _ => ?_) (fun h => absurd h (by decide))
            refine V_iconst (pc := 79) (z := 0) hX (oI 0) rfl dX6_two_79 ?_
            refine V_goto (pc := 80) (off := 37) (tgt := 117) hX (by decide) dX6_two_80 ?_
            refine V_istore (pc := 117) hX (by decide) rfl dX6_two_117 ?_
            refine V_iload (pc := 119) hX rfl dX6_two_119 ?_
            refine Z_if_eq (pc := 121) (tgt := 128) hX (by omega) dX6_two_121 (by decide) (fun _ => ?_) (fun h => absurd h (by decide))
            refine V_iconst (pc := 128) (z := 0) hX (oI 0) rfl dX6_two_128 ?_
            refine V_iret (pc := 129) hX hR dX6_two_129 ?_
            refine ⟨_, rfl, ?_⟩
            rw [twoO, if_pos (by omega), Int.toNat_natCast, Int.toNat_natCast]
            exact ⟨by rw [twV, if_neg (by omega)], hM, CK.rf D⟩
        · refine V_iconst (pc := 49) (z := 1) hX (oI 1) rfl dX6_two_49 ?_
          refine V_goto (pc := 50) (off := 4) (tgt := 54) hX (by decide) dX6_two_50 ?_
          refine V_istore (pc := 54) hX (by decide) rfl dX6_two_54 ?_
          refine V_iload_n (pc := 56) (j := 3) hX 3 rfl rfl dX6_two_56 ?_
          refine Z_if_ne (pc := 57) (tgt := 83) hX (by omega) dX6_two_57 (by decide) (fun h57 => ?_) (fun h57 => ?_)
          · refine V_iload_n (pc := 83) (j := 3) hX 3 rfl rfl dX6_two_83 ?_
            refine V_iconst (pc := 84) (z := 1) hX (oI 1) rfl dX6_two_84 ?_
            refine Z_icmp_ne (pc := 85) (tgt := 93) hX (by omega) (by omega) dX6_two_85 (by decide) (fun h85 => ?_) (fun h85 => ?_)
            · refine V_iload_n (pc := 93) (j := 3) hX 3 rfl rfl dX6_two_93 ?_
              refine V_iconst (pc := 94) (z := 2) hX (oI 2) rfl dX6_two_94 ?_
              refine Z_icmp_ne (pc := 95) (tgt := 111) hX (by omega) (by omega) dX6_two_95 (by decide) (fun h95 => ?_) (fun h95 => ?_)
              · refine V_aload_n (pc := 111) (j := 0) hX 0 rfl rfl dX6_two_111 ?_
                refine V_iload_n (pc := 112) (j := 1) hX 1 rfl rfl dX6_two_112 ?_
                refine V_iload_n (pc := 113) (j := 2) hX 2 rfl rfl dX6_two_113 ?_
                refine cVI2 (pc := 114) hX (c_X6_beside (a := a) (b := b) (by omega) (by omega) (hM.1 a (by omega)).1 (hM.1 b (by omega)).1) (by decide) st_X6_194 ix_20 rfl rfl rfl (Nat.le_of_ble_eq_true rfl) dX6_two_114 ?_
                refine V_istore (pc := 117) hX (by decide) rfl dX6_two_117 ?_
                refine V_iload (pc := 119) hX rfl dX6_two_119 ?_
                refine B_if_eq (pc := 121) (tgt := 128) hX dX6_two_121 (by decide) (fun h121 => ?_) (fun h121 => ?_)
                · have h121 := of_decide_eq_false h121
                  refine V_iconst (pc := 128) (z := 0) hX (oI 0) rfl dX6_two_128 ?_
                  refine V_iret (pc := 129) hX hR dX6_two_129 ?_
                  refine ⟨_, rfl, ?_⟩
                  rw [twoO, if_pos (by omega), Int.toNat_natCast, Int.toNat_natCast]
                  exact ⟨by rw [twV, if_neg (by omega)], hM, CK.rf D⟩
                · have h121 := of_decide_eq_true h121
                  refine V_iconst (pc := 124) (z := 1) hX (oI 1) rfl dX6_two_124 ?_
                  refine V_goto (pc := 125) (off := 4) (tgt := 129) hX (by decide) dX6_two_125 ?_
                  refine V_iret (pc := 129) hX hR dX6_two_129 ?_
                  refine ⟨_, rfl, ?_⟩
                  rw [twoO, if_pos (by omega), Int.toNat_natCast, Int.toNat_natCast]
                  exact ⟨by rw [twV, if_pos (by omega)], hM, CK.rf D⟩
              · refine V_iload (pc := 98) hX rfl dX6_two_98 ?_
                refine Z_if_le (pc := 100) (tgt := 107) hX (by omega) dX6_two_100 (by decide) (fun h100 => ?_) (fun h100 => ?_)
                · refine V_iconst (pc := 107) (z := 0) hX (oI 0) rfl dX6_two_107 ?_
                  refine V_goto (pc := 108) (off := 9) (tgt := 117) hX (by decide) dX6_two_108 ?_
                  refine V_istore (pc := 117) hX (by decide) rfl dX6_two_117 ?_
                  refine V_iload (pc := 119) hX rfl dX6_two_119 ?_
                  refine Z_if_eq (pc := 121) (tgt := 128) hX (by omega) dX6_two_121 (by decide) (fun _ => ?_) (fun h => absurd h (by decide))
                  refine V_iconst (pc := 128) (z := 0) hX (oI 0) rfl dX6_two_128 ?_
                  refine V_iret (pc := 129) hX hR dX6_two_129 ?_
                  refine ⟨_, rfl, ?_⟩
                  rw [twoO, if_pos (by omega), Int.toNat_natCast, Int.toNat_natCast]
                  exact ⟨by rw [twV, if_neg (by omega)], hM, CK.rf D⟩
                · refine V_iconst (pc := 103) (z := 1) hX (oI 1) rfl dX6_two_103 ?_
                  refine V_goto (pc := 104) (off := 13) (tgt := 117) hX (by decide) dX6_two_104 ?_
                  refine V_istore (pc := 117) hX (by decide) rfl dX6_two_117 ?_
                  refine V_iload (pc := 119) hX rfl dX6_two_119 ?_
                  refine Z_if_eq (pc := 121) (tgt := 128) hX (by omega) dX6_two_121 (by decide) (fun h => absurd h (by decide)) (fun _ => ?_)
                  refine V_iconst (pc := 124) (z := 1) hX (oI 1) rfl dX6_two_124 ?_
                  refine V_goto (pc := 125) (off := 4) (tgt := 129) hX (by decide) dX6_two_125 ?_
                  refine V_iret (pc := 129) hX hR dX6_two_129 ?_
                  refine ⟨_, rfl, ?_⟩
                  rw [twoO, if_pos (by omega), Int.toNat_natCast, Int.toNat_natCast]
                  exact ⟨by rw [twV, if_pos (by omega)], hM, CK.rf D⟩
            · refine V_iload (pc := 88) hX rfl dX6_two_88 ?_
              refine V_goto (pc := 90) (off := 27) (tgt := 117) hX (by decide) dX6_two_90 ?_
              refine V_istore (pc := 117) hX (by decide) rfl dX6_two_117 ?_
              refine V_iload (pc := 119) hX rfl dX6_two_119 ?_
              refine Z_if_eq (pc := 121) (tgt := 128) hX (by omega) dX6_two_121 (by decide) (fun h => absurd h (by decide)) (fun _ => ?_)
              refine V_iconst (pc := 124) (z := 1) hX (oI 1) rfl dX6_two_124 ?_
              refine V_goto (pc := 125) (off := 4) (tgt := 129) hX (by decide) dX6_two_125 ?_
              refine V_iret (pc := 129) hX hR dX6_two_129 ?_
              refine ⟨_, rfl, ?_⟩
              rw [twoO, if_pos (by omega), Int.toNat_natCast, Int.toNat_natCast]
              exact ⟨by rw [twV, if_pos (by omega)], hM, CK.rf D⟩
          · refine V_iload (pc := 60) hX rfl dX6_two_60 ?_
            refine Z_if_eq (pc := 62) (tgt := 79) hX (by omega) dX6_two_62 (by decide) (fun h => absurd h (by decide)) (fun _ => ?_)
            refine V_iload (pc := 65) hX rfl dX6_two_65 ?_
            refine V_aload_n (pc := 67) (j := 0) hX 0 rfl rfl dX6_two_67 ?_
            refine V_iload_n (pc := 68) (j := 2) hX 2 rfl rfl dX6_two_68 ?_
            refine cVI1 (pc := 69) hX (c_X6_cells (a := b) (by omega)) (by decide) st_X6_101 ix_20 rfl rfl rfl (Nat.le_of_ble_eq_true rfl) dX6_two_69 ?_
            refine Z_icmp_ne (pc := 72) (tgt := 79) hX (by omega) (by omega) dX6_two_72 (by decide) (fun h72 => ?_) (fun h72 => ?_)
            · refine V_iconst (pc := 79) (z := 0) hX (oI 0) rfl dX6_two_79 ?_
              refine V_goto (pc := 80) (off := 37) (tgt := 117) hX (by decide) dX6_two_80 ?_
              refine V_istore (pc := 117) hX (by decide) rfl dX6_two_117 ?_
              refine V_iload (pc := 119) hX rfl dX6_two_119 ?_
              refine Z_if_eq (pc := 121) (tgt := 128) hX (by omega) dX6_two_121 (by decide) (fun _ => ?_) (fun h => absurd h (by decide))
              refine V_iconst (pc := 128) (z := 0) hX (oI 0) rfl dX6_two_128 ?_
              refine V_iret (pc := 129) hX hR dX6_two_129 ?_
              refine ⟨_, rfl, ?_⟩
              rw [twoO, if_pos (by omega), Int.toNat_natCast, Int.toNat_natCast]
              exact ⟨by rw [twV, if_neg (by omega)], hM, CK.rf D⟩
            · refine V_iconst (pc := 75) (z := 1) hX (oI 1) rfl dX6_two_75 ?_
              refine V_goto (pc := 76) (off := 41) (tgt := 117) hX (by decide) dX6_two_76 ?_
              refine V_istore (pc := 117) hX (by decide) rfl dX6_two_117 ?_
              refine V_iload (pc := 119) hX rfl dX6_two_119 ?_
              refine Z_if_eq (pc := 121) (tgt := 128) hX (by omega) dX6_two_121 (by decide) (fun h => absurd h (by decide)) (fun _ => ?_)
              refine V_iconst (pc := 124) (z := 1) hX (oI 1) rfl dX6_two_124 ?_
              refine V_goto (pc := 125) (off := 4) (tgt := 129) hX (by decide) dX6_two_125 ?_
              refine V_iret (pc := 129) hX hR dX6_two_129 ?_
              refine ⟨_, rfl, ?_⟩
              rw [twoO, if_pos (by omega), Int.toNat_natCast, Int.toNat_natCast]
              exact ⟨by rw [twV, if_pos (by omega)], hM, CK.rf D⟩
      · have q20 := inB_f.mp h20
        refine V_aload_n (pc := 23) (j := 0) hX 0 rfl rfl dX6_two_23 ?_
        refine V_sipush (pc := 24) (z := (-202)) hX (oI (-202)) (by decide) dX6_two_24 ?_
        refine cVI1 (pc := 27) hX (c_X6_refuses (by omega)) (by decide) st_X6_105 ix_20 rfl rfl rfl (Nat.le_of_ble_eq_true rfl) dX6_two_27 ?_
        refine V_iret (pc := 30) hX hR dX6_two_30 ?_
        exact ⟨_, rfl, by rw [twoO, if_neg (by omega)]; exact Pub_bad hM⟩
noncomputable def ofV (S : Cl) (w : Int) : Int := if w = 0 then (cntC S : Int) else if w = 1 then (nbC S : Int) else if w = 2 then (nsC S : Int) else if w = 3 then (nPart S : Int) else if w = 4 then (sidC S : Int) else bdV S w
noncomputable def ofO (σ : AS) (a w : Int) : Int × AS := if (0 ≤ a ∧ a ≤ 4) ∧ 0 ≤ w ∧ w ≤ 8 then (ofV (σ.1 a.toNat) w, σ) else badA σ
theorem c_X6_of {E : Le} {l : Launch} {D : Dt} {σ : AS} {a w : Int} (r_a : Rg a) (r_w : Rg w) (hM : Mst D σ) : ConIp E l yX6_of cX6_of 3 (some .int) 6 [.ref (E.1 (20, 0)), .int (oI a), .int (oI w)] D (PubP D (ofO σ a w)) := by
  refine Con_of (by decide) (Nat.le_of_ble_eq_true rfl) ?_
  intro X hX hR hl; subst hl
  refine V_iload_n (pc := 0) (j := 1) hX 1 rfl rfl dX6_of_0 ?_
  refine cSI1 (pc := 1) hX (c_X6_isArea (by omega)) (by decide) st_X6_129 (Nat.le_of_ble_eq_true rfl) dX6_of_1 ?_
  refine B_if_eq (pc := 4) (tgt := 17) hX dX6_of_4 (by decide) (fun h4 => ?_) (fun h4 => ?_)
  · have q4 := inB_f.mp h4
    refine V_aload_n (pc := 17) (j := 0) hX 0 rfl rfl dX6_of_17 ?_
    refine V_sipush (pc := 18) (z := (-202)) hX (oI (-202)) (by decide) dX6_of_18 ?_
    refine cVI1 (pc := 21) hX (c_X6_refuses (by omega)) (by decide) st_X6_105 ix_20 rfl rfl rfl (Nat.le_of_ble_eq_true rfl) dX6_of_21 ?_
    refine V_iret (pc := 24) hX hR dX6_of_24 ?_
    exact ⟨_, rfl, by rw [ofO, if_neg (by omega)]; exact Pub_bad hM⟩
  · have q4 := inB_t.mp h4
    refine V_iload_n (pc := 7) (j := 2) hX 2 rfl rfl dX6_of_7 ?_
    refine V_iconst (pc := 8) (z := 0) hX (oI 0) rfl dX6_of_8 ?_
    refine V_bipush (pc := 9) (z := 8) hX (oI 8) (by decide) dX6_of_9 ?_
    refine cSI3 (pc := 11) hX (c_X6_in (by omega) (by omega) (by omega)) (by decide) st_X6_33 (Nat.le_of_ble_eq_true rfl) dX6_of_11 ?_
    refine B_if_ne (pc := 14) (tgt := 25) hX dX6_of_14 (by decide) (fun h14 => ?_) (fun h14 => ?_)
    · have q14 := inB_t.mp h14
      obtain ⟨a, rfl⟩ : ∃ N0 : Nat, a = (N0 : Int) := ⟨a.toNat, by omega⟩
      refine V_iload_n (pc := 25) (j := 2) hX 2 rfl rfl dX6_of_25 ?_
      by_cases h26_0 : w = 0
      · refine Z_tableIn (pc := 26) (tgt := 60) hX 0 h26_0 (by decide) (by decide) (by decide) dX6_of_26 rfl (by decide) ?_
        refine V_aload_n (pc := 60) (j := 0) hX 0 rfl rfl dX6_of_60 ?_
        refine V_iload_n (pc := 61) (j := 1) hX 1 rfl rfl dX6_of_61 ?_
        refine cVI1 (pc := 62) hX (c_X6_cells (a := a) (by omega)) (by decide) st_X6_101 ix_20 rfl rfl rfl (Nat.le_of_ble_eq_true rfl) dX6_of_62 ?_
        refine V_iret (pc := 65) hX hR dX6_of_65 ?_
        refine ⟨_, rfl, ?_⟩
        rw [ofO, if_pos (by omega), Int.toNat_natCast, ofV, if_pos (by omega)]
        exact ⟨by rw [AR_cnt (hM.1 a (by omega)).1], hM, CK.rf D⟩
      by_cases h26_1 : w = 1
      · refine Z_tableIn (pc := 26) (tgt := 66) hX 1 h26_1 (by decide) (by decide) (by decide) dX6_of_26 rfl (by decide) ?_
        refine V_aload_n (pc := 66) (j := 0) hX 0 rfl rfl dX6_of_66 ?_
        refine V_iload_n (pc := 67) (j := 1) hX 1 rfl rfl dX6_of_67 ?_
        refine V_iconst (pc := 68) (z := 0) hX (oI 0) rfl dX6_of_68 ?_
        refine V_iconst (pc := 69) (z := 0) hX (oI 0) rfl dX6_of_69 ?_
        refine V_iconst (pc := 70) (z := 0) hX (oI 0) rfl dX6_of_70 ?_
        refine cVV4 (pc := 71) hX (c_X6_forms (a := a) (by omega) (by omega)) (by decide) st_X6_94 ix_20 rfl rfl rfl (Nat.le_of_ble_eq_true rfl) dX6_of_71 ?_
        refine V_aload_n (pc := 74) (j := 0) hX 0 rfl rfl dX6_of_74 ?_
        refine gf_X6_81 (pc := 75) hX dX6_of_75 ?_
        refine V_iret (pc := 78) hX hR dX6_of_78 ?_
        refine ⟨_, rfl, ?_⟩
        rw [ofO, if_pos (by omega), Int.toNat_natCast, ofV, if_neg (by omega), if_pos (by omega)]
        exact ⟨(form_n (hM.1 a (by omega)).1 _ _ _ _).2, hM.form a _ _ _, (Fr_form D _ a _ _ _).ck⟩
      by_cases h26_2 : w = 2
      · refine Z_tableIn (pc := 26) (tgt := 79) hX 2 h26_2 (by decide) (by decide) (by decide) dX6_of_26 rfl (by decide) ?_
        refine V_aload_n (pc := 79) (j := 0) hX 0 rfl rfl dX6_of_79 ?_
        refine V_iload_n (pc := 80) (j := 1) hX 1 rfl rfl dX6_of_80 ?_
        refine V_iconst (pc := 81) (z := 0) hX (oI 0) rfl dX6_of_81 ?_
        refine V_iconst (pc := 82) (z := 0) hX (oI 0) rfl dX6_of_82 ?_
        refine V_iconst (pc := 83) (z := 0) hX (oI 0) rfl dX6_of_83 ?_
        refine cVV4 (pc := 84) hX (c_X6_forms (a := a) (by omega) (by omega)) (by decide) st_X6_94 ix_20 rfl rfl rfl (Nat.le_of_ble_eq_true rfl) dX6_of_84 ?_
        refine V_aload_n (pc := 87) (j := 0) hX 0 rfl rfl dX6_of_87 ?_
        refine gf_X6_68 (pc := 88) hX dX6_of_88 ?_
        refine V_iret (pc := 91) hX hR dX6_of_91 ?_
        refine ⟨_, rfl, ?_⟩
        rw [ofO, if_pos (by omega), Int.toNat_natCast, ofV, if_neg (by omega), if_neg (by omega), if_pos (by omega)]
        exact ⟨(form_n (hM.1 a (by omega)).1 _ _ _ _).1, hM.form a _ _ _, (Fr_form D _ a _ _ _).ck⟩
      by_cases h26_3 : w = 3
      · refine Z_tableIn (pc := 26) (tgt := 92) hX 3 h26_3 (by decide) (by decide) (by decide) dX6_of_26 rfl (by decide) ?_
        refine V_aload_n (pc := 92) (j := 0) hX 0 rfl rfl dX6_of_92 ?_
        refine V_iload_n (pc := 93) (j := 1) hX 1 rfl rfl dX6_of_93 ?_
        refine cVIp1 (pc := 94) hX (c_X6_partsOf (a := a) (by omega) (hM.1 a (by omega)).1) (by decide) st_X6_182 ix_20 rfl rfl rfl (Nat.le_of_ble_eq_true rfl) dX6_of_94 (fun r94 D94 h94 => ?_)
        refine V_iret (pc := 97) hX hR dX6_of_97 ?_
        refine ⟨_, rfl, ?_⟩
        rw [ofO, if_pos (by omega), Int.toNat_natCast, ofV, if_neg (by omega), if_neg (by omega), if_neg (by omega), if_pos (by omega)]
        exact ⟨h94.1, hM.fr h94.2.1 h94.2.2, h94.2.1.ck⟩
      by_cases h26_4 : w = 4
      · refine Z_tableIn (pc := 26) (tgt := 98) hX 4 h26_4 (by decide) (by decide) (by decide) dX6_of_26 rfl (by decide) ?_
        refine V_aload_n (pc := 98) (j := 0) hX 0 rfl rfl dX6_of_98 ?_
        refine V_iload_n (pc := 99) (j := 1) hX 1 rfl rfl dX6_of_99 ?_
        refine cVI1 (pc := 100) hX (c_X6_sides (a := a) (by omega) (hM.1 a (by omega)).1) (by decide) st_X6_185 ix_20 rfl rfl rfl (Nat.le_of_ble_eq_true rfl) dX6_of_100 ?_
        refine V_iret (pc := 103) hX hR dX6_of_103 ?_
        refine ⟨_, rfl, ?_⟩
        rw [ofO, if_pos (by omega), Int.toNat_natCast, ofV, if_neg (by omega), if_neg (by omega), if_neg (by omega), if_neg (by omega), if_pos (by omega)]
        exact ⟨rfl, hM, CK.rf D⟩
      refine Z_tableOut (pc := 26) (tgt := 104) hX (by omega) (by omega) dX6_of_26 (by decide) ?_
      refine V_aload_n (pc := 104) (j := 0) hX 0 rfl rfl dX6_of_104 ?_
      refine V_iload_n (pc := 105) (j := 1) hX 1 rfl rfl dX6_of_105 ?_
      refine V_iload_n (pc := 106) (j := 2) hX 2 rfl rfl dX6_of_106 ?_
      refine cVI2 (pc := 107) hX (c_X6_bound (a := a) (by omega) (by omega) (hM.1 a (by omega)).1) (by decide) st_X6_188 ix_20 rfl rfl rfl (Nat.le_of_ble_eq_true rfl) dX6_of_107 ?_
      refine V_iret (pc := 110) hX hR dX6_of_110 ?_
      refine ⟨_, rfl, ?_⟩
      rw [ofO, if_pos (by omega), Int.toNat_natCast, ofV, if_neg (by omega), if_neg (by omega), if_neg (by omega), if_neg (by omega), if_neg (by omega)]
      exact ⟨rfl, hM, CK.rf D⟩
    · have q14 := inB_f.mp h14
      refine V_aload_n (pc := 17) (j := 0) hX 0 rfl rfl dX6_of_17 ?_
      refine V_sipush (pc := 18) (z := (-202)) hX (oI (-202)) (by decide) dX6_of_18 ?_
      refine cVI1 (pc := 21) hX (c_X6_refuses (by omega)) (by decide) st_X6_105 ix_20 rfl rfl rfl (Nat.le_of_ble_eq_true rfl) dX6_of_21 ?_
      refine V_iret (pc := 24) hX hR dX6_of_24 ?_
      exact ⟨_, rfl, by rw [ofO, if_neg (by omega)]; exact Pub_bad hM⟩
