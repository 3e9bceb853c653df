theorem rp_pd {S : Cl} {x y : Int} {i j : Nat} (hx : x = (i : Int) - 61) (hy : y = (j : Int) - 61) : rpC S y x = pd S i j := by
  subst hx; subst hy
  unfold rpC pd
  by_cases h : (1 ≤ i ∧ i ≤ 120) ∧ 1 ≤ j ∧ j ≤ 120
  · rw [cellB_t.mpr (by omega), decide_eq_true h, Bool.true_and, Bool.true_and]
    congr 1 <;> omega
  · rw [cellB_f.mpr (by omega), decide_eq_false h]; rfl
def nz (b : Bool) : Nat := if b then 0 else 1
/-- sides of a cell beside which there is none -/
def sd4 (S : Cl) (i j : Nat) : Nat := if S i j then ((nz (pd S i (j + 1)) + nz (pd S (i + 2) (j + 1))) + nz (pd S (i + 1) j)) + nz (pd S (i + 1) (j + 2)) else 0
def sidC (S : Cl) : Nat := fb_sm (fun j => fb_sm (fun i => sd4 S i j) 120) 120
theorem c_X6_sides {E : Le} {l : Launch} {D : Dt} {A : Cl} {a : Nat} (ha : a < 5) (hA : AR (D.2.1 21 0) a A) : ConI E l yX6_sides cX6_sides 5 (some .int) 4 [.ref (E.1 (20, 0)), .int (oI (a : Int))] D (oI (sidC A : Int)) D := by
  refine Con_of (by decide) (Nat.le_of_ble_eq_true rfl) ?_
  intro X hX hR hl; subst hl
  have outer : ∀ (m v : Nat), v ≤ 120 → 120 - v < m → Vw E X 5 D 5 [(0, some (.ref (E.1 (20, 0)))), (1, some (.int (oI (a : Int)))), (2, some (.int (oI ((fb_sm (fun j => fb_sm (fun i => sd4 A i j) 120) v + fb_sm (fun i => sd4 A i v) 0 : Nat) : Int)))), (3, some (.int (oI ((v : Int) - 60))))] [] := by
    intro m
    induction m with
    | zero => intro v g1 g4; omega
    | succ m ihO =>
      intro v g1 g4
      have inner : v < 120 → ∀ (m u : Nat), u ≤ 120 → 120 - u < m → Vw E X 5 D 15 [(0, some (.ref (E.1 (20, 0)))), (1, some (.int (oI (a : Int)))), (2, some (.int (oI ((fb_sm (fun j => fb_sm (fun i => sd4 A i j) 120) v + fb_sm (fun i => sd4 A i v) u : Nat) : Int)))), (3, some (.int (oI ((v : Int) - 60)))), (4, some (.int (oI ((u : Int) - 60))))] [] := by
        intro hv m
        induction m with
        | zero => intro u g1 g4; omega
        | succ m ih =>
          intro u g1 g4
          refine V_iload (pc := 15) hX rfl dX6_sides_15 ?_
          refine V_bipush (pc := 17) (z := 59) hX (oI 59) (by decide) dX6_sides_17 ?_
          refine Z_icmp_gt (pc := 19) (tgt := 117) hX (by omega) (by omega) dX6_sides_19 (by decide) (fun h19 => ?_) (fun h19 => ?_)
          · refine Z_iinc (pc := 117) hX 1 rfl rfl dX6_sides_117 ?_
            refine V_goto (pc := 120) (off := (-115)) (tgt := 5) hX (by decide) dX6_sides_120 ?_
            have e : u = 120 := by omega
            subst e
            refine V_cut [(0, some (.ref (E.1 (20, 0)))), (1, some (.int (oI (a : Int)))), (2, some (.int (oI ((fb_sm (fun j => fb_sm (fun i => sd4 A i j) 120) (v + 1) + fb_sm (fun i => sd4 A i (v + 1)) 0 : Nat) : Int)))), (3, some (.int (oI (((v + 1 : Nat) : Int) - 60))))] ⟨rfl, rfl, congrArg (fun q => some (Value.int (oI q))) (by rw [fb_sm_succ]; rfl), congrArg (fun q => some (Value.int (oI q))) (by omega), trivial⟩ ?_
            exact ihO (v + 1) (by omega) (by omega)
          · refine V_aload_n (pc := 22) (j := 0) hX 0 rfl rfl dX6_sides_22 ?_
            refine V_iload_n (pc := 23) (j := 1) hX 1 rfl rfl dX6_sides_23 ?_
            refine V_iload (pc := 24) hX rfl dX6_sides_24 ?_
            refine V_iload_n (pc := 26) (j := 3) hX 3 rfl rfl dX6_sides_26 ?_
            refine cVI3 (pc := 27) hX (c_X6_has (a := a) (by omega) (by omega) (by omega)) (by decide) st_X6_65 ix_20 rfl rfl rfl (Nat.le_of_ble_eq_true rfl) dX6_sides_27 ?_
            refine B_if_eq (pc := 30) (tgt := 111) hX dX6_sides_30 (by decide) (fun h30 => ?_) (fun h30 => ?_)
            · rw [AR_has hA, rp_pd (i := u + 1) (j := v + 1) (by omega) (by omega)] at h30
              refine Z_iinc (pc := 111) hX 1 rfl rfl dX6_sides_111 ?_
              refine V_goto (pc := 114) (off := (-99)) (tgt := 15) hX (by decide) dX6_sides_114 ?_
              have hc : sd4 A u v = 0 := by rw [pd_in (by omega) (by omega)] at h30; rw [sd4, h30]; rfl
              refine V_cut [(0, some (.ref (E.1 (20, 0)))), (1, some (.int (oI (a : Int)))), (2, some (.int (oI ((fb_sm (fun j => fb_sm (fun i => sd4 A i j) 120) v + fb_sm (fun i => sd4 A i v) (u + 1) : Nat) : Int)))), (3, some (.int (oI ((v : Int) - 60)))), (4, some (.int (oI (((u + 1 : Nat) : Int) - 60))))] ⟨rfl, rfl, congrArg (fun q => some (Value.int (oI q))) (by rw [fb_sm_succ, hc]; omega), rfl, congrArg (fun q => some (Value.int (oI q))) (by omega), trivial⟩ ?_
              exact ih (u + 1) (by omega) (by omega)
            · rw [AR_has hA, rp_pd (i := u + 1) (j := v + 1) (by omega) (by omega)] at h30
              refine V_iload_n (pc := 33) (j := 2) hX 2 rfl rfl dX6_sides_33 ?_
              refine V_aload_n (pc := 34) (j := 0) hX 0 rfl rfl dX6_sides_34 ?_
              refine V_iload_n (pc := 35) (j := 1) hX 1 rfl rfl dX6_sides_35 ?_
              refine V_iload (pc := 36) hX rfl dX6_sides_36 ?_
              refine V_iconst (pc := 38) (z := 1) hX (oI 1) rfl dX6_sides_38 ?_
              refine Z_isub (pc := 39) hX dX6_sides_39 ?_
              refine V_iload_n (pc := 40) (j := 3) hX 3 rfl rfl dX6_sides_40 ?_
              refine cVI3 (pc := 41) hX (c_X6_has (a := a) (by omega) (by omega) (by omega)) (by decide) st_X6_65 ix_20 rfl rfl rfl (Nat.le_of_ble_eq_true rfl) dX6_sides_41 ?_
              refine B_if_eq (pc := 44) (tgt := 51) hX dX6_sides_44 (by decide) (fun h44 => ?_) (fun h44 => ?_)
              · rw [AR_has hA, rp_pd (i := u) (j := v + 1) (by omega) (by omega)] at h44
                refine V_iconst (pc := 51) (z := 1) hX (oI 1) rfl dX6_sides_51 ?_
                refine V_aload_n (pc := 52) (j := 0) hX 0 rfl rfl dX6_sides_52 ?_
                refine V_iload_n (pc := 53) (j := 1) hX 1 rfl rfl dX6_sides_53 ?_
                refine V_iload (pc := 54) hX rfl dX6_sides_54 ?_
                refine V_iconst (pc := 56) (z := 1) hX (oI 1) rfl dX6_sides_56 ?_
                refine Z_iadd (pc := 57) hX dX6_sides_57 ?_
                refine V_iload_n (pc := 58) (j := 3) hX 3 rfl rfl dX6_sides_58 ?_
                refine cVI3 (pc := 59) hX (c_X6_has (a := a) (by omega) (by omega) (by omega)) (by decide) st_X6_65 ix_20 rfl rfl rfl (Nat.le_of_ble_eq_true rfl) dX6_sides_59 ?_
                refine B_if_eq (pc := 62) (tgt := 69) hX dX6_sides_62 (by decide) (fun h62 => ?_) (fun h62 => ?_)
                · rw [AR_has hA, rp_pd (i := u + 2) (j := v + 1) (by omega) (by omega)] at h62
                  refine V_iconst (pc := 69) (z := 1) hX (oI 1) rfl dX6_sides_69 ?_
                  refine Z_iadd (pc := 70) hX dX6_sides_70 ?_
                  refine V_aload_n (pc := 71) (j := 0) hX 0 rfl rfl dX6_sides_71 ?_
                  refine V_iload_n (pc := 72) (j := 1) hX 1 rfl rfl dX6_sides_72 ?_
                  refine V_iload (pc := 73) hX rfl dX6_sides_73 ?_
                  refine V_iload_n (pc := 75) (j := 3) hX 3 rfl rfl dX6_sides_75 ?_
                  refine V_iconst (pc := 76) (z := 1) hX (oI 1) rfl dX6_sides_76 ?_
                  refine Z_isub (pc := 77) hX dX6_sides_77 ?_
                  refine cVI3 (pc := 78) hX (c_X6_has (a := a) (by omega) (by omega) (by omega)) (by decide) st_X6_65 ix_20 rfl rfl rfl (Nat.le_of_ble_eq_true rfl) dX6_sides_78 ?_
                  refine B_if_eq (pc := 81) (tgt := 88) hX dX6_sides_81 (by decide) (fun h81 => ?_) (fun h81 => ?_)
                  · rw [AR_has hA, rp_pd (i := u + 1) (j := v) (by omega) (by omega)] at h81
                    refine V_iconst (pc := 88) (z := 1) hX (oI 1) rfl dX6_sides_88 ?_
                    refine Z_iadd (pc := 89) hX dX6_sides_89 ?_
                    refine V_aload_n (pc := 90) (j := 0) hX 0 rfl rfl dX6_sides_90 ?_
                    refine V_iload_n (pc := 91) (j := 1) hX 1 rfl rfl dX6_sides_91 ?_
                    refine V_iload (pc := 92) hX rfl dX6_sides_92 ?_
                    refine V_iload_n (pc := 94) (j := 3) hX 3 rfl rfl dX6_sides_94 ?_
                    refine V_iconst (pc := 95) (z := 1) hX (oI 1) rfl dX6_sides_95 ?_
                    refine Z_iadd (pc := 96) hX dX6_sides_96 ?_
                    refine cVI3 (pc := 97) hX (c_X6_has (a := a) (by omega) (by omega) (by omega)) (by decide) st_X6_65 ix_20 rfl rfl rfl (Nat.le_of_ble_eq_true rfl) dX6_sides_97 ?_
                    refine B_if_eq (pc := 100) (tgt := 107) hX dX6_sides_100 (by decide) (fun h100 => ?_) (fun h100 => ?_)
                    · rw [AR_has hA, rp_pd (i := u + 1) (j := v + 2) (by omega) (by omega)] at h100
                      refine V_iconst (pc := 107) (z := 1) hX (oI 1) rfl dX6_sides_107 ?_
                      refine Z_iadd (pc := 108) hX dX6_sides_108 ?_
                      refine Z_iadd (pc := 109) hX dX6_sides_109 ?_
                      refine V_istore_n (pc := 110) (j := 2) hX 2 rfl (by decide) rfl dX6_sides_110 ?_
                      refine Z_iinc (pc := 111) hX 1 rfl rfl dX6_sides_111 ?_
                      refine V_goto (pc := 114) (off := (-99)) (tgt := 15) hX (by decide) dX6_sides_114 ?_
                      have hc : sd4 A u v = 4 := by rw [pd_in (by omega) (by omega)] at h30; rw [sd4, h30, h44, h62, h81, h100]; rfl
                      refine V_cut [(0, some (.ref (E.1 (20, 0)))), (1, some (.int (oI (a : Int)))), (2, some (.int (oI ((fb_sm (fun j => fb_sm (fun i => sd4 A i j) 120) v + fb_sm (fun i => sd4 A i v) (u + 1) : Nat) : Int)))), (3, some (.int (oI ((v : Int) - 60)))), (4, some (.int (oI (((u + 1 : Nat) : Int) - 60))))] ⟨rfl, rfl, congrArg (fun q => some (Value.int (oI q))) (by rw [fb_sm_succ, hc]; omega), rfl, congrArg (fun q => some (Value.int (oI q))) (by omega), trivial⟩ ?_
                      exact ih (u + 1) (by omega) (by omega)
                    · rw [AR_has hA, rp_pd (i := u + 1) (j := v + 2) (by omega) (by omega)] at h100
                      refine V_iconst (pc := 103) (z := 0) hX (oI 0) rfl dX6_sides_103 ?_
                      refine V_goto (pc := 104) (off := 4) (tgt := 108) hX (by decide) dX6_sides_104 ?_
                      refine Z_iadd (pc := 108) hX dX6_sides_108 ?_
                      refine Z_iadd (pc := 109) hX dX6_sides_109 ?_
                      refine V_istore_n (pc := 110) (j := 2) hX 2 rfl (by decide) rfl dX6_sides_110 ?_
                      refine Z_iinc (pc := 111) hX 1 rfl rfl dX6_sides_111 ?_
                      refine V_goto (pc := 114) (off := (-99)) (tgt := 15) hX (by decide) dX6_sides_114 ?_
                      have hc : sd4 A u v = 3 := by rw [pd_in (by omega) (by omega)] at h30; rw [sd4, h30, h44, h62, h81, h100]; rfl
                      refine V_cut [(0, some (.ref (E.1 (20, 0)))), (1, some (.int (oI (a : Int)))), (2, some (.int (oI ((fb_sm (fun j => fb_sm (fun i => sd4 A i j) 120) v + fb_sm (fun i => sd4 A i v) (u + 1) : Nat) : Int)))), (3, some (.int (oI ((v : Int) - 60)))), (4, some (.int (oI (((u + 1 : Nat) : Int) - 60))))] ⟨rfl, rfl, congrArg (fun q => some (Value.int (oI q))) (by rw [fb_sm_succ, hc]; omega), rfl, congrArg (fun q => some (Value.int (oI q))) (by omega), trivial⟩ ?_
                      exact ih (u + 1) (by omega) (by omega)
                  · rw [AR_has hA, rp_pd (i := u + 1) (j := v) (by omega) (by omega)] at h81
                    refine V_iconst (pc := 84) (z := 0) hX (oI 0) rfl dX6_sides_84 ?_
                    refine V_goto (pc := 85) (off := 4) (tgt := 89) hX (by decide) dX6_sides_85 ?_
                    refine Z_iadd (pc := 89) hX dX6_sides_89 ?_
                    refine V_aload_n (pc := 90) (j := 0) hX 0 rfl rfl dX6_sides_90 ?_
                    refine V_iload_n (pc := 91) (j := 1) hX 1 rfl rfl dX6_sides_91 ?_
                    refine V_iload (pc := 92) hX rfl dX6_sides_92 ?_
                    refine V_iload_n (pc := 94) (j := 3) hX 3 rfl rfl dX6_sides_94 ?_
                    refine V_iconst (pc := 95) (z := 1) hX (oI 1) rfl dX6_sides_95 ?_
                    refine Z_iadd (pc := 96) hX dX6_sides_96 ?_
                    refine cVI3 (pc := 97) hX (c_X6_has (a := a) (by omega) (by omega) (by omega)) (by decide) st_X6_65 ix_20 rfl rfl rfl (Nat.le_of_ble_eq_true rfl) dX6_sides_97 ?_
                    refine B_if_eq (pc := 100) (tgt := 107) hX dX6_sides_100 (by decide) (fun h100 => ?_) (fun h100 => ?_)
                    · rw [AR_has hA, rp_pd (i := u + 1) (j := v + 2) (by omega) (by omega)] at h100
                      refine V_iconst (pc := 107) (z := 1) hX (oI 1) rfl dX6_sides_107 ?_
                      refine Z_iadd (pc := 108) hX dX6_sides_108 ?_
                      refine Z_iadd (pc := 109) hX dX6_sides_109 ?_
                      refine V_istore_n (pc := 110) (j := 2) hX 2 rfl (by decide) rfl dX6_sides_110 ?_
                      refine Z_iinc (pc := 111) hX 1 rfl rfl dX6_sides_111 ?_
                      refine V_goto (pc := 114) (off := (-99)) (tgt := 15) hX (by decide) dX6_sides_114 ?_
                      have hc : sd4 A u v = 3 := by rw [pd_in (by omega) (by omega)] at h30; rw [sd4, h30, h44, h62, h81, h100]; rfl
                      refine V_cut [(0, some (.ref (E.1 (20, 0)))), (1, some (.int (oI (a : Int)))), (2, some (.int (oI ((fb_sm (fun j => fb_sm (fun i => sd4 A i j) 120) v + fb_sm (fun i => sd4 A i v) (u + 1) : Nat) : Int)))), (3, some (.int (oI ((v : Int) - 60)))), (4, some (.int (oI (((u + 1 : Nat) : Int) - 60))))] ⟨rfl, rfl, congrArg (fun q => some (Value.int (oI q))) (by rw [fb_sm_succ, hc]; omega), rfl, congrArg (fun q => some (Value.int (oI q))) (by omega), trivial⟩ ?_
                      exact ih (u + 1) (by omega) (by omega)
                    · rw [AR_has hA, rp_pd (i := u + 1) (j := v + 2) (by omega) (by omega)] at h100
                      refine V_iconst (pc := 103) (z := 0) hX (oI 0) rfl dX6_sides_103 ?_
                      refine V_goto (pc := 104) (off := 4) (tgt := 108) hX (by decide) dX6_sides_104 ?_
                      refine Z_iadd (pc := 108) hX dX6_sides_108 ?_
                      refine Z_iadd (pc := 109) hX dX6_sides_109 ?_
                      refine V_istore_n (pc := 110) (j := 2) hX 2 rfl (by decide) rfl dX6_sides_110 ?_
                      refine Z_iinc (pc := 111) hX 1 rfl rfl dX6_sides_111 ?_
                      refine V_goto (pc := 114) (off := (-99)) (tgt := 15) hX (by decide) dX6_sides_114 ?_
                      have hc : sd4 A u v = 2 := by rw [pd_in (by omega) (by omega)] at h30; rw [sd4, h30, h44, h62, h81, h100]; rfl
                      refine V_cut [(0, some (.ref (E.1 (20, 0)))), (1, some (.int (oI (a : Int)))), (2, some (.int (oI ((fb_sm (fun j => fb_sm (fun i => sd4 A i j) 120) v + fb_sm (fun i => sd4 A i v) (u + 1) : Nat) : Int)))), (3, some (.int (oI ((v : Int) - 60)))), (4, some (.int (oI (((u + 1 : Nat) : Int) - 60))))] ⟨rfl, rfl, congrArg (fun q => some (Value.int (oI q))) (by rw [fb_sm_succ, hc]; omega), rfl, congrArg (fun q => some (Value.int (oI q))) (by omega), trivial⟩ ?_
                      exact ih (u + 1) (by omega) (by omega)
                · rw [AR_has hA, rp_pd (i := u + 2) (j := v + 1) (by omega) (by omega)] at h62
                  refine V_iconst (pc := 65) (z := 0) hX (oI 0) rfl dX6_sides_65 ?_
                  refine V_goto (pc := 66) (off := 4) (tgt := 70) hX (by decide) dX6_sides_66 ?_
                  refine Z_iadd (pc := 70) hX dX6_sides_70 ?_
                  refine V_aload_n (pc := 71) (j := 0) hX 0 rfl rfl dX6_sides_71 ?_
                  refine V_iload_n (pc := 72) (j := 1) hX 1 rfl rfl dX6_sides_72 ?_
                  refine V_iload (pc := 73) hX rfl dX6_sides_73 ?_
                  refine V_iload_n (pc := 75) (j := 3) hX 3 rfl rfl dX6_sides_75 ?_
                  refine V_iconst (pc := 76) (z := 1) hX (oI 1) rfl dX6_sides_76 ?_
                  refine Z_isub (pc := 77) hX dX6_sides_77 ?_
                  refine cVI3 (pc := 78) hX (c_X6_has (a := a) (by omega) (by omega) (by omega)) (by decide) st_X6_65 ix_20 rfl rfl rfl (Nat.le_of_ble_eq_true rfl) dX6_sides_78 ?_
                  refine B_if_eq (pc := 81) (tgt := 88) hX dX6_sides_81 (by decide) (fun h81 => ?_) (fun h81 => ?_)
                  · rw [AR_has hA, rp_pd (i := u + 1) (j := v) (by omega) (by omega)] at h81
                    refine V_iconst (pc := 88) (z := 1) hX (oI 1) rfl dX6_sides_88 ?_
                    refine Z_iadd (pc := 89) hX dX6_sides_89 ?_
                    refine V_aload_n (pc := 90) (j := 0) hX 0 rfl rfl dX6_sides_90 ?_
                    refine V_iload_n (pc := 91) (j := 1) hX 1 rfl rfl dX6_sides_91 ?_
                    refine V_iload (pc := 92) hX rfl dX6_sides_92 ?_
                    refine V_iload_n (pc := 94) (j := 3) hX 3 rfl rfl dX6_sides_94 ?_
                    refine V_iconst (pc := 95) (z := 1) hX (oI 1) rfl dX6_sides_95 ?_
                    refine Z_iadd (pc := 96) hX dX6_sides_96 ?_
                    refine cVI3 (pc := 97) hX (c_X6_has (a := a) (by omega) (by omega) (by omega)) (by decide) st_X6_65 ix_20 rfl rfl rfl (Nat.le_of_ble_eq_true rfl) dX6_sides_97 ?_
                    refine B_if_eq (pc := 100) (tgt := 107) hX dX6_sides_100 (by decide) (fun h100 => ?_) (fun h100 => ?_)
                    · rw [AR_has hA, rp_pd (i := u + 1) (j := v + 2) (by omega) (by omega)] at h100
                      refine V_iconst (pc := 107) (z := 1) hX (oI 1) rfl dX6_sides_107 ?_
                      refine Z_iadd (pc := 108) hX dX6_sides_108 ?_
                      refine Z_iadd (pc := 109) hX dX6_sides_109 ?_
                      refine V_istore_n (pc := 110) (j := 2) hX 2 rfl (by decide) rfl dX6_sides_110 ?_
                      refine Z_iinc (pc := 111) hX 1 rfl rfl dX6_sides_111 ?_
                      refine V_goto (pc := 114) (off := (-99)) (tgt := 15) hX (by decide) dX6_sides_114 ?_
                      have hc : sd4 A u v = 3 := by rw [pd_in (by omega) (by omega)] at h30; rw [sd4, h30, h44, h62, h81, h100]; rfl
                      refine V_cut [(0, some (.ref (E.1 (20, 0)))), (1, some (.int (oI (a : Int)))), (2, some (.int (oI ((fb_sm (fun j => fb_sm (fun i => sd4 A i j) 120) v + fb_sm (fun i => sd4 A i v) (u + 1) : Nat) : Int)))), (3, some (.int (oI ((v : Int) - 60)))), (4, some (.int (oI (((u + 1 : Nat) : Int) - 60))))] ⟨rfl, rfl, congrArg (fun q => some (Value.int (oI q))) (by rw [fb_sm_succ, hc]; omega), rfl, congrArg (fun q => some (Value.int (oI q))) (by omega), trivial⟩ ?_
                      exact ih (u + 1) (by omega) (by omega)
                    · rw [AR_has hA, rp_pd (i := u + 1) (j := v + 2) (by omega) (by omega)] at h100
                      refine V_iconst (pc := 103) (z := 0) hX (oI 0) rfl dX6_sides_103 ?_
                      refine V_goto (pc := 104) (off := 4) (tgt := 108) hX (by decide) dX6_sides_104 ?_
                      refine Z_iadd (pc := 108) hX dX6_sides_108 ?_
                      refine Z_iadd (pc := 109) hX dX6_sides_109 ?_
                      refine V_istore_n (pc := 110) (j := 2) hX 2 rfl (by decide) rfl dX6_sides_110 ?_
                      refine Z_iinc (pc := 111) hX 1 rfl rfl dX6_sides_111 ?_
                      refine V_goto (pc := 114) (off := (-99)) (tgt := 15) hX (by decide) dX6_sides_114 ?_
                      have hc : sd4 A u v = 2 := by rw [pd_in (by omega) (by omega)] at h30; rw [sd4, h30, h44, h62, h81, h100]; rfl
                      refine V_cut [(0, some (.ref (E.1 (20, 0)))), (1, some (.int (oI (a : Int)))), (2, some (.int (oI ((fb_sm (fun j => fb_sm (fun i => sd4 A i j) 120) v + fb_sm (fun i => sd4 A i v) (u + 1) : Nat) : Int)))), (3, some (.int (oI ((v : Int) - 60)))), (4, some (.int (oI (((u + 1 : Nat) : Int) - 60))))] ⟨rfl, rfl, congrArg (fun q => some (Value.int (oI q))) (by rw [fb_sm_succ, hc]; omega), rfl, congrArg (fun q => some (Value.int (oI q))) (by omega), trivial⟩ ?_
                      exact ih (u + 1) (by omega) (by omega)
                  · rw [AR_has hA, rp_pd (i := u + 1) (j := v) (by omega) (by omega)] at h81
                    refine V_iconst (pc := 84) (z := 0) hX (oI 0) rfl dX6_sides_84 ?_
                    refine V_goto (pc := 85) (off := 4) (tgt := 89) hX (by decide) dX6_sides_85 ?_
                    refine Z_iadd (pc := 89) hX dX6_sides_89 ?_
                    refine V_aload_n (pc := 90) (j := 0) hX 0 rfl rfl dX6_sides_90 ?_
                    refine V_iload_n (pc := 91) (j := 1) hX 1 rfl rfl dX6_sides_91 ?_
                    refine V_iload (pc := 92) hX rfl dX6_sides_92 ?_
                    refine V_iload_n (pc := 94) (j := 3) hX 3 rfl rfl dX6_sides_94 ?_
                    refine V_iconst (pc := 95) (z := 1) hX (oI 1) rfl dX6_sides_95 ?_
                    refine Z_iadd (pc := 96) hX dX6_sides_96 ?_
                    refine cVI3 (pc := 97) hX (c_X6_has (a := a) (by omega) (by omega) (by omega)) (by decide) st_X6_65 ix_20 rfl rfl rfl (Nat.le_of_ble_eq_true rfl) dX6_sides_97 ?_
                    refine B_if_eq (pc := 100) (tgt := 107) hX dX6_sides_100 (by decide) (fun h100 => ?_) (fun h100 => ?_)
                    · rw [AR_has hA, rp_pd (i := u + 1) (j := v + 2) (by omega) (by omega)] at h100
                      refine V_iconst (pc := 107) (z := 1) hX (oI 1) rfl dX6_sides_107 ?_
                      refine Z_iadd (pc := 108) hX dX6_sides_108 ?_
                      refine Z_iadd (pc := 109) hX dX6_sides_109 ?_
                      refine V_istore_n (pc := 110) (j := 2) hX 2 rfl (by decide) rfl dX6_sides_110 ?_
                      refine Z_iinc (pc := 111) hX 1 rfl rfl dX6_sides_111 ?_
                      refine V_goto (pc := 114) (off := (-99)) (tgt := 15) hX (by decide) dX6_sides_114 ?_
                      have hc : sd4 A u v = 2 := by rw [pd_in (by omega) (by omega)] at h30; rw [sd4, h30, h44, h62, h81, h100]; rfl
                      refine V_cut [(0, some (.ref (E.1 (20, 0)))), (1, some (.int (oI (a : Int)))), (2, some (.int (oI ((fb_sm (fun j => fb_sm (fun i => sd4 A i j) 120) v + fb_sm (fun i => sd4 A i v) (u + 1) : Nat) : Int)))), (3, some (.int (oI ((v : Int) - 60)))), (4, some (.int (oI (((u + 1 : Nat) : Int) - 60))))] ⟨rfl, rfl, congrArg (fun q => some (Value.int (oI q))) (by rw [fb_sm_succ, hc]; omega), rfl, congrArg (fun q => some (Value.int (oI q))) (by omega), trivial⟩ ?_
                      exact ih (u + 1) (by omega) (by omega)
                    · rw [AR_has hA, rp_pd (i := u + 1) (j := v + 2) (by omega) (by omega)] at h100
                      refine V_iconst (pc := 103) (z := 0) hX (oI 0) rfl dX6_sides_103 ?_
                      refine V_goto (pc := 104) (off := 4) (tgt := 108) hX (by decide) dX6_sides_104 ?_
                      refine Z_iadd (pc := 108) hX dX6_sides_108 ?_
                      refine Z_iadd (pc := 109) hX dX6_sides_109 ?_
                      refine V_istore_n (pc := 110) (j := 2) hX 2 rfl (by decide) rfl dX6_sides_110 ?_
                      refine Z_iinc (pc := 111) hX 1 rfl rfl dX6_sides_111 ?_
                      refine V_goto (pc := 114) (off := (-99)) (tgt := 15) hX (by decide) dX6_sides_114 ?_
                      have hc : sd4 A u v = 1 := by rw [pd_in (by omega) (by omega)] at h30; rw [sd4, h30, h44, h62, h81, h100]; rfl
                      refine V_cut [(0, some (.ref (E.1 (20, 0)))), (1, some (.int (oI (a : Int)))), (2, some (.int (oI ((fb_sm (fun j => fb_sm (fun i => sd4 A i j) 120) v + fb_sm (fun i => sd4 A i v) (u + 1) : Nat) : Int)))), (3, some (.int (oI ((v : Int) - 60)))), (4, some (.int (oI (((u + 1 : Nat) : Int) - 60))))] ⟨rfl, rfl, congrArg (fun q => some (Value.int (oI q))) (by rw [fb_sm_succ, hc]; omega), rfl, congrArg (fun q => some (Value.int (oI q))) (by omega), trivial⟩ ?_
                      exact ih (u + 1) (by omega) (by omega)
              · rw [AR_has hA, rp_pd (i := u) (j := v + 1) (by omega) (by omega)] at h44
                refine V_iconst (pc := 47) (z := 0) hX (oI 0) rfl dX6_sides_47 ?_
                refine V_goto (pc := 48) (off := 4) (tgt := 52) hX (by decide) dX6_sides_48 ?_
                refine V_aload_n (pc := 52) (j := 0) hX 0 rfl rfl dX6_sides_52 ?_
                refine V_iload_n (pc := 53) (j := 1) hX 1 rfl rfl dX6_sides_53 ?_
                refine V_iload (pc := 54) hX rfl dX6_sides_54 ?_
                refine V_iconst (pc := 56) (z := 1) hX (oI 1) rfl dX6_sides_56 ?_
                refine Z_iadd (pc := 57) hX dX6_sides_57 ?_
                refine V_iload_n (pc := 58) (j := 3) hX 3 rfl rfl dX6_sides_58 ?_
                refine cVI3 (pc := 59) hX (c_X6_has (a := a) (by omega) (by omega) (by omega)) (by decide) st_X6_65 ix_20 rfl rfl rfl (Nat.le_of_ble_eq_true rfl) dX6_sides_59 ?_
                refine B_if_eq (pc := 62) (tgt := 69) hX dX6_sides_62 (by decide) (fun h62 => ?_) (fun h62 => ?_)
                · rw [AR_has hA, rp_pd (i := u + 2) (j := v + 1) (by omega) (by omega)] at h62
                  refine V_iconst (pc := 69) (z := 1) hX (oI 1) rfl dX6_sides_69 ?_
                  refine Z_iadd (pc := 70) hX dX6_sides_70 ?_
                  refine V_aload_n (pc := 71) (j := 0) hX 0 rfl rfl dX6_sides_71 ?_
                  refine V_iload_n (pc := 72) (j := 1) hX 1 rfl rfl dX6_sides_72 ?_
                  refine V_iload (pc := 73) hX rfl dX6_sides_73 ?_
                  refine V_iload_n (pc := 75) (j := 3) hX 3 rfl rfl dX6_sides_75 ?_
                  refine V_iconst (pc := 76) (z := 1) hX (oI 1) rfl dX6_sides_76 ?_
                  refine Z_isub (pc := 77) hX dX6_sides_77 ?_
                  refine cVI3 (pc := 78) hX (c_X6_has (a := a) (by omega) (by omega) (by omega)) (by decide) st_X6_65 ix_20 rfl rfl rfl (Nat.le_of_ble_eq_true rfl) dX6_sides_78 ?_
                  refine B_if_eq (pc := 81) (tgt := 88) hX dX6_sides_81 (by decide) (fun h81 => ?_) (fun h81 => ?_)
                  · rw [AR_has hA, rp_pd (i := u + 1) (j := v) (by omega) (by omega)] at h81
                    refine V_iconst (pc := 88) (z := 1) hX (oI 1) rfl dX6_sides_88 ?_
                    refine Z_iadd (pc := 89) hX dX6_sides_89 ?_
                    refine V_aload_n (pc := 90) (j := 0) hX 0 rfl rfl dX6_sides_90 ?_
                    refine V_iload_n (pc := 91) (j := 1) hX 1 rfl rfl dX6_sides_91 ?_
                    refine V_iload (pc := 92) hX rfl dX6_sides_92 ?_
                    refine V_iload_n (pc := 94) (j := 3) hX 3 rfl rfl dX6_sides_94 ?_
                    refine V_iconst (pc := 95) (z := 1) hX (oI 1) rfl dX6_sides_95 ?_
                    refine Z_iadd (pc := 96) hX dX6_sides_96 ?_
                    refine cVI3 (pc := 97) hX (c_X6_has (a := a) (by omega) (by omega) (by omega)) (by decide) st_X6_65 ix_20 rfl rfl rfl (Nat.le_of_ble_eq_true rfl) dX6_sides_97 ?_
                    refine B_if_eq (pc := 100) (tgt := 107) hX dX6_sides_100 (by decide) (fun h100 => ?_) (fun h100 => ?_)
                    · rw [AR_has hA, rp_pd (i := u + 1) (j := v + 2) (by omega) (by omega)] at h100
                      refine V_iconst (pc := 107) (z := 1) hX (oI 1) rfl dX6_sides_107 ?_
                      refine Z_iadd (pc := 108) hX dX6_sides_108 ?_
                      refine Z_iadd (pc := 109) hX dX6_sides_109 ?_
                      refine V_istore_n (pc := 110) (j := 2) hX 2 rfl (by decide) rfl dX6_sides_110 ?_
                      refine Z_iinc (pc := 111) hX 1 rfl rfl dX6_sides_111 ?_
                      refine V_goto (pc := 114) (off := (-99)) (tgt := 15) hX (by decide) dX6_sides_114 ?_
                      have hc : sd4 A u v = 3 := by rw [pd_in (by omega) (by omega)] at h30; rw [sd4, h30, h44, h62, h81, h100]; rfl
                      refine V_cut [(0, some (.ref (E.1 (20, 0)))), (1, some (.int (oI (a : Int)))), (2, some (.int (oI ((fb_sm (fun j => fb_sm (fun i => sd4 A i j) 120) v + fb_sm (fun i => sd4 A i v) (u + 1) : Nat) : Int)))), (3, some (.int (oI ((v : Int) - 60)))), (4, some (.int (oI (((u + 1 : Nat) : Int) - 60))))] ⟨rfl, rfl, congrArg (fun q => some (Value.int (oI q))) (by rw [fb_sm_succ, hc]; omega), rfl, congrArg (fun q => some (Value.int (oI q))) (by omega), trivial⟩ ?_
                      exact ih (u + 1) (by omega) (by omega)
                    · rw [AR_has hA, rp_pd (i := u + 1) (j := v + 2) (by omega) (by omega)] at h100
                      refine V_iconst (pc := 103) (z := 0) hX (oI 0) rfl dX6_sides_103 ?_
                      refine V_goto (pc := 104) (off := 4) (tgt := 108) hX (by decide) dX6_sides_104 ?_
                      refine Z_iadd (pc := 108) hX dX6_sides_108 ?_
                      refine Z_iadd (pc := 109) hX dX6_sides_109 ?_
                      refine V_istore_n (pc := 110) (j := 2) hX 2 rfl (by decide) rfl dX6_sides_110 ?_
                      refine Z_iinc (pc := 111) hX 1 rfl rfl dX6_sides_111 ?_
                      refine V_goto (pc := 114) (off := (-99)) (tgt := 15) hX (by decide) dX6_sides_114 ?_
                      have hc : sd4 A u v = 2 := by rw [pd_in (by omega) (by omega)] at h30; rw [sd4, h30, h44, h62, h81, h100]; rfl
                      refine V_cut [(0, some (.ref (E.1 (20, 0)))), (1, some (.int (oI (a : Int)))), (2, some (.int (oI ((fb_sm (fun j => fb_sm (fun i => sd4 A i j) 120) v + fb_sm (fun i => sd4 A i v) (u + 1) : Nat) : Int)))), (3, some (.int (oI ((v : Int) - 60)))), (4, some (.int (oI (((u + 1 : Nat) : Int) - 60))))] ⟨rfl, rfl, congrArg (fun q => some (Value.int (oI q))) (by rw [fb_sm_succ, hc]; omega), rfl, congrArg (fun q => some (Value.int (oI q))) (by omega), trivial⟩ ?_
                      exact ih (u + 1) (by omega) (by omega)
                  · rw [AR_has hA, rp_pd (i := u + 1) (j := v) (by omega) (by omega)] at h81
                    refine V_iconst (pc := 84) (z := 0) hX (oI 0) rfl dX6_sides_84 ?_
                    refine V_goto (pc := 85) (off := 4) (tgt := 89) hX (by decide) dX6_sides_85 ?_
                    refine Z_iadd (pc := 89) hX dX6_sides_89 ?_
                    refine V_aload_n (pc := 90) (j := 0) hX 0 rfl rfl dX6_sides_90 ?_
                    refine V_iload_n (pc := 91) (j := 1) hX 1 rfl rfl dX6_sides_91 ?_
                    refine V_iload (pc := 92) hX rfl dX6_sides_92 ?_
                    refine V_iload_n (pc := 94) (j := 3) hX 3 rfl rfl dX6_sides_94 ?_
                    refine V_iconst (pc := 95) (z := 1) hX (oI 1) rfl dX6_sides_95 ?_
                    refine Z_iadd (pc := 96) hX dX6_sides_96 ?_
                    refine cVI3 (pc := 97) hX (c_X6_has (a := a) (by omega) (by omega) (by omega)) (by decide) st_X6_65 ix_20 rfl rfl rfl (Nat.le_of_ble_eq_true rfl) dX6_sides_97 ?_
                    refine B_if_eq (pc := 100) (tgt := 107) hX dX6_sides_100 (by decide) (fun h100 => ?_) (fun h100 => ?_)
                    · rw [AR_has hA, rp_pd (i := u + 1) (j := v + 2) (by omega) (by omega)] at h100
                      refine V_iconst (pc := 107) (z := 1) hX (oI 1) rfl dX6_sides_107 ?_
                      refine Z_iadd (pc := 108) hX dX6_sides_108 ?_
                      refine Z_iadd (pc := 109) hX dX6_sides_109 ?_
                      refine V_istore_n (pc := 110) (j := 2) hX 2 rfl (by decide) rfl dX6_sides_110 ?_
                      refine Z_iinc (pc := 111) hX 1 rfl rfl dX6_sides_111 ?_
                      refine V_goto (pc := 114) (off := (-99)) (tgt := 15) hX (by decide) dX6_sides_114 ?_
                      have hc : sd4 A u v = 2 := by rw [pd_in (by omega) (by omega)] at h30; rw [sd4, h30, h44, h62, h81, h100]; rfl
                      refine V_cut [(0, some (.ref (E.1 (20, 0)))), (1, some (.int (oI (a : Int)))), (2, some (.int (oI ((fb_sm (fun j => fb_sm (fun i => sd4 A i j) 120) v + fb_sm (fun i => sd4 A i v) (u + 1) : Nat) : Int)))), (3, some (.int (oI ((v : Int) - 60)))), (4, some (.int (oI (((u + 1 : Nat) : Int) - 60))))] ⟨rfl, rfl, congrArg (fun q => some (Value.int (oI q))) (by rw [fb_sm_succ, hc]; omega), rfl, congrArg (fun q => some (Value.int (oI q))) (by omega), trivial⟩ ?_
                      exact ih (u + 1) (by omega) (by omega)
                    · rw [AR_has hA, rp_pd (i := u + 1) (j := v + 2) (by omega) (by omega)] at h100
                      refine V_iconst (pc := 103) (z := 0) hX (oI 0) rfl dX6_sides_103 ?_
                      refine V_goto (pc := 104) (off := 4) (tgt := 108) hX (by decide) dX6_sides_104 ?_
                      refine Z_iadd (pc := 108) hX dX6_sides_108 ?_
                      refine Z_iadd (pc := 109) hX dX6_sides_109 ?_
                      refine V_istore_n (pc := 110) (j := 2) hX 2 rfl (by decide) rfl dX6_sides_110 ?_
                      refine Z_iinc (pc := 111) hX 1 rfl rfl dX6_sides_111 ?_
                      refine V_goto (pc := 114) (off := (-99)) (tgt := 15) hX (by decide) dX6_sides_114 ?_
                      have hc : sd4 A u v = 1 := by rw [pd_in (by omega) (by omega)] at h30; rw [sd4, h30, h44, h62, h81, h100]; rfl
                      refine V_cut [(0, some (.ref (E.1 (20, 0)))), (1, some (.int (oI (a : Int)))), (2, some (.int (oI ((fb_sm (fun j => fb_sm (fun i => sd4 A i j) 120) v + fb_sm (fun i => sd4 A i v) (u + 1) : Nat) : Int)))), (3, some (.int (oI ((v : Int) - 60)))), (4, some (.int (oI (((u + 1 : Nat) : Int) - 60))))] ⟨rfl, rfl, congrArg (fun q => some (Value.int (oI q))) (by rw [fb_sm_succ, hc]; omega), rfl, congrArg (fun q => some (Value.int (oI q))) (by omega), trivial⟩ ?_
                      exact ih (u + 1) (by omega) (by omega)
                · rw [AR_has hA, rp_pd (i := u + 2) (j := v + 1) (by omega) (by omega)] at h62
                  refine V_iconst (pc := 65) (z := 0) hX (oI 0) rfl dX6_sides_65 ?_
                  refine V_goto (pc := 66) (off := 4) (tgt := 70) hX (by decide) dX6_sides_66 ?_
                  refine Z_iadd (pc := 70) hX dX6_sides_70 ?_
                  refine V_aload_n (pc := 71) (j := 0) hX 0 rfl rfl dX6_sides_71 ?_
                  refine V_iload_n (pc := 72) (j := 1) hX 1 rfl rfl dX6_sides_72 ?_
                  refine V_iload (pc := 73) hX rfl dX6_sides_73 ?_
                  refine V_iload_n (pc := 75) (j := 3) hX 3 rfl rfl dX6_sides_75 ?_
                  refine V_iconst (pc := 76) (z := 1) hX (oI 1) rfl dX6_sides_76 ?_
                  refine Z_isub (pc := 77) hX dX6_sides_77 ?_
                  refine cVI3 (pc := 78) hX (c_X6_has (a := a) (by omega) (by omega) (by omega)) (by decide) st_X6_65 ix_20 rfl rfl rfl (Nat.le_of_ble_eq_true rfl) dX6_sides_78 ?_
                  refine B_if_eq (pc := 81) (tgt := 88) hX dX6_sides_81 (by decide) (fun h81 => ?_) (fun h81 => ?_)
                  · rw [AR_has hA, rp_pd (i := u + 1) (j := v) (by omega) (by omega)] at h81
                    refine V_iconst (pc := 88) (z := 1) hX (oI 1) rfl dX6_sides_88 ?_
                    refine Z_iadd (pc := 89) hX dX6_sides_89 ?_
                    refine V_aload_n (pc := 90) (j := 0) hX 0 rfl rfl dX6_sides_90 ?_
                    refine V_iload_n (pc := 91) (j := 1) hX 1 rfl rfl dX6_sides_91 ?_
                    refine V_iload (pc := 92) hX rfl dX6_sides_92 ?_
                    refine V_iload_n (pc := 94) (j := 3) hX 3 rfl rfl dX6_sides_94 ?_
                    refine V_iconst (pc := 95) (z := 1) hX (oI 1) rfl dX6_sides_95 ?_
                    refine Z_iadd (pc := 96) hX dX6_sides_96 ?_
                    refine cVI3 (pc := 97) hX (c_X6_has (a := a) (by omega) (by omega) (by omega)) (by decide) st_X6_65 ix_20 rfl rfl rfl (Nat.le_of_ble_eq_true rfl) dX6_sides_97 ?_
                    refine B_if_eq (pc := 100) (tgt := 107) hX dX6_sides_100 (by decide) (fun h100 => ?_) (fun h100 => ?_)
                    · rw [AR_has hA, rp_pd (i := u + 1) (j := v + 2) (by omega) (by omega)] at h100
                      refine V_iconst (pc := 107) (z := 1) hX (oI 1) rfl dX6_sides_107 ?_
                      refine Z_iadd (pc := 108) hX dX6_sides_108 ?_
                      refine Z_iadd (pc := 109) hX dX6_sides_109 ?_
                      refine V_istore_n (pc := 110) (j := 2) hX 2 rfl (by decide) rfl dX6_sides_110 ?_
                      refine Z_iinc (pc := 111) hX 1 rfl rfl dX6_sides_111 ?_
                      refine V_goto (pc := 114) (off := (-99)) (tgt := 15) hX (by decide) dX6_sides_114 ?_
                      have hc : sd4 A u v = 2 := by rw [pd_in (by omega) (by omega)] at h30; rw [sd4, h30, h44, h62, h81, h100]; rfl
                      refine V_cut [(0, some (.ref (E.1 (20, 0)))), (1, some (.int (oI (a : Int)))), (2, some (.int (oI ((fb_sm (fun j => fb_sm (fun i => sd4 A i j) 120) v + fb_sm (fun i => sd4 A i v) (u + 1) : Nat) : Int)))), (3, some (.int (oI ((v : Int) - 60)))), (4, some (.int (oI (((u + 1 : Nat) : Int) - 60))))] ⟨rfl, rfl, congrArg (fun q => some (Value.int (oI q))) (by rw [fb_sm_succ, hc]; omega), rfl, congrArg (fun q => some (Value.int (oI q))) (by omega), trivial⟩ ?_
                      exact ih (u + 1) (by omega) (by omega)
                    · rw [AR_has hA, rp_pd (i := u + 1) (j := v + 2) (by omega) (by omega)] at h100
                      refine V_iconst (pc := 103) (z := 0) hX (oI 0) rfl dX6_sides_103 ?_
                      refine V_goto (pc := 104) (off := 4) (tgt := 108) hX (by decide) dX6_sides_104 ?_
                      refine Z_iadd (pc := 108) hX dX6_sides_108 ?_
                      refine Z_iadd (pc := 109) hX dX6_sides_109 ?_
                      refine V_istore_n (pc := 110) (j := 2) hX 2 rfl (by decide) rfl dX6_sides_110 ?_
                      refine Z_iinc (pc := 111) hX 1 rfl rfl dX6_sides_111 ?_
                      refine V_goto (pc := 114) (off := (-99)) (tgt := 15) hX (by decide) dX6_sides_114 ?_
                      have hc : sd4 A u v = 1 := by rw [pd_in (by omega) (by omega)] at h30; rw [sd4, h30, h44, h62, h81, h100]; rfl
                      refine V_cut [(0, some (.ref (E.1 (20, 0)))), (1, some (.int (oI (a : Int)))), (2, some (.int (oI ((fb_sm (fun j => fb_sm (fun i => sd4 A i j) 120) v + fb_sm (fun i => sd4 A i v) (u + 1) : Nat) : Int)))), (3, some (.int (oI ((v : Int) - 60)))), (4, some (.int (oI (((u + 1 : Nat) : Int) - 60))))] ⟨rfl, rfl, congrArg (fun q => some (Value.int (oI q))) (by rw [fb_sm_succ, hc]; omega), rfl, congrArg (fun q => some (Value.int (oI q))) (by omega), trivial⟩ ?_
                      exact ih (u + 1) (by omega) (by omega)
                  · rw [AR_has hA, rp_pd (i := u + 1) (j := v) (by omega) (by omega)] at h81
                    refine V_iconst (pc := 84) (z := 0) hX (oI 0) rfl dX6_sides_84 ?_
                    refine V_goto (pc := 85) (off := 4) (tgt := 89) hX (by decide) dX6_sides_85 ?_
                    refine Z_iadd (pc := 89) hX dX6_sides_89 ?_
                    refine V_aload_n (pc := 90) (j := 0) hX 0 rfl rfl dX6_sides_90 ?_
                    refine V_iload_n (pc := 91) (j := 1) hX 1 rfl rfl dX6_sides_91 ?_
                    refine V_iload (pc := 92) hX rfl dX6_sides_92 ?_
                    refine V_iload_n (pc := 94) (j := 3) hX 3 rfl rfl dX6_sides_94 ?_
                    refine V_iconst (pc := 95) (z := 1) hX (oI 1) rfl dX6_sides_95 ?_
                    refine Z_iadd (pc := 96) hX dX6_sides_96 ?_
                    refine cVI3 (pc := 97) hX (c_X6_has (a := a) (by omega) (by omega) (by omega)) (by decide) st_X6_65 ix_20 rfl rfl rfl (Nat.le_of_ble_eq_true rfl) dX6_sides_97 ?_
                    refine B_if_eq (pc := 100) (tgt := 107) hX dX6_sides_100 (by decide) (fun h100 => ?_) (fun h100 => ?_)
                    · rw [AR_has hA, rp_pd (i := u + 1) (j := v + 2) (by omega) (by omega)] at h100
                      refine V_iconst (pc := 107) (z := 1) hX (oI 1) rfl dX6_sides_107 ?_
                      refine Z_iadd (pc := 108) hX dX6_sides_108 ?_
                      refine Z_iadd (pc := 109) hX dX6_sides_109 ?_
                      refine V_istore_n (pc := 110) (j := 2) hX 2 rfl (by decide) rfl dX6_sides_110 ?_
                      refine Z_iinc (pc := 111) hX 1 rfl rfl dX6_sides_111 ?_
                      refine V_goto (pc := 114) (off := (-99)) (tgt := 15) hX (by decide) dX6_sides_114 ?_
                      have hc : sd4 A u v = 1 := by rw [pd_in (by omega) (by omega)] at h30; rw [sd4, h30, h44, h62, h81, h100]; rfl
                      refine V_cut [(0, some (.ref (E.1 (20, 0)))), (1, some (.int (oI (a : Int)))), (2, some (.int (oI ((fb_sm (fun j => fb_sm (fun i => sd4 A i j) 120) v + fb_sm (fun i => sd4 A i v) (u + 1) : Nat) : Int)))), (3, some (.int (oI ((v : Int) - 60)))), (4, some (.int (oI (((u + 1 : Nat) : Int) - 60))))] ⟨rfl, rfl, congrArg (fun q => some (Value.int (oI q))) (by rw [fb_sm_succ, hc]; omega), rfl, congrArg (fun q => some (Value.int (oI q))) (by omega), trivial⟩ ?_
                      exact ih (u + 1) (by omega) (by omega)
                    · rw [AR_has hA, rp_pd (i := u + 1) (j := v + 2) (by omega) (by omega)] at h100
                      refine V_iconst (pc := 103) (z := 0) hX (oI 0) rfl dX6_sides_103 ?_
                      refine V_goto (pc := 104) (off := 4) (tgt := 108) hX (by decide) dX6_sides_104 ?_
                      refine Z_iadd (pc := 108) hX dX6_sides_108 ?_
                      refine Z_iadd (pc := 109) hX dX6_sides_109 ?_
                      refine V_istore_n (pc := 110) (j := 2) hX 2 rfl (by decide) rfl dX6_sides_110 ?_
                      refine Z_iinc (pc := 111) hX 1 rfl rfl dX6_sides_111 ?_
                      refine V_goto (pc := 114) (off := (-99)) (tgt := 15) hX (by decide) dX6_sides_114 ?_
                      have hc : sd4 A u v = 0 := by rw [pd_in (by omega) (by omega)] at h30; rw [sd4, h30, h44, h62, h81, h100]; rfl
                      refine V_cut [(0, some (.ref (E.1 (20, 0)))), (1, some (.int (oI (a : Int)))), (2, some (.int (oI ((fb_sm (fun j => fb_sm (fun i => sd4 A i j) 120) v + fb_sm (fun i => sd4 A i v) (u + 1) : Nat) : Int)))), (3, some (.int (oI ((v : Int) - 60)))), (4, some (.int (oI (((u + 1 : Nat) : Int) - 60))))] ⟨rfl, rfl, congrArg (fun q => some (Value.int (oI q))) (by rw [fb_sm_succ, hc]; omega), rfl, congrArg (fun q => some (Value.int (oI q))) (by omega), trivial⟩ ?_
                      exact ih (u + 1) (by omega) (by omega)
      refine V_iload_n (pc := 5) (j := 3) hX 3 rfl rfl dX6_sides_5 ?_
      refine V_bipush (pc := 6) (z := 59) hX (oI 59) (by decide) dX6_sides_6 ?_
      refine Z_icmp_gt (pc := 8) (tgt := 123) hX (by omega) (by omega) dX6_sides_8 (by decide) (fun h8 => ?_) (fun h8 => ?_)
      · refine V_iload_n (pc := 123) (j := 2) hX 2 rfl rfl dX6_sides_123 ?_
        refine V_iret (pc := 124) hX hR dX6_sides_124 ?_
        have e : v = 120 := by omega
        subst e
        exact ⟨some_int (by rw [sidC, show fb_sm (fun i => sd4 A i 120) 0 = 0 from rfl, Nat.add_zero]), rfl⟩
      · refine V_bipush (pc := 11) (z := (-60)) hX (oI (-60)) (by decide) dX6_sides_11 ?_
        refine V_istore (pc := 13) hX (by decide) rfl dX6_sides_13 ?_
        refine V_cut [(0, some (.ref (E.1 (20, 0)))), (1, some (.int (oI (a : Int)))), (2, some (.int (oI ((fb_sm (fun j => fb_sm (fun i => sd4 A i j) 120) v + fb_sm (fun i => sd4 A i v) 0 : Nat) : Int)))), (3, some (.int (oI ((v : Int) - 60)))), (4, some (.int (oI (((0 : Nat) : Int) - 60))))] ⟨rfl, rfl, rfl, rfl, rfl, trivial⟩ ?_
        exact inner (by omega) 121 0 (by omega) (by omega)
  refine V_iconst (pc := 0) (z := 0) hX (oI 0) rfl dX6_sides_0 ?_
  refine V_istore_n (pc := 1) (j := 2) hX 2 rfl (by decide) rfl dX6_sides_1 ?_
  refine V_bipush (pc := 2) (z := (-60)) hX (oI (-60)) (by decide) dX6_sides_2 ?_
  refine V_istore_n (pc := 4) (j := 3) hX 3 rfl (by decide) rfl dX6_sides_4 ?_
  refine V_cut [(0, some (.ref (E.1 (20, 0)))), (1, some (.int (oI (a : Int)))), (2, some (.int (oI ((fb_sm (fun j => fb_sm (fun i => sd4 A i j) 120) 0 + fb_sm (fun i => sd4 A i 0) 0 : Nat) : Int)))), (3, some (.int (oI (((0 : Nat) : Int) - 60))))] ⟨rfl, rfl, rfl, rfl, trivial⟩ ?_
  exact outer 121 0 (by omega) (by omega)
def itC (wh : Int) (i j : Nat) : Int := if wh = 5 then (i : Int) - 60 else if wh = 6 then (i : Int) - 60 + 1 else if wh = 7 then (j : Int) - 60 else (j : Int) - 60 + 1
/-- the least (5, 7) or greatest (6, 8) of the cells in Q; NONE, where there is none -/
def BdQ (S : Cl) (wh : Int) (Q : Nat → Nat → Prop) (r : Int) : Prop := ((∃ i, i < 120 ∧ ∃ j, j < 120 ∧ Q i j ∧ S i j = true) → ∃ i, i < 120 ∧ ∃ j, j < 120 ∧ Q i j ∧ S i j = true ∧ itC wh i j = r) ∧ (∀ i, i < 120 → ∀ j, j < 120 → Q i j → S i j = true → ((wh = 5 ∨ wh = 7) → r ≤ itC wh i j) ∧ ((wh = 6 ∨ wh = 8) → itC wh i j ≤ r)) ∧ ((¬ ∃ i, i < 120 ∧ ∃ j, j < 120 ∧ Q i j ∧ S i j = true) → r = -201)
theorem itC_rg {wh : Int} {i j : Nat} (hi : i < 120) (hj : j < 120) : -60 ≤ itC wh i j ∧ itC wh i j ≤ 60 := by
  unfold itC
  split
  · omega
  · split
    · omega
    · split <;> omega
theorem BdQ.one {S : Cl} {wh : Int} {Q : Nat → Nat → Prop} {r t : Int} (hw : 5 ≤ wh ∧ wh ≤ 8) (h : BdQ S wh Q r) (k : BdQ S wh Q t) : r = t := by
  by_cases e : ∃ i, i < 120 ∧ ∃ j, j < 120 ∧ Q i j ∧ S i j = true
  · obtain ⟨i, hi, j, hj, q1, q2, q3⟩ := h.1 e
    obtain ⟨x, hx, y, hy, p1, p2, p3⟩ := k.1 e
    have a1 := h.2.1 x hx y hy p1 p2
    have a2 := k.2.1 i hi j hj q1 q2
    omega
  · rw [h.2.2 e, k.2.2 e]
theorem BdQ.f {S : Cl} {wh : Int} {u v : Nat} {r : Int} (h : BdQ S wh (fun i j => bef i j u v) r) (hf : S u v = false) : BdQ S wh (fun i j => bef i j (u + 1) v) r := by
  have key : ∀ i j, S i j = true → (bef i j (u + 1) v ↔ bef i j u v) := by
    intro i j hS
    have hn : ¬ (i = u ∧ j = v) := fun e => by rw [e.1, e.2, hf] at hS; cases hS
    unfold bef; omega
  refine ⟨fun ⟨i, hi, j, hj, q, s⟩ => ?_, fun i hi j hj q s => h.2.1 i hi j hj ((key i j s).mp q) s, fun e => h.2.2 (fun ⟨i, hi, j, hj, q, s⟩ => e ⟨i, hi, j, hj, (key i j s).mpr q, s⟩)⟩
  obtain ⟨i, hi, j, hj, q, s, t⟩ := h.1 ⟨i, hi, j, hj, (key i j s).mp q, s⟩
  exact ⟨i, hi, j, hj, (key i j s).mpr q, s, t⟩
theorem BdQ.t {S : Cl} {wh : Int} {u v : Nat} {r r2 : Int} (hw : 5 ≤ wh ∧ wh ≤ 8) (hu : u < 120) (hv : v < 120) (h : BdQ S wh (fun i j => bef i j u v) r) (hf : S u v = true) (hr : r2 = if r = -201 ∨ ((wh = 5 ∨ wh = 7) ∧ itC wh u v < r) ∨ (¬ (wh = 5 ∨ wh = 7) ∧ r < itC wh u v) then itC wh u v else r) : BdQ S wh (fun i j => bef i j (u + 1) v) r2 := by
  have key : ∀ i j, bef i j (u + 1) v ↔ (bef i j u v ∨ (i = u ∧ j = v)) := by intro i j; unfold bef; omega
  have hrg := itC_rg (wh := wh) hu hv
  have hne : (∃ i, i < 120 ∧ ∃ j, j < 120 ∧ bef i j u v ∧ S i j = true) → -60 ≤ r ∧ r ≤ 60 := fun e => by
    obtain ⟨i, hi, j, hj, -, -, t⟩ := h.1 e
    have := itC_rg (wh := wh) hi hj
    omega
  refine ⟨fun _ => ?_, fun i hi j hj q s => ?_, fun e => absurd ⟨u, hu, v, hv, (key u v).mpr (Or.inr ⟨rfl, rfl⟩), hf⟩ e⟩
  · by_cases e : ∃ i, i < 120 ∧ ∃ j, j < 120 ∧ bef i j u v ∧ S i j = true
    · by_cases c : r = -201 ∨ ((wh = 5 ∨ wh = 7) ∧ itC wh u v < r) ∨ (¬ (wh = 5 ∨ wh = 7) ∧ r < itC wh u v)
      · rw [if_pos c] at hr
        exact ⟨u, hu, v, hv, (key u v).mpr (Or.inr ⟨rfl, rfl⟩), hf, hr.symm⟩
      · rw [if_neg c] at hr
        obtain ⟨i, hi, j, hj, q, s, t⟩ := h.1 e
        exact ⟨i, hi, j, hj, (key i j).mpr (Or.inl q), s, by rw [hr]; exact t⟩
    · rw [if_pos (Or.inl (h.2.2 e))] at hr
      exact ⟨u, hu, v, hv, (key u v).mpr (Or.inr ⟨rfl, rfl⟩), hf, hr.symm⟩
  · rcases (key i j).mp q with q | ⟨rfl, rfl⟩
    · have a1 := h.2.1 i hi j hj q s
      have a2 := hne ⟨i, hi, j, hj, q, s⟩
      split at hr <;> omega
    · split at hr <;> omega
theorem BdQ.n {S : Cl} {wh : Int} {v : Nat} {r : Int} (h : BdQ S wh (fun i j => bef i j 120 v) r) : BdQ S wh (fun i j => bef i j 0 (v + 1)) r := by
  have key : ∀ i j, i < 120 → (bef i j 120 v ↔ bef i j 0 (v + 1)) := by intro i j hi; unfold bef; omega
  refine ⟨fun ⟨i, hi, j, hj, q, s⟩ => ?_, fun i hi j hj q s => h.2.1 i hi j hj ((key i j hi).mpr q) s, fun e => h.2.2 (fun ⟨i, hi, j, hj, q, s⟩ => e ⟨i, hi, j, hj, (key i j hi).mp q, s⟩)⟩
  obtain ⟨i, hi, j, hj, q, s, t⟩ := h.1 ⟨i, hi, j, hj, (key i j hi).mpr q, s⟩
  exact ⟨i, hi, j, hj, (key i j hi).mp q, s, t⟩
def BdP (S : Cl) (wh r : Int) : Prop := BdQ S wh (fun _ _ => True) r
theorem BdQ.end {S : Cl} {wh : Int} {r : Int} (h : BdQ S wh (fun i j => bef i j 0 120) r) : BdP S wh r := by
  have key : ∀ i j, j < 120 → bef i j 0 120 := by intro i j hj; unfold bef; omega
  refine ⟨fun ⟨i, hi, j, hj, _, s⟩ => ?_, fun i hi j hj _ s => h.2.1 i hi j hj (key i j hj) s, fun e => h.2.2 (fun ⟨i, hi, j, hj, q, s⟩ => e ⟨i, hi, j, hj, trivial, s⟩)⟩
  obtain ⟨i, hi, j, hj, q, s, t⟩ := h.1 ⟨i, hi, j, hj, key i j hj, s⟩
  exact ⟨i, hi, j, hj, trivial, s, t⟩
noncomputable def bdV (S : Cl) (wh : Int) : Int := Classical.epsilon (fun r => BdP S wh r)
theorem bdV_eq {S : Cl} {wh r : Int} (hw : 5 ≤ wh ∧ wh ≤ 8) (h : BdP S wh r) : bdV S wh = r := BdQ.one hw (Classical.epsilon_spec (p := fun r => BdP S wh r) ⟨r, h⟩) h
theorem c_X6_bound {E : Le} {l : Launch} {D : Dt} {A : Cl} {a : Nat} {wh : Int} (ha : a < 5) (hw : 5 ≤ wh ∧ wh ≤ 8) (hA : AR (D.2.1 21 0) a A) : ConI E l yX6_bound cX6_bound 7 (some .int) 4 [.ref (E.1 (20, 0)), .int (oI (a : Int)), .int (oI wh)] D (oI (bdV A wh)) D := by
  refine Con_of (by decide) (Nat.le_of_ble_eq_true rfl) ?_
  intro X hX hR hl; subst hl
  have outer : ∀ (m v : Nat) (r : Int), v ≤ 120 → (-201 ≤ r ∧ r ≤ 60) ∧ BdQ A wh (fun i j => bef i j 0 v) r → 120 - v < m → Vw E X 7 D 8 [(0, some (.ref (E.1 (20, 0)))), (1, some (.int (oI (a : Int)))), (2, some (.int (oI wh))), (3, some (.int (oI r))), (4, some (.int (oI ((v : Int) - 60))))] [] := by
    intro m
    induction m with
    | zero => intro v r g1 g2 g4; omega
    | succ m ihO =>
      intro v r g1 g2 g4
      have inner : v < 120 → ∀ (m u : Nat) (r : Int), u ≤ 120 → (-201 ≤ r ∧ r ≤ 60) ∧ BdQ A wh (fun i j => bef i j u v) r → 120 - u < m → Vw E X 7 D 19 [(0, some (.ref (E.1 (20, 0)))), (1, some (.int (oI (a : Int)))), (2, some (.int (oI wh))), (3, some (.int (oI r))), (4, some (.int (oI ((v : Int) - 60)))), (5, some (.int (oI ((u : Int) - 60))))] [] := by
        intro hv m
        induction m with
        | zero => intro u r g1 g2 g4; omega
        | succ m ih =>
          intro u r g1 g2 g4
          refine V_iload (pc := 19) hX rfl dX6_bound_19 ?_
          refine V_bipush (pc := 21) (z := 59) hX (oI 59) (by decide) dX6_bound_21 ?_
          refine Z_icmp_gt (pc := 23) (tgt := 120) hX (by omega) (by omega) dX6_bound_23 (by decide) (fun h23 => ?_) (fun h23 => ?_)
          · refine Z_iinc (pc := 120) hX 1 rfl rfl dX6_bound_120 ?_
            refine V_goto (pc := 123) (off := (-115)) (tgt := 8) hX (by decide) dX6_bound_123 ?_
            have e : u = 120 := by omega
            subst e
            refine V_cut [(0, some (.ref (E.1 (20, 0)))), (1, some (.int (oI (a : Int)))), (2, some (.int (oI wh))), (3, some (.int (oI r))), (4, some (.int (oI (((v + 1 : Nat) : Int) - 60))))] ⟨rfl, rfl, rfl, rfl, congrArg (fun q => some (Value.int (oI q))) (by omega), trivial⟩ ?_
            exact ihO (v + 1) r (by omega) ⟨g2.1, g2.2.n⟩ (by omega)
          · refine V_aload_n (pc := 26) (j := 0) hX 0 rfl rfl dX6_bound_26 ?_
            refine V_iload_n (pc := 27) (j := 1) hX 1 rfl rfl dX6_bound_27 ?_
            refine V_iload (pc := 28) hX rfl dX6_bound_28 ?_
            refine V_iload (pc := 30) hX rfl dX6_bound_30 ?_
            refine cVI3 (pc := 32) hX (c_X6_has (a := a) (by omega) (by omega) (by omega)) (by decide) st_X6_65 ix_20 rfl rfl rfl (Nat.le_of_ble_eq_true rfl) dX6_bound_32 ?_
            refine B_if_eq (pc := 35) (tgt := 114) hX dX6_bound_35 (by decide) (fun h35 => ?_) (fun h35 => ?_)
            · refine Z_iinc (pc := 114) hX 1 rfl rfl dX6_bound_114 ?_
              refine V_goto (pc := 117) (off := (-98)) (tgt := 19) hX (by decide) dX6_bound_117 ?_
              refine V_cut [(0, some (.ref (E.1 (20, 0)))), (1, some (.int (oI (a : Int)))), (2, some (.int (oI wh))), (3, some (.int (oI r))), (4, some (.int (oI ((v : Int) - 60)))), (5, some (.int (oI (((u + 1 : Nat) : Int) - 60))))] ⟨rfl, rfl, rfl, rfl, rfl, congrArg (fun q => some (Value.int (oI q))) (by omega), trivial⟩ ?_
              rw [AR_has hA, rp_pd (i := u + 1) (j := v + 1) (by omega) (by omega), pd_in (by omega) (by omega)] at h35
              exact ih (u + 1) r (by omega) ⟨g2.1, g2.2.f h35⟩ (by omega)
            · refine V_iload_n (pc := 38) (j := 2) hX 2 rfl rfl dX6_bound_38 ?_
              refine V_iconst (pc := 39) (z := 5) hX (oI 5) rfl dX6_bound_39 ?_
              refine Z_icmp_ne (pc := 40) (tgt := 48) hX (by omega) (by omega) dX6_bound_40 (by decide) (fun h40 => ?_) (fun h40 => ?_)
              · refine V_iload_n (pc := 48) (j := 2) hX 2 rfl rfl dX6_bound_48 ?_
                refine V_bipush (pc := 49) (z := 6) hX (oI 6) (by decide) dX6_bound_49 ?_
                refine Z_icmp_ne (pc := 51) (tgt := 61) hX (by omega) (by omega) dX6_bound_51 (by decide) (fun h51 => ?_) (fun h51 => ?_)
                · refine V_iload_n (pc := 61) (j := 2) hX 2 rfl rfl dX6_bound_61 ?_
                  refine V_bipush (pc := 62) (z := 7) hX (oI 7) (by decide) dX6_bound_62 ?_
                  refine Z_icmp_ne (pc := 64) (tgt := 72) hX (by omega) (by omega) dX6_bound_64 (by decide) (fun h64 => ?_) (fun h64 => ?_)
                  · refine V_iload (pc := 72) hX rfl dX6_bound_72 ?_
                    refine V_iconst (pc := 74) (z := 1) hX (oI 1) rfl dX6_bound_74 ?_
                    refine Z_iadd (pc := 75) hX dX6_bound_75 ?_
                    refine V_istore (pc := 76) hX (by decide) rfl dX6_bound_76 ?_
                    refine V_iload_n (pc := 78) (j := 3) hX 3 rfl rfl dX6_bound_78 ?_
                    refine V_sipush (pc := 79) (z := (-201)) hX (oI (-201)) (by decide) dX6_bound_79 ?_
                    refine Z_icmp_eq (pc := 82) (tgt := 107) hX (by omega) (by omega) dX6_bound_82 (by decide) (fun h82 => ?_) (fun h82 => ?_)
                    · refine V_iload (pc := 107) hX rfl dX6_bound_107 ?_
                      refine V_goto (pc := 109) (off := 4) (tgt := 113) hX (by decide) dX6_bound_109 ?_
                      refine V_istore_n (pc := 113) (j := 3) hX 3 rfl (by decide) rfl dX6_bound_113 ?_
                      refine Z_iinc (pc := 114) hX 1 rfl rfl dX6_bound_114 ?_
                      refine V_goto (pc := 117) (off := (-98)) (tgt := 19) hX (by decide) dX6_bound_117 ?_
                      rw [AR_has hA, rp_pd (i := u + 1) (j := v + 1) (by omega) (by omega), pd_in (by omega) (by omega)] at h35
                      obtain rfl : wh = 8 := by omega
                      have ei : itC 8 u v = (v : Int) - 60 + 1 := rfl
                      have hq := BdQ.t (r2 := (v : Int) - 60 + 1) hw (by omega) hv g2.2 h35 (by rw [ei]; rw [if_pos (by omega)])
                      refine V_cut [(0, some (.ref (E.1 (20, 0)))), (1, some (.int (oI (a : Int)))), (2, some (.int (oI 8))), (3, some (.int (oI ((v : Int) - 60 + 1)))), (4, some (.int (oI ((v : Int) - 60)))), (5, some (.int (oI (((u + 1 : Nat) : Int) - 60))))] ⟨rfl, rfl, rfl, rfl, rfl, congrArg (fun q => some (Value.int (oI q))) (by omega), trivial⟩ ?_
                      exact ih (u + 1) _ (by omega) ⟨by omega, hq⟩ (by omega)
                    · refine V_iload_n (pc := 85) (j := 2) hX 2 rfl rfl dX6_bound_85 ?_
                      refine V_iconst (pc := 86) (z := 2) hX (oI 2) rfl dX6_bound_86 ?_
                      refine Z_irem (pc := 87) hX (by omega) (by omega) (by omega) (by omega) dX6_bound_87 ?_
                      refine V_iconst (pc := 88) (z := 1) hX (oI 1) rfl dX6_bound_88 ?_
                      refine Z_icmp_ne (pc := 89) (tgt := 101) hX (by omega) (by omega) dX6_bound_89 (by decide) (fun h89 => ?_) (fun h89 => ?_)
                      · refine V_iload (pc := 101) hX rfl dX6_bound_101 ?_
                        refine V_iload_n (pc := 103) (j := 3) hX 3 rfl rfl dX6_bound_103 ?_
                        refine Z_icmp_le (pc := 104) (tgt := 112) hX (by omega) (by omega) dX6_bound_104 (by decide) (fun h104 => ?_) (fun h104 => ?_)
                        · refine V_iload_n (pc := 112) (j := 3) hX 3 rfl rfl dX6_bound_112 ?_
                          refine V_istore_n (pc := 113) (j := 3) hX 3 rfl (by decide) rfl dX6_bound_113 ?_
                          refine Z_iinc (pc := 114) hX 1 rfl rfl dX6_bound_114 ?_
                          refine V_goto (pc := 117) (off := (-98)) (tgt := 19) hX (by decide) dX6_bound_117 ?_
                          rw [AR_has hA, rp_pd (i := u + 1) (j := v + 1) (by omega) (by omega), pd_in (by omega) (by omega)] at h35
                          obtain rfl : wh = 8 := by omega
                          have ei : itC 8 u v = (v : Int) - 60 + 1 := rfl
                          have hq := BdQ.t (r2 := r) hw (by omega) hv g2.2 h35 (by rw [ei]; rw [if_neg (by omega)])
                          refine V_cut [(0, some (.ref (E.1 (20, 0)))), (1, some (.int (oI (a : Int)))), (2, some (.int (oI 8))), (3, some (.int (oI (r)))), (4, some (.int (oI ((v : Int) - 60)))), (5, some (.int (oI (((u + 1 : Nat) : Int) - 60))))] ⟨rfl, rfl, rfl, rfl, rfl, congrArg (fun q => some (Value.int (oI q))) (by omega), trivial⟩ ?_
                          exact ih (u + 1) _ (by omega) ⟨by omega, hq⟩ (by omega)
                        · refine V_iload (pc := 107) hX rfl dX6_bound_107 ?_
                          refine V_goto (pc := 109) (off := 4) (tgt := 113) hX (by decide) dX6_bound_109 ?_
                          refine V_istore_n (pc := 113) (j := 3) hX 3 rfl (by decide) rfl dX6_bound_113 ?_
                          refine Z_iinc (pc := 114) hX 1 rfl rfl dX6_bound_114 ?_
                          refine V_goto (pc := 117) (off := (-98)) (tgt := 19) hX (by decide) dX6_bound_117 ?_
                          rw [AR_has hA, rp_pd (i := u + 1) (j := v + 1) (by omega) (by omega), pd_in (by omega) (by omega)] at h35
                          obtain rfl : wh = 8 := by omega
                          have ei : itC 8 u v = (v : Int) - 60 + 1 := rfl
                          have hq := BdQ.t (r2 := (v : Int) - 60 + 1) hw (by omega) hv g2.2 h35 (by rw [ei]; rw [if_pos (by omega)])
                          refine V_cut [(0, some (.ref (E.1 (20, 0)))), (1, some (.int (oI (a : Int)))), (2, some (.int (oI 8))), (3, some (.int (oI ((v : Int) - 60 + 1)))), (4, some (.int (oI ((v : Int) - 60)))), (5, some (.int (oI (((u + 1 : Nat) : Int) - 60))))] ⟨rfl, rfl, rfl, rfl, rfl, congrArg (fun q => some (Value.int (oI q))) (by omega), trivial⟩ ?_
                          exact ih (u + 1) _ (by omega) ⟨by omega, hq⟩ (by omega)
                      · refine V_iload (pc := 92) hX rfl dX6_bound_92 ?_
                        refine V_iload_n (pc := 94) (j := 3) hX 3 rfl rfl dX6_bound_94 ?_
                        refine Z_icmp_ge (pc := 95) (tgt := 112) hX (by omega) (by omega) dX6_bound_95 (by decide) (fun h95 => ?_) (fun h95 => ?_)
                        · refine V_iload_n (pc := 112) (j := 3) hX 3 rfl rfl dX6_bound_112 ?_
                          refine V_istore_n (pc := 113) (j := 3) hX 3 rfl (by decide) rfl dX6_bound_113 ?_
                          refine Z_iinc (pc := 114) hX 1 rfl rfl dX6_bound_114 ?_
                          refine V_goto (pc := 117) (off := (-98)) (tgt := 19) hX (by decide) dX6_bound_117 ?_
                          rw [AR_has hA, rp_pd (i := u + 1) (j := v + 1) (by omega) (by omega), pd_in (by omega) (by omega)] at h35
                          obtain rfl : wh = 8 := by omega
                          have ei : itC 8 u v = (v : Int) - 60 + 1 := rfl
                          have hq := BdQ.t (r2 := r) hw (by omega) hv g2.2 h35 (by rw [ei]; rw [if_neg (by omega)])
                          refine V_cut [(0, some (.ref (E.1 (20, 0)))), (1, some (.int (oI (a : Int)))), (2, some (.int (oI 8))), (3, some (.int (oI (r)))), (4, some (.int (oI ((v : Int) - 60)))), (5, some (.int (oI (((u + 1 : Nat) : Int) - 60))))] ⟨rfl, rfl, rfl, rfl, rfl, congrArg (fun q => some (Value.int (oI q))) (by omega), trivial⟩ ?_
                          exact ih (u + 1) _ (by omega) ⟨by omega, hq⟩ (by omega)
                        · refine V_goto (pc := 98) (off := 9) (tgt := 107) hX (by decide) dX6_bound_98 ?_
                          refine V_iload (pc := 107) hX rfl dX6_bound_107 ?_
                          refine V_goto (pc := 109) (off := 4) (tgt := 113) hX (by decide) dX6_bound_109 ?_
                          refine V_istore_n (pc := 113) (j := 3) hX 3 rfl (by decide) rfl dX6_bound_113 ?_
                          refine Z_iinc (pc := 114) hX 1 rfl rfl dX6_bound_114 ?_
                          refine V_goto (pc := 117) (off := (-98)) (tgt := 19) hX (by decide) dX6_bound_117 ?_
                          rw [AR_has hA, rp_pd (i := u + 1) (j := v + 1) (by omega) (by omega), pd_in (by omega) (by omega)] at h35
                          obtain rfl : wh = 8 := by omega
                          have ei : itC 8 u v = (v : Int) - 60 + 1 := rfl
                          have hq := BdQ.t (r2 := (v : Int) - 60 + 1) hw (by omega) hv g2.2 h35 (by rw [ei]; rw [if_pos (by omega)])
                          refine V_cut [(0, some (.ref (E.1 (20, 0)))), (1, some (.int (oI (a : Int)))), (2, some (.int (oI 8))), (3, some (.int (oI ((v : Int) - 60 + 1)))), (4, some (.int (oI ((v : Int) - 60)))), (5, some (.int (oI (((u + 1 : Nat) : Int) - 60))))] ⟨rfl, rfl, rfl, rfl, rfl, congrArg (fun q => some (Value.int (oI q))) (by omega), trivial⟩ ?_
                          exact ih (u + 1) _ (by omega) ⟨by omega, hq⟩ (by omega)
                  · refine V_iload (pc := 67) hX rfl dX6_bound_67 ?_
                    refine V_goto (pc := 69) (off := 7) (tgt := 76) hX (by decide) dX6_bound_69 ?_
                    refine V_istore (pc := 76) hX (by decide) rfl dX6_bound_76 ?_
                    refine V_iload_n (pc := 78) (j := 3) hX 3 rfl rfl dX6_bound_78 ?_
                    refine V_sipush (pc := 79) (z := (-201)) hX (oI (-201)) (by decide) dX6_bound_79 ?_
                    refine Z_icmp_eq (pc := 82) (tgt := 107) hX (by omega) (by omega) dX6_bound_82 (by decide) (fun h82 => ?_) (fun h82 => ?_)
                    · refine V_iload (pc := 107) hX rfl dX6_bound_107 ?_
                      refine V_goto (pc := 109) (off := 4) (tgt := 113) hX (by decide) dX6_bound_109 ?_
                      refine V_istore_n (pc := 113) (j := 3) hX 3 rfl (by decide) rfl dX6_bound_113 ?_
                      refine Z_iinc (pc := 114) hX 1 rfl rfl dX6_bound_114 ?_
                      refine V_goto (pc := 117) (off := (-98)) (tgt := 19) hX (by decide) dX6_bound_117 ?_
                      rw [AR_has hA, rp_pd (i := u + 1) (j := v + 1) (by omega) (by omega), pd_in (by omega) (by omega)] at h35
                      obtain rfl : wh = 7 := by omega
                      have ei : itC 7 u v = (v : Int) - 60 := rfl
                      have hq := BdQ.t (r2 := (v : Int) - 60) hw (by omega) hv g2.2 h35 (by rw [ei]; rw [if_pos (by omega)])
                      refine V_cut [(0, some (.ref (E.1 (20, 0)))), (1, some (.int (oI (a : Int)))), (2, some (.int (oI 7))), (3, some (.int (oI ((v : Int) - 60)))), (4, some (.int (oI ((v : Int) - 60)))), (5, some (.int (oI (((u + 1 : Nat) : Int) - 60))))] ⟨rfl, rfl, rfl, rfl, rfl, congrArg (fun q => some (Value.int (oI q))) (by omega), trivial⟩ ?_
                      exact ih (u + 1) _ (by omega) ⟨by omega, hq⟩ (by omega)
                    · refine V_iload_n (pc := 85) (j := 2) hX 2 rfl rfl dX6_bound_85 ?_
                      refine V_iconst (pc := 86) (z := 2) hX (oI 2) rfl dX6_bound_86 ?_
                      refine Z_irem (pc := 87) hX (by omega) (by omega) (by omega) (by omega) dX6_bound_87 ?_
                      refine V_iconst (pc := 88) (z := 1) hX (oI 1) rfl dX6_bound_88 ?_
                      refine Z_icmp_ne (pc := 89) (tgt := 101) hX (by omega) (by omega) dX6_bound_89 (by decide) (fun h89 => ?_) (fun h89 => ?_)
                      · refine V_iload (pc := 101) hX rfl dX6_bound_101 ?_
                        refine V_iload_n (pc := 103) (j := 3) hX 3 rfl rfl dX6_bound_103 ?_
                        refine Z_icmp_le (pc := 104) (tgt := 112) hX (by omega) (by omega) dX6_bound_104 (by decide) (fun h104 => ?_) (fun h104 => ?_)
                        · refine V_iload_n (pc := 112) (j := 3) hX 3 rfl rfl dX6_bound_112 ?_
                          refine V_istore_n (pc := 113) (j := 3) hX 3 rfl (by decide) rfl dX6_bound_113 ?_
                          refine Z_iinc (pc := 114) hX 1 rfl rfl dX6_bound_114 ?_
                          refine V_goto (pc := 117) (off := (-98)) (tgt := 19) hX (by decide) dX6_bound_117 ?_
                          rw [AR_has hA, rp_pd (i := u + 1) (j := v + 1) (by omega) (by omega), pd_in (by omega) (by omega)] at h35
                          obtain rfl : wh = 7 := by omega
                          have ei : itC 7 u v = (v : Int) - 60 := rfl
                          have hq := BdQ.t (r2 := r) hw (by omega) hv g2.2 h35 (by rw [ei]; rw [if_neg (by omega)])
                          refine V_cut [(0, some (.ref (E.1 (20, 0)))), (1, some (.int (oI (a : Int)))), (2, some (.int (oI 7))), (3, some (.int (oI (r)))), (4, some (.int (oI ((v : Int) - 60)))), (5, some (.int (oI (((u + 1 : Nat) : Int) - 60))))] ⟨rfl, rfl, rfl, rfl, rfl, congrArg (fun q => some (Value.int (oI q))) (by omega), trivial⟩ ?_
                          exact ih (u + 1) _ (by omega) ⟨by omega, hq⟩ (by omega)
                        · refine V_iload (pc := 107) hX rfl dX6_bound_107 ?_
                          refine V_goto (pc := 109) (off := 4) (tgt := 113) hX (by decide) dX6_bound_109 ?_
                          refine V_istore_n (pc := 113) (j := 3) hX 3 rfl (by decide) rfl dX6_bound_113 ?_
                          refine Z_iinc (pc := 114) hX 1 rfl rfl dX6_bound_114 ?_
                          refine V_goto (pc := 117) (off := (-98)) (tgt := 19) hX (by decide) dX6_bound_117 ?_
                          rw [AR_has hA, rp_pd (i := u + 1) (j := v + 1) (by omega) (by omega), pd_in (by omega) (by omega)] at h35
                          obtain rfl : wh = 7 := by omega
                          have ei : itC 7 u v = (v : Int) - 60 := rfl
                          have hq := BdQ.t (r2 := (v : Int) - 60) hw (by omega) hv g2.2 h35 (by rw [ei]; rw [if_pos (by omega)])
                          refine V_cut [(0, some (.ref (E.1 (20, 0)))), (1, some (.int (oI (a : Int)))), (2, some (.int (oI 7))), (3, some (.int (oI ((v : Int) - 60)))), (4, some (.int (oI ((v : Int) - 60)))), (5, some (.int (oI (((u + 1 : Nat) : Int) - 60))))] ⟨rfl, rfl, rfl, rfl, rfl, congrArg (fun q => some (Value.int (oI q))) (by omega), trivial⟩ ?_
                          exact ih (u + 1) _ (by omega) ⟨by omega, hq⟩ (by omega)
                      · refine V_iload (pc := 92) hX rfl dX6_bound_92 ?_
                        refine V_iload_n (pc := 94) (j := 3) hX 3 rfl rfl dX6_bound_94 ?_
                        refine Z_icmp_ge (pc := 95) (tgt := 112) hX (by omega) (by omega) dX6_bound_95 (by decide) (fun h95 => ?_) (fun h95 => ?_)
                        · refine V_iload_n (pc := 112) (j := 3) hX 3 rfl rfl dX6_bound_112 ?_
                          refine V_istore_n (pc := 113) (j := 3) hX 3 rfl (by decide) rfl dX6_bound_113 ?_
                          refine Z_iinc (pc := 114) hX 1 rfl rfl dX6_bound_114 ?_
                          refine V_goto (pc := 117) (off := (-98)) (tgt := 19) hX (by decide) dX6_bound_117 ?_
                          rw [AR_has hA, rp_pd (i := u + 1) (j := v + 1) (by omega) (by omega), pd_in (by omega) (by omega)] at h35
                          obtain rfl : wh = 7 := by omega
                          have ei : itC 7 u v = (v : Int) - 60 := rfl
                          have hq := BdQ.t (r2 := r) hw (by omega) hv g2.2 h35 (by rw [ei]; rw [if_neg (by omega)])
                          refine V_cut [(0, some (.ref (E.1 (20, 0)))), (1, some (.int (oI (a : Int)))), (2, some (.int (oI 7))), (3, some (.int (oI (r)))), (4, some (.int (oI ((v : Int) - 60)))), (5, some (.int (oI (((u + 1 : Nat) : Int) - 60))))] ⟨rfl, rfl, rfl, rfl, rfl, congrArg (fun q => some (Value.int (oI q))) (by omega), trivial⟩ ?_
                          exact ih (u + 1) _ (by omega) ⟨by omega, hq⟩ (by omega)
                        · refine V_goto (pc := 98) (off := 9) (tgt := 107) hX (by decide) dX6_bound_98 ?_
                          refine V_iload (pc := 107) hX rfl dX6_bound_107 ?_
                          refine V_goto (pc := 109) (off := 4) (tgt := 113) hX (by decide) dX6_bound_109 ?_
                          refine V_istore_n (pc := 113) (j := 3) hX 3 rfl (by decide) rfl dX6_bound_113 ?_
                          refine Z_iinc (pc := 114) hX 1 rfl rfl dX6_bound_114 ?_
                          refine V_goto (pc := 117) (off := (-98)) (tgt := 19) hX (by decide) dX6_bound_117 ?_
                          rw [AR_has hA, rp_pd (i := u + 1) (j := v + 1) (by omega) (by omega), pd_in (by omega) (by omega)] at h35
                          obtain rfl : wh = 7 := by omega
                          have ei : itC 7 u v = (v : Int) - 60 := rfl
                          have hq := BdQ.t (r2 := (v : Int) - 60) hw (by omega) hv g2.2 h35 (by rw [ei]; rw [if_pos (by omega)])
                          refine V_cut [(0, some (.ref (E.1 (20, 0)))), (1, some (.int (oI (a : Int)))), (2, some (.int (oI 7))), (3, some (.int (oI ((v : Int) - 60)))), (4, some (.int (oI ((v : Int) - 60)))), (5, some (.int (oI (((u + 1 : Nat) : Int) - 60))))] ⟨rfl, rfl, rfl, rfl, rfl, congrArg (fun q => some (Value.int (oI q))) (by omega), trivial⟩ ?_
                          exact ih (u + 1) _ (by omega) ⟨by omega, hq⟩ (by omega)
                · refine V_iload (pc := 54) hX rfl dX6_bound_54 ?_
                  refine V_iconst (pc := 56) (z := 1) hX (oI 1) rfl dX6_bound_56 ?_
                  refine Z_iadd (pc := 57) hX dX6_bound_57 ?_
                  refine V_goto (pc := 58) (off := 18) (tgt := 76) hX (by decide) dX6_bound_58 ?_
                  refine V_istore (pc := 76) hX (by decide) rfl dX6_bound_76 ?_
                  refine V_iload_n (pc := 78) (j := 3) hX 3 rfl rfl dX6_bound_78 ?_
                  refine V_sipush (pc := 79) (z := (-201)) hX (oI (-201)) (by decide) dX6_bound_79 ?_
                  refine Z_icmp_eq (pc := 82) (tgt := 107) hX (by omega) (by omega) dX6_bound_82 (by decide) (fun h82 => ?_) (fun h82 => ?_)
                  · refine V_iload (pc := 107) hX rfl dX6_bound_107 ?_
                    refine V_goto (pc := 109) (off := 4) (tgt := 113) hX (by decide) dX6_bound_109 ?_
                    refine V_istore_n (pc := 113) (j := 3) hX 3 rfl (by decide) rfl dX6_bound_113 ?_
                    refine Z_iinc (pc := 114) hX 1 rfl rfl dX6_bound_114 ?_
                    refine V_goto (pc := 117) (off := (-98)) (tgt := 19) hX (by decide) dX6_bound_117 ?_
                    rw [AR_has hA, rp_pd (i := u + 1) (j := v + 1) (by omega) (by omega), pd_in (by omega) (by omega)] at h35
                    obtain rfl : wh = 6 := by omega
                    have ei : itC 6 u v = (u : Int) - 60 + 1 := rfl
                    have hq := BdQ.t (r2 := (u : Int) - 60 + 1) hw (by omega) hv g2.2 h35 (by rw [ei]; rw [if_pos (by omega)])
                    refine V_cut [(0, some (.ref (E.1 (20, 0)))), (1, some (.int (oI (a : Int)))), (2, some (.int (oI 6))), (3, some (.int (oI ((u : Int) - 60 + 1)))), (4, some (.int (oI ((v : Int) - 60)))), (5, some (.int (oI (((u + 1 : Nat) : Int) - 60))))] ⟨rfl, rfl, rfl, rfl, rfl, congrArg (fun q => some (Value.int (oI q))) (by omega), trivial⟩ ?_
                    exact ih (u + 1) _ (by omega) ⟨by omega, hq⟩ (by omega)
                  · refine V_iload_n (pc := 85) (j := 2) hX 2 rfl rfl dX6_bound_85 ?_
                    refine V_iconst (pc := 86) (z := 2) hX (oI 2) rfl dX6_bound_86 ?_
                    refine Z_irem (pc := 87) hX (by omega) (by omega) (by omega) (by omega) dX6_bound_87 ?_
                    refine V_iconst (pc := 88) (z := 1) hX (oI 1) rfl dX6_bound_88 ?_
                    refine Z_icmp_ne (pc := 89) (tgt := 101) hX (by omega) (by omega) dX6_bound_89 (by decide) (fun h89 => ?_) (fun h89 => ?_)
                    · refine V_iload (pc := 101) hX rfl dX6_bound_101 ?_
                      refine V_iload_n (pc := 103) (j := 3) hX 3 rfl rfl dX6_bound_103 ?_
                      refine Z_icmp_le (pc := 104) (tgt := 112) hX (by omega) (by omega) dX6_bound_104 (by decide) (fun h104 => ?_) (fun h104 => ?_)
                      · refine V_iload_n (pc := 112) (j := 3) hX 3 rfl rfl dX6_bound_112 ?_
                        refine V_istore_n (pc := 113) (j := 3) hX 3 rfl (by decide) rfl dX6_bound_113 ?_
                        refine Z_iinc (pc := 114) hX 1 rfl rfl dX6_bound_114 ?_
                        refine V_goto (pc := 117) (off := (-98)) (tgt := 19) hX (by decide) dX6_bound_117 ?_
                        rw [AR_has hA, rp_pd (i := u + 1) (j := v + 1) (by omega) (by omega), pd_in (by omega) (by omega)] at h35
                        obtain rfl : wh = 6 := by omega
                        have ei : itC 6 u v = (u : Int) - 60 + 1 := rfl
                        have hq := BdQ.t (r2 := r) hw (by omega) hv g2.2 h35 (by rw [ei]; rw [if_neg (by omega)])
                        refine V_cut [(0, some (.ref (E.1 (20, 0)))), (1, some (.int (oI (a : Int)))), (2, some (.int (oI 6))), (3, some (.int (oI (r)))), (4, some (.int (oI ((v : Int) - 60)))), (5, some (.int (oI (((u + 1 : Nat) : Int) - 60))))] ⟨rfl, rfl, rfl, rfl, rfl, congrArg (fun q => some (Value.int (oI q))) (by omega), trivial⟩ ?_
                        exact ih (u + 1) _ (by omega) ⟨by omega, hq⟩ (by omega)
                      · refine V_iload (pc := 107) hX rfl dX6_bound_107 ?_
                        refine V_goto (pc := 109) (off := 4) (tgt := 113) hX (by decide) dX6_bound_109 ?_
                        refine V_istore_n (pc := 113) (j := 3) hX 3 rfl (by decide) rfl dX6_bound_113 ?_
                        refine Z_iinc (pc := 114) hX 1 rfl rfl dX6_bound_114 ?_
                        refine V_goto (pc := 117) (off := (-98)) (tgt := 19) hX (by decide) dX6_bound_117 ?_
                        rw [AR_has hA, rp_pd (i := u + 1) (j := v + 1) (by omega) (by omega), pd_in (by omega) (by omega)] at h35
                        obtain rfl : wh = 6 := by omega
                        have ei : itC 6 u v = (u : Int) - 60 + 1 := rfl
                        have hq := BdQ.t (r2 := (u : Int) - 60 + 1) hw (by omega) hv g2.2 h35 (by rw [ei]; rw [if_pos (by omega)])
                        refine V_cut [(0, some (.ref (E.1 (20, 0)))), (1, some (.int (oI (a : Int)))), (2, some (.int (oI 6))), (3, some (.int (oI ((u : Int) - 60 + 1)))), (4, some (.int (oI ((v : Int) - 60)))), (5, some (.int (oI (((u + 1 : Nat) : Int) - 60))))] ⟨rfl, rfl, rfl, rfl, rfl, congrArg (fun q => some (Value.int (oI q))) (by omega), trivial⟩ ?_
                        exact ih (u + 1) _ (by omega) ⟨by omega, hq⟩ (by omega)
                    · refine V_iload (pc := 92) hX rfl dX6_bound_92 ?_
                      refine V_iload_n (pc := 94) (j := 3) hX 3 rfl rfl dX6_bound_94 ?_
                      refine Z_icmp_ge (pc := 95) (tgt := 112) hX (by omega) (by omega) dX6_bound_95 (by decide) (fun h95 => ?_) (fun h95 => ?_)
                      · refine V_iload_n (pc := 112) (j := 3) hX 3 rfl rfl dX6_bound_112 ?_
                        refine V_istore_n (pc := 113) (j := 3) hX 3 rfl (by decide) rfl dX6_bound_113 ?_
                        refine Z_iinc (pc := 114) hX 1 rfl rfl dX6_bound_114 ?_
                        refine V_goto (pc := 117) (off := (-98)) (tgt := 19) hX (by decide) dX6_bound_117 ?_
                        rw [AR_has hA, rp_pd (i := u + 1) (j := v + 1) (by omega) (by omega), pd_in (by omega) (by omega)] at h35
                        obtain rfl : wh = 6 := by omega
                        have ei : itC 6 u v = (u : Int) - 60 + 1 := rfl
                        have hq := BdQ.t (r2 := r) hw (by omega) hv g2.2 h35 (by rw [ei]; rw [if_neg (by omega)])
                        refine V_cut [(0, some (.ref (E.1 (20, 0)))), (1, some (.int (oI (a : Int)))), (2, some (.int (oI 6))), (3, some (.int (oI (r)))), (4, some (.int (oI ((v : Int) - 60)))), (5, some (.int (oI (((u + 1 : Nat) : Int) - 60))))] ⟨rfl, rfl, rfl, rfl, rfl, congrArg (fun q => some (Value.int (oI q))) (by omega), trivial⟩ ?_
                        exact ih (u + 1) _ (by omega) ⟨by omega, hq⟩ (by omega)
                      · refine V_goto (pc := 98) (off := 9) (tgt := 107) hX (by decide) dX6_bound_98 ?_
                        refine V_iload (pc := 107) hX rfl dX6_bound_107 ?_
                        refine V_goto (pc := 109) (off := 4) (tgt := 113) hX (by decide) dX6_bound_109 ?_
                        refine V_istore_n (pc := 113) (j := 3) hX 3 rfl (by decide) rfl dX6_bound_113 ?_
                        refine Z_iinc (pc := 114) hX 1 rfl rfl dX6_bound_114 ?_
                        refine V_goto (pc := 117) (off := (-98)) (tgt := 19) hX (by decide) dX6_bound_117 ?_
                        rw [AR_has hA, rp_pd (i := u + 1) (j := v + 1) (by omega) (by omega), pd_in (by omega) (by omega)] at h35
                        obtain rfl : wh = 6 := by omega
                        have ei : itC 6 u v = (u : Int) - 60 + 1 := rfl
                        have hq := BdQ.t (r2 := (u : Int) - 60 + 1) hw (by omega) hv g2.2 h35 (by rw [ei]; rw [if_pos (by omega)])
                        refine V_cut [(0, some (.ref (E.1 (20, 0)))), (1, some (.int (oI (a : Int)))), (2, some (.int (oI 6))), (3, some (.int (oI ((u : Int) - 60 + 1)))), (4, some (.int (oI ((v : Int) - 60)))), (5, some (.int (oI (((u + 1 : Nat) : Int) - 60))))] ⟨rfl, rfl, rfl, rfl, rfl, congrArg (fun q => some (Value.int (oI q))) (by omega), trivial⟩ ?_
                        exact ih (u + 1) _ (by omega) ⟨by omega, hq⟩ (by omega)
              · refine V_iload (pc := 43) hX rfl dX6_bound_43 ?_
                refine V_goto (pc := 45) (off := 31) (tgt := 76) hX (by decide) dX6_bound_45 ?_
                refine V_istore (pc := 76) hX (by decide) rfl dX6_bound_76 ?_
                refine V_iload_n (pc := 78) (j := 3) hX 3 rfl rfl dX6_bound_78 ?_
                refine V_sipush (pc := 79) (z := (-201)) hX (oI (-201)) (by decide) dX6_bound_79 ?_
                refine Z_icmp_eq (pc := 82) (tgt := 107) hX (by omega) (by omega) dX6_bound_82 (by decide) (fun h82 => ?_) (fun h82 => ?_)
                · refine V_iload (pc := 107) hX rfl dX6_bound_107 ?_
                  refine V_goto (pc := 109) (off := 4) (tgt := 113) hX (by decide) dX6_bound_109 ?_
                  refine V_istore_n (pc := 113) (j := 3) hX 3 rfl (by decide) rfl dX6_bound_113 ?_
                  refine Z_iinc (pc := 114) hX 1 rfl rfl dX6_bound_114 ?_
                  refine V_goto (pc := 117) (off := (-98)) (tgt := 19) hX (by decide) dX6_bound_117 ?_
                  rw [AR_has hA, rp_pd (i := u + 1) (j := v + 1) (by omega) (by omega), pd_in (by omega) (by omega)] at h35
                  obtain rfl : wh = 5 := by omega
                  have ei : itC 5 u v = (u : Int) - 60 := rfl
                  have hq := BdQ.t (r2 := (u : Int) - 60) hw (by omega) hv g2.2 h35 (by rw [ei]; rw [if_pos (by omega)])
                  refine V_cut [(0, some (.ref (E.1 (20, 0)))), (1, some (.int (oI (a : Int)))), (2, some (.int (oI 5))), (3, some (.int (oI ((u : Int) - 60)))), (4, some (.int (oI ((v : Int) - 60)))), (5, some (.int (oI (((u + 1 : Nat) : Int) - 60))))] ⟨rfl, rfl, rfl, rfl, rfl, congrArg (fun q => some (Value.int (oI q))) (by omega), trivial⟩ ?_
                  exact ih (u + 1) _ (by omega) ⟨by omega, hq⟩ (by omega)
                · refine V_iload_n (pc := 85) (j := 2) hX 2 rfl rfl dX6_bound_85 ?_
                  refine V_iconst (pc := 86) (z := 2) hX (oI 2) rfl dX6_bound_86 ?_
                  refine Z_irem (pc := 87) hX (by omega) (by omega) (by omega) (by omega) dX6_bound_87 ?_
                  refine V_iconst (pc := 88) (z := 1) hX (oI 1) rfl dX6_bound_88 ?_
                  refine Z_icmp_ne (pc := 89) (tgt := 101) hX (by omega) (by omega) dX6_bound_89 (by decide) (fun h89 => ?_) (fun h89 => ?_)
                  · refine V_iload (pc := 101) hX rfl dX6_bound_101 ?_
                    refine V_iload_n (pc := 103) (j := 3) hX 3 rfl rfl dX6_bound_103 ?_
                    refine Z_icmp_le (pc := 104) (tgt := 112) hX (by omega) (by omega) dX6_bound_104 (by decide) (fun h104 => ?_) (fun h104 => ?_)
                    · refine V_iload_n (pc := 112) (j := 3) hX 3 rfl rfl dX6_bound_112 ?_
                      refine V_istore_n (pc := 113) (j := 3) hX 3 rfl (by decide) rfl dX6_bound_113 ?_
                      refine Z_iinc (pc := 114) hX 1 rfl rfl dX6_bound_114 ?_
                      refine V_goto (pc := 117) (off := (-98)) (tgt := 19) hX (by decide) dX6_bound_117 ?_
                      rw [AR_has hA, rp_pd (i := u + 1) (j := v + 1) (by omega) (by omega), pd_in (by omega) (by omega)] at h35
                      obtain rfl : wh = 5 := by omega
                      have ei : itC 5 u v = (u : Int) - 60 := rfl
                      have hq := BdQ.t (r2 := r) hw (by omega) hv g2.2 h35 (by rw [ei]; rw [if_neg (by omega)])
                      refine V_cut [(0, some (.ref (E.1 (20, 0)))), (1, some (.int (oI (a : Int)))), (2, some (.int (oI 5))), (3, some (.int (oI (r)))), (4, some (.int (oI ((v : Int) - 60)))), (5, some (.int (oI (((u + 1 : Nat) : Int) - 60))))] ⟨rfl, rfl, rfl, rfl, rfl, congrArg (fun q => some (Value.int (oI q))) (by omega), trivial⟩ ?_
                      exact ih (u + 1) _ (by omega) ⟨by omega, hq⟩ (by omega)
                    · refine V_iload (pc := 107) hX rfl dX6_bound_107 ?_
                      refine V_goto (pc := 109) (off := 4) (tgt := 113) hX (by decide) dX6_bound_109 ?_
                      refine V_istore_n (pc := 113) (j := 3) hX 3 rfl (by decide) rfl dX6_bound_113 ?_
                      refine Z_iinc (pc := 114) hX 1 rfl rfl dX6_bound_114 ?_
                      refine V_goto (pc := 117) (off := (-98)) (tgt := 19) hX (by decide) dX6_bound_117 ?_
                      rw [AR_has hA, rp_pd (i := u + 1) (j := v + 1) (by omega) (by omega), pd_in (by omega) (by omega)] at h35
                      obtain rfl : wh = 5 := by omega
                      have ei : itC 5 u v = (u : Int) - 60 := rfl
                      have hq := BdQ.t (r2 := (u : Int) - 60) hw (by omega) hv g2.2 h35 (by rw [ei]; rw [if_pos (by omega)])
                      refine V_cut [(0, some (.ref (E.1 (20, 0)))), (1, some (.int (oI (a : Int)))), (2, some (.int (oI 5))), (3, some (.int (oI ((u : Int) - 60)))), (4, some (.int (oI ((v : Int) - 60)))), (5, some (.int (oI (((u + 1 : Nat) : Int) - 60))))] ⟨rfl, rfl, rfl, rfl, rfl, congrArg (fun q => some (Value.int (oI q))) (by omega), trivial⟩ ?_
                      exact ih (u + 1) _ (by omega) ⟨by omega, hq⟩ (by omega)
                  · refine V_iload (pc := 92) hX rfl dX6_bound_92 ?_
                    refine V_iload_n (pc := 94) (j := 3) hX 3 rfl rfl dX6_bound_94 ?_
                    refine Z_icmp_ge (pc := 95) (tgt := 112) hX (by omega) (by omega) dX6_bound_95 (by decide) (fun h95 => ?_) (fun h95 => ?_)
                    · refine V_iload_n (pc := 112) (j := 3) hX 3 rfl rfl dX6_bound_112 ?_
                      refine V_istore_n (pc := 113) (j := 3) hX 3 rfl (by decide) rfl dX6_bound_113 ?_
                      refine Z_iinc (pc := 114) hX 1 rfl rfl dX6_bound_114 ?_
                      refine V_goto (pc := 117) (off := (-98)) (tgt := 19) hX (by decide) dX6_bound_117 ?_
                      rw [AR_has hA, rp_pd (i := u + 1) (j := v + 1) (by omega) (by omega), pd_in (by omega) (by omega)] at h35
                      obtain rfl : wh = 5 := by omega
                      have ei : itC 5 u v = (u : Int) - 60 := rfl
                      have hq := BdQ.t (r2 := r) hw (by omega) hv g2.2 h35 (by rw [ei]; rw [if_neg (by omega)])
                      refine V_cut [(0, some (.ref (E.1 (20, 0)))), (1, some (.int (oI (a : Int)))), (2, some (.int (oI 5))), (3, some (.int (oI (r)))), (4, some (.int (oI ((v : Int) - 60)))), (5, some (.int (oI (((u + 1 : Nat) : Int) - 60))))] ⟨rfl, rfl, rfl, rfl, rfl, congrArg (fun q => some (Value.int (oI q))) (by omega), trivial⟩ ?_
                      exact ih (u + 1) _ (by omega) ⟨by omega, hq⟩ (by omega)
                    · refine V_goto (pc := 98) (off := 9) (tgt := 107) hX (by decide) dX6_bound_98 ?_
                      refine V_iload (pc := 107) hX rfl dX6_bound_107 ?_
                      refine V_goto (pc := 109) (off := 4) (tgt := 113) hX (by decide) dX6_bound_109 ?_
                      refine V_istore_n (pc := 113) (j := 3) hX 3 rfl (by decide) rfl dX6_bound_113 ?_
                      refine Z_iinc (pc := 114) hX 1 rfl rfl dX6_bound_114 ?_
                      refine V_goto (pc := 117) (off := (-98)) (tgt := 19) hX (by decide) dX6_bound_117 ?_
                      rw [AR_has hA, rp_pd (i := u + 1) (j := v + 1) (by omega) (by omega), pd_in (by omega) (by omega)] at h35
                      obtain rfl : wh = 5 := by omega
                      have ei : itC 5 u v = (u : Int) - 60 := rfl
                      have hq := BdQ.t (r2 := (u : Int) - 60) hw (by omega) hv g2.2 h35 (by rw [ei]; rw [if_pos (by omega)])
                      refine V_cut [(0, some (.ref (E.1 (20, 0)))), (1, some (.int (oI (a : Int)))), (2, some (.int (oI 5))), (3, some (.int (oI ((u : Int) - 60)))), (4, some (.int (oI ((v : Int) - 60)))), (5, some (.int (oI (((u + 1 : Nat) : Int) - 60))))] ⟨rfl, rfl, rfl, rfl, rfl, congrArg (fun q => some (Value.int (oI q))) (by omega), trivial⟩ ?_
                      exact ih (u + 1) _ (by omega) ⟨by omega, hq⟩ (by omega)
      refine V_iload (pc := 8) hX rfl dX6_bound_8 ?_
      refine V_bipush (pc := 10) (z := 59) hX (oI 59) (by decide) dX6_bound_10 ?_
      refine Z_icmp_gt (pc := 12) (tgt := 126) hX (by omega) (by omega) dX6_bound_12 (by decide) (fun h12 => ?_) (fun h12 => ?_)
      · refine V_iload_n (pc := 126) (j := 3) hX 3 rfl rfl dX6_bound_126 ?_
        refine V_iret (pc := 127) hX hR dX6_bound_127 ?_
        have e : v = 120 := by omega
        subst e
        exact ⟨some_int (by rw [bdV_eq hw g2.2.end]), rfl⟩
      · refine V_bipush (pc := 15) (z := (-60)) hX (oI (-60)) (by decide) dX6_bound_15 ?_
        refine V_istore (pc := 17) hX (by decide) rfl dX6_bound_17 ?_
        refine V_cut [(0, some (.ref (E.1 (20, 0)))), (1, some (.int (oI (a : Int)))), (2, some (.int (oI wh))), (3, some (.int (oI r))), (4, some (.int (oI ((v : Int) - 60)))), (5, some (.int (oI (((0 : Nat) : Int) - 60))))] ⟨rfl, rfl, rfl, rfl, rfl, rfl, trivial⟩ ?_
        exact inner (by omega) 121 0 r (by omega) g2 (by omega)
  refine V_sipush (pc := 0) (z := (-201)) hX (oI (-201)) (by decide) dX6_bound_0 ?_
  refine V_istore_n (pc := 3) (j := 3) hX 3 rfl (by decide) rfl dX6_bound_3 ?_
  refine V_bipush (pc := 4) (z := (-60)) hX (oI (-60)) (by decide) dX6_bound_4 ?_
  refine V_istore (pc := 6) hX (by decide) rfl dX6_bound_6 ?_
  refine V_cut [(0, some (.ref (E.1 (20, 0)))), (1, some (.int (oI (a : Int)))), (2, some (.int (oI wh))), (3, some (.int (oI (-201)))), (4, some (.int (oI (((0 : Nat) : Int) - 60))))] ⟨rfl, rfl, rfl, rfl, rfl, trivial⟩ ?_
  exact outer 121 0 (-201) (by omega) ⟨by omega, fun ⟨i, hi, j, hj, q, _⟩ => by unfold bef at q; omega, fun i hi j hj q => by unfold bef at q; omega, fun _ => rfl⟩ (by omega)
