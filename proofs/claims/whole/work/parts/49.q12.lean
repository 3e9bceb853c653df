theorem V_dt {E : Le} {X : Cx} {nL : Nat} {D D' : Dt} {pc : Nat} {lv : Lv} {st : List Value} (h : D = D') (k : Vw E X nL D' pc lv st) : Vw E X nL D pc lv st := h ▸ k
theorem c_X1_write {E : Le} {l : Launch} {D : Dt} {S : Cl} (hF : FormP D S) : ConV E l yX1_write cX1_write 5 none 4 [.ref (E.1 (5, 0)), .ref (E.1 (18, 0))] D (wrD D (wrC S)) := by
  have hl := hF.2.2.1
  refine Con_of (by decide) (Nat.le_of_ble_eq_true rfl) ?_
  intro X hX hR hl; subst hl
  have loop : ∀ (m : Nat) (k : Nat), k ≤ nsC S → nsC S - k < m → Vw E X 5 (wrD D ((swC S).take k).flatten) 2 [(0, some (.ref (E.1 (5, 0)))), (1, some (.ref (E.1 (18, 0)))), (2, some (.int (oI (k : Int))))] [] := by
    intro m
    induction m with
    | zero => intro k g1 g2; omega
    | succ m ih =>
      intro k g1 g2
      refine V_iload_n (pc := 2) (j := 2) hX 2 rfl rfl dX1_write_2 ?_
      refine V_aload_n (pc := 3) (j := 0) hX 0 rfl rfl dX1_write_3 ?_
      refine gf_X1_34 (pc := 4) hX dX1_write_4 ?_
      refine V_oI (nsC S : Int) hF.2.1 ?_
      refine Z_icmp_ge (pc := 7) (tgt := 114) hX (by omega) (by omega) dX1_write_7 (by decide) (fun h7 => ?_) (fun h7 => ?_)
      · refine V_vret (pc := 114) hX hR dX1_write_114 ?_
        have e : k = nsC S := by omega
        subst e
        exact ⟨rfl, by rw [swC_all]⟩
      · obtain ⟨bb, f, q, u, fl, la, hcat, hrg, hsw⟩ := form_sw hF (k := k) (by omega)
        have hbb := hsw.1.2
        have hfk := hsw.2.2.1.2.1
        refine V_aload_n (pc := 10) (j := 0) hX 0 rfl rfl dX1_write_10 ?_
        refine gf_X1_21 (pc := 11) hX dX1_write_11 ?_
        refine V_iload_n (pc := 14) (j := 2) hX 2 rfl rfl dX1_write_14 ?_
        refine zl_9 (pc := 15) hX (k) (by omega) (by omega) dX1_write_15 ?_
        refine V_oI (bb : Int) hsw.1.1 ?_
        refine V_istore_n (pc := 16) (j := 3) hX 3 rfl (by decide) rfl dX1_write_16 ?_
        refine V_iload_n (pc := 17) (j := 2) hX 2 rfl rfl dX1_write_17 ?_
        refine V_aload_n (pc := 18) (j := 0) hX 0 rfl rfl dX1_write_18 ?_
        refine gf_X1_18 (pc := 19) hX dX1_write_19 ?_
        refine V_iload_n (pc := 22) (j := 3) hX 3 rfl rfl dX1_write_22 ?_
        refine zl_8 (pc := 23) hX (bb) (rfl) (by omega) dX1_write_23 ?_
        refine V_oI (f : Int) hsw.2.2.1.1 ?_
        refine Z_icmp_ne (pc := 24) (tgt := 45) hX (by omega) (by omega) dX1_write_24 (by decide) (fun h24 => ?_) (fun h24 => ?_)
        · refine V_iload_n (pc := 45) (j := 2) hX 2 rfl rfl dX1_write_45 ?_
          refine V_iconst (pc := 46) (z := 1) hX (oI 1) rfl dX1_write_46 ?_
          refine Z_iadd (pc := 47) hX dX1_write_47 ?_
          refine V_aload_n (pc := 48) (j := 0) hX 0 rfl rfl dX1_write_48 ?_
          refine gf_X1_34 (pc := 49) hX dX1_write_49 ?_
          refine V_oI (nsC S : Int) hF.2.1 ?_
          refine Z_icmp_eq (pc := 52) (tgt := 67) hX (by omega) (by omega) dX1_write_52 (by decide) (fun h52 => ?_) (fun h52 => ?_)
          · refine V_iconst (pc := 67) (z := 1) hX (oI 1) rfl dX1_write_67 ?_
            refine V_goto (pc := 68) (off := 4) (tgt := 72) hX (by decide) dX1_write_68 ?_
            refine V_istore (pc := 72) hX (by decide) rfl dX1_write_72 ?_
            refine V_aload_n (pc := 74) (j := 1) hX 1 rfl rfl dX1_write_74 ?_
            refine V_aload_n (pc := 75) (j := 0) hX 0 rfl rfl dX1_write_75 ?_
            refine gf_X1_24 (pc := 76) hX dX1_write_76 ?_
            refine V_iconst (pc := 79) (z := 2) hX (oI 2) rfl dX1_write_79 ?_
            refine V_iload_n (pc := 80) (j := 2) hX 2 rfl rfl dX1_write_80 ?_
            refine Z_imul (pc := 81) hX dX1_write_81 ?_
            refine zl_10 (pc := 82) hX (2 * k) (by omega) (by omega) dX1_write_82 ?_
            refine V_oI u.1 hsw.2.2.2.1.1 ?_
            refine V_aload_n (pc := 83) (j := 0) hX 0 rfl rfl dX1_write_83 ?_
            refine gf_X1_24 (pc := 84) hX dX1_write_84 ?_
            refine V_iconst (pc := 87) (z := 2) hX (oI 2) rfl dX1_write_87 ?_
            refine V_iload_n (pc := 88) (j := 2) hX 2 rfl rfl dX1_write_88 ?_
            refine Z_imul (pc := 89) hX dX1_write_89 ?_
            refine V_iconst (pc := 90) (z := 1) hX (oI 1) rfl dX1_write_90 ?_
            refine Z_iadd (pc := 91) hX dX1_write_91 ?_
            refine zl_10 (pc := 92) hX (2 * k + 1) (by omega) (by omega) dX1_write_92 ?_
            refine V_oI u.2 hsw.2.2.2.1.2 ?_
            refine V_iload (pc := 93) hX rfl dX1_write_93 ?_
            refine Z_if_eq (pc := 95) (tgt := 103) hX (by omega) dX1_write_95 (by decide) (fun h => absurd h (by decide)) (fun _ => ?_)
            refine V_bipush (pc := 98) (z := 59) hX (oI 59) (by decide) dX1_write_98 ?_
            refine V_goto (pc := 100) (off := 5) (tgt := 105) hX (by decide) dX1_write_100 ?_
            refine cVV3 (pc := 105) hX (c_X3_putPair (by omega) (by omega)) (by decide) st_X1_112 ix_18 rfl rfl rfl (Nat.le_of_ble_eq_true rfl) dX1_write_105 ?_
            refine Z_iinc (pc := 108) hX 1 rfl rfl dX1_write_108 ?_
            refine V_goto (pc := 111) (off := (-109)) (tgt := 2) hX (by decide) dX1_write_111 ?_
            have hfl : fl = false := Bool.eq_false_iff.mpr (fun w => h24 (by have := hsw.2.2.1.2.2.mp w; omega))
            have hla : la = true := hsw.2.2.2.2.1 (by omega)
            refine V_dt (D' := wrD D ((swC S).take (k + 1)).flatten) (by rw [wrD_app, hcat, hfl, hla]; simp [sgW, hdW]) ?_
            refine V_cut [(0, some (.ref (E.1 (5, 0)))), (1, some (.ref (E.1 (18, 0)))), (2, some (.int (oI ((k + 1 : Nat) : Int))))] ⟨rfl, rfl, rfl, trivial⟩ ?_
            exact ih (k + 1) (by omega) (by omega)
          · obtain ⟨b2, e1, e2, e3⟩ := hsw.2.2.2.2.2 (by omega)
            refine V_aload_n (pc := 55) (j := 0) hX 0 rfl rfl dX1_write_55 ?_
            refine gf_X1_21 (pc := 56) hX dX1_write_56 ?_
            refine V_iload_n (pc := 59) (j := 2) hX 2 rfl rfl dX1_write_59 ?_
            refine V_iconst (pc := 60) (z := 1) hX (oI 1) rfl dX1_write_60 ?_
            refine Z_iadd (pc := 61) hX dX1_write_61 ?_
            refine zl_9 (pc := 62) hX (k + 1) (by omega) (by omega) dX1_write_62 ?_
            refine V_oI (b2 : Int) e1 ?_
            refine V_iload_n (pc := 63) (j := 3) hX 3 rfl rfl dX1_write_63 ?_
            refine Z_icmp_eq (pc := 64) (tgt := 71) hX (by omega) (by omega) dX1_write_64 (by decide) (fun h64 => ?_) (fun h64 => ?_)
            · refine V_iconst (pc := 71) (z := 0) hX (oI 0) rfl dX1_write_71 ?_
              refine V_istore (pc := 72) hX (by decide) rfl dX1_write_72 ?_
              refine V_aload_n (pc := 74) (j := 1) hX 1 rfl rfl dX1_write_74 ?_
              refine V_aload_n (pc := 75) (j := 0) hX 0 rfl rfl dX1_write_75 ?_
              refine gf_X1_24 (pc := 76) hX dX1_write_76 ?_
              refine V_iconst (pc := 79) (z := 2) hX (oI 2) rfl dX1_write_79 ?_
              refine V_iload_n (pc := 80) (j := 2) hX 2 rfl rfl dX1_write_80 ?_
              refine Z_imul (pc := 81) hX dX1_write_81 ?_
              refine zl_10 (pc := 82) hX (2 * k) (by omega) (by omega) dX1_write_82 ?_
              refine V_oI u.1 hsw.2.2.2.1.1 ?_
              refine V_aload_n (pc := 83) (j := 0) hX 0 rfl rfl dX1_write_83 ?_
              refine gf_X1_24 (pc := 84) hX dX1_write_84 ?_
              refine V_iconst (pc := 87) (z := 2) hX (oI 2) rfl dX1_write_87 ?_
              refine V_iload_n (pc := 88) (j := 2) hX 2 rfl rfl dX1_write_88 ?_
              refine Z_imul (pc := 89) hX dX1_write_89 ?_
              refine V_iconst (pc := 90) (z := 1) hX (oI 1) rfl dX1_write_90 ?_
              refine Z_iadd (pc := 91) hX dX1_write_91 ?_
              refine zl_10 (pc := 92) hX (2 * k + 1) (by omega) (by omega) dX1_write_92 ?_
              refine V_oI u.2 hsw.2.2.2.1.2 ?_
              refine V_iload (pc := 93) hX rfl dX1_write_93 ?_
              refine Z_if_eq (pc := 95) (tgt := 103) hX (by omega) dX1_write_95 (by decide) (fun _ => ?_) (fun h => absurd h (by decide))
              refine V_bipush (pc := 103) (z := 44) hX (oI 44) (by decide) dX1_write_103 ?_
              refine cVV3 (pc := 105) hX (c_X3_putPair (by omega) (by omega)) (by decide) st_X1_112 ix_18 rfl rfl rfl (Nat.le_of_ble_eq_true rfl) dX1_write_105 ?_
              refine Z_iinc (pc := 108) hX 1 rfl rfl dX1_write_108 ?_
              refine V_goto (pc := 111) (off := (-109)) (tgt := 2) hX (by decide) dX1_write_111 ?_
              have hfl : fl = false := Bool.eq_false_iff.mpr (fun w => h24 (by have := hsw.2.2.1.2.2.mp w; omega))
              have hla : la = false := Bool.eq_false_iff.mpr (fun w => e3.mp w (by omega))
              refine V_dt (D' := wrD D ((swC S).take (k + 1)).flatten) (by rw [wrD_app, hcat, hfl, hla]; simp [sgW, hdW]) ?_
              refine V_cut [(0, some (.ref (E.1 (5, 0)))), (1, some (.ref (E.1 (18, 0)))), (2, some (.int (oI ((k + 1 : Nat) : Int))))] ⟨rfl, rfl, rfl, trivial⟩ ?_
              exact ih (k + 1) (by omega) (by omega)
            · refine V_iconst (pc := 67) (z := 1) hX (oI 1) rfl dX1_write_67 ?_
              refine V_goto (pc := 68) (off := 4) (tgt := 72) hX (by decide) dX1_write_68 ?_
              refine V_istore (pc := 72) hX (by decide) rfl dX1_write_72 ?_
              refine V_aload_n (pc := 74) (j := 1) hX 1 rfl rfl dX1_write_74 ?_
              refine V_aload_n (pc := 75) (j := 0) hX 0 rfl rfl dX1_write_75 ?_
              refine gf_X1_24 (pc := 76) hX dX1_write_76 ?_
              refine V_iconst (pc := 79) (z := 2) hX (oI 2) rfl dX1_write_79 ?_
              refine V_iload_n (pc := 80) (j := 2) hX 2 rfl rfl dX1_write_80 ?_
              refine Z_imul (pc := 81) hX dX1_write_81 ?_
              refine zl_10 (pc := 82) hX (2 * k) (by omega) (by omega) dX1_write_82 ?_
              refine V_oI u.1 hsw.2.2.2.1.1 ?_
              refine V_aload_n (pc := 83) (j := 0) hX 0 rfl rfl dX1_write_83 ?_
              refine gf_X1_24 (pc := 84) hX dX1_write_84 ?_
              refine V_iconst (pc := 87) (z := 2) hX (oI 2) rfl dX1_write_87 ?_
              refine V_iload_n (pc := 88) (j := 2) hX 2 rfl rfl dX1_write_88 ?_
              refine Z_imul (pc := 89) hX dX1_write_89 ?_
              refine V_iconst (pc := 90) (z := 1) hX (oI 1) rfl dX1_write_90 ?_
              refine Z_iadd (pc := 91) hX dX1_write_91 ?_
              refine zl_10 (pc := 92) hX (2 * k + 1) (by omega) (by omega) dX1_write_92 ?_
              refine V_oI u.2 hsw.2.2.2.1.2 ?_
              refine V_iload (pc := 93) hX rfl dX1_write_93 ?_
              refine Z_if_eq (pc := 95) (tgt := 103) hX (by omega) dX1_write_95 (by decide) (fun h => absurd h (by decide)) (fun _ => ?_)
              refine V_bipush (pc := 98) (z := 59) hX (oI 59) (by decide) dX1_write_98 ?_
              refine V_goto (pc := 100) (off := 5) (tgt := 105) hX (by decide) dX1_write_100 ?_
              refine cVV3 (pc := 105) hX (c_X3_putPair (by omega) (by omega)) (by decide) st_X1_112 ix_18 rfl rfl rfl (Nat.le_of_ble_eq_true rfl) dX1_write_105 ?_
              refine Z_iinc (pc := 108) hX 1 rfl rfl dX1_write_108 ?_
              refine V_goto (pc := 111) (off := (-109)) (tgt := 2) hX (by decide) dX1_write_111 ?_
              have hfl : fl = false := Bool.eq_false_iff.mpr (fun w => h24 (by have := hsw.2.2.1.2.2.mp w; omega))
              have hla : la = true := e3.mpr (by omega)
              refine V_dt (D' := wrD D ((swC S).take (k + 1)).flatten) (by rw [wrD_app, hcat, hfl, hla]; simp [sgW, hdW]) ?_
              refine V_cut [(0, some (.ref (E.1 (5, 0)))), (1, some (.ref (E.1 (18, 0)))), (2, some (.int (oI ((k + 1 : Nat) : Int))))] ⟨rfl, rfl, rfl, trivial⟩ ?_
              exact ih (k + 1) (by omega) (by omega)
        · refine V_aload_n (pc := 27) (j := 1) hX 1 rfl rfl dX1_write_27 ?_
          refine V_aload_n (pc := 28) (j := 0) hX 0 rfl rfl dX1_write_28 ?_
          refine gf_X1_9 (pc := 29) hX dX1_write_29 ?_
          refine V_iload_n (pc := 32) (j := 3) hX 3 rfl rfl dX1_write_32 ?_
          refine zl_6 (pc := 33) hX (bb) (rfl) (by omega) dX1_write_33 ?_
          refine V_oI q.1 hsw.2.1.1 ?_
          refine V_aload_n (pc := 34) (j := 0) hX 0 rfl rfl dX1_write_34 ?_
          refine gf_X1_15 (pc := 35) hX dX1_write_35 ?_
          refine V_iload_n (pc := 38) (j := 3) hX 3 rfl rfl dX1_write_38 ?_
          refine zl_7 (pc := 39) hX (bb) (rfl) (by omega) dX1_write_39 ?_
          refine V_oI q.2 hsw.2.1.2 ?_
          refine V_bipush (pc := 40) (z := 58) hX (oI 58) (by decide) dX1_write_40 ?_
          refine cVV3 (pc := 42) hX (c_X3_putPair (by omega) (by omega)) (by decide) st_X1_112 ix_18 rfl rfl rfl (Nat.le_of_ble_eq_true rfl) dX1_write_42 ?_
          refine V_iload_n (pc := 45) (j := 2) hX 2 rfl rfl dX1_write_45 ?_
          refine V_iconst (pc := 46) (z := 1) hX (oI 1) rfl dX1_write_46 ?_
          refine Z_iadd (pc := 47) hX dX1_write_47 ?_
          refine V_aload_n (pc := 48) (j := 0) hX 0 rfl rfl dX1_write_48 ?_
          refine gf_X1_34 (pc := 49) hX dX1_write_49 ?_
          refine V_oI (nsC S : Int) hF.2.1 ?_
          refine Z_icmp_eq (pc := 52) (tgt := 67) hX (by omega) (by omega) dX1_write_52 (by decide) (fun h52 => ?_) (fun h52 => ?_)
          · refine V_iconst (pc := 67) (z := 1) hX (oI 1) rfl dX1_write_67 ?_
            refine V_goto (pc := 68) (off := 4) (tgt := 72) hX (by decide) dX1_write_68 ?_
            refine V_istore (pc := 72) hX (by decide) rfl dX1_write_72 ?_
            refine V_aload_n (pc := 74) (j := 1) hX 1 rfl rfl dX1_write_74 ?_
            refine V_aload_n (pc := 75) (j := 0) hX 0 rfl rfl dX1_write_75 ?_
            refine gf_X1_24 (pc := 76) hX dX1_write_76 ?_
            refine V_iconst (pc := 79) (z := 2) hX (oI 2) rfl dX1_write_79 ?_
            refine V_iload_n (pc := 80) (j := 2) hX 2 rfl rfl dX1_write_80 ?_
            refine Z_imul (pc := 81) hX dX1_write_81 ?_
            refine zl_10 (pc := 82) hX (2 * k) (by omega) (by omega) dX1_write_82 ?_
            refine V_oI u.1 hsw.2.2.2.1.1 ?_
            refine V_aload_n (pc := 83) (j := 0) hX 0 rfl rfl dX1_write_83 ?_
            refine gf_X1_24 (pc := 84) hX dX1_write_84 ?_
            refine V_iconst (pc := 87) (z := 2) hX (oI 2) rfl dX1_write_87 ?_
            refine V_iload_n (pc := 88) (j := 2) hX 2 rfl rfl dX1_write_88 ?_
            refine Z_imul (pc := 89) hX dX1_write_89 ?_
            refine V_iconst (pc := 90) (z := 1) hX (oI 1) rfl dX1_write_90 ?_
            refine Z_iadd (pc := 91) hX dX1_write_91 ?_
            refine zl_10 (pc := 92) hX (2 * k + 1) (by omega) (by omega) dX1_write_92 ?_
            refine V_oI u.2 hsw.2.2.2.1.2 ?_
            refine V_iload (pc := 93) hX rfl dX1_write_93 ?_
            refine Z_if_eq (pc := 95) (tgt := 103) hX (by omega) dX1_write_95 (by decide) (fun h => absurd h (by decide)) (fun _ => ?_)
            refine V_bipush (pc := 98) (z := 59) hX (oI 59) (by decide) dX1_write_98 ?_
            refine V_goto (pc := 100) (off := 5) (tgt := 105) hX (by decide) dX1_write_100 ?_
            refine cVV3 (pc := 105) hX (c_X3_putPair (by omega) (by omega)) (by decide) st_X1_112 ix_18 rfl rfl rfl (Nat.le_of_ble_eq_true rfl) dX1_write_105 ?_
            refine Z_iinc (pc := 108) hX 1 rfl rfl dX1_write_108 ?_
            refine V_goto (pc := 111) (off := (-109)) (tgt := 2) hX (by decide) dX1_write_111 ?_
            have hfl : fl = true := hsw.2.2.1.2.2.mpr (by omega)
            have hla : la = true := hsw.2.2.2.2.1 (by omega)
            refine V_dt (D' := wrD D ((swC S).take (k + 1)).flatten) (by rw [wrD_app, wrD_app, hcat, hfl, hla]; simp [sgW, hdW]) ?_
            refine V_cut [(0, some (.ref (E.1 (5, 0)))), (1, some (.ref (E.1 (18, 0)))), (2, some (.int (oI ((k + 1 : Nat) : Int))))] ⟨rfl, rfl, rfl, trivial⟩ ?_
            exact ih (k + 1) (by omega) (by omega)
          · obtain ⟨b2, e1, e2, e3⟩ := hsw.2.2.2.2.2 (by omega)
            refine V_aload_n (pc := 55) (j := 0) hX 0 rfl rfl dX1_write_55 ?_
            refine gf_X1_21 (pc := 56) hX dX1_write_56 ?_
            refine V_iload_n (pc := 59) (j := 2) hX 2 rfl rfl dX1_write_59 ?_
            refine V_iconst (pc := 60) (z := 1) hX (oI 1) rfl dX1_write_60 ?_
            refine Z_iadd (pc := 61) hX dX1_write_61 ?_
            refine zl_9 (pc := 62) hX (k + 1) (by omega) (by omega) dX1_write_62 ?_
            refine V_oI (b2 : Int) e1 ?_
            refine V_iload_n (pc := 63) (j := 3) hX 3 rfl rfl dX1_write_63 ?_
            refine Z_icmp_eq (pc := 64) (tgt := 71) hX (by omega) (by omega) dX1_write_64 (by decide) (fun h64 => ?_) (fun h64 => ?_)
            · refine V_iconst (pc := 71) (z := 0) hX (oI 0) rfl dX1_write_71 ?_
              refine V_istore (pc := 72) hX (by decide) rfl dX1_write_72 ?_
              refine V_aload_n (pc := 74) (j := 1) hX 1 rfl rfl dX1_write_74 ?_
              refine V_aload_n (pc := 75) (j := 0) hX 0 rfl rfl dX1_write_75 ?_
              refine gf_X1_24 (pc := 76) hX dX1_write_76 ?_
              refine V_iconst (pc := 79) (z := 2) hX (oI 2) rfl dX1_write_79 ?_
              refine V_iload_n (pc := 80) (j := 2) hX 2 rfl rfl dX1_write_80 ?_
              refine Z_imul (pc := 81) hX dX1_write_81 ?_
              refine zl_10 (pc := 82) hX (2 * k) (by omega) (by omega) dX1_write_82 ?_
              refine V_oI u.1 hsw.2.2.2.1.1 ?_
              refine V_aload_n (pc := 83) (j := 0) hX 0 rfl rfl dX1_write_83 ?_
              refine gf_X1_24 (pc := 84) hX dX1_write_84 ?_
              refine V_iconst (pc := 87) (z := 2) hX (oI 2) rfl dX1_write_87 ?_
              refine V_iload_n (pc := 88) (j := 2) hX 2 rfl rfl dX1_write_88 ?_
              refine Z_imul (pc := 89) hX dX1_write_89 ?_
              refine V_iconst (pc := 90) (z := 1) hX (oI 1) rfl dX1_write_90 ?_
              refine Z_iadd (pc := 91) hX dX1_write_91 ?_
              refine zl_10 (pc := 92) hX (2 * k + 1) (by omega) (by omega) dX1_write_92 ?_
              refine V_oI u.2 hsw.2.2.2.1.2 ?_
              refine V_iload (pc := 93) hX rfl dX1_write_93 ?_
              refine Z_if_eq (pc := 95) (tgt := 103) hX (by omega) dX1_write_95 (by decide) (fun _ => ?_) (fun h => absurd h (by decide))
              refine V_bipush (pc := 103) (z := 44) hX (oI 44) (by decide) dX1_write_103 ?_
              refine cVV3 (pc := 105) hX (c_X3_putPair (by omega) (by omega)) (by decide) st_X1_112 ix_18 rfl rfl rfl (Nat.le_of_ble_eq_true rfl) dX1_write_105 ?_
              refine Z_iinc (pc := 108) hX 1 rfl rfl dX1_write_108 ?_
              refine V_goto (pc := 111) (off := (-109)) (tgt := 2) hX (by decide) dX1_write_111 ?_
              have hfl : fl = true := hsw.2.2.1.2.2.mpr (by omega)
              have hla : la = false := Bool.eq_false_iff.mpr (fun w => e3.mp w (by omega))
              refine V_dt (D' := wrD D ((swC S).take (k + 1)).flatten) (by rw [wrD_app, wrD_app, hcat, hfl, hla]; simp [sgW, hdW]) ?_
              refine V_cut [(0, some (.ref (E.1 (5, 0)))), (1, some (.ref (E.1 (18, 0)))), (2, some (.int (oI ((k + 1 : Nat) : Int))))] ⟨rfl, rfl, rfl, trivial⟩ ?_
              exact ih (k + 1) (by omega) (by omega)
            · refine V_iconst (pc := 67) (z := 1) hX (oI 1) rfl dX1_write_67 ?_
              refine V_goto (pc := 68) (off := 4) (tgt := 72) hX (by decide) dX1_write_68 ?_
              refine V_istore (pc := 72) hX (by decide) rfl dX1_write_72 ?_
              refine V_aload_n (pc := 74) (j := 1) hX 1 rfl rfl dX1_write_74 ?_
              refine V_aload_n (pc := 75) (j := 0) hX 0 rfl rfl dX1_write_75 ?_
              refine gf_X1_24 (pc := 76) hX dX1_write_76 ?_
              refine V_iconst (pc := 79) (z := 2) hX (oI 2) rfl dX1_write_79 ?_
              refine V_iload_n (pc := 80) (j := 2) hX 2 rfl rfl dX1_write_80 ?_
              refine Z_imul (pc := 81) hX dX1_write_81 ?_
              refine zl_10 (pc := 82) hX (2 * k) (by omega) (by omega) dX1_write_82 ?_
              refine V_oI u.1 hsw.2.2.2.1.1 ?_
              refine V_aload_n (pc := 83) (j := 0) hX 0 rfl rfl dX1_write_83 ?_
              refine gf_X1_24 (pc := 84) hX dX1_write_84 ?_
              refine V_iconst (pc := 87) (z := 2) hX (oI 2) rfl dX1_write_87 ?_
              refine V_iload_n (pc := 88) (j := 2) hX 2 rfl rfl dX1_write_88 ?_
              refine Z_imul (pc := 89) hX dX1_write_89 ?_
              refine V_iconst (pc := 90) (z := 1) hX (oI 1) rfl dX1_write_90 ?_
              refine Z_iadd (pc := 91) hX dX1_write_91 ?_
              refine zl_10 (pc := 92) hX (2 * k + 1) (by omega) (by omega) dX1_write_92 ?_
              refine V_oI u.2 hsw.2.2.2.1.2 ?_
              refine V_iload (pc := 93) hX rfl dX1_write_93 ?_
              refine Z_if_eq (pc := 95) (tgt := 103) hX (by omega) dX1_write_95 (by decide) (fun h => absurd h (by decide)) (fun _ => ?_)
              refine V_bipush (pc := 98) (z := 59) hX (oI 59) (by decide) dX1_write_98 ?_
              refine V_goto (pc := 100) (off := 5) (tgt := 105) hX (by decide) dX1_write_100 ?_
              refine cVV3 (pc := 105) hX (c_X3_putPair (by omega) (by omega)) (by decide) st_X1_112 ix_18 rfl rfl rfl (Nat.le_of_ble_eq_true rfl) dX1_write_105 ?_
              refine Z_iinc (pc := 108) hX 1 rfl rfl dX1_write_108 ?_
              refine V_goto (pc := 111) (off := (-109)) (tgt := 2) hX (by decide) dX1_write_111 ?_
              have hfl : fl = true := hsw.2.2.1.2.2.mpr (by omega)
              have hla : la = true := e3.mpr (by omega)
              refine V_dt (D' := wrD D ((swC S).take (k + 1)).flatten) (by rw [wrD_app, wrD_app, hcat, hfl, hla]; simp [sgW, hdW]) ?_
              refine V_cut [(0, some (.ref (E.1 (5, 0)))), (1, some (.ref (E.1 (18, 0)))), (2, some (.int (oI ((k + 1 : Nat) : Int))))] ⟨rfl, rfl, rfl, trivial⟩ ?_
              exact ih (k + 1) (by omega) (by omega)
  refine V_iconst (pc := 0) (z := 0) hX (oI 0) rfl dX1_write_0 ?_
  refine V_istore_n (pc := 1) (j := 2) hX 2 rfl (by decide) rfl dX1_write_1 ?_
  refine V_cut [(0, some (.ref (E.1 (5, 0)))), (1, some (.ref (E.1 (18, 0)))), (2, some (.int (oI ((0 : Nat) : Int))))] ⟨rfl, rfl, rfl, trivial⟩ ?_
  have hL := loop (nsC S + 1) 0 (by omega) (by omega)
  rw [List.take_zero, List.flatten_nil, wrD_nil] at hL
  exact hL
