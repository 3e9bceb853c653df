/-! THE SCRIPT: a sentence -/
def SnK (pl : Nat) (D D' : Dt) : Prop := (∀ t, t ≠ 15 → t ≠ 17 → D'.1 t = D.1 t) ∧ (∀ j, (j < 4 ∨ 7 < j) → D'.1 15 j = D.1 15 j) ∧ D'.2 = D.2 ∧ ∀ j, (j < pl ∨ pl + 6 ≤ j) → D'.1 17 j = D.1 17 j
theorem SnK.rf (pl : Nat) (D : Dt) : SnK pl D D := ⟨fun _ _ _ => rfl, fun _ _ => rfl, rfl, fun _ _ => rfl⟩
theorem SnK.tr {pl : Nat} {D D1 D2 : Dt} (h : SnK pl D D1) (k : SnK pl D1 D2) : SnK pl D D2 := ⟨fun t ht hu => (k.1 t ht hu).trans (h.1 t ht hu), fun j hj => (k.2.1 j hj).trans (h.2.1 j hj), k.2.2.1.trans h.2.2.1, fun j hj => (k.2.2.2 j hj).trans (h.2.2.2 j hj)⟩
theorem TNk.sn {pl : Nat} {D D' : Dt} (h : TNk D D') : SnK pl D D' := ⟨fun t ht _ => h.1 t ht, h.2.1, h.2.2, fun j _ => by rw [h.1 17 (by decide)]⟩
theorem SnK_U {pl : Nat} (D : Dt) {i : Nat} (hi : pl ≤ i ∧ i < pl + 6) (v : Int32) : SnK pl D (rU D 17 (upd (D.1 17) i v)) := ⟨fun t _ hu => rU_ne D _ hu, fun j _ => by rw [rU_ne _ _ (by decide)], rfl, fun j hj => by rw [rU_get, upd_at, if_neg (by omega)]⟩
theorem TcX.sk {pl : Nat} {D D' : Dt} {x : Tx} (h : TcX D x) (k : SnK pl D D') : TcX D' x := ⟨by rw [k.2.1 1 (by omega)]; exact h.1, h.2.1, fun j hj => by rw [k.1 16 (by decide) (by decide)]; exact h.2.2 j hj⟩
def rdP (vs : List Int) : Except Nat (Nat × List Int) → Except Nat (Nat × List Int)
  | .ok q => .ok (q.1, vs ++ q.2)
  | .error e => .error e
theorem rdP_C (vs : List Int) (v : Int) (r : Except Nat (Nat × List Int)) : rdP vs (rdC v r) = rdP (vs ++ [v]) r := by
  cases r with
  | error e => rfl
  | ok q => show Except.ok (q.1, vs ++ v :: q.2) = Except.ok (q.1, vs ++ [v] ++ q.2); rw [List.append_assoc]; rfl
theorem rdP_nil (r : Except Nat (Nat × List Int)) : rdP [] r = r := by cases r <;> rfl
theorem dr_i {L : List (Int × Int)} {i : Nat} (h : i < L.length) : L.drop i = ((L.getD i (0, 0)).1, (L.getD i (0, 0)).2) :: L.drop (i + 1) := by
  have e : L.getD i (0, 0) = L[i] := by rw [List.getD_eq_getElem?_getD, List.getElem?_eq_getElem h]; rfl
  rw [e]
  exact List.drop_eq_getElem_cons h
def SrR (pl : Nat) (D' : Dt) (r : Int32) : Except Nat (Nat × Sn) → Prop
  | .error e => r = bI false ∧ D'.1 15 5 = oI (e : Int)
  | .ok q => r = bI true ∧ D'.1 15 4 = oI (q.1 : Int) ∧ D'.1 17 pl = oI (q.2.1 : Int) ∧ D'.1 17 (pl + 1) = oI (q.2.2.1 : Int) ∧ ∀ i v, q.2.2.2[i]? = some v → D'.1 17 (pl + 2 + i) = oI v
def SrQ (x : Tx) (k pl : Nat) (D : Dt) (r : Int32) (D' : Dt) : Prop := SnK pl D D' ∧ SrR pl D' r (senR x k)
/-- what stands of a sentence: area, word, numbers so far; where it goes on -/
def SnI (x : Tx) (pl ar w p2 : Nat) (D : Dt) (i kc : Nat) (vs : List Int) (D1 : Dt) : Prop := (SnK pl D D1 ∧ D1.1 15 4 = oI (kc : Int) ∧ kc ≤ x.1) ∧ (D1.1 17 pl = oI (ar : Int) ∧ D1.1 17 (pl + 1) = oI (w : Int)) ∧ (∀ j v, vs[j]? = some v → D1.1 17 (pl + 2 + j) = oI v) ∧ vs.length = i ∧ rdN x (wArg (w : Int)) p2 = rdP vs (rdN x ((wArg (w : Int)).drop i) kc)
theorem SnI.nx {x : Tx} {pl ar w p2 i kc : Nat} {vs : List Int} {D D1 D2 : Dt} {vl : Int} (h : SnI x pl ar w p2 D i kc vs D1) (hi : i < (wArg (w : Int)).length) (hi4 : i < 4) (h2 : TNk D1 D2) (hb : nmB x (skp x kc) ((wArg (w : Int)).getD i (0, 0)).1 ((wArg (w : Int)).getD i (0, 0)).2 = true) (hv : vl = nmA x (skp x kc)) (h4 : D2.1 15 4 = oI (nmN x (skp x kc) : Int)) (hle : nmN x (skp x kc) ≤ x.1) : SnI x pl ar w p2 D (i + 1) (nmN x (skp x kc)) (vs ++ [vl]) (rU D2 17 (upd (D2.1 17) (pl + 2 + i) (oI vl))) := by
  obtain ⟨⟨a1, a2, a3⟩, ⟨b1, b2⟩, c1, c2, c3⟩ := h
  refine ⟨⟨(a1.tr h2.sn).tr (SnK_U D2 (by omega) _), by rw [rU_ne _ _ (by decide)]; exact h4, hle⟩, ⟨?_, ?_⟩, fun j v hj => ?_, by rw [List.length_append, c2]; rfl, ?_⟩
  · rw [rU_get, upd_at, if_neg (by omega), h2.1 17 (by decide)]; exact b1
  · rw [rU_get, upd_at, if_neg (by omega), h2.1 17 (by decide)]; exact b2
  · rw [rU_get, upd_at]
    by_cases q : j < vs.length
    · rw [List.getElem?_append_left q] at hj
      rw [if_neg (by omega), h2.1 17 (by decide)]
      exact c1 j v hj
    · rw [List.getElem?_append_right (by omega)] at hj
      by_cases q2 : j = vs.length
      · rw [q2, Nat.sub_self] at hj
        cases hj
        rw [if_pos (by omega)]
      · obtain ⟨m, hm⟩ : ∃ m, j - vs.length = m + 1 := ⟨j - vs.length - 1, by omega⟩
        rw [hm] at hj
        cases hj
  · rw [c3, dr_i hi, rdN_t hb, rdP_C, hv]
theorem wArg_rg (w : Int) (i : Nat) : Rg ((wArg w).getD i (0, 0)).1 ∧ Rg ((wArg w).getD i (0, 0)).2 := by
  have key : ∀ L : List (Int × Int), (∀ q ∈ L, Rg q.1 ∧ Rg q.2) → Rg (L.getD i (0, 0)).1 ∧ Rg (L.getD i (0, 0)).2 := by
    intro L h
    rw [List.getD_eq_getElem?_getD]
    cases hq : L[i]? with
    | none => exact ⟨by decide, by decide⟩
    | some q => exact h q (List.mem_of_getElem? hq)
  apply key
  unfold wArg
  split
  · decide
  · split
    · decide
    · split
      · decide
      · split
        · decide
        · intro q hq; cases hq
theorem wArg_len (w : Int) : (wArg w).length ≤ 4 := by
  unfold wArg
  split
  · decide
  · split
    · decide
    · split
      · decide
      · split
        · decide
        · decide
theorem c_X4_readSentence {E : Le} {l : Launch} {D : Dt} {x : Tx} {k pl : Nat} {kd1 vl1 : Int} {p1 : Nat} (hT : TcX D x) (hpl : pl + 6 ≤ 144) (st1 : D.1 15 5 = oI (skp x k : Int)) (t61 : D.1 15 6 = oI kd1) (t71 : D.1 15 7 = oI vl1) (t41 : D.1 15 4 = oI (p1 : Int)) (tk1 : TkP x (skp x k) kd1 vl1 p1) : ConIp E l yX4_readSentence cX4_readSentence 5 (some .boolean) 9 [.ref (E.1 (15, 0)), .int (oI (pl : Int))] D (SrQ x k pl D) := by
  have hx := hT.2.1
  refine Con_of (by decide) (Nat.le_of_ble_eq_true rfl) ?_
  intro X hX hR hl; subst hl
  have loopA : ∀ (ar w p2 : Nat), w ≤ 11 → (wArg (w : Int)).length ≤ 4 → (nmA x (skp x k)).toNat = ar → senR x k = senW x (nmA x (skp x k)) (w : Int) (rdN x (wArg (w : Int)) p2) → ∀ (i kc : Nat) (vs : List Int) (D1 : Dt), i ≤ (wArg (w : Int)).length → SnI x pl ar w p2 D i kc vs D1 → Vw E X 5 D1 57 [(0, some (.ref (E.1 (15, 0)))), (1, some (.int (oI (pl : Int)))), (2, some (.int (oI (w : Int)))), (3, some (.int (oI ((wArg (w : Int)).length : Int)))), (4, some (.int (oI (i : Int))))] [] := by
    intro ar w p2 hw hln har hsen i0 kc0 vs0 D0 f1 f2
    have hrgA := wArg_rg (w : Int)
    have loop : ∀ (m : Nat) (i kc : Nat) (vs : List Int) (D1 : Dt), i ≤ (wArg (w : Int)).length → SnI x pl ar w p2 D i kc vs D1 → (wArg (w : Int)).length - i < m → Vw E X 5 D1 57 [(0, some (.ref (E.1 (15, 0)))), (1, some (.int (oI (pl : Int)))), (2, some (.int (oI (w : Int)))), (3, some (.int (oI ((wArg (w : Int)).length : Int)))), (4, some (.int (oI (i : Int))))] [] := by
      intro m
      induction m with
      | zero => intro i kc vs D1 g1 g2 g3; omega
      | succ m ih =>
        intro i kc vs D1 g1 g2 g3
        refine V_iload (pc := 57) hX rfl dX4_readSentence_57 ?_
        refine V_iload_n (pc := 59) (j := 3) hX 3 rfl rfl dX4_readSentence_59 ?_
        refine Z_icmp_ge (pc := 60) (tgt := 109) hX (by omega) (by omega) dX4_readSentence_60 (by decide) (fun h60 => ?_) (fun h60 => ?_)
        · refine V_aload_n (pc := 109) (j := 0) hX 0 rfl rfl dX4_readSentence_109 ?_
          refine cVVp0 (pc := 110) hX (c_X4_readNext (x := x) (k0 := kc) (hT.sk g2.1.1) g2.1.2.2 g2.1.2.1) (by decide) st_X4_29 ix_15 rfl rfl rfl (Nat.le_of_ble_eq_true rfl) dX4_readSentence_110 (fun D110 h110 => ?_)
          obtain ⟨⟨tn4, st4⟩, kd4, vl4, p4, ⟨t64, t74, t44⟩, tk4⟩ := h110
          refine V_aload_n (pc := 113) (j := 0) hX 0 rfl rfl dX4_readSentence_113 ?_
          refine gf_X4_32 (pc := 114) hX dX4_readSentence_114 ?_
          refine V_oI kd4 t64 ?_
          have hk4 := tk4.1.1
          refine V_iconst (pc := 117) (z := 3) hX (oI 3) rfl dX4_readSentence_117 ?_
          refine Z_icmp_ne (pc := 118) (tgt := 125) hX (by omega) (by omega) dX4_readSentence_118 (by decide) (fun h118 => ?_) (fun h118 => ?_)
          · refine V_iconst (pc := 125) (z := 0) hX (oI 0) rfl dX4_readSentence_125 ?_
            refine V_zret (pc := 126) hX hR (by decide) dX4_readSentence_126 ?_
            have hrd := g2.2.2.2.2
            rw [List.drop_of_length_le (by omega)] at hrd
            refine ⟨_, rfl, (g2.1.1.tr tn4.sn), ?_⟩
            rw [hsen, hrd]
            show SrR pl _ _ (if byt x (skp x kc) = 59 then _ else _)
            rw [if_neg (fun q => h118 (tk4.2.2.2.2.1.mpr q))]
            exact ⟨bI_0 rfl, st4⟩
          · refine V_iconst (pc := 121) (z := 1) hX (oI 1) rfl dX4_readSentence_121 ?_
            refine V_goto (pc := 122) (off := 4) (tgt := 126) hX (by decide) dX4_readSentence_122 ?_
            refine V_zret (pc := 126) hX hR (by decide) dX4_readSentence_126 ?_
            have hrd := g2.2.2.2.2
            rw [List.drop_of_length_le (by omega)] at hrd
            refine ⟨_, rfl, (g2.1.1.tr tn4.sn), ?_⟩
            rw [hsen, hrd]
            show SrR pl _ _ (if byt x (skp x kc) = 59 then _ else _)
            rw [if_pos (tk4.2.2.2.2.1.mp h118)]
            refine ⟨bI_1 rfl, by rw [t44, tk4.2.2.2.2.2 h118], ?_, ?_, fun j v hj => ?_⟩
            · rw [tn4.1 17 (by decide), har]; exact g2.2.1.1
            · rw [tn4.1 17 (by decide)]; exact g2.2.1.2
            · rw [tn4.1 17 (by decide)]; exact g2.2.2.1 j v (by rw [List.append_nil] at hj; exact hj)
        · refine V_aload_n (pc := 63) (j := 0) hX 0 rfl rfl dX4_readSentence_63 ?_
          refine cVVp0 (pc := 64) hX (c_X4_readNext (x := x) (k0 := kc) (hT.sk g2.1.1) g2.1.2.2 g2.1.2.1) (by decide) st_X4_29 ix_15 rfl rfl rfl (Nat.le_of_ble_eq_true rfl) dX4_readSentence_64 (fun D64 h64 => ?_)
          obtain ⟨⟨tn3, st3⟩, kd3, vl3, p3, ⟨t63, t73, t43⟩, tk3⟩ := h64
          refine V_aload_n (pc := 67) (j := 0) hX 0 rfl rfl dX4_readSentence_67 ?_
          refine V_iload_n (pc := 68) (j := 2) hX 2 rfl rfl dX4_readSentence_68 ?_
          refine V_iload (pc := 69) hX rfl dX4_readSentence_69 ?_
          refine cSI2 (pc := 71) hX (c_X4_least (w := (w : Int)) (i := i) (by omega) (by omega) (by omega)) (by decide) st_X4_53 (Nat.le_of_ble_eq_true rfl) dX4_readSentence_71 ?_
          refine V_iload_n (pc := 74) (j := 2) hX 2 rfl rfl dX4_readSentence_74 ?_
          refine V_iload (pc := 75) hX rfl dX4_readSentence_75 ?_
          refine cSI2 (pc := 77) hX (c_X4_greatest (w := (w : Int)) (i := i) (by omega) (by omega) (by omega)) (by decide) st_X4_57 (Nat.le_of_ble_eq_true rfl) dX4_readSentence_77 ?_
          refine cVI2 (pc := 80) hX (c_X4_isNumber tk3.1.1 tk3.1.2.1 (hrgA i).1 (hrgA i).2 t63 t73) (by decide) st_X4_42 ix_15 rfl rfl rfl (Nat.le_of_ble_eq_true rfl) dX4_readSentence_80 ?_
          refine B_if_ne (pc := 83) (tgt := 88) hX dX4_readSentence_83 (by decide) (fun h83 => ?_) (fun h83 => ?_)
          · refine V_aload_n (pc := 88) (j := 0) hX 0 rfl rfl dX4_readSentence_88 ?_
            refine gf_X4_15 (pc := 89) hX dX4_readSentence_89 ?_
            refine V_iload_n (pc := 92) (j := 1) hX 1 rfl rfl dX4_readSentence_92 ?_
            refine V_iconst (pc := 93) (z := 2) hX (oI 2) rfl dX4_readSentence_93 ?_
            refine Z_iadd (pc := 94) hX dX4_readSentence_94 ?_
            refine V_iload (pc := 95) hX rfl dX4_readSentence_95 ?_
            refine Z_iadd (pc := 97) hX dX4_readSentence_97 ?_
            refine V_aload_n (pc := 98) (j := 0) hX 0 rfl rfl dX4_readSentence_98 ?_
            refine gf_X4_46 (pc := 99) hX dX4_readSentence_99 ?_
            refine V_oI vl3 t73 ?_
            refine zs_17 (pc := 102) hX (pl + 2 + i) (by omega) (by omega) dX4_readSentence_102 ?_
            refine Z_iinc (pc := 103) hX 1 rfl rfl dX4_readSentence_103 ?_
            refine V_goto (pc := 106) (off := (-49)) (tgt := 57) hX (by decide) dX4_readSentence_106 ?_
            have hd := of_decide_eq_true h83
            have hb : nmB x (skp x kc) ((wArg (w : Int)).getD i (0, 0)).1 ((wArg (w : Int)).getD i (0, 0)).2 = true := by rw [nmB_k tk3]; exact h83
            have hv := tk3.2.2.1.2 hd.1
            refine V_cut [(0, some (.ref (E.1 (15, 0)))), (1, some (.int (oI (pl : Int)))), (2, some (.int (oI (w : Int)))), (3, some (.int (oI ((wArg (w : Int)).length : Int)))), (4, some (.int (oI ((i + 1 : Nat) : Int))))] ⟨rfl, rfl, rfl, rfl, rfl, trivial⟩ ?_
            exact ih (i + 1) _ _ _ (by omega) (g2.nx (by omega) (by omega) tn3 hb hv.1 (by rw [t43, hv.2]) (by rw [← hv.2]; exact tk3.1.2.2)) (by omega)
          · refine V_iconst (pc := 86) (z := 0) hX (oI 0) rfl dX4_readSentence_86 ?_
            refine V_zret (pc := 87) hX hR (by decide) dX4_readSentence_87 ?_
            refine ⟨_, rfl, (g2.1.1.tr tn3.sn), ?_⟩
            have hb : nmB x (skp x kc) ((wArg (w : Int)).getD i (0, 0)).1 ((wArg (w : Int)).getD i (0, 0)).2 = false := by rw [nmB_k tk3]; exact h83
            rw [hsen, g2.2.2.2.2, dr_i (by omega), rdN_f hb]
            exact ⟨bI_0 rfl, st3⟩
    exact loop ((wArg (w : Int)).length - i0 + 1) i0 kc0 vs0 D0 f1 f2 (by omega)
  refine V_aload_n (pc := 0) (j := 0) hX 0 rfl rfl dX4_readSentence_0 ?_
  refine V_iconst (pc := 1) (z := 0) hX (oI 0) rfl dX4_readSentence_1 ?_
  refine V_iconst (pc := 2) (z := 4) hX (oI 4) rfl dX4_readSentence_2 ?_
  refine cVI2 (pc := 3) hX (c_X4_isNumber tk1.1.1 tk1.1.2.1 (by omega) (by omega) t61 t71) (by decide) st_X4_42 ix_15 rfl rfl rfl (Nat.le_of_ble_eq_true rfl) dX4_readSentence_3 ?_
  refine B_if_ne (pc := 6) (tgt := 11) hX dX4_readSentence_6 (by decide) (fun h6 => ?_) (fun h6 => ?_)
  · have hd := of_decide_eq_true h6
    have hv1 := tk1.2.2.1.2 hd.1
    have hb : nmB x (skp x k) 0 4 = true := by rw [nmB_k tk1]; exact h6
    have hsR : senR x k = senV x (nmA x (skp x k)) (skp x (nmN x (skp x k))) (wdR x (skp x (nmN x (skp x k)))) := by rw [senR, if_pos hb]
    refine V_aload_n (pc := 11) (j := 0) hX 0 rfl rfl dX4_readSentence_11 ?_
    refine gf_X4_15 (pc := 12) hX dX4_readSentence_12 ?_
    refine V_iload_n (pc := 15) (j := 1) hX 1 rfl rfl dX4_readSentence_15 ?_
    refine V_aload_n (pc := 16) (j := 0) hX 0 rfl rfl dX4_readSentence_16 ?_
    refine gf_X4_46 (pc := 17) hX dX4_readSentence_17 ?_
    refine V_oI vl1 t71 ?_
    refine zs_17 (pc := 20) hX (pl) (rfl) (by omega) dX4_readSentence_20 ?_
    refine V_aload_n (pc := 21) (j := 0) hX 0 rfl rfl dX4_readSentence_21 ?_
    refine cVVp0 (pc := 22) hX (c_X4_readNext (x := x) (k0 := p1) (hT.sk (SnK_U (pl := pl) D (by omega) _)) tk1.1.2.2 (by rw [rU_ne _ _ (by decide)]; exact t41)) (by decide) st_X4_29 ix_15 rfl rfl rfl (Nat.le_of_ble_eq_true rfl) dX4_readSentence_22 (fun D22 h22 => ?_)
    obtain ⟨⟨tn2, st2⟩, kd2, vl2, p2, ⟨t62, t72, t42⟩, tk2⟩ := h22
    refine V_aload_n (pc := 25) (j := 0) hX 0 rfl rfl dX4_readSentence_25 ?_
    refine gf_X4_32 (pc := 26) hX dX4_readSentence_26 ?_
    refine V_oI kd2 t62 ?_
    have hk2 := tk2.1.1
    refine V_iconst (pc := 29) (z := 1) hX (oI 1) rfl dX4_readSentence_29 ?_
    refine Z_icmp_eq (pc := 30) (tgt := 35) hX (by omega) (by omega) dX4_readSentence_30 (by decide) (fun h30 => ?_) (fun h30 => ?_)
    · refine V_aload_n (pc := 35) (j := 0) hX 0 rfl rfl dX4_readSentence_35 ?_
      refine gf_X4_46 (pc := 36) hX dX4_readSentence_36 ?_
      refine V_oI vl2 t72 ?_
      refine V_istore_n (pc := 39) (j := 2) hX 2 rfl (by decide) rfl dX4_readSentence_39 ?_
      refine V_aload_n (pc := 40) (j := 0) hX 0 rfl rfl dX4_readSentence_40 ?_
      refine gf_X4_15 (pc := 41) hX dX4_readSentence_41 ?_
      refine V_iload_n (pc := 44) (j := 1) hX 1 rfl rfl dX4_readSentence_44 ?_
      refine V_iconst (pc := 45) (z := 1) hX (oI 1) rfl dX4_readSentence_45 ?_
      refine Z_iadd (pc := 46) hX dX4_readSentence_46 ?_
      refine V_iload_n (pc := 47) (j := 2) hX 2 rfl rfl dX4_readSentence_47 ?_
      refine zs_17 (pc := 48) hX (pl + 1) (by omega) (by omega) dX4_readSentence_48 ?_
      refine V_iload_n (pc := 49) (j := 2) hX 2 rfl rfl dX4_readSentence_49 ?_
      refine cSI1 (pc := 50) hX (c_X4_numbersOf (by have hwd := tk2.2.2.2.1.1 (by omega); have hwr := wdR_rg x (skp x p1); rw [hwd.1] at hwr; dsimp only at hwr; omega)) (by decide) st_X4_49 (Nat.le_of_ble_eq_true rfl) dX4_readSentence_50 ?_
      refine V_istore_n (pc := 53) (j := 3) hX 3 rfl (by decide) rfl dX4_readSentence_53 ?_
      refine V_iconst (pc := 54) (z := 0) hX (oI 0) rfl dX4_readSentence_54 ?_
      refine V_istore (pc := 55) hX (by decide) rfl dX4_readSentence_55 ?_
      obtain ⟨hwd, hw0⟩ := tk2.2.2.2.1.1 (by omega)
      have hwr := wdR_rg x (skp x p1)
      rw [hwd] at hwr
      dsimp only at hwr
      obtain ⟨w, hwv⟩ : ∃ w : Nat, vl2 = (w : Int) := ⟨vl2.toNat, by omega⟩
      subst hwv
      have hw11 : w ≤ 11 := by omega
      have hln := wArg_len (w : Int)
      refine V_cut [(0, some (.ref (E.1 (15, 0)))), (1, some (.int (oI (pl : Int)))), (2, some (.int (oI (w : Int)))), (3, some (.int (oI ((wArg (w : Int)).length : Int)))), (4, some (.int (oI ((0 : Nat) : Int))))] ⟨rfl, rfl, rfl, rfl, rfl, trivial⟩ ?_
      refine loopA (nmA x (skp x k)).toNat w p2 hw11 hln rfl ?_ 0 p2 [] _ (by omega) ⟨⟨((SnK_U D (by omega) _).tr tn2.sn).tr (SnK_U _ (by omega) _), by rw [rU_ne _ _ (by decide)]; exact t42, tk2.1.2.2⟩, ⟨?_, ?_⟩, fun j v hj => (by rw [List.getElem?_nil] at hj; cases hj), rfl, by rw [rdP_nil]; rfl⟩
      · rw [hsR, ← hv1.2, hwd, senV, if_neg (by show ¬ (w : Int) < 0; omega)]
      · rw [rU_get, upd_at, if_neg (by omega), tn2.1 17 (by decide), rU_get, upd_at, if_pos rfl]; congr 1; omega
      · rw [rU_get, upd_at, if_pos rfl]
    · refine V_iconst (pc := 33) (z := 0) hX (oI 0) rfl dX4_readSentence_33 ?_
      refine V_zret (pc := 34) hX hR (by decide) dX4_readSentence_34 ?_
      refine ⟨_, rfl, (SnK_U D (by omega) _).tr tn2.sn, ?_⟩
      rw [hsR, ← hv1.2, senV, if_pos (tk2.2.2.2.1.2 (by omega))]
      exact ⟨bI_0 rfl, st2⟩
  · refine V_iconst (pc := 9) (z := 0) hX (oI 0) rfl dX4_readSentence_9 ?_
    refine V_zret (pc := 10) hX hR (by decide) dX4_readSentence_10 ?_
    refine ⟨_, rfl, SnK.rf pl D, ?_⟩
    have hb : nmB x (skp x k) 0 4 = false := by rw [nmB_k tk1]; exact h6
    rw [senR, if_neg (by rw [hb]; decide)]
    exact ⟨bI_0 rfl, st1⟩
