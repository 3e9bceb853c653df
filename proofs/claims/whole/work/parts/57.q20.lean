/-! THE SCRIPT: its text, letters, figures, numbers -/
def TcX (D : Dt) (x : Tx) : Prop := D.1 15 1 = oI (x.1 : Int) ∧ x.1 ≤ 120 ∧ ∀ k, k < x.1 → D.1 16 k = oI (x.2 k) ∧ 0 ≤ x.2 k ∧ x.2 k < 128
def TNk (D D' : Dt) : Prop := (∀ t, t ≠ 15 → D'.1 t = D.1 t) ∧ (∀ j, (j < 4 ∨ 7 < j) → D'.1 15 j = D.1 15 j) ∧ D'.2 = D.2
theorem TNk.rf (D : Dt) : TNk D D := ⟨fun _ _ => rfl, fun _ _ => rfl, rfl⟩
theorem TNk.tr {D D1 D2 : Dt} (h : TNk D D1) (k : TNk D1 D2) : TNk D D2 := ⟨fun t ht => (k.1 t ht).trans (h.1 t ht), fun j hj => (k.2.1 j hj).trans (h.2.1 j hj), k.2.2.trans h.2.2⟩
theorem TNk_U (D : Dt) {i : Nat} (hi : 4 ≤ i ∧ i ≤ 7) (v : Int32) : TNk D (rU D 15 (upd (D.1 15) i v)) := ⟨fun t ht => rU_ne D _ ht, fun j hj => by rw [rU_get, upd_at, if_neg (by omega)], rfl⟩
theorem TcX.tk {D D' : Dt} {x : Tx} (h : TcX D x) (k : TNk D D') : TcX D' x := ⟨by rw [k.2.1 1 (by omega)]; exact h.1, h.2.1, fun j hj => by rw [k.1 16 (by decide)]; exact h.2.2 j hj⟩
theorem byt_end {x : Tx} {k : Nat} (h : ¬ k < x.1) : byt x k = -1 := if_neg h
theorem U15 (D : Dt) (i : Nat) (v : Int32) (j : Nat) : (rU D 15 (upd (D.1 15) i v)).1 15 j = if j = i then v else D.1 15 j := by rw [rU_get, upd_at]
theorem c_X4_isLetter {E : Le} {l : Launch} {D : Dt} {x : Tx} {k : Nat} (hT : TcX D x) (hk : k < x.1) : ConI E l yX4_isLetter cX4_isLetter 2 (some .boolean) 2 [.ref (E.1 (15, 0)), .int (oI (k : Int))] D (bI (inB (byt x k) 97 122)) D := by
  have hx := hT.2.1
  refine Con_of (by decide) (Nat.le_of_ble_eq_true rfl) ?_
  intro X hX hR hl; subst hl
  refine V_aload_n (pc := 0) (j := 0) hX 0 rfl rfl dX4_isLetter_0 ?_
  refine gf_X4_9 (pc := 1) hX dX4_isLetter_1 ?_
  refine V_iload_n (pc := 4) (j := 1) hX 1 rfl rfl dX4_isLetter_4 ?_
  refine zl_16 (pc := 5) hX (k) (by omega) (by omega) dX4_isLetter_5 ?_
  refine V_oI (x.2 k) (hT.2.2 k hk).1 ?_
  refine V_bipush (pc := 6) (z := 97) hX (oI 97) (by decide) dX4_isLetter_6 ?_
  refine V_bipush (pc := 8) (z := 122) hX (oI 122) (by decide) dX4_isLetter_8 ?_
  refine cNI3 (pc := 10) hX (c_X5_within (by have := hT.2.2 k hk; omega) (by omega) (by omega)) (by decide) st_X4_60 (Nat.le_of_ble_eq_true rfl) dX4_isLetter_10 ?_
  refine V_zret (pc := 13) hX hR (bI_nar _) dX4_isLetter_13 ?_
  exact ⟨some_int (by rw [byt_in hk]), rfl⟩
theorem c_X4_isFigure {E : Le} {l : Launch} {D : Dt} {x : Tx} {k : Nat} (hT : TcX D x) (hk : k < x.1) : ConI E l yX4_isFigure cX4_isFigure 2 (some .boolean) 2 [.ref (E.1 (15, 0)), .int (oI (k : Int))] D (bI (inB (byt x k) 48 57)) D := by
  have hx := hT.2.1
  refine Con_of (by decide) (Nat.le_of_ble_eq_true rfl) ?_
  intro X hX hR hl; subst hl
  refine V_aload_n (pc := 0) (j := 0) hX 0 rfl rfl dX4_isFigure_0 ?_
  refine gf_X4_9 (pc := 1) hX dX4_isFigure_1 ?_
  refine V_iload_n (pc := 4) (j := 1) hX 1 rfl rfl dX4_isFigure_4 ?_
  refine zl_16 (pc := 5) hX (k) (by omega) (by omega) dX4_isFigure_5 ?_
  refine V_oI (x.2 k) (hT.2.2 k hk).1 ?_
  refine V_bipush (pc := 6) (z := 48) hX (oI 48) (by decide) dX4_isFigure_6 ?_
  refine V_bipush (pc := 8) (z := 57) hX (oI 57) (by decide) dX4_isFigure_8 ?_
  refine cNI3 (pc := 10) hX (c_X5_within (by have := hT.2.2 k hk; omega) (by omega) (by omega)) (by decide) st_X4_60 (Nat.le_of_ble_eq_true rfl) dX4_isFigure_10 ?_
  refine V_zret (pc := 13) hX hR (bI_nar _) dX4_isFigure_13 ?_
  exact ⟨some_int (by rw [byt_in hk]), rfl⟩
def szV (x : Tx) (q f : Nat) : Int := if f = 0 then 0 else if f = 1 then 10 * 0 + byt x q - 48 else 10 * (10 * 0 + byt x q - 48) + byt x (q + 1) - 48
theorem szV_rg {x : Tx} {q f : Nat} (h : ∀ i, i < f → inB (byt x (q + i)) 48 57 = true) : 0 ≤ szV x q f ∧ szV x q f ≤ 99 := by
  unfold szV
  by_cases c : f = 0
  · rw [if_pos c]; omega
  · rw [if_neg c]
    have h0 := inB_t.mp (h 0 (by omega))
    rw [Nat.add_zero] at h0
    by_cases c2 : f = 1
    · rw [if_pos c2]; omega
    · rw [if_neg c2]
      have h1 := inB_t.mp (h 1 (by omega))
      omega
theorem dg_t {x : Tx} {m k : Nat} {v : Int} (h : inB (byt x k) 48 57 = true) : dgS x (m + 1) k v = dgS x m (k + 1) (10 * v + byt x k - 48) := by
  rw [dgS, if_pos (inB_t.mp h)]
theorem dg_f {x : Tx} {m k : Nat} {v : Int} (h : inB (byt x k) 48 57 = false) : dgS x (m + 1) k v = (k, v) := by
  rw [dgS, if_neg (fun q => by rw [inB_t.mpr q] at h; cases h)]
/-- the number at s has f figures, from q on -/
theorem dg_all {x : Tx} {q f : Nat} (h : ∀ i, i < f → inB (byt x (q + i)) 48 57 = true) (he : inB (byt x (q + f)) 48 57 = false) : (f < 3 → dgS x 3 q 0 = (q + f, szV x q f)) ∧ (3 ≤ f → (dgS x 3 q 0).1 = q + 3) := by
  constructor
  · intro hf
    have hc : f = 0 ∨ f = 1 ∨ f = 2 := by omega
    rcases hc with rfl | rfl | rfl
    · rw [dg_f (by simpa using he)]; rfl
    · rw [dg_t (by simpa using h 0 (by omega)), dg_f he]; rfl
    · rw [dg_t (by simpa using h 0 (by omega)), dg_t (h 1 (by omega)), dg_f he]; rfl
  · intro hf
    rw [dg_t (by simpa using h 0 (by omega)), dg_t (h 1 (by omega)), dg_t (show inB (byt x (q + 1 + 1)) 48 57 = true from h 2 (by omega))]
    rfl
def NuQ (x : Tx) (s : Nat) (D D' : Dt) : Prop := (TNk D D' ∧ D'.1 15 5 = D.1 15 5) ∧ ∃ (kd vl : Int) (p : Nat), (D'.1 15 6 = oI kd ∧ D'.1 15 7 = oI vl ∧ D'.1 15 4 = oI (p : Int)) ∧ (p ≤ x.1 ∧ -99 ≤ vl ∧ vl ≤ 99) ∧ (kd = 2 ∨ kd = 4) ∧ (kd = 2 ↔ nmF x s < nmN x s ∧ nmN x s - nmF x s < 3) ∧ (kd = 2 → vl = nmA x s ∧ p = nmN x s)
theorem Nu_mk {x : Tx} {s q f : Nat} {D D1 : Dt} {kd : Int} (hq : q = nmF x s) (h1 : TNk D D1 ∧ D1.1 15 5 = D.1 15 5) (h4 : D1.1 15 4 = oI ((q + f : Nat) : Int)) (hx : q + f ≤ x.1) (hf : ∀ i, i < f → inB (byt x (q + i)) 48 57 = true) (he : inB (byt x (q + f)) 48 57 = false) (hk : ((f = 1 ∨ f = 2) ∧ kd = 2) ∨ (¬ (f = 1 ∨ f = 2) ∧ kd = 4)) {vl : Int} (hv : vl = if nmM x s then -szV x q f else szV x q f) : NuQ x s D (rU (rU D1 15 (upd (D1.1 15) 6 (oI kd))) 15 (upd ((rU D1 15 (upd (D1.1 15) 6 (oI kd))).1 15) 7 (oI vl))) := by
  have hr := szV_rg hf
  obtain ⟨ha, hb⟩ := dg_all hf he
  refine ⟨⟨(h1.1.tr (TNk_U D1 (by omega) _)).tr (TNk_U _ (by omega) _), ?_⟩, kd, vl, q + f, ⟨?_, ?_, ?_⟩, ⟨hx, ?_⟩, by omega, ?_, ?_⟩
  · rw [U15, if_neg (by decide), U15, if_neg (by decide)]; exact h1.2
  · rw [U15, if_neg (by decide), U15, if_pos rfl]
  · rw [U15, if_pos rfl]
  · rw [U15, if_neg (by decide), U15, if_neg (by decide)]; exact h4
  · rw [hv]; split <;> omega
  · unfold nmN
    rw [← hq]
    by_cases c : f < 3
    · rw [ha c]
      show kd = 2 ↔ q < q + f ∧ q + f - q < 3
      omega
    · rw [hb (by omega)]; omega
  · intro k2
    have c : f < 3 := by omega
    unfold nmA nmN
    rw [← hq, ha c]
    exact ⟨hv, rfl⟩
theorem sz_nxa {x : Tx} {q f : Nat} (h : f < 2) (hq : q + f < x.1) : 10 * szV x q f + x.2 (q + f) - 48 = szV x q (f + 1) := by
  rw [← byt_in hq]
  have hc : f = 0 ∨ f = 1 := by omega
  rcases hc with rfl | rfl <;> rfl
theorem sz_nxb {x : Tx} {q f : Nat} (h : 2 ≤ f) : szV x q f = szV x q (f + 1) := by
  unfold szV; rw [if_neg (by omega), if_neg (by omega), if_neg (by omega), if_neg (by omega)]
theorem c_X4_readNumber {E : Le} {l : Launch} {D : Dt} {x : Tx} {s : Nat} (hT : TcX D x) (hs : s < x.1) (h4 : D.1 15 4 = oI (s : Int)) : ConVp E l yX4_readNumber cX4_readNumber 4 none 3 [.ref (E.1 (15, 0))] D (NuQ x s D) := by
  have hx := hT.2.1
  refine Con_of (by decide) (Nat.le_of_ble_eq_true rfl) ?_
  intro X hX hR hl; subst hl
  have loopA : ∀ (q : Nat) (bl : Int), q = nmF x s → ((bl = 0 ∨ bl = 1) ∧ (bl = 1 ↔ nmM x s = true)) → ∀ (f : Nat) (D1 : Dt), q + f ≤ x.1 ∧ (∀ i, i < f → inB (byt x (q + i)) 48 57 = true) → TNk D D1 ∧ D1.1 15 5 = D.1 15 5 ∧ D1.1 15 4 = oI ((q + f : Nat) : Int) → Vw E X 4 D1 38 [(0, some (.ref (E.1 (15, 0)))), (1, some (.int (oI bl))), (2, some (.int (oI ((f : Nat) : Int)))), (3, some (.int (oI (szV x q f))))] [] := by
    intro q bl hq hbl0 f D1
    obtain ⟨hbr, hbl⟩ := hbl0
    have loop : ∀ (m : Nat) (f : Nat) (D1 : Dt), q + f ≤ x.1 ∧ (∀ i, i < f → inB (byt x (q + i)) 48 57 = true) → TNk D D1 ∧ D1.1 15 5 = D.1 15 5 ∧ D1.1 15 4 = oI ((q + f : Nat) : Int) → x.1 - (q + f) < m → Vw E X 4 D1 38 [(0, some (.ref (E.1 (15, 0)))), (1, some (.int (oI bl))), (2, some (.int (oI ((f : Nat) : Int)))), (3, some (.int (oI (szV x q f))))] [] := by
      intro m
      induction m with
      | zero => intro f D1 g1 g2 g3; omega
      | succ m ih =>
        intro f D1 g1 g2 g3
        have hT1 := hT.tk g2.1
        have hszr := szV_rg g1.2
        have hx120 := hT.2.1
        refine V_aload_n (pc := 38) (j := 0) hX 0 rfl rfl dX4_readNumber_38 ?_
        refine gf_X4_26 (pc := 39) hX dX4_readNumber_39 ?_
        refine V_oI ((q + f : Nat) : Int) g2.2.2 ?_
        refine V_aload_n (pc := 42) (j := 0) hX 0 rfl rfl dX4_readNumber_42 ?_
        refine gf_X4_19 (pc := 43) hX dX4_readNumber_43 ?_
        refine V_oI (x.1 : Int) hT1.1 ?_
        refine Z_icmp_ge (pc := 46) (tgt := 103) hX (by omega) (by omega) dX4_readNumber_46 (by decide) (fun h46 => ?_) (fun h46 => ?_)
        · refine V_aload_n (pc := 103) (j := 0) hX 0 rfl rfl dX4_readNumber_103 ?_
          refine V_iload_n (pc := 104) (j := 2) hX 2 rfl rfl dX4_readNumber_104 ?_
          refine V_iconst (pc := 105) (z := 1) hX (oI 1) rfl dX4_readNumber_105 ?_
          refine Z_icmp_eq (pc := 106) (tgt := 114) hX (by omega) (by omega) dX4_readNumber_106 (by decide) (fun h106 => ?_) (fun h106 => ?_)
          · refine V_iconst (pc := 114) (z := 2) hX (oI 2) rfl dX4_readNumber_114 ?_
            refine V_goto (pc := 115) (off := 4) (tgt := 119) hX (by decide) dX4_readNumber_115 ?_
            refine pf_X4_32 (pc := 119) hX dX4_readNumber_119 ?_
            refine V_aload_n (pc := 122) (j := 0) hX 0 rfl rfl dX4_readNumber_122 ?_
            refine V_iload_n (pc := 123) (j := 1) hX 1 rfl rfl dX4_readNumber_123 ?_
            refine Z_if_eq (pc := 124) (tgt := 132) hX (by omega) dX4_readNumber_124 (by decide) (fun h124 => ?_) (fun h124 => ?_)
            · refine V_iload_n (pc := 132) (j := 3) hX 3 rfl rfl dX4_readNumber_132 ?_
              refine pf_X4_46 (pc := 133) hX dX4_readNumber_133 ?_
              refine V_vret (pc := 136) hX hR dX4_readNumber_136 ?_
              exact ⟨rfl, Nu_mk hq ⟨g2.1, g2.2.1⟩ g2.2.2 g1.1 g1.2 (by rw [byt_end (show ¬ q + f < x.1 by omega)]; rfl) (Or.inl ⟨by omega, rfl⟩) (by rw [if_neg (fun w => absurd (hbl.mpr w) (by omega))])⟩
            · refine V_iload_n (pc := 127) (j := 3) hX 3 rfl rfl dX4_readNumber_127 ?_
              refine Z_ineg (pc := 128) hX dX4_readNumber_128 ?_
              refine V_goto (pc := 129) (off := 4) (tgt := 133) hX (by decide) dX4_readNumber_129 ?_
              refine pf_X4_46 (pc := 133) hX dX4_readNumber_133 ?_
              refine V_vret (pc := 136) hX hR dX4_readNumber_136 ?_
              exact ⟨rfl, Nu_mk hq ⟨g2.1, g2.2.1⟩ g2.2.2 g1.1 g1.2 (by rw [byt_end (show ¬ q + f < x.1 by omega)]; rfl) (Or.inl ⟨by omega, rfl⟩) (by rw [if_pos (hbl.mp (by omega))])⟩
          · refine V_iload_n (pc := 109) (j := 2) hX 2 rfl rfl dX4_readNumber_109 ?_
            refine V_iconst (pc := 110) (z := 2) hX (oI 2) rfl dX4_readNumber_110 ?_
            refine Z_icmp_ne (pc := 111) (tgt := 118) hX (by omega) (by omega) dX4_readNumber_111 (by decide) (fun h111 => ?_) (fun h111 => ?_)
            · refine V_iconst (pc := 118) (z := 4) hX (oI 4) rfl dX4_readNumber_118 ?_
              refine pf_X4_32 (pc := 119) hX dX4_readNumber_119 ?_
              refine V_aload_n (pc := 122) (j := 0) hX 0 rfl rfl dX4_readNumber_122 ?_
              refine V_iload_n (pc := 123) (j := 1) hX 1 rfl rfl dX4_readNumber_123 ?_
              refine Z_if_eq (pc := 124) (tgt := 132) hX (by omega) dX4_readNumber_124 (by decide) (fun h124 => ?_) (fun h124 => ?_)
              · refine V_iload_n (pc := 132) (j := 3) hX 3 rfl rfl dX4_readNumber_132 ?_
                refine pf_X4_46 (pc := 133) hX dX4_readNumber_133 ?_
                refine V_vret (pc := 136) hX hR dX4_readNumber_136 ?_
                exact ⟨rfl, Nu_mk hq ⟨g2.1, g2.2.1⟩ g2.2.2 g1.1 g1.2 (by rw [byt_end (show ¬ q + f < x.1 by omega)]; rfl) (Or.inr ⟨by omega, rfl⟩) (by rw [if_neg (fun w => absurd (hbl.mpr w) (by omega))])⟩
              · refine V_iload_n (pc := 127) (j := 3) hX 3 rfl rfl dX4_readNumber_127 ?_
                refine Z_ineg (pc := 128) hX dX4_readNumber_128 ?_
                refine V_goto (pc := 129) (off := 4) (tgt := 133) hX (by decide) dX4_readNumber_129 ?_
                refine pf_X4_46 (pc := 133) hX dX4_readNumber_133 ?_
                refine V_vret (pc := 136) hX hR dX4_readNumber_136 ?_
                exact ⟨rfl, Nu_mk hq ⟨g2.1, g2.2.1⟩ g2.2.2 g1.1 g1.2 (by rw [byt_end (show ¬ q + f < x.1 by omega)]; rfl) (Or.inr ⟨by omega, rfl⟩) (by rw [if_pos (hbl.mp (by omega))])⟩
            · refine V_iconst (pc := 114) (z := 2) hX (oI 2) rfl dX4_readNumber_114 ?_
              refine V_goto (pc := 115) (off := 4) (tgt := 119) hX (by decide) dX4_readNumber_115 ?_
              refine pf_X4_32 (pc := 119) hX dX4_readNumber_119 ?_
              refine V_aload_n (pc := 122) (j := 0) hX 0 rfl rfl dX4_readNumber_122 ?_
              refine V_iload_n (pc := 123) (j := 1) hX 1 rfl rfl dX4_readNumber_123 ?_
              refine Z_if_eq (pc := 124) (tgt := 132) hX (by omega) dX4_readNumber_124 (by decide) (fun h124 => ?_) (fun h124 => ?_)
              · refine V_iload_n (pc := 132) (j := 3) hX 3 rfl rfl dX4_readNumber_132 ?_
                refine pf_X4_46 (pc := 133) hX dX4_readNumber_133 ?_
                refine V_vret (pc := 136) hX hR dX4_readNumber_136 ?_
                exact ⟨rfl, Nu_mk hq ⟨g2.1, g2.2.1⟩ g2.2.2 g1.1 g1.2 (by rw [byt_end (show ¬ q + f < x.1 by omega)]; rfl) (Or.inl ⟨by omega, rfl⟩) (by rw [if_neg (fun w => absurd (hbl.mpr w) (by omega))])⟩
              · refine V_iload_n (pc := 127) (j := 3) hX 3 rfl rfl dX4_readNumber_127 ?_
                refine Z_ineg (pc := 128) hX dX4_readNumber_128 ?_
                refine V_goto (pc := 129) (off := 4) (tgt := 133) hX (by decide) dX4_readNumber_129 ?_
                refine pf_X4_46 (pc := 133) hX dX4_readNumber_133 ?_
                refine V_vret (pc := 136) hX hR dX4_readNumber_136 ?_
                exact ⟨rfl, Nu_mk hq ⟨g2.1, g2.2.1⟩ g2.2.2 g1.1 g1.2 (by rw [byt_end (show ¬ q + f < x.1 by omega)]; rfl) (Or.inl ⟨by omega, rfl⟩) (by rw [if_pos (hbl.mp (by omega))])⟩
        · refine V_aload_n (pc := 49) (j := 0) hX 0 rfl rfl dX4_readNumber_49 ?_
          refine V_aload_n (pc := 50) (j := 0) hX 0 rfl rfl dX4_readNumber_50 ?_
          refine gf_X4_26 (pc := 51) hX dX4_readNumber_51 ?_
          refine V_oI ((q + f : Nat) : Int) g2.2.2 ?_
          refine cVI1 (pc := 54) hX (c_X4_isFigure (k := q + f) hT1 (by omega)) (by decide) st_X4_70 ix_15 rfl rfl rfl (Nat.le_of_ble_eq_true rfl) dX4_readNumber_54 ?_
          refine B_if_eq (pc := 57) (tgt := 103) hX dX4_readNumber_57 (by decide) (fun h57 => ?_) (fun h57 => ?_)
          · refine V_aload_n (pc := 103) (j := 0) hX 0 rfl rfl dX4_readNumber_103 ?_
            refine V_iload_n (pc := 104) (j := 2) hX 2 rfl rfl dX4_readNumber_104 ?_
            refine V_iconst (pc := 105) (z := 1) hX (oI 1) rfl dX4_readNumber_105 ?_
            refine Z_icmp_eq (pc := 106) (tgt := 114) hX (by omega) (by omega) dX4_readNumber_106 (by decide) (fun h106 => ?_) (fun h106 => ?_)
            · refine V_iconst (pc := 114) (z := 2) hX (oI 2) rfl dX4_readNumber_114 ?_
              refine V_goto (pc := 115) (off := 4) (tgt := 119) hX (by decide) dX4_readNumber_115 ?_
              refine pf_X4_32 (pc := 119) hX dX4_readNumber_119 ?_
              refine V_aload_n (pc := 122) (j := 0) hX 0 rfl rfl dX4_readNumber_122 ?_
              refine V_iload_n (pc := 123) (j := 1) hX 1 rfl rfl dX4_readNumber_123 ?_
              refine Z_if_eq (pc := 124) (tgt := 132) hX (by omega) dX4_readNumber_124 (by decide) (fun h124 => ?_) (fun h124 => ?_)
              · refine V_iload_n (pc := 132) (j := 3) hX 3 rfl rfl dX4_readNumber_132 ?_
                refine pf_X4_46 (pc := 133) hX dX4_readNumber_133 ?_
                refine V_vret (pc := 136) hX hR dX4_readNumber_136 ?_
                exact ⟨rfl, Nu_mk hq ⟨g2.1, g2.2.1⟩ g2.2.2 g1.1 g1.2 h57 (Or.inl ⟨by omega, rfl⟩) (by rw [if_neg (fun w => absurd (hbl.mpr w) (by omega))])⟩
              · refine V_iload_n (pc := 127) (j := 3) hX 3 rfl rfl dX4_readNumber_127 ?_
                refine Z_ineg (pc := 128) hX dX4_readNumber_128 ?_
                refine V_goto (pc := 129) (off := 4) (tgt := 133) hX (by decide) dX4_readNumber_129 ?_
                refine pf_X4_46 (pc := 133) hX dX4_readNumber_133 ?_
                refine V_vret (pc := 136) hX hR dX4_readNumber_136 ?_
                exact ⟨rfl, Nu_mk hq ⟨g2.1, g2.2.1⟩ g2.2.2 g1.1 g1.2 h57 (Or.inl ⟨by omega, rfl⟩) (by rw [if_pos (hbl.mp (by omega))])⟩
            · refine V_iload_n (pc := 109) (j := 2) hX 2 rfl rfl dX4_readNumber_109 ?_
              refine V_iconst (pc := 110) (z := 2) hX (oI 2) rfl dX4_readNumber_110 ?_
              refine Z_icmp_ne (pc := 111) (tgt := 118) hX (by omega) (by omega) dX4_readNumber_111 (by decide) (fun h111 => ?_) (fun h111 => ?_)
              · refine V_iconst (pc := 118) (z := 4) hX (oI 4) rfl dX4_readNumber_118 ?_
                refine pf_X4_32 (pc := 119) hX dX4_readNumber_119 ?_
                refine V_aload_n (pc := 122) (j := 0) hX 0 rfl rfl dX4_readNumber_122 ?_
                refine V_iload_n (pc := 123) (j := 1) hX 1 rfl rfl dX4_readNumber_123 ?_
                refine Z_if_eq (pc := 124) (tgt := 132) hX (by omega) dX4_readNumber_124 (by decide) (fun h124 => ?_) (fun h124 => ?_)
                · refine V_iload_n (pc := 132) (j := 3) hX 3 rfl rfl dX4_readNumber_132 ?_
                  refine pf_X4_46 (pc := 133) hX dX4_readNumber_133 ?_
                  refine V_vret (pc := 136) hX hR dX4_readNumber_136 ?_
                  exact ⟨rfl, Nu_mk hq ⟨g2.1, g2.2.1⟩ g2.2.2 g1.1 g1.2 h57 (Or.inr ⟨by omega, rfl⟩) (by rw [if_neg (fun w => absurd (hbl.mpr w) (by omega))])⟩
                · refine V_iload_n (pc := 127) (j := 3) hX 3 rfl rfl dX4_readNumber_127 ?_
                  refine Z_ineg (pc := 128) hX dX4_readNumber_128 ?_
                  refine V_goto (pc := 129) (off := 4) (tgt := 133) hX (by decide) dX4_readNumber_129 ?_
                  refine pf_X4_46 (pc := 133) hX dX4_readNumber_133 ?_
                  refine V_vret (pc := 136) hX hR dX4_readNumber_136 ?_
                  exact ⟨rfl, Nu_mk hq ⟨g2.1, g2.2.1⟩ g2.2.2 g1.1 g1.2 h57 (Or.inr ⟨by omega, rfl⟩) (by rw [if_pos (hbl.mp (by omega))])⟩
              · refine V_iconst (pc := 114) (z := 2) hX (oI 2) rfl dX4_readNumber_114 ?_
                refine V_goto (pc := 115) (off := 4) (tgt := 119) hX (by decide) dX4_readNumber_115 ?_
                refine pf_X4_32 (pc := 119) hX dX4_readNumber_119 ?_
                refine V_aload_n (pc := 122) (j := 0) hX 0 rfl rfl dX4_readNumber_122 ?_
                refine V_iload_n (pc := 123) (j := 1) hX 1 rfl rfl dX4_readNumber_123 ?_
                refine Z_if_eq (pc := 124) (tgt := 132) hX (by omega) dX4_readNumber_124 (by decide) (fun h124 => ?_) (fun h124 => ?_)
                · refine V_iload_n (pc := 132) (j := 3) hX 3 rfl rfl dX4_readNumber_132 ?_
                  refine pf_X4_46 (pc := 133) hX dX4_readNumber_133 ?_
                  refine V_vret (pc := 136) hX hR dX4_readNumber_136 ?_
                  exact ⟨rfl, Nu_mk hq ⟨g2.1, g2.2.1⟩ g2.2.2 g1.1 g1.2 h57 (Or.inl ⟨by omega, rfl⟩) (by rw [if_neg (fun w => absurd (hbl.mpr w) (by omega))])⟩
                · refine V_iload_n (pc := 127) (j := 3) hX 3 rfl rfl dX4_readNumber_127 ?_
                  refine Z_ineg (pc := 128) hX dX4_readNumber_128 ?_
                  refine V_goto (pc := 129) (off := 4) (tgt := 133) hX (by decide) dX4_readNumber_129 ?_
                  refine pf_X4_46 (pc := 133) hX dX4_readNumber_133 ?_
                  refine V_vret (pc := 136) hX hR dX4_readNumber_136 ?_
                  exact ⟨rfl, Nu_mk hq ⟨g2.1, g2.2.1⟩ g2.2.2 g1.1 g1.2 h57 (Or.inl ⟨by omega, rfl⟩) (by rw [if_pos (hbl.mp (by omega))])⟩
          · refine V_iload_n (pc := 60) (j := 2) hX 2 rfl rfl dX4_readNumber_60 ?_
            refine V_iconst (pc := 61) (z := 2) hX (oI 2) rfl dX4_readNumber_61 ?_
            refine Z_icmp_ge (pc := 62) (tgt := 85) hX (by omega) (by omega) dX4_readNumber_62 (by decide) (fun h62 => ?_) (fun h62 => ?_)
            · refine V_iload_n (pc := 85) (j := 3) hX 3 rfl rfl dX4_readNumber_85 ?_
              refine V_istore_n (pc := 86) (j := 3) hX 3 rfl (by decide) rfl dX4_readNumber_86 ?_
              refine Z_iinc (pc := 87) hX 1 rfl rfl dX4_readNumber_87 ?_
              refine V_aload_n (pc := 90) (j := 0) hX 0 rfl rfl dX4_readNumber_90 ?_
              refine V_dup (pc := 91) hX rfl dX4_readNumber_91 ?_
              refine gf_X4_26 (pc := 92) hX dX4_readNumber_92 ?_
              refine V_oI ((q + f : Nat) : Int) g2.2.2 ?_
              refine V_iconst (pc := 95) (z := 1) hX (oI 1) rfl dX4_readNumber_95 ?_
              refine Z_iadd (pc := 96) hX dX4_readNumber_96 ?_
              refine pf_X4_26 (pc := 97) hX dX4_readNumber_97 ?_
              refine V_goto (pc := 100) (off := (-62)) (tgt := 38) hX (by decide) dX4_readNumber_100 ?_
              refine V_cut [(0, some (.ref (E.1 (15, 0)))), (1, some (.int (oI bl))), (2, some (.int (oI ((f + 1 : Nat) : Int)))), (3, some (.int (oI (szV x q (f + 1)))))] ⟨rfl, rfl, rfl, congrArg (fun q => some (Value.int (oI q))) (sz_nxb (by omega)), trivial⟩ ?_
              refine ih (f + 1) _ ⟨by omega, fun i hi => ?_⟩ ⟨g2.1.tr (TNk_U D1 (by omega) _), ?_, ?_⟩ (by omega)
              · by_cases c : i = f
                · rw [c]; exact h57
                · exact g1.2 i (by omega)
              · rw [U15, if_neg (by decide)]; exact g2.2.1
              · rw [U15, if_pos rfl]; congr 1
            · refine V_bipush (pc := 65) (z := 10) hX (oI 10) (by decide) dX4_readNumber_65 ?_
              refine V_iload_n (pc := 67) (j := 3) hX 3 rfl rfl dX4_readNumber_67 ?_
              refine Z_imul (pc := 68) hX dX4_readNumber_68 ?_
              refine V_aload_n (pc := 69) (j := 0) hX 0 rfl rfl dX4_readNumber_69 ?_
              refine gf_X4_9 (pc := 70) hX dX4_readNumber_70 ?_
              refine V_aload_n (pc := 73) (j := 0) hX 0 rfl rfl dX4_readNumber_73 ?_
              refine gf_X4_26 (pc := 74) hX dX4_readNumber_74 ?_
              refine V_oI ((q + f : Nat) : Int) g2.2.2 ?_
              refine zl_16 (pc := 77) hX (q + f) (rfl) (by omega) dX4_readNumber_77 ?_
              refine V_oI (x.2 (q + f)) (hT1.2.2 (q + f) (by omega)).1 ?_
              have hxb := hT1.2.2 (q + f) (by omega)
              refine Z_iadd (pc := 78) hX dX4_readNumber_78 ?_
              refine V_bipush (pc := 79) (z := 48) hX (oI 48) (by decide) dX4_readNumber_79 ?_
              refine Z_isub (pc := 81) hX dX4_readNumber_81 ?_
              refine V_goto (pc := 82) (off := 4) (tgt := 86) hX (by decide) dX4_readNumber_82 ?_
              refine V_istore_n (pc := 86) (j := 3) hX 3 rfl (by decide) rfl dX4_readNumber_86 ?_
              refine Z_iinc (pc := 87) hX 1 rfl rfl dX4_readNumber_87 ?_
              refine V_aload_n (pc := 90) (j := 0) hX 0 rfl rfl dX4_readNumber_90 ?_
              refine V_dup (pc := 91) hX rfl dX4_readNumber_91 ?_
              refine gf_X4_26 (pc := 92) hX dX4_readNumber_92 ?_
              refine V_oI ((q + f : Nat) : Int) g2.2.2 ?_
              refine V_iconst (pc := 95) (z := 1) hX (oI 1) rfl dX4_readNumber_95 ?_
              refine Z_iadd (pc := 96) hX dX4_readNumber_96 ?_
              refine pf_X4_26 (pc := 97) hX dX4_readNumber_97 ?_
              refine V_goto (pc := 100) (off := (-62)) (tgt := 38) hX (by decide) dX4_readNumber_100 ?_
              refine V_cut [(0, some (.ref (E.1 (15, 0)))), (1, some (.int (oI bl))), (2, some (.int (oI ((f + 1 : Nat) : Int)))), (3, some (.int (oI (szV x q (f + 1)))))] ⟨rfl, rfl, rfl, congrArg (fun q => some (Value.int (oI q))) (sz_nxa (by omega) (by omega)), trivial⟩ ?_
              refine ih (f + 1) _ ⟨by omega, fun i hi => ?_⟩ ⟨g2.1.tr (TNk_U D1 (by omega) _), ?_, ?_⟩ (by omega)
              · by_cases c : i = f
                · rw [c]; exact h57
                · exact g1.2 i (by omega)
              · rw [U15, if_neg (by decide)]; exact g2.2.1
              · rw [U15, if_pos rfl]; congr 1
    exact fun h1 h2 => loop (x.1 - (q + f) + 1) f D1 h1 h2 (by omega)
  refine V_aload_n (pc := 0) (j := 0) hX 0 rfl rfl dX4_readNumber_0 ?_
  refine gf_X4_9 (pc := 1) hX dX4_readNumber_1 ?_
  refine V_aload_n (pc := 4) (j := 0) hX 0 rfl rfl dX4_readNumber_4 ?_
  refine gf_X4_26 (pc := 5) hX dX4_readNumber_5 ?_
  refine V_oI (s : Int) h4 ?_
  refine zl_16 (pc := 8) hX (s) (rfl) (by omega) dX4_readNumber_8 ?_
  refine V_oI (x.2 s) (hT.2.2 s hs).1 ?_
  have hxs := hT.2.2 s hs
  refine V_bipush (pc := 9) (z := 45) hX (oI 45) (by decide) dX4_readNumber_9 ?_
  refine Z_icmp_ne (pc := 11) (tgt := 18) hX (by omega) (by omega) dX4_readNumber_11 (by decide) (fun h11 => ?_) (fun h11 => ?_)
  · refine V_iconst (pc := 18) (z := 0) hX (oI 0) rfl dX4_readNumber_18 ?_
    refine V_istore_n (pc := 19) (j := 1) hX 1 rfl (by decide) rfl dX4_readNumber_19 ?_
    refine V_iload_n (pc := 20) (j := 1) hX 1 rfl rfl dX4_readNumber_20 ?_
    refine Z_if_eq (pc := 21) (tgt := 34) hX (by omega) dX4_readNumber_21 (by decide) (fun _ => ?_) (fun h => absurd h (by decide))
    refine V_iconst (pc := 34) (z := 0) hX (oI 0) rfl dX4_readNumber_34 ?_
    refine V_istore_n (pc := 35) (j := 2) hX 2 rfl (by decide) rfl dX4_readNumber_35 ?_
    refine V_iconst (pc := 36) (z := 0) hX (oI 0) rfl dX4_readNumber_36 ?_
    refine V_istore_n (pc := 37) (j := 3) hX 3 rfl (by decide) rfl dX4_readNumber_37 ?_
    have hm : nmM x s = false := decide_eq_false (by rw [byt_in hs]; omega)
    refine V_cut [(0, some (.ref (E.1 (15, 0)))), (1, some (.int (oI 0))), (2, some (.int (oI ((0 : Nat) : Int)))), (3, some (.int (oI (szV x s 0))))] ⟨rfl, rfl, rfl, rfl, trivial⟩ ?_
    exact loopA s 0 (by rw [nmF, if_neg (by rw [hm]; decide)]) ⟨Or.inl rfl, fun h => (by omega), fun h => (by rw [hm] at h; cases h)⟩ 0 D ⟨by omega, fun i hi => absurd hi (Nat.not_lt_zero i)⟩ ⟨TNk.rf D, rfl, h4⟩
  · refine V_iconst (pc := 14) (z := 1) hX (oI 1) rfl dX4_readNumber_14 ?_
    refine V_goto (pc := 15) (off := 4) (tgt := 19) hX (by decide) dX4_readNumber_15 ?_
    refine V_istore_n (pc := 19) (j := 1) hX 1 rfl (by decide) rfl dX4_readNumber_19 ?_
    refine V_iload_n (pc := 20) (j := 1) hX 1 rfl rfl dX4_readNumber_20 ?_
    refine Z_if_eq (pc := 21) (tgt := 34) hX (by omega) dX4_readNumber_21 (by decide) (fun h => absurd h (by decide)) (fun _ => ?_)
    refine V_aload_n (pc := 24) (j := 0) hX 0 rfl rfl dX4_readNumber_24 ?_
    refine V_dup (pc := 25) hX rfl dX4_readNumber_25 ?_
    refine gf_X4_26 (pc := 26) hX dX4_readNumber_26 ?_
    refine V_oI (s : Int) h4 ?_
    refine V_iconst (pc := 29) (z := 1) hX (oI 1) rfl dX4_readNumber_29 ?_
    refine Z_iadd (pc := 30) hX dX4_readNumber_30 ?_
    refine pf_X4_26 (pc := 31) hX dX4_readNumber_31 ?_
    refine V_iconst (pc := 34) (z := 0) hX (oI 0) rfl dX4_readNumber_34 ?_
    refine V_istore_n (pc := 35) (j := 2) hX 2 rfl (by decide) rfl dX4_readNumber_35 ?_
    refine V_iconst (pc := 36) (z := 0) hX (oI 0) rfl dX4_readNumber_36 ?_
    refine V_istore_n (pc := 37) (j := 3) hX 3 rfl (by decide) rfl dX4_readNumber_37 ?_
    have hm : nmM x s = true := decide_eq_true (by rw [byt_in hs]; omega)
    refine V_cut [(0, some (.ref (E.1 (15, 0)))), (1, some (.int (oI 1))), (2, some (.int (oI ((0 : Nat) : Int)))), (3, some (.int (oI (szV x (s + 1) 0))))] ⟨rfl, rfl, rfl, rfl, trivial⟩ ?_
    refine loopA (s + 1) 1 (by rw [nmF, if_pos hm]) ⟨Or.inr rfl, fun _ => hm, fun _ => rfl⟩ 0 _ ⟨by omega, fun i hi => absurd hi (Nat.not_lt_zero i)⟩ ⟨TNk_U D (by omega) _, ?_, ?_⟩
    · rw [U15, if_neg (by decide)]
    · rw [U15, if_pos rfl]; congr 1
