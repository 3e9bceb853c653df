/-! THE SCRIPT: what comes next -/
def TkP (x : Tx) (s : Nat) (kd vl : Int) (p : Nat) : Prop := ((0 ≤ kd ∧ kd ≤ 4) ∧ Rg vl ∧ p ≤ x.1) ∧ (kd = 0 ↔ ¬ s < x.1) ∧ ((kd = 2 ↔ nmF x s < nmN x s ∧ nmN x s - nmF x s < 3) ∧ (kd = 2 → vl = nmA x s ∧ p = nmN x s)) ∧ ((kd = 1 → wdR x s = (vl, p) ∧ 0 ≤ vl) ∧ (kd ≠ 1 → (wdR x s).1 < 0)) ∧ ((kd = 3 ↔ byt x s = 59) ∧ (kd = 3 → p = s + 1))
def RnQ (x : Tx) (k : Nat) (D D' : Dt) : Prop := (TNk D D' ∧ D'.1 15 5 = oI (skp x k : Int)) ∧ ∃ (kd vl : Int) (p : Nat), (D'.1 15 6 = oI kd ∧ D'.1 15 7 = oI vl ∧ D'.1 15 4 = oI (p : Int)) ∧ TkP x (skp x k) kd vl p
theorem nm_no {x : Tx} {s : Nat} (h1 : byt x s ≠ 45) (h2 : inB (byt x s) 48 57 = false) : ¬ nmF x s < nmN x s := by
  have hm : nmM x s = false := decide_eq_false h1
  have hF : nmF x s = s := by rw [nmF, hm]; rfl
  rw [nmN, hF, dg_f h2]
  show ¬ s < s
  omega
theorem wd_no {x : Tx} {s : Nat} (h : inB (byt x s) 97 122 = false) : (wdR x s).1 < 0 := by
  have key : ∀ m w, w + m = 12 → wsF x s m w = (-1, s) := by
    intro m
    induction m with
    | zero => intro w _; rfl
    | succ m ih =>
      intro w hw
      rw [wsF, if_neg]
      · exact ih (w + 1) (by omega)
      · intro q
        rw [iwB, Bool.and_eq_true, iwA_t] at q
        have hq := q.1 0 (by have := (wb_w w (by omega)).1; omega)
        rw [Nat.add_zero, Nat.add_zero] at hq
        have hl := wd_let w (by omega) 0 (by have := (wb_w w (by omega)).1; omega)
        rw [Nat.add_zero, ← hq, h] at hl
        cases hl
  rw [wdR, key 12 0 rfl]
  show (-1 : Int) < 0
  omega
theorem Rn_end {x : Tx} {k s : Nat} {D D1 : Dt} (hs : s = skp x k) (hx : s ≤ x.1) (h1 : TNk D D1) (h4 : D1.1 15 4 = oI (s : Int)) (he : ¬ s < x.1) : RnQ x k D (rU (rU D1 15 (upd (D1.1 15) 5 (oI (s : Int)))) 15 (upd ((rU D1 15 (upd (D1.1 15) 5 (oI (s : Int)))).1 15) 6 (oI 0))) := by
  have hb := byt_end he
  refine ⟨⟨(h1.tr (TNk_U D1 (by omega) _)).tr (TNk_U _ (by omega) _), by rw [U15, if_neg (by decide), U15, if_pos rfl, hs]⟩, 0, (D1.1 15 7).toInt, s, ⟨by rw [U15, if_pos rfl], by rw [U15, if_neg (by decide), U15, if_neg (by decide), oI_of], by rw [U15, if_neg (by decide), U15, if_neg (by decide)]; exact h4⟩, ?_⟩
  rw [← hs]
  have hn := nm_no (x := x) (s := s) (by omega) (by rw [hb]; rfl)
  exact ⟨⟨by omega, oI_rg _, hx⟩, ⟨fun _ => he, fun _ => rfl⟩, ⟨⟨fun h => by omega, fun h => absurd h.1 hn⟩, fun h => by omega⟩, ⟨fun h => by omega, fun _ => wd_no (by rw [hb]; rfl)⟩, ⟨fun h => by omega, fun h => by omega⟩, fun h => by omega⟩
theorem Rn_word {x : Tx} {k s : Nat} {D D1 D2 : Dt} (hs : s = skp x k) (h1 : TNk D D1) (hl : s < x.1) (hb : inB (byt x s) 97 122 = true) (h : WdQ x s (rU D1 15 (upd (D1.1 15) 5 (oI (s : Int)))) D2) : RnQ x k D D2 := by
  obtain ⟨⟨w1, w2⟩, kd, vl, p, ⟨w3, w4, w5⟩, ⟨w6, w7⟩, w8, w9, w10⟩ := h
  refine ⟨⟨(h1.tr (TNk_U D1 (by omega) _)).tr w1, by rw [w2, U15, if_pos rfl, hs]⟩, kd, vl, p, ⟨w3, w4, w5⟩, ?_⟩
  rw [← hs]
  have hc := inB_t.mp hb
  have hn := nm_no (x := x) (s := s) (by omega) (inB_f.mpr (by omega))
  exact ⟨⟨by omega, by omega, w6⟩, ⟨fun h => by omega, fun h => absurd hl h⟩, ⟨⟨fun h => by omega, fun h => absurd h.1 hn⟩, fun h => by omega⟩, ⟨fun h => ⟨w9 h, by omega⟩, fun h => w10 (by omega)⟩, ⟨fun h => by omega, fun h => by omega⟩, fun h => by omega⟩
theorem Rn_num {x : Tx} {k s : Nat} {D D1 D2 : Dt} (hs : s = skp x k) (h1 : TNk D D1) (hl : s < x.1) (hb : byt x s = 45 ∨ inB (byt x s) 48 57 = true) (h : NuQ x s (rU D1 15 (upd (D1.1 15) 5 (oI (s : Int)))) D2) : RnQ x k D D2 := by
  obtain ⟨⟨w1, w2⟩, kd, vl, p, ⟨w3, w4, w5⟩, ⟨w6, w7⟩, w8, w9, w10⟩ := h
  refine ⟨⟨(h1.tr (TNk_U D1 (by omega) _)).tr w1, by rw [w2, U15, if_pos rfl, hs]⟩, kd, vl, p, ⟨w3, w4, w5⟩, ?_⟩
  rw [← hs]
  have hc : byt x s = 45 ∨ (48 ≤ byt x s ∧ byt x s ≤ 57) := by
    rcases hb with hb | hb
    · exact Or.inl hb
    · exact Or.inr (inB_t.mp hb)
  exact ⟨⟨by omega, by omega, w6⟩, ⟨fun h => by omega, fun h => absurd hl h⟩, ⟨w9, w10⟩, ⟨fun h => by omega, fun _ => wd_no (inB_f.mpr (by omega))⟩, ⟨fun h => by omega, fun h => by omega⟩, fun h => by omega⟩
theorem Rn_sign {x : Tx} {k s : Nat} {D D1 : Dt} {kd : Int} (hs : s = skp x k) (h1 : TNk D D1) (hl : s < x.1) (hb1 : inB (byt x s) 97 122 = false) (hb2 : byt x s ≠ 45) (hb3 : inB (byt x s) 48 57 = false) (hk : (byt x s = 59 ∧ kd = 3) ∨ (byt x s ≠ 59 ∧ kd = 4)) {D2 : Dt} (hD : D2 = rU D1 15 (upd (D1.1 15) 5 (oI (s : Int)))) : RnQ x k D (rU (rU D2 15 (upd (D2.1 15) 6 (oI kd))) 15 (upd ((rU D2 15 (upd (D2.1 15) 6 (oI kd))).1 15) 4 (oI ((s : Int) + 1)))) := by
  subst hD
  refine ⟨⟨((h1.tr (TNk_U D1 (by omega) _)).tr (TNk_U _ (by omega) _)).tr (TNk_U _ (by omega) _), by rw [U15, if_neg (by decide), U15, if_neg (by decide), U15, if_pos rfl, hs]⟩, kd, (D1.1 15 7).toInt, s + 1, ⟨by rw [U15, if_neg (by decide), U15, if_pos rfl], by rw [U15, if_neg (by decide), U15, if_neg (by decide), U15, if_neg (by decide), oI_of], by rw [U15, if_pos rfl]; rfl⟩, ?_⟩
  rw [← hs]
  have hn := nm_no hb2 hb3
  exact ⟨⟨by omega, oI_rg _, by omega⟩, ⟨fun h => by omega, fun h => absurd hl h⟩, ⟨⟨fun h => by omega, fun h => absurd h.1 hn⟩, fun h => by omega⟩, ⟨fun h => by omega, fun _ => wd_no hb1⟩, ⟨fun h => by omega, fun h => by omega⟩, fun _ => rfl⟩
theorem c_X4_readNext {E : Le} {l : Launch} {D : Dt} {x : Tx} {k0 : Nat} (hT : TcX D x) (hk0 : k0 ≤ x.1) (h4 : D.1 15 4 = oI (k0 : Int)) : ConVp E l yX4_readNext cX4_readNext 1 none 8 [.ref (E.1 (15, 0))] D (RnQ x k0 D) := by
  have hx := hT.2.1
  refine Con_of (by decide) (Nat.le_of_ble_eq_true rfl) ?_
  intro X hX hR hl; subst hl
  have tailA : ∀ (s : Nat) (D1 : Dt), s = skp x k0 → s ≤ x.1 → TNk D D1 → D1.1 15 4 = oI (s : Int) → Vw E X 1 D1 38 [(0, some (.ref (E.1 (15, 0))))] [] := by
    intro s D1 hs hsx q1 q2
    have hT1 := hT.tk q1
    refine V_aload_n (pc := 38) (j := 0) hX 0 rfl rfl dX4_readNext_38 ?_
    refine V_aload_n (pc := 39) (j := 0) hX 0 rfl rfl dX4_readNext_39 ?_
    refine gf_X4_26 (pc := 40) hX dX4_readNext_40 ?_
    refine V_oI (s : Int) (by first | exact q2 | (rw [U15, if_neg (by decide)]; exact q2) | (rw [U15, if_neg (by decide), U15, if_neg (by decide)]; exact q2)) ?_
    refine pf_X4_35 (pc := 43) hX dX4_readNext_43 ?_
    refine V_aload_n (pc := 46) (j := 0) hX 0 rfl rfl dX4_readNext_46 ?_
    refine gf_X4_26 (pc := 47) hX dX4_readNext_47 ?_
    refine V_oI (s : Int) (by first | exact q2 | (rw [U15, if_neg (by decide)]; exact q2) | (rw [U15, if_neg (by decide), U15, if_neg (by decide)]; exact q2)) ?_
    refine V_aload_n (pc := 50) (j := 0) hX 0 rfl rfl dX4_readNext_50 ?_
    refine gf_X4_19 (pc := 51) hX dX4_readNext_51 ?_
    refine V_oI (x.1 : Int) (by first | exact hT1.1 | (rw [U15, if_neg (by decide)]; exact hT1.1) | (rw [U15, if_neg (by decide), U15, if_neg (by decide)]; exact hT1.1)) ?_
    refine Z_icmp_lt (pc := 54) (tgt := 65) hX (by omega) (by omega) dX4_readNext_54 (by decide) (fun h54 => ?_) (fun h54 => ?_)
    · have hxs := hT1.2.2 s (by omega)
      have hT2 : TcX (rU D1 15 (upd (D1.1 15) 5 (oI (s : Int)))) x := hT1.tk (TNk_U D1 (by omega) _)
      refine V_aload_n (pc := 65) (j := 0) hX 0 rfl rfl dX4_readNext_65 ?_
      refine V_aload_n (pc := 66) (j := 0) hX 0 rfl rfl dX4_readNext_66 ?_
      refine gf_X4_26 (pc := 67) hX dX4_readNext_67 ?_
      refine V_oI (s : Int) (by first | exact q2 | (rw [U15, if_neg (by decide)]; exact q2) | (rw [U15, if_neg (by decide), U15, if_neg (by decide)]; exact q2)) ?_
      refine cVI1 (pc := 70) hX (c_X4_isLetter (k := s) hT2 (by omega)) (by decide) st_X4_64 ix_15 rfl rfl rfl (Nat.le_of_ble_eq_true rfl) dX4_readNext_70 ?_
      refine B_if_eq (pc := 73) (tgt := 83) hX dX4_readNext_73 (by decide) (fun h73 => ?_) (fun h73 => ?_)
      · refine V_aload_n (pc := 83) (j := 0) hX 0 rfl rfl dX4_readNext_83 ?_
        refine gf_X4_9 (pc := 84) hX dX4_readNext_84 ?_
        refine V_aload_n (pc := 87) (j := 0) hX 0 rfl rfl dX4_readNext_87 ?_
        refine gf_X4_26 (pc := 88) hX dX4_readNext_88 ?_
        refine V_oI (s : Int) (by first | exact q2 | (rw [U15, if_neg (by decide)]; exact q2) | (rw [U15, if_neg (by decide), U15, if_neg (by decide)]; exact q2)) ?_
        refine zl_16 (pc := 91) hX (s) (rfl) (by omega) dX4_readNext_91 ?_
        refine V_oI (x.2 s) (by rw [rU_ne _ _ (by decide)]; exact hxs.1) ?_
        refine V_bipush (pc := 92) (z := 45) hX (oI 45) (by decide) dX4_readNext_92 ?_
        refine Z_icmp_eq (pc := 94) (tgt := 108) hX (by omega) (by omega) dX4_readNext_94 (by decide) (fun h94 => ?_) (fun h94 => ?_)
        · refine V_aload_n (pc := 108) (j := 0) hX 0 rfl rfl dX4_readNext_108 ?_
          refine cVVp0 (pc := 109) hX (c_X4_readNumber (x := x) (s := s) hT2 (by omega) (by rw [U15, if_neg (by decide)]; exact q2)) (by decide) st_X4_73 ix_15 rfl rfl rfl (Nat.le_of_ble_eq_true rfl) dX4_readNext_109 (fun D109 h109 => ?_)
          refine V_goto (pc := 112) (off := 36) (tgt := 148) hX (by decide) dX4_readNext_112 ?_
          refine V_vret (pc := 148) hX hR dX4_readNext_148 ?_
          exact ⟨rfl, Rn_num hs q1 (by omega) (Or.inl (by rw [byt_in (by omega)]; omega)) h109⟩
        · refine V_aload_n (pc := 97) (j := 0) hX 0 rfl rfl dX4_readNext_97 ?_
          refine V_aload_n (pc := 98) (j := 0) hX 0 rfl rfl dX4_readNext_98 ?_
          refine gf_X4_26 (pc := 99) hX dX4_readNext_99 ?_
          refine V_oI (s : Int) (by first | exact q2 | (rw [U15, if_neg (by decide)]; exact q2) | (rw [U15, if_neg (by decide), U15, if_neg (by decide)]; exact q2)) ?_
          refine cVI1 (pc := 102) hX (c_X4_isFigure (k := s) hT2 (by omega)) (by decide) st_X4_70 ix_15 rfl rfl rfl (Nat.le_of_ble_eq_true rfl) dX4_readNext_102 ?_
          refine B_if_eq (pc := 105) (tgt := 115) hX dX4_readNext_105 (by decide) (fun h105 => ?_) (fun h105 => ?_)
          · refine V_aload_n (pc := 115) (j := 0) hX 0 rfl rfl dX4_readNext_115 ?_
            refine V_aload_n (pc := 116) (j := 0) hX 0 rfl rfl dX4_readNext_116 ?_
            refine gf_X4_9 (pc := 117) hX dX4_readNext_117 ?_
            refine V_aload_n (pc := 120) (j := 0) hX 0 rfl rfl dX4_readNext_120 ?_
            refine gf_X4_26 (pc := 121) hX dX4_readNext_121 ?_
            refine V_oI (s : Int) (by first | exact q2 | (rw [U15, if_neg (by decide)]; exact q2) | (rw [U15, if_neg (by decide), U15, if_neg (by decide)]; exact q2)) ?_
            refine zl_16 (pc := 124) hX (s) (rfl) (by omega) dX4_readNext_124 ?_
            refine V_oI (x.2 s) (by rw [rU_ne _ _ (by decide)]; exact hxs.1) ?_
            refine V_bipush (pc := 125) (z := 59) hX (oI 59) (by decide) dX4_readNext_125 ?_
            refine Z_icmp_ne (pc := 127) (tgt := 134) hX (by omega) (by omega) dX4_readNext_127 (by decide) (fun h127 => ?_) (fun h127 => ?_)
            · refine V_iconst (pc := 134) (z := 4) hX (oI 4) rfl dX4_readNext_134 ?_
              refine pf_X4_32 (pc := 135) hX dX4_readNext_135 ?_
              refine V_aload_n (pc := 138) (j := 0) hX 0 rfl rfl dX4_readNext_138 ?_
              refine V_dup (pc := 139) hX rfl dX4_readNext_139 ?_
              refine gf_X4_26 (pc := 140) hX dX4_readNext_140 ?_
              refine V_oI (s : Int) (by first | exact q2 | (rw [U15, if_neg (by decide)]; exact q2) | (rw [U15, if_neg (by decide), U15, if_neg (by decide)]; exact q2)) ?_
              refine V_iconst (pc := 143) (z := 1) hX (oI 1) rfl dX4_readNext_143 ?_
              refine Z_iadd (pc := 144) hX dX4_readNext_144 ?_
              refine pf_X4_26 (pc := 145) hX dX4_readNext_145 ?_
              refine V_vret (pc := 148) hX hR dX4_readNext_148 ?_
              exact ⟨rfl, Rn_sign hs q1 (by omega) h73 (by rw [byt_in (by omega)]; omega) h105 (Or.inr ⟨by rw [byt_in (by omega)]; omega, rfl⟩) rfl⟩
            · refine V_iconst (pc := 130) (z := 3) hX (oI 3) rfl dX4_readNext_130 ?_
              refine V_goto (pc := 131) (off := 4) (tgt := 135) hX (by decide) dX4_readNext_131 ?_
              refine pf_X4_32 (pc := 135) hX dX4_readNext_135 ?_
              refine V_aload_n (pc := 138) (j := 0) hX 0 rfl rfl dX4_readNext_138 ?_
              refine V_dup (pc := 139) hX rfl dX4_readNext_139 ?_
              refine gf_X4_26 (pc := 140) hX dX4_readNext_140 ?_
              refine V_oI (s : Int) (by first | exact q2 | (rw [U15, if_neg (by decide)]; exact q2) | (rw [U15, if_neg (by decide), U15, if_neg (by decide)]; exact q2)) ?_
              refine V_iconst (pc := 143) (z := 1) hX (oI 1) rfl dX4_readNext_143 ?_
              refine Z_iadd (pc := 144) hX dX4_readNext_144 ?_
              refine pf_X4_26 (pc := 145) hX dX4_readNext_145 ?_
              refine V_vret (pc := 148) hX hR dX4_readNext_148 ?_
              exact ⟨rfl, Rn_sign hs q1 (by omega) h73 (by rw [byt_in (by omega)]; omega) h105 (Or.inl ⟨by rw [byt_in (by omega)]; omega, rfl⟩) rfl⟩
          · refine V_aload_n (pc := 108) (j := 0) hX 0 rfl rfl dX4_readNext_108 ?_
            refine cVVp0 (pc := 109) hX (c_X4_readNumber (x := x) (s := s) hT2 (by omega) (by rw [U15, if_neg (by decide)]; exact q2)) (by decide) st_X4_73 ix_15 rfl rfl rfl (Nat.le_of_ble_eq_true rfl) dX4_readNext_109 (fun D109 h109 => ?_)
            refine V_goto (pc := 112) (off := 36) (tgt := 148) hX (by decide) dX4_readNext_112 ?_
            refine V_vret (pc := 148) hX hR dX4_readNext_148 ?_
            exact ⟨rfl, Rn_num hs q1 (by omega) (Or.inr h105) h109⟩
      · refine V_aload_n (pc := 76) (j := 0) hX 0 rfl rfl dX4_readNext_76 ?_
        refine cVVp0 (pc := 77) hX (c_X4_readWord (x := x) (s := s) hT2 (by omega) (by rw [U15, if_neg (by decide)]; exact q2) (by rw [U15, if_pos rfl])) (by decide) st_X4_67 ix_15 rfl rfl rfl (Nat.le_of_ble_eq_true rfl) dX4_readNext_77 (fun D77 h77 => ?_)
        refine V_goto (pc := 80) (off := 68) (tgt := 148) hX (by decide) dX4_readNext_80 ?_
        refine V_vret (pc := 148) hX hR dX4_readNext_148 ?_
        exact ⟨rfl, Rn_word hs q1 (by omega) h73 h77⟩
    · refine V_aload_n (pc := 57) (j := 0) hX 0 rfl rfl dX4_readNext_57 ?_
      refine V_iconst (pc := 58) (z := 0) hX (oI 0) rfl dX4_readNext_58 ?_
      refine pf_X4_32 (pc := 59) hX dX4_readNext_59 ?_
      refine V_goto (pc := 62) (off := 86) (tgt := 148) hX (by decide) dX4_readNext_62 ?_
      refine V_vret (pc := 148) hX hR dX4_readNext_148 ?_
      exact ⟨rfl, Rn_end hs hsx q1 q2 (by omega)⟩
  have loop : ∀ (m : Nat) (k : Nat) (D1 : Dt), k ≤ x.1 → TNk D D1 ∧ D1.1 15 4 = oI (k : Int) → skp x k = skp x k0 → x.1 - k < m → Vw E X 1 D1 0 [(0, some (.ref (E.1 (15, 0))))] [] := by
    intro m
    induction m with
    | zero => intro k D1 g1 g2 g3 g4; omega
    | succ m ih =>
      intro k D1 g1 g2 g3 g4
      have hT1 := hT.tk g2.1
      refine V_aload_n (pc := 0) (j := 0) hX 0 rfl rfl dX4_readNext_0 ?_
      refine gf_X4_26 (pc := 1) hX dX4_readNext_1 ?_
      refine V_oI (k : Int) g2.2 ?_
      refine V_aload_n (pc := 4) (j := 0) hX 0 rfl rfl dX4_readNext_4 ?_
      refine gf_X4_19 (pc := 5) hX dX4_readNext_5 ?_
      refine V_oI (x.1 : Int) hT1.1 ?_
      refine Z_icmp_ge (pc := 8) (tgt := 38) hX (by omega) (by omega) dX4_readNext_8 (by decide) (fun h8 => ?_) (fun h8 => ?_)
      · exact tailA k D1 (by rw [← g3, skp_f (by rw [byt_end (by omega)]; decide)]) (by omega) g2.1 g2.2
      · have hxk := hT1.2.2 k (by omega)
        refine V_aload_n (pc := 11) (j := 0) hX 0 rfl rfl dX4_readNext_11 ?_
        refine gf_X4_9 (pc := 12) hX dX4_readNext_12 ?_
        refine V_aload_n (pc := 15) (j := 0) hX 0 rfl rfl dX4_readNext_15 ?_
        refine gf_X4_26 (pc := 16) hX dX4_readNext_16 ?_
        refine V_oI (k : Int) g2.2 ?_
        refine zl_16 (pc := 19) hX (k) (by omega) (by omega) dX4_readNext_19 ?_
        refine V_oI (x.2 k) hxk.1 ?_
        refine V_bipush (pc := 20) (z := 32) hX (oI 32) (by decide) dX4_readNext_20 ?_
        refine Z_icmp_ne (pc := 22) (tgt := 38) hX (by omega) (by omega) dX4_readNext_22 (by decide) (fun h22 => ?_) (fun h22 => ?_)
        · exact tailA k D1 (by rw [← g3, skp_f (by rw [byt_in (by omega)]; omega)]) (by omega) g2.1 g2.2
        · refine V_aload_n (pc := 25) (j := 0) hX 0 rfl rfl dX4_readNext_25 ?_
          refine V_dup (pc := 26) hX rfl dX4_readNext_26 ?_
          refine gf_X4_26 (pc := 27) hX dX4_readNext_27 ?_
          refine V_oI (k : Int) g2.2 ?_
          refine V_iconst (pc := 30) (z := 1) hX (oI 1) rfl dX4_readNext_30 ?_
          refine Z_iadd (pc := 31) hX dX4_readNext_31 ?_
          refine pf_X4_26 (pc := 32) hX dX4_readNext_32 ?_
          refine V_goto (pc := 35) (off := (-35)) (tgt := 0) hX (by decide) dX4_readNext_35 ?_
          refine V_cut [(0, some (.ref (E.1 (15, 0))))] ⟨rfl, trivial⟩ ?_
          refine ih (k + 1) _ (by omega) ⟨g2.1.tr (TNk_U D1 (by omega) _), ?_⟩ ?_ (by omega)
          · rw [U15, if_pos rfl]; rfl
          · rw [← g3, skp_t (k := k) (by rw [byt_in (by omega)]; omega)]
  exact loop (x.1 - k0 + 1) k0 D hk0 ⟨TNk.rf D, h4⟩ rfl (by omega)
theorem nmB_k {x : Tx} {s p : Nat} {kd vl lo hi : Int} (h : TkP x s kd vl p) : nmB x s lo hi = decide (kd = 2 ∧ lo ≤ vl ∧ vl ≤ hi) := by
  rw [nmB, decide_eq_decide]
  obtain ⟨-, -, ⟨h1, h2⟩, -⟩ := h
  constructor
  · rintro ⟨q1, q2, q3, q4⟩
    have k2 := h1.mpr ⟨q1, q2⟩
    have := (h2 k2).1
    exact ⟨k2, by omega, by omega⟩
  · rintro ⟨q1, q2, q3⟩
    have := (h2 q1).1
    have h3 := h1.mp q1
    exact ⟨h3.1, h3.2, by omega, by omega⟩
theorem c_X4_isNumber {E : Le} {l : Launch} {D : Dt} {kd vl lo hi : Int} (hkd : 0 ≤ kd ∧ kd ≤ 4) (hvl : Rg vl) (hlo : Rg lo) (hhi : Rg hi) (h6 : D.1 15 6 = oI kd) (h7 : D.1 15 7 = oI vl) : ConI E l yX4_isNumber cX4_isNumber 3 (some .boolean) 2 [.ref (E.1 (15, 0)), .int (oI lo), .int (oI hi)] D (bI (decide (kd = 2 ∧ lo ≤ vl ∧ vl ≤ hi))) D := by
  refine Con_of (by decide) (Nat.le_of_ble_eq_true rfl) ?_
  intro X hX hR hl; subst hl
  refine V_aload_n (pc := 0) (j := 0) hX 0 rfl rfl dX4_isNumber_0 ?_
  refine gf_X4_32 (pc := 1) hX dX4_isNumber_1 ?_
  refine V_oI kd h6 ?_
  refine V_iconst (pc := 4) (z := 2) hX (oI 2) rfl dX4_isNumber_4 ?_
  refine Z_icmp_ne (pc := 5) (tgt := 24) hX (by omega) (by omega) dX4_isNumber_5 (by decide) (fun h5 => ?_) (fun h5 => ?_)
  · refine V_iconst (pc := 24) (z := 0) hX (oI 0) rfl dX4_isNumber_24 ?_
    refine V_zret (pc := 25) hX hR (by decide) dX4_isNumber_25 ?_
    exact ⟨some_int (bI_0 (decide_eq_false (fun q => h5 q.1))), rfl⟩
  · refine V_aload_n (pc := 8) (j := 0) hX 0 rfl rfl dX4_isNumber_8 ?_
    refine gf_X4_46 (pc := 9) hX dX4_isNumber_9 ?_
    refine V_oI vl h7 ?_
    refine V_iload_n (pc := 12) (j := 1) hX 1 rfl rfl dX4_isNumber_12 ?_
    refine V_iload_n (pc := 13) (j := 2) hX 2 rfl rfl dX4_isNumber_13 ?_
    refine cNI3 (pc := 14) hX (c_X5_within hvl hlo hhi) (by decide) st_X4_60 (Nat.le_of_ble_eq_true rfl) dX4_isNumber_14 ?_
    refine B_if_eq (pc := 17) (tgt := 24) hX dX4_isNumber_17 (by decide) (fun h17 => ?_) (fun h17 => ?_)
    · refine V_iconst (pc := 24) (z := 0) hX (oI 0) rfl dX4_isNumber_24 ?_
      refine V_zret (pc := 25) hX hR (by decide) dX4_isNumber_25 ?_
      exact ⟨some_int (bI_0 (decide_eq_false (fun q => by rw [inB_t.mpr q.2] at h17; cases h17))), rfl⟩
    · refine V_iconst (pc := 20) (z := 1) hX (oI 1) rfl dX4_isNumber_20 ?_
      refine V_goto (pc := 21) (off := 4) (tgt := 25) hX (by decide) dX4_isNumber_21 ?_
      refine V_zret (pc := 25) hX hR (by decide) dX4_isNumber_25 ?_
      exact ⟨some_int (bI_1 (decide_eq_true ⟨h5, inB_t.mp h17⟩)), rfl⟩
theorem wArg_be {w : Int} (h : w = 0 ∨ (3 ≤ w ∧ w < 7)) : wArg w = [(0, 4)] := by rw [wArg, if_pos h]
theorem wArg_gr {w : Int} (h : w = 8 ∨ w = 9) : wArg w = [(1, 9)] := by rw [wArg, if_neg (by omega), if_neg (by omega), if_neg (by omega), if_pos h]
theorem wArg_no {w : Int} (h : w = 2 ∨ 10 ≤ w) : wArg w = [] := by rw [wArg, if_neg (by omega), if_neg (by omega), if_neg (by omega), if_neg (by omega)]
theorem c_X4_numbersOf {E : Le} {l : Launch} {D : Dt} {w : Int} (hw : 0 ≤ w ∧ w ≤ 11) : ConI E l yX4_numbersOf cX4_numbersOf 1 (some .int) 1 [.int (oI w)] D (oI ((wArg w).length : Int)) D := by
  refine Con_of (by decide) (Nat.le_of_ble_eq_true rfl) ?_
  intro X hX hR hl; subst hl
  refine V_iload_n (pc := 0) (j := 0) hX 0 rfl rfl dX4_numbersOf_0 ?_
  by_cases h1_0 : w = 0
  · refine Z_tableIn (pc := 1) (tgt := 60) hX 0 h1_0 (by decide) (by decide) (by decide) dX4_numbersOf_1 rfl (by decide) ?_
    refine V_iconst (pc := 60) (z := 1) hX (oI 1) rfl dX4_numbersOf_60 ?_
    refine V_iret (pc := 61) hX hR dX4_numbersOf_61 ?_
    exact ⟨some_int (by rw [wArg_be (by omega)]; rfl), rfl⟩
  by_cases h1_1 : w = 1
  · refine Z_tableIn (pc := 1) (tgt := 56) hX 1 h1_1 (by decide) (by decide) (by decide) dX4_numbersOf_1 rfl (by decide) ?_
    refine V_iconst (pc := 56) (z := 4) hX (oI 4) rfl dX4_numbersOf_56 ?_
    refine V_iret (pc := 57) hX hR dX4_numbersOf_57 ?_
    exact ⟨some_int (by rw [h1_1]; rfl), rfl⟩
  by_cases h1_3 : w = 3
  · refine Z_tableIn (pc := 1) (tgt := 60) hX 3 h1_3 (by decide) (by decide) (by decide) dX4_numbersOf_1 rfl (by decide) ?_
    refine V_iconst (pc := 60) (z := 1) hX (oI 1) rfl dX4_numbersOf_60 ?_
    refine V_iret (pc := 61) hX hR dX4_numbersOf_61 ?_
    exact ⟨some_int (by rw [wArg_be (by omega)]; rfl), rfl⟩
  by_cases h1_4 : w = 4
  · refine Z_tableIn (pc := 1) (tgt := 60) hX 4 h1_4 (by decide) (by decide) (by decide) dX4_numbersOf_1 rfl (by decide) ?_
    refine V_iconst (pc := 60) (z := 1) hX (oI 1) rfl dX4_numbersOf_60 ?_
    refine V_iret (pc := 61) hX hR dX4_numbersOf_61 ?_
    exact ⟨some_int (by rw [wArg_be (by omega)]; rfl), rfl⟩
  by_cases h1_5 : w = 5
  · refine Z_tableIn (pc := 1) (tgt := 60) hX 5 h1_5 (by decide) (by decide) (by decide) dX4_numbersOf_1 rfl (by decide) ?_
    refine V_iconst (pc := 60) (z := 1) hX (oI 1) rfl dX4_numbersOf_60 ?_
    refine V_iret (pc := 61) hX hR dX4_numbersOf_61 ?_
    exact ⟨some_int (by rw [wArg_be (by omega)]; rfl), rfl⟩
  by_cases h1_6 : w = 6
  · refine Z_tableIn (pc := 1) (tgt := 60) hX 6 h1_6 (by decide) (by decide) (by decide) dX4_numbersOf_1 rfl (by decide) ?_
    refine V_iconst (pc := 60) (z := 1) hX (oI 1) rfl dX4_numbersOf_60 ?_
    refine V_iret (pc := 61) hX hR dX4_numbersOf_61 ?_
    exact ⟨some_int (by rw [wArg_be (by omega)]; rfl), rfl⟩
  by_cases h1_7 : w = 7
  · refine Z_tableIn (pc := 1) (tgt := 58) hX 7 h1_7 (by decide) (by decide) (by decide) dX4_numbersOf_1 rfl (by decide) ?_
    refine V_iconst (pc := 58) (z := 2) hX (oI 2) rfl dX4_numbersOf_58 ?_
    refine V_iret (pc := 59) hX hR dX4_numbersOf_59 ?_
    exact ⟨some_int (by rw [h1_7]; rfl), rfl⟩
  by_cases h1_8 : w = 8
  · refine Z_tableIn (pc := 1) (tgt := 60) hX 8 h1_8 (by decide) (by decide) (by decide) dX4_numbersOf_1 rfl (by decide) ?_
    refine V_iconst (pc := 60) (z := 1) hX (oI 1) rfl dX4_numbersOf_60 ?_
    refine V_iret (pc := 61) hX hR dX4_numbersOf_61 ?_
    exact ⟨some_int (by rw [wArg_gr (by omega)]; rfl), rfl⟩
  by_cases h1_9 : w = 9
  · refine Z_tableIn (pc := 1) (tgt := 60) hX 9 h1_9 (by decide) (by decide) (by decide) dX4_numbersOf_1 rfl (by decide) ?_
    refine V_iconst (pc := 60) (z := 1) hX (oI 1) rfl dX4_numbersOf_60 ?_
    refine V_iret (pc := 61) hX hR dX4_numbersOf_61 ?_
    exact ⟨some_int (by rw [wArg_gr (by omega)]; rfl), rfl⟩
  by_cases h1_2 : w = 2
  · refine Z_tableIn (pc := 1) (tgt := 62) hX 2 h1_2 (by decide) (by decide) (by decide) dX4_numbersOf_1 rfl (by decide) ?_
    refine V_iconst (pc := 62) (z := 0) hX (oI 0) rfl dX4_numbersOf_62 ?_
    refine V_iret (pc := 63) hX hR dX4_numbersOf_63 ?_
    exact ⟨some_int (by rw [wArg_no (by omega)]; rfl), rfl⟩
  refine Z_tableOut (pc := 1) (tgt := 62) hX (by omega) (by omega) dX4_numbersOf_1 (by decide) ?_
  refine V_iconst (pc := 62) (z := 0) hX (oI 0) rfl dX4_numbersOf_62 ?_
  refine V_iret (pc := 63) hX hR dX4_numbersOf_63 ?_
  exact ⟨some_int (by rw [wArg_no (by omega)]; rfl), rfl⟩
theorem c_X4_least {E : Le} {l : Launch} {D : Dt} {w : Int} {i : Nat} (hw : 0 ≤ w ∧ w ≤ 11) (hi4 : i < 4) (hi : i < (wArg w).length) : ConI E l yX4_least cX4_least 2 (some .int) 1 [.int (oI w), .int (oI (i : Int))] D (oI ((wArg w).getD i (0, 0)).1) D := by
  refine Con_of (by decide) (Nat.le_of_ble_eq_true rfl) ?_
  intro X hX hR hl; subst hl
  refine V_iload_n (pc := 0) (j := 0) hX 0 rfl rfl dX4_least_0 ?_
  by_cases h1_1 : w = 1
  · refine Z_tableIn (pc := 1) (tgt := 52) hX 1 h1_1 (by decide) (by decide) (by decide) dX4_least_1 rfl (by decide) ?_
    refine V_iload_n (pc := 52) (j := 1) hX 1 rfl rfl dX4_least_52 ?_
    refine V_iconst (pc := 53) (z := 2) hX (oI 2) rfl dX4_least_53 ?_
    refine Z_icmp_ge (pc := 54) (tgt := 62) hX (by omega) (by omega) dX4_least_54 (by decide) (fun h54 => ?_) (fun h54 => ?_)
    · refine V_iconst (pc := 62) (z := 1) hX (oI 1) rfl dX4_least_62 ?_
      refine V_iret (pc := 63) hX hR dX4_least_63 ?_
      subst h1_1
      have hc : i = 2 ∨ i = 3 := by have : i < 4 := hi; omega
      rcases hc with rfl | rfl <;> exact ⟨rfl, rfl⟩
    · refine V_bipush (pc := 57) (z := (-60)) hX (oI (-60)) (by decide) dX4_least_57 ?_
      refine V_goto (pc := 59) (off := 4) (tgt := 63) hX (by decide) dX4_least_59 ?_
      refine V_iret (pc := 63) hX hR dX4_least_63 ?_
      subst h1_1
      have hc : i = 0 ∨ i = 1 := by omega
      rcases hc with rfl | rfl <;> exact ⟨rfl, rfl⟩
  by_cases h1_7 : w = 7
  · refine Z_tableIn (pc := 1) (tgt := 64) hX 7 h1_7 (by decide) (by decide) (by decide) dX4_least_1 rfl (by decide) ?_
    refine V_bipush (pc := 64) (z := (-99)) hX (oI (-99)) (by decide) dX4_least_64 ?_
    refine V_iret (pc := 66) hX hR dX4_least_66 ?_
    subst h1_7
    have hc : i = 0 ∨ i = 1 := by have : i < 2 := hi; omega
    rcases hc with rfl | rfl <;> exact ⟨rfl, rfl⟩
  by_cases h1_8 : w = 8
  · refine Z_tableIn (pc := 1) (tgt := 67) hX 8 h1_8 (by decide) (by decide) (by decide) dX4_least_1 rfl (by decide) ?_
    refine V_iconst (pc := 67) (z := 1) hX (oI 1) rfl dX4_least_67 ?_
    refine V_iret (pc := 68) hX hR dX4_least_68 ?_
    rw [wArg_gr (by omega)] at hi ⊢
    have hc : i = 0 := by have : i < 1 := hi; omega
    subst hc
    exact ⟨rfl, rfl⟩
  by_cases h1_9 : w = 9
  · refine Z_tableIn (pc := 1) (tgt := 67) hX 9 h1_9 (by decide) (by decide) (by decide) dX4_least_1 rfl (by decide) ?_
    refine V_iconst (pc := 67) (z := 1) hX (oI 1) rfl dX4_least_67 ?_
    refine V_iret (pc := 68) hX hR dX4_least_68 ?_
    rw [wArg_gr (by omega)] at hi ⊢
    have hc : i = 0 := by have : i < 1 := hi; omega
    subst hc
    exact ⟨rfl, rfl⟩
  by_cases h1_2 : w = 2
  · refine Z_tableIn (pc := 1) (tgt := 69) hX 2 h1_2 (by decide) (by decide) (by decide) dX4_least_1 rfl (by decide) ?_
    refine V_iconst (pc := 69) (z := 0) hX (oI 0) rfl dX4_least_69 ?_
    refine V_iret (pc := 70) hX hR dX4_least_70 ?_
    by_cases c : w = 0 ∨ (3 ≤ w ∧ w < 7)
    · rw [wArg_be (by omega)] at hi ⊢
      have hc : i = 0 := by have : i < 1 := hi; omega
      subst hc
      exact ⟨rfl, rfl⟩
    · rw [wArg_no (by omega)] at hi
      exact absurd hi (Nat.not_lt_zero i)
  by_cases h1_3 : w = 3
  · refine Z_tableIn (pc := 1) (tgt := 69) hX 3 h1_3 (by decide) (by decide) (by decide) dX4_least_1 rfl (by decide) ?_
    refine V_iconst (pc := 69) (z := 0) hX (oI 0) rfl dX4_least_69 ?_
    refine V_iret (pc := 70) hX hR dX4_least_70 ?_
    by_cases c : w = 0 ∨ (3 ≤ w ∧ w < 7)
    · rw [wArg_be (by omega)] at hi ⊢
      have hc : i = 0 := by have : i < 1 := hi; omega
      subst hc
      exact ⟨rfl, rfl⟩
    · rw [wArg_no (by omega)] at hi
      exact absurd hi (Nat.not_lt_zero i)
  by_cases h1_4 : w = 4
  · refine Z_tableIn (pc := 1) (tgt := 69) hX 4 h1_4 (by decide) (by decide) (by decide) dX4_least_1 rfl (by decide) ?_
    refine V_iconst (pc := 69) (z := 0) hX (oI 0) rfl dX4_least_69 ?_
    refine V_iret (pc := 70) hX hR dX4_least_70 ?_
    by_cases c : w = 0 ∨ (3 ≤ w ∧ w < 7)
    · rw [wArg_be (by omega)] at hi ⊢
      have hc : i = 0 := by have : i < 1 := hi; omega
      subst hc
      exact ⟨rfl, rfl⟩
    · rw [wArg_no (by omega)] at hi
      exact absurd hi (Nat.not_lt_zero i)
  by_cases h1_5 : w = 5
  · refine Z_tableIn (pc := 1) (tgt := 69) hX 5 h1_5 (by decide) (by decide) (by decide) dX4_least_1 rfl (by decide) ?_
    refine V_iconst (pc := 69) (z := 0) hX (oI 0) rfl dX4_least_69 ?_
    refine V_iret (pc := 70) hX hR dX4_least_70 ?_
    by_cases c : w = 0 ∨ (3 ≤ w ∧ w < 7)
    · rw [wArg_be (by omega)] at hi ⊢
      have hc : i = 0 := by have : i < 1 := hi; omega
      subst hc
      exact ⟨rfl, rfl⟩
    · rw [wArg_no (by omega)] at hi
      exact absurd hi (Nat.not_lt_zero i)
  by_cases h1_6 : w = 6
  · refine Z_tableIn (pc := 1) (tgt := 69) hX 6 h1_6 (by decide) (by decide) (by decide) dX4_least_1 rfl (by decide) ?_
    refine V_iconst (pc := 69) (z := 0) hX (oI 0) rfl dX4_least_69 ?_
    refine V_iret (pc := 70) hX hR dX4_least_70 ?_
    by_cases c : w = 0 ∨ (3 ≤ w ∧ w < 7)
    · rw [wArg_be (by omega)] at hi ⊢
      have hc : i = 0 := by have : i < 1 := hi; omega
      subst hc
      exact ⟨rfl, rfl⟩
    · rw [wArg_no (by omega)] at hi
      exact absurd hi (Nat.not_lt_zero i)
  refine Z_tableOut (pc := 1) (tgt := 69) hX (by omega) (by omega) dX4_least_1 (by decide) ?_
  refine V_iconst (pc := 69) (z := 0) hX (oI 0) rfl dX4_least_69 ?_
  refine V_iret (pc := 70) hX hR dX4_least_70 ?_
  by_cases c : w = 0 ∨ (3 ≤ w ∧ w < 7)
  · rw [wArg_be (by omega)] at hi ⊢
    have hc : i = 0 := by have : i < 1 := hi; omega
    subst hc
    exact ⟨rfl, rfl⟩
  · rw [wArg_no (by omega)] at hi
    exact absurd hi (Nat.not_lt_zero i)
theorem c_X4_greatest {E : Le} {l : Launch} {D : Dt} {w : Int} {i : Nat} (hw : 0 ≤ w ∧ w ≤ 11) (hi4 : i < 4) (hi : i < (wArg w).length) : ConI E l yX4_greatest cX4_greatest 2 (some .int) 1 [.int (oI w), .int (oI (i : Int))] D (oI ((wArg w).getD i (0, 0)).2) D := by
  refine Con_of (by decide) (Nat.le_of_ble_eq_true rfl) ?_
  intro X hX hR hl; subst hl
  refine V_iload_n (pc := 0) (j := 0) hX 0 rfl rfl dX4_greatest_0 ?_
  by_cases h1_1 : w = 1
  · refine Z_tableIn (pc := 1) (tgt := 52) hX 1 h1_1 (by decide) (by decide) (by decide) dX4_greatest_1 rfl (by decide) ?_
    refine V_iload_n (pc := 52) (j := 1) hX 1 rfl rfl dX4_greatest_52 ?_
    refine V_iconst (pc := 53) (z := 2) hX (oI 2) rfl dX4_greatest_53 ?_
    refine Z_icmp_ge (pc := 54) (tgt := 62) hX (by omega) (by omega) dX4_greatest_54 (by decide) (fun h54 => ?_) (fun h54 => ?_)
    · refine V_bipush (pc := 62) (z := 99) hX (oI 99) (by decide) dX4_greatest_62 ?_
      refine V_iret (pc := 64) hX hR dX4_greatest_64 ?_
      subst h1_1
      have hc : i = 2 ∨ i = 3 := by have : i < 4 := hi; omega
      rcases hc with rfl | rfl <;> exact ⟨rfl, rfl⟩
    · refine V_bipush (pc := 57) (z := 59) hX (oI 59) (by decide) dX4_greatest_57 ?_
      refine V_goto (pc := 59) (off := 5) (tgt := 64) hX (by decide) dX4_greatest_59 ?_
      refine V_iret (pc := 64) hX hR dX4_greatest_64 ?_
      subst h1_1
      have hc : i = 0 ∨ i = 1 := by omega
      rcases hc with rfl | rfl <;> exact ⟨rfl, rfl⟩
  by_cases h1_7 : w = 7
  · refine Z_tableIn (pc := 1) (tgt := 65) hX 7 h1_7 (by decide) (by decide) (by decide) dX4_greatest_1 rfl (by decide) ?_
    refine V_bipush (pc := 65) (z := 99) hX (oI 99) (by decide) dX4_greatest_65 ?_
    refine V_iret (pc := 67) hX hR dX4_greatest_67 ?_
    subst h1_7
    have hc : i = 0 ∨ i = 1 := by have : i < 2 := hi; omega
    rcases hc with rfl | rfl <;> exact ⟨rfl, rfl⟩
  by_cases h1_8 : w = 8
  · refine Z_tableIn (pc := 1) (tgt := 68) hX 8 h1_8 (by decide) (by decide) (by decide) dX4_greatest_1 rfl (by decide) ?_
    refine V_bipush (pc := 68) (z := 9) hX (oI 9) (by decide) dX4_greatest_68 ?_
    refine V_iret (pc := 70) hX hR dX4_greatest_70 ?_
    rw [wArg_gr (by omega)] at hi ⊢
    have hc : i = 0 := by have : i < 1 := hi; omega
    subst hc
    exact ⟨rfl, rfl⟩
  by_cases h1_9 : w = 9
  · refine Z_tableIn (pc := 1) (tgt := 68) hX 9 h1_9 (by decide) (by decide) (by decide) dX4_greatest_1 rfl (by decide) ?_
    refine V_bipush (pc := 68) (z := 9) hX (oI 9) (by decide) dX4_greatest_68 ?_
    refine V_iret (pc := 70) hX hR dX4_greatest_70 ?_
    rw [wArg_gr (by omega)] at hi ⊢
    have hc : i = 0 := by have : i < 1 := hi; omega
    subst hc
    exact ⟨rfl, rfl⟩
  by_cases h1_2 : w = 2
  · refine Z_tableIn (pc := 1) (tgt := 71) hX 2 h1_2 (by decide) (by decide) (by decide) dX4_greatest_1 rfl (by decide) ?_
    refine V_iconst (pc := 71) (z := 4) hX (oI 4) rfl dX4_greatest_71 ?_
    refine V_iret (pc := 72) hX hR dX4_greatest_72 ?_
    by_cases c : w = 0 ∨ (3 ≤ w ∧ w < 7)
    · rw [wArg_be (by omega)] at hi ⊢
      have hc : i = 0 := by have : i < 1 := hi; omega
      subst hc
      exact ⟨rfl, rfl⟩
    · rw [wArg_no (by omega)] at hi
      exact absurd hi (Nat.not_lt_zero i)
  by_cases h1_3 : w = 3
  · refine Z_tableIn (pc := 1) (tgt := 71) hX 3 h1_3 (by decide) (by decide) (by decide) dX4_greatest_1 rfl (by decide) ?_
    refine V_iconst (pc := 71) (z := 4) hX (oI 4) rfl dX4_greatest_71 ?_
    refine V_iret (pc := 72) hX hR dX4_greatest_72 ?_
    by_cases c : w = 0 ∨ (3 ≤ w ∧ w < 7)
    · rw [wArg_be (by omega)] at hi ⊢
      have hc : i = 0 := by have : i < 1 := hi; omega
      subst hc
      exact ⟨rfl, rfl⟩
    · rw [wArg_no (by omega)] at hi
      exact absurd hi (Nat.not_lt_zero i)
  by_cases h1_4 : w = 4
  · refine Z_tableIn (pc := 1) (tgt := 71) hX 4 h1_4 (by decide) (by decide) (by decide) dX4_greatest_1 rfl (by decide) ?_
    refine V_iconst (pc := 71) (z := 4) hX (oI 4) rfl dX4_greatest_71 ?_
    refine V_iret (pc := 72) hX hR dX4_greatest_72 ?_
    by_cases c : w = 0 ∨ (3 ≤ w ∧ w < 7)
    · rw [wArg_be (by omega)] at hi ⊢
      have hc : i = 0 := by have : i < 1 := hi; omega
      subst hc
      exact ⟨rfl, rfl⟩
    · rw [wArg_no (by omega)] at hi
      exact absurd hi (Nat.not_lt_zero i)
  by_cases h1_5 : w = 5
  · refine Z_tableIn (pc := 1) (tgt := 71) hX 5 h1_5 (by decide) (by decide) (by decide) dX4_greatest_1 rfl (by decide) ?_
    refine V_iconst (pc := 71) (z := 4) hX (oI 4) rfl dX4_greatest_71 ?_
    refine V_iret (pc := 72) hX hR dX4_greatest_72 ?_
    by_cases c : w = 0 ∨ (3 ≤ w ∧ w < 7)
    · rw [wArg_be (by omega)] at hi ⊢
      have hc : i = 0 := by have : i < 1 := hi; omega
      subst hc
      exact ⟨rfl, rfl⟩
    · rw [wArg_no (by omega)] at hi
      exact absurd hi (Nat.not_lt_zero i)
  by_cases h1_6 : w = 6
  · refine Z_tableIn (pc := 1) (tgt := 71) hX 6 h1_6 (by decide) (by decide) (by decide) dX4_greatest_1 rfl (by decide) ?_
    refine V_iconst (pc := 71) (z := 4) hX (oI 4) rfl dX4_greatest_71 ?_
    refine V_iret (pc := 72) hX hR dX4_greatest_72 ?_
    by_cases c : w = 0 ∨ (3 ≤ w ∧ w < 7)
    · rw [wArg_be (by omega)] at hi ⊢
      have hc : i = 0 := by have : i < 1 := hi; omega
      subst hc
      exact ⟨rfl, rfl⟩
    · rw [wArg_no (by omega)] at hi
      exact absurd hi (Nat.not_lt_zero i)
  refine Z_tableOut (pc := 1) (tgt := 71) hX (by omega) (by omega) dX4_greatest_1 (by decide) ?_
  refine V_iconst (pc := 71) (z := 4) hX (oI 4) rfl dX4_greatest_71 ?_
  refine V_iret (pc := 72) hX hR dX4_greatest_72 ?_
  by_cases c : w = 0 ∨ (3 ≤ w ∧ w < 7)
  · rw [wArg_be (by omega)] at hi ⊢
    have hc : i = 0 := by have : i < 1 := hi; omega
    subst hc
    exact ⟨rfl, rfl⟩
  · rw [wArg_no (by omega)] at hi
    exact absurd hi (Nat.not_lt_zero i)
