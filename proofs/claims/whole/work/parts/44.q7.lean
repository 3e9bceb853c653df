/-! THE FORM: a band comes behind the others -/
def FK (D D' : Dt) : Prop := (∀ t, ¬ (5 ≤ t ∧ t ≤ 11) → D'.1 t = D.1 t) ∧ D'.2 = D.2
theorem FK.rf (D : Dt) : FK D D := ⟨fun _ _ => rfl, rfl⟩
theorem FK.tr {D D1 D2 : Dt} (h : FK D D1) (k : FK D1 D2) : FK D D2 := ⟨fun t ht => (k.1 t ht).trans (h.1 t ht), k.2.trans h.2⟩
theorem FK_rU (D : Dt) {t : Nat} (ht : 5 ≤ t ∧ t ≤ 11) (f : Nat → Int32) : FK D (rU D t f) := ⟨fun u hu => rU_ne D f (by omega), rfl⟩
theorem FK.ac {D D' : Dt} {z : Fin 11} {S : Cl} (h : FK D D') (k : AC D z S) : AC D' z S := by
  unfold AC
  rw [h.2]
  exact k
def lnR (S : Cl) (j : Nat) : Nat := (spX (rpC S ((j : Int) - 60)) (-60)).length
/-- on the way: the band's numbers, t of its spans -/
def AdQ (D : Dt) (S : Cl) (j nb ns t : Nat) (D0 : Dt) : Prop := FK D D0 ∧ (D0.1 5 6 = oI (nb : Int) ∧ D0.1 5 7 = oI (ns : Int)) ∧ (D0.1 6 nb = oI ((j : Int) - 60) ∧ D0.1 7 nb = oI ((j : Int) - 60 + 1) ∧ D0.1 8 nb = oI (ns : Int)) ∧ (∀ b, b < nb → D0.1 6 b = D.1 6 b ∧ D0.1 7 b = D.1 7 b ∧ D0.1 8 b = D.1 8 b) ∧ ((∀ k, k < ns → D0.1 9 k = D.1 9 k) ∧ ∀ s, s < t → D0.1 9 (ns + s) = oI (nb : Int)) ∧ (∀ s, s < 2 * ns → D0.1 10 s = D.1 10 s) ∧ ∀ c, c < 121 → sdP (rpC S ((j : Int) - 60)) c = true → D0.1 10 (2 * ns + fb_ct (sdP (rpC S ((j : Int) - 60))) c) = oI ((c : Int) - 60)
theorem ad_mk {D D' : Dt} {S : Cl} {j nb ns : Nat} {g : Nat → Int32} (hb : D.1 5 6 = oI (nb : Int)) (hs : D.1 5 7 = oI (ns : Int)) (h10 : D'.1 10 = g) (h6 : D'.1 6 = upd (D.1 6) nb (oI ((j : Int) - 60))) (h7 : D'.1 7 = upd (D.1 7) nb (oI ((j : Int) - 60 + 1))) (h8 : D'.1 8 = upd (D.1 8) nb (oI (ns : Int))) (h9 : D'.1 9 = D.1 9) (h5 : D'.1 5 = D.1 5) (ho : ∀ t, ¬ (5 ≤ t ∧ t ≤ 11) → D'.1 t = D.1 t) (h2 : D'.2 = D.2) (g1 : ∀ s, s < 2 * ns → g s = D.1 10 s) (g2 : ∀ c, c < 121 → sdP (rpC S ((j : Int) - 60)) c = true → g (2 * ns + fb_ct (sdP (rpC S ((j : Int) - 60))) c) = oI ((c : Int) - 60)) : AdQ D S j nb ns 0 D' := by
  refine ⟨⟨ho, h2⟩, ⟨by rw [h5]; exact hb, by rw [h5]; exact hs⟩, ⟨?_, ?_, ?_⟩, fun b hb2 => ⟨?_, ?_, ?_⟩, ⟨fun k _ => by rw [h9], fun s hs2 => absurd hs2 (Nat.not_lt_zero s)⟩, fun s hs2 => by rw [h10]; exact g1 s hs2, fun c c1 c2 => by rw [h10]; exact g2 c c1 c2⟩
  · rw [h6, upd_at, if_pos rfl]
  · rw [h7, upd_at, if_pos rfl]
  · rw [h8, upd_at, if_pos rfl]
  · rw [h6, upd_at, if_neg (by omega)]
  · rw [h7, upd_at, if_neg (by omega)]
  · rw [h8, upd_at, if_neg (by omega)]
theorem AdQ.nx {D D0 : Dt} {S : Cl} {j nb ns t : Nat} (h : AdQ D S j nb ns t D0) : AdQ D S j nb ns (t + 1) (rU D0 9 (upd (D0.1 9) (ns + t) (oI (nb : Int)))) := by
  obtain ⟨h1, h2, h3, h4, h5, h6, h7⟩ := h
  refine ⟨h1.tr (FK_rU D0 (by omega) _), h2, h3, h4, ⟨fun k hk => ?_, fun s hs => ?_⟩, h6, h7⟩
  · rw [rU_get, upd_at, if_neg (by omega)]; exact h5.1 k hk
  · rw [rU_get, upd_at]
    by_cases q : s = t
    · rw [if_pos (by omega)]
    · rw [if_neg (by omega)]; exact h5.2 s (by omega)
def NewB (D : Dt) (S : Cl) (j nb ns : Nat) (D' : Dt) : Prop := FK D D' ∧ (D'.1 5 6 = oI ((nb + 1 : Nat) : Int) ∧ D'.1 5 7 = oI ((ns + lnR S j : Nat) : Int)) ∧ (D'.1 6 nb = oI ((j : Int) - 60) ∧ D'.1 7 nb = oI ((j : Int) - 60 + 1) ∧ D'.1 8 nb = oI (ns : Int)) ∧ HS D' nb ns (spX (rpC S ((j : Int) - 60)) (-60)) ∧ (∀ b, b < nb → D'.1 6 b = D.1 6 b ∧ D'.1 7 b = D.1 7 b ∧ D'.1 8 b = D.1 8 b) ∧ (∀ k, k < ns → D'.1 9 k = D.1 9 k) ∧ (∀ s, s < 2 * ns → D'.1 10 s = D.1 10 s)
def AbQ (D : Dt) (S : Cl) (j nb ns : Nat) (r : Int32) (D' : Dt) : Prop := r = bI (decide (nb < 60 ∧ ns + lnR S j ≤ 300)) ∧ (nb < 60 ∧ ns + lnR S j ≤ 300 → NewB D S j nb ns D') ∧ (¬ (nb < 60 ∧ ns + lnR S j ≤ 300) → D' = D)
theorem AdQ.fin {D D0 : Dt} {S : Cl} {j nb ns : Nat} (h : AdQ D S j nb ns (lnR S j) D0) : NewB D S j nb ns (rU (rU D0 5 (upd (D0.1 5) 6 (oI ((nb : Int) + 1)))) 5 (upd ((rU D0 5 (upd (D0.1 5) 6 (oI ((nb : Int) + 1)))).1 5) 7 (oI ((ns : Int) + (lnR S j : Int))))) := by
  obtain ⟨h1, h2, h3, h4, h5, h6, h7⟩ := h
  refine ⟨(h1.tr (FK_rU D0 (by omega) _)).tr (FK_rU _ (by omega) _), ⟨?_, ?_⟩, h3, row_HS h7 h5.2, h4, h5.1, h6⟩
  · rw [rU_get, upd_at, if_neg (by decide), rU_get, upd_at, if_pos rfl]; rfl
  · rw [rU_get, upd_at, if_pos rfl]; rfl
theorem add_sd {D : Dt} {z : Fin 11} {S : Cl} {j ns : Nat} {g1 g2 : Nat → Int32} (hA : AC D z S) (hj : j < 120) (a1 : ∀ i, i < 64 → tb (wsL (D.2.1 2 z j)) i = true → g1 (2 * ns + fb_ct (tb (wsL (D.2.1 2 z j))) i) = oI (-60 + (i : Int))) (b1 : ∀ s, s < 2 * ns + bct (wsL (D.2.1 2 z j)) → g2 s = g1 s) (b2 : ∀ i, i < 64 → tb (esL (D.2.1 2 z j) (D.2.1 3 z j)) i = true → g2 (2 * ns + bct (wsL (D.2.1 2 z j)) + fb_ct (tb (esL (D.2.1 2 z j) (D.2.1 3 z j))) i) = oI (0 + (i : Int))) : ∀ c, c < 121 → sdP (rpC S ((j : Int) - 60)) c = true → g2 (2 * ns + fb_ct (sdP (rpC S ((j : Int) - 60))) c) = oI ((c : Int) - 60) := by
  intro c hc h
  have e : ∀ c, c ≤ 60 → fb_ct (sdP (rpC S ((j : Int) - 60))) c = fb_ct (tb (wsL (D.2.1 2 z j))) c := fun c hc => fb_ct_cong (fun k hk => by rw [sdP_pd, wsL_tb hA (by omega) hj])
  by_cases q : c < 60
  · have hw : tb (wsL (D.2.1 2 z j)) c = true := by rw [wsL_tb hA q hj, ← sdP_pd]; exact h
    have hm := fb_ct_mono (tb (wsL (D.2.1 2 z j))) (show c + 1 ≤ 64 by omega)
    rw [fb_ct_succ, hw, if_pos rfl] at hm
    have hx : bct (wsL (D.2.1 2 z j)) = fb_ct (tb (wsL (D.2.1 2 z j))) 64 := rfl
    rw [e c (by omega), b1 _ (by omega), a1 c (by omega) hw]
    congr 1 <;> omega
  · have he : tb (esL (D.2.1 2 z j) (D.2.1 3 z j)) (c - 60) = true := by
      rw [esL_tb hA (by omega) hj, decide_eq_true (by omega), Bool.true_and, show c - 60 + 61 = c + 1 by omega, show c - 60 + 60 = c by omega, ← sdP_pd]; exact h
    have ec : fb_ct (sdP (rpC S ((j : Int) - 60))) c = bct (wsL (D.2.1 2 z j)) + fb_ct (tb (esL (D.2.1 2 z j) (D.2.1 3 z j))) (c - 60) := by
      have e0 := fb_ct_split (sdP (rpC S ((j : Int) - 60))) 60 (c - 60)
      rw [show 60 + (c - 60) = c by omega, e 60 (by omega)] at e0
      rw [e0, bct_60 (wsL_60 _)]
      congr 1
      refine fb_ct_cong (fun k hk => ?_)
      rw [sdP_pd, esL_tb hA (by omega) hj, decide_eq_true (by omega), Bool.true_and, show 60 + k + 1 = k + 61 by omega, Nat.add_comm 60 k]
    rw [ec, ← Nat.add_assoc, b2 _ (by omega) he]
    congr 1 <;> omega
theorem c_X1_addBand {E : Le} {l : Launch} {D : Dt} {S : Cl} {z : Fin 11} {j nb ns : Nat} (hj : j < 120) (hA : AC D z S) (hb : D.1 5 6 = oI (nb : Int)) (hs : D.1 5 7 = oI (ns : Int)) (hnb : nb ≤ 60) (hns : ns ≤ 300) : ConIp E l yX1_addBand cX1_addBand 13 (some .boolean) 3 [.ref (E.1 (5, 0)), .int (oI ((j : Int) - 60)), .long (D.2.1 2 z j), .long (D.2.1 3 z j)] D (AbQ D S j nb ns) := by
  have hh : bct (wsL (D.2.1 2 z j)) + bct (esL (D.2.1 2 z j) (D.2.1 3 z j)) = 2 * lnR S j := by rw [hs_ct hA hj, row_len]; rfl
  have hb1 := bct_le (wsL (D.2.1 2 z j))
  have hb2 := bct_le (esL (D.2.1 2 z j) (D.2.1 3 z j))
  refine Con_of (by decide) (Nat.le_of_ble_eq_true rfl) ?_
  intro X hX hR hl; subst hl
  refine V_lload_n (pc := 0) (j := 2) hX 2 rfl rfl dX1_addBand_0 ?_
  refine cSL1 (pc := 1) hX (c_X0_westSides) (by decide) st_X1_50 (Nat.le_of_ble_eq_true rfl) dX1_addBand_1 ?_
  refine V_lstore (pc := 4) hX (by decide) rfl dX1_addBand_4 ?_
  refine V_lload_n (pc := 6) (j := 2) hX 2 rfl rfl dX1_addBand_6 ?_
  refine V_lload (pc := 7) hX rfl dX1_addBand_7 ?_
  refine cSL2 (pc := 9) hX (c_X0_eastSides) (by decide) st_X1_54 (Nat.le_of_ble_eq_true rfl) dX1_addBand_9 ?_
  refine V_lstore (pc := 12) hX (by decide) rfl dX1_addBand_12 ?_
  refine V_lload (pc := 14) hX rfl dX1_addBand_14 ?_
  refine cSI1 (pc := 16) hX (c_J13_bitCount_95d88) (by decide) st_X1_58 (Nat.le_of_ble_eq_true rfl) dX1_addBand_16 ?_
  refine V_lload (pc := 19) hX rfl dX1_addBand_19 ?_
  refine cSI1 (pc := 21) hX (c_J13_bitCount_95d88) (by decide) st_X1_58 (Nat.le_of_ble_eq_true rfl) dX1_addBand_21 ?_
  refine Z_iadd (pc := 24) hX dX1_addBand_24 ?_
  refine V_iconst (pc := 25) (z := 2) hX (oI 2) rfl dX1_addBand_25 ?_
  refine Z_idiv (pc := 26) hX (by omega) (by omega) (by omega) (by omega) dX1_addBand_26 ?_
  refine V_oI (lnR S j : Int) (congrArg oI (by omega)) ?_
  refine V_istore (pc := 27) hX (by decide) rfl dX1_addBand_27 ?_
  refine V_aload_n (pc := 29) (j := 0) hX 0 rfl rfl dX1_addBand_29 ?_
  refine gf_X1_30 (pc := 30) hX dX1_addBand_30 ?_
  refine V_oI (nb : Int) hb ?_
  refine V_bipush (pc := 33) (z := 60) hX (oI 60) (by decide) dX1_addBand_33 ?_
  refine Z_icmp_ge (pc := 35) (tgt := 51) hX (by omega) (by omega) dX1_addBand_35 (by decide) (fun h35 => ?_) (fun h35 => ?_)
  · refine V_iconst (pc := 51) (z := 0) hX (oI 0) rfl dX1_addBand_51 ?_
    refine V_zret (pc := 52) hX hR (by decide) dX1_addBand_52 ?_
    exact ⟨_, rfl, bI_0 (decide_eq_false (by omega)), fun h => absurd h (by omega), fun _ => rfl⟩
  · refine V_aload_n (pc := 38) (j := 0) hX 0 rfl rfl dX1_addBand_38 ?_
    refine gf_X1_34 (pc := 39) hX dX1_addBand_39 ?_
    refine V_oI (ns : Int) hs ?_
    refine V_iload (pc := 42) hX rfl dX1_addBand_42 ?_
    refine Z_iadd (pc := 44) hX dX1_addBand_44 ?_
    refine V_sipush (pc := 45) (z := 300) hX (oI 300) (by decide) dX1_addBand_45 ?_
    refine Z_icmp_le (pc := 48) (tgt := 53) hX (by omega) (by omega) dX1_addBand_48 (by decide) (fun h48 => ?_) (fun h48 => ?_)
    · have hok : nb < 60 ∧ ns + lnR S j ≤ 300 := by omega
      have loop : ∀ (m : Nat) (t : Nat) (D1 : Dt), t ≤ lnR S j → AdQ D S j nb ns t D1 → lnR S j - t < m → Vw E X 13 D1 120 [(0, some (.ref (E.1 (5, 0)))), (10, some (.int (oI (lnR S j : Int)))), (12, some (.int (oI ((ns + t : Nat) : Int))))] [] := by
        intro m
        induction m with
        | zero => intro t D1 g1 g2 g3; omega
        | succ m ih =>
          intro t D1 g1 g2 g3
          refine V_iload (pc := 120) hX rfl dX1_addBand_120 ?_
          refine V_aload_n (pc := 122) (j := 0) hX 0 rfl rfl dX1_addBand_122 ?_
          refine gf_X1_34 (pc := 123) hX dX1_addBand_123 ?_
          refine V_oI (ns : Int) (by first | exact g2.2.1.2 | (rw [rU_get, upd_at, if_neg (by decide)]; exact g2.2.1.2)) ?_
          refine V_iload (pc := 126) hX rfl dX1_addBand_126 ?_
          refine Z_iadd (pc := 128) hX dX1_addBand_128 ?_
          refine Z_icmp_ge (pc := 129) (tgt := 149) hX (by omega) (by omega) dX1_addBand_129 (by decide) (fun h129 => ?_) (fun h129 => ?_)
          · refine V_aload_n (pc := 149) (j := 0) hX 0 rfl rfl dX1_addBand_149 ?_
            refine V_dup (pc := 150) hX rfl dX1_addBand_150 ?_
            refine gf_X1_30 (pc := 151) hX dX1_addBand_151 ?_
            refine V_oI (nb : Int) (by first | exact g2.2.1.1 | (rw [rU_get, upd_at, if_neg (by decide)]; exact g2.2.1.1)) ?_
            refine V_iconst (pc := 154) (z := 1) hX (oI 1) rfl dX1_addBand_154 ?_
            refine Z_iadd (pc := 155) hX dX1_addBand_155 ?_
            refine pf_X1_30 (pc := 156) hX dX1_addBand_156 ?_
            refine V_aload_n (pc := 159) (j := 0) hX 0 rfl rfl dX1_addBand_159 ?_
            refine V_dup (pc := 160) hX rfl dX1_addBand_160 ?_
            refine gf_X1_34 (pc := 161) hX dX1_addBand_161 ?_
            refine V_oI (ns : Int) (by first | exact g2.2.1.2 | (rw [rU_get, upd_at, if_neg (by decide)]; exact g2.2.1.2)) ?_
            refine V_iload (pc := 164) hX rfl dX1_addBand_164 ?_
            refine Z_iadd (pc := 166) hX dX1_addBand_166 ?_
            refine pf_X1_34 (pc := 167) hX dX1_addBand_167 ?_
            refine V_iconst (pc := 170) (z := 1) hX (oI 1) rfl dX1_addBand_170 ?_
            refine V_zret (pc := 171) hX hR (by decide) dX1_addBand_171 ?_
            have e : t = lnR S j := by omega
            subst e
            exact ⟨_, rfl, bI_1 (decide_eq_true hok), fun _ => g2.fin, fun h => absurd hok h⟩
          · refine V_aload_n (pc := 132) (j := 0) hX 0 rfl rfl dX1_addBand_132 ?_
            refine gf_X1_21 (pc := 133) hX dX1_addBand_133 ?_
            refine V_iload (pc := 136) hX rfl dX1_addBand_136 ?_
            refine V_aload_n (pc := 138) (j := 0) hX 0 rfl rfl dX1_addBand_138 ?_
            refine gf_X1_30 (pc := 139) hX dX1_addBand_139 ?_
            refine V_oI (nb : Int) (by first | exact g2.2.1.1 | (rw [rU_get, upd_at, if_neg (by decide)]; exact g2.2.1.1)) ?_
            refine zs_9 (pc := 142) hX (ns + t) (by omega) (by omega) dX1_addBand_142 ?_
            refine Z_iinc (pc := 143) hX 1 rfl rfl dX1_addBand_143 ?_
            refine V_goto (pc := 146) (off := (-26)) (tgt := 120) hX (by decide) dX1_addBand_146 ?_
            refine V_cut [(0, some (.ref (E.1 (5, 0)))), (10, some (.int (oI (lnR S j : Int)))), (12, some (.int (oI ((ns + (t + 1) : Nat) : Int))))] ⟨rfl, rfl, congrArg (fun q => some (Value.int (oI q))) (by omega), trivial⟩ ?_
            exact ih (t + 1) _ (by omega) g2.nx (by omega)
      refine V_aload_n (pc := 53) (j := 0) hX 0 rfl rfl dX1_addBand_53 ?_
      refine V_lload (pc := 54) hX rfl dX1_addBand_54 ?_
      refine V_bipush (pc := 56) (z := (-60)) hX (oI (-60)) (by decide) dX1_addBand_56 ?_
      refine V_iconst (pc := 58) (z := 2) hX (oI 2) rfl dX1_addBand_58 ?_
      refine V_aload_n (pc := 59) (j := 0) hX 0 rfl rfl dX1_addBand_59 ?_
      refine gf_X1_34 (pc := 60) hX dX1_addBand_60 ?_
      refine V_oI (ns : Int) hs ?_
      refine Z_imul (pc := 63) hX dX1_addBand_63 ?_
      refine V_oI ((2 * ns : Nat) : Int) (congrArg oI (by omega)) ?_
      refine cVIp3 (pc := 64) hX (c_X1_addSides (f := 2 * ns) (by omega) (by omega)) (by decide) st_X1_64 ix_5 rfl rfl rfl (Nat.le_of_ble_eq_true rfl) dX1_addBand_64 (fun r64 D64 h64 => ?_)
      obtain ⟨rfl, gA, rfl, aA1, aA2⟩ := h64
      refine V_istore (pc := 67) hX (by decide) rfl dX1_addBand_67 ?_
      refine V_aload_n (pc := 69) (j := 0) hX 0 rfl rfl dX1_addBand_69 ?_
      refine V_lload (pc := 70) hX rfl dX1_addBand_70 ?_
      refine V_iconst (pc := 72) (z := 0) hX (oI 0) rfl dX1_addBand_72 ?_
      refine V_iload (pc := 73) hX rfl dX1_addBand_73 ?_
      refine cVIp3 (pc := 75) hX (c_X1_addSides (f := 2 * ns + bct (wsL (D.2.1 2 z j))) (by omega) (by omega)) (by decide) st_X1_64 ix_5 rfl rfl rfl (Nat.le_of_ble_eq_true rfl) dX1_addBand_75 (fun r75 D75 h75 => ?_)
      obtain ⟨rfl, gB, rfl, aB1, aB2⟩ := h75
      rw [rU_rU]
      refine V_pop (pc := 78) hX rfl dX1_addBand_78 ?_
      refine V_aload_n (pc := 79) (j := 0) hX 0 rfl rfl dX1_addBand_79 ?_
      refine gf_X1_9 (pc := 80) hX dX1_addBand_80 ?_
      refine V_aload_n (pc := 83) (j := 0) hX 0 rfl rfl dX1_addBand_83 ?_
      refine gf_X1_30 (pc := 84) hX dX1_addBand_84 ?_
      refine V_oI (nb : Int) hb ?_
      refine V_iload_n (pc := 87) (j := 1) hX 1 rfl rfl dX1_addBand_87 ?_
      refine zs_6 (pc := 88) hX (nb) (rfl) (by omega) dX1_addBand_88 ?_
      refine V_aload_n (pc := 89) (j := 0) hX 0 rfl rfl dX1_addBand_89 ?_
      refine gf_X1_15 (pc := 90) hX dX1_addBand_90 ?_
      refine V_aload_n (pc := 93) (j := 0) hX 0 rfl rfl dX1_addBand_93 ?_
      refine gf_X1_30 (pc := 94) hX dX1_addBand_94 ?_
      refine V_oI (nb : Int) hb ?_
      refine V_iload_n (pc := 97) (j := 1) hX 1 rfl rfl dX1_addBand_97 ?_
      refine V_iconst (pc := 98) (z := 1) hX (oI 1) rfl dX1_addBand_98 ?_
      refine Z_iadd (pc := 99) hX dX1_addBand_99 ?_
      refine zs_7 (pc := 100) hX (nb) (rfl) (by omega) dX1_addBand_100 ?_
      refine V_aload_n (pc := 101) (j := 0) hX 0 rfl rfl dX1_addBand_101 ?_
      refine gf_X1_18 (pc := 102) hX dX1_addBand_102 ?_
      refine V_aload_n (pc := 105) (j := 0) hX 0 rfl rfl dX1_addBand_105 ?_
      refine gf_X1_30 (pc := 106) hX dX1_addBand_106 ?_
      refine V_oI (nb : Int) hb ?_
      refine V_aload_n (pc := 109) (j := 0) hX 0 rfl rfl dX1_addBand_109 ?_
      refine gf_X1_34 (pc := 110) hX dX1_addBand_110 ?_
      refine V_oI (ns : Int) hs ?_
      refine zs_8 (pc := 113) hX (nb) (rfl) (by omega) dX1_addBand_113 ?_
      refine V_aload_n (pc := 114) (j := 0) hX 0 rfl rfl dX1_addBand_114 ?_
      refine gf_X1_34 (pc := 115) hX dX1_addBand_115 ?_
      refine V_oI (ns : Int) hs ?_
      refine V_istore (pc := 118) hX (by decide) rfl dX1_addBand_118 ?_
      refine V_cut [(0, some (.ref (E.1 (5, 0)))), (10, some (.int (oI (lnR S j : Int)))), (12, some (.int (oI ((ns + 0 : Nat) : Int))))] ⟨rfl, rfl, congrArg (fun q => some (Value.int (oI q))) (by omega), trivial⟩ ?_
      refine loop (lnR S j + 1) 0 _ (by omega) (ad_mk (g := gB) hb hs rfl rfl rfl rfl rfl rfl (fun t ht => ?_) rfl (fun s hs2 => ?_) (add_sd (g1 := gA) (ns := ns) hA hj aA2 (fun s hs2 => ?_) aB2)) (by omega)
      · rw [rU_ne _ _ (by omega), rU_ne _ _ (by omega), rU_ne _ _ (by omega), rU_ne _ _ (by omega)]
      · rw [aB1 s (Or.inl (by omega))]; exact aA1 s (Or.inl hs2)
      · exact aB1 s (Or.inl hs2)
    · refine V_iconst (pc := 51) (z := 0) hX (oI 0) rfl dX1_addBand_51 ?_
      refine V_zret (pc := 52) hX hR (by decide) dX1_addBand_52 ?_
      exact ⟨_, rfl, bI_0 (decide_eq_false (by omega)), fun h => absurd h (by omega), fun _ => rfl⟩
