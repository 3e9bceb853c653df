/-! PARTS: all spans -/
theorem FormP.u11 {D : Dt} {S : Cl} (h : FormP D S) (g : Nat → Int32) : FormP (rU D 11 g) S :=
  ⟨h.1, h.2.1, h.2.2.1, HB_fr (D := D) _ 0 0 (fun _ _ _ => ⟨rfl, rfl, rfl⟩) (fun _ _ _ => ⟨rfl, rfl, rfl⟩) h.2.2.2⟩
def JS (S : Cl) (D : Dt) (m : Nat) (ρ : Nat → Nat) (c : Nat) : Prop := UQ D m ρ c ∧ ∀ a, a < m → ∀ b, b < m → ρ a = ρ b → Lk S a b
theorem JS.jn {S : Cl} {D D' : Dt} {m c : Nat} {ρ : Nat → Nat} {j k : Nat} (h : JS S D m ρ c) (hm : m ≤ nsC S) (hj : j < m) (hk : k < m) (hl : Lk S j k) (h2 : UQ D' m (mg ρ j k) (if ρ j = ρ k then c else c - 1)) : JS S D' m (mg ρ j k) (if ρ j = ρ k then c else c - 1) := by
  refine ⟨h2, fun a ha b hb e => ?_⟩
  have hs := h.2
  rw [mg, mg] at e
  by_cases c1 : ρ a = ρ k
  · rw [if_pos c1] at e
    by_cases c2 : ρ b = ρ k
    · exact hs a ha b hb (c1.trans c2.symm)
    · rw [if_neg c2] at e
      exact ((hs a ha k hk c1).tr (hl.sym (by omega))).tr (hs j hj b hb e)
  · rw [if_neg c1] at e
    by_cases c2 : ρ b = ρ k
    · rw [if_pos c2] at e
      exact ((hs a ha j hj e).tr hl).tr (hs k hk b hb c2.symm)
    · rw [if_neg c2] at e
      exact hs a ha b hb e
theorem UQ.c_pos {D : Dt} {m c : Nat} {ρ : Nat → Nat} (h : UQ D m ρ c) (hm : 0 < m) : 0 < c := by
  obtain ⟨f, d, u1, u2, u3⟩ := h
  rw [u3]
  exact fb_ct_pos.mpr ⟨0, hm, lsB_t.mpr (fun j hj => absurd hj (Nat.not_lt_zero j))⟩
/-- what joinAbove has done so far, up to span j of the band above -/
def JaI (S : Cl) (D : Dt) (k : Nat) (ρ : Nat → Nat) (c : Nat) (lo j : Nat) (ρ1 : Nat → Nat) (c1 : Nat) (D1 : Dt) : Prop := (∃ g, D1 = rU D 11 g) ∧ JS S D1 (k + 1) ρ1 c1 ∧ c1 ≤ c ∧ (∀ a, a < k + 1 → ∀ b, b < k + 1 → ρ a = ρ b → ρ1 a = ρ1 b) ∧ ∀ a, lo ≤ a → a < j → tch S a k → ρ1 a = ρ1 k
def JaQ (S : Cl) (D : Dt) (k : Nat) (ρ : Nat → Nat) (c : Nat) (r : Int32) (D' : Dt) : Prop := ∃ (ρ1 : Nat → Nat) (c1 : Nat), r = oI ((c : Int) - (c1 : Int)) ∧ JaI S D k ρ c 0 (k + 1) ρ1 c1 D'
theorem JaI.jn {S : Cl} {D D1 D' : Dt} {k c lo j c1 : Nat} {ρ ρ1 : Nat → Nat} (h : JaI S D k ρ c lo j ρ1 c1 D1) (hk : k < nsC S) (hj : j < k) (ht : tch S j k) (hg : ∃ g, D' = rU D1 11 g) (hu : UQ D' (k + 1) (mg ρ1 j k) (if ρ1 j = ρ1 k then c1 else c1 - 1)) : JaI S D k ρ c lo (j + 1) (mg ρ1 j k) (if ρ1 j = ρ1 k then c1 else c1 - 1) D' := by
  obtain ⟨⟨g0, h1⟩, h2, h3, h4, h5⟩ := h
  obtain ⟨g1, e1⟩ := hg
  refine ⟨⟨g1, by rw [e1, h1, rU_rU]⟩, h2.jn (by omega) (by omega) (by omega) (tch_lk (by omega) hk ht) hu, by split <;> omega, fun a ha b hb e => ?_, fun a h6 h7 h8 => ?_⟩
  · rw [mg, mg, h4 a ha b hb e]
  · by_cases q : a = j
    · subst q
      by_cases w : ρ1 a = ρ1 k
      · rw [mg, mg, if_pos w, if_pos rfl]
      · rw [mg, mg, if_neg w, if_pos rfl]
    · have := h5 a h6 (by omega) h8
      rw [mg, mg, this]
theorem JaI.nj {S : Cl} {D D1 : Dt} {k c lo j c1 : Nat} {ρ ρ1 : Nat → Nat} (h : JaI S D k ρ c lo j ρ1 c1 D1) (ht : ¬ tch S j k) : JaI S D k ρ c lo (j + 1) ρ1 c1 D1 := by
  obtain ⟨h1, h2, h3, h4, h5⟩ := h
  refine ⟨h1, h2, h3, h4, fun a h6 h7 h8 => ?_⟩
  by_cases q : a = j
  · subst q; exact absurd h8 ht
  · exact h5 a h6 (by omega) h8
theorem JaI.fin {S : Cl} {D D1 : Dt} {k c c1 b0 : Nat} {ρ ρ1 : Nat → Nat} (hk : k < nsC S) (hb : (flG S k).1 = b0 + 1) (h : JaI S D k ρ c (Fc S b0) (Fc S (b0 + 1)) ρ1 c1 D1) : JaI S D k ρ c 0 (k + 1) ρ1 c1 D1 := by
  obtain ⟨h1, h2, h3, h4, h5⟩ := h
  refine ⟨h1, h2, h3, h4, fun a _ h7 h8 => ?_⟩
  have ha : a < nsC S := by omega
  obtain ⟨-, q1, q2⟩ := bnd_at ha
  have e : (flG S a).1 = b0 := by have := h8.1; omega
  rw [e] at q1 q2
  exact h5 a q1 q2 h8
theorem tch_lt {S : Cl} {a b : Nat} (ha : a < nsC S) (h : tch S a b) : a < b := by
  rcases Nat.lt_trichotomy a b with q | q | q
  · exact q
  · subst q; have := h.1; omega
  · have := sp_lt q ha
    have h1 := h.1
    rcases this with ⟨w, -⟩ | ⟨w, -⟩ <;> omega
theorem c_X1_joinAbove {E : Le} {l : Launch} {D : Dt} {S : Cl} {k c : Nat} {ρ : Nat → Nat} (hF : FormP D S) (hk : k < nsC S) (hJ : JS S D (k + 1) ρ c) : ConIp E l yX1_joinAbove cX1_joinAbove 5 (some .int) 3 [.ref (E.1 (5, 0)), .int (oI (k : Int))] D (JaQ S D k ρ c) := by
  have hqk := hF.at hk
  have hns := hF.2.2.1.2
  have hnb := hF.2.2.1.1
  have rk := sp_rg hk
  have hnb2 : nbC S = (bandsC S).length := rfl
  refine Con_of (by decide) (Nat.le_of_ble_eq_true rfl) ?_
  intro X hX hR hl; subst hl
  refine V_aload_n (pc := 0) (j := 0) hX 0 rfl rfl dX1_joinAbove_0 ?_
  refine gf_X1_21 (pc := 1) hX dX1_joinAbove_1 ?_
  refine V_iload_n (pc := 4) (j := 1) hX 1 rfl rfl dX1_joinAbove_4 ?_
  refine zl_9 (pc := 5) hX (k) (by omega) (by omega) dX1_joinAbove_5 ?_
  refine V_oI ((flG S k).1 : Int) hqk.1.1 ?_
  refine V_istore_n (pc := 6) (j := 2) hX 2 rfl (by decide) rfl dX1_joinAbove_6 ?_
  refine V_iload_n (pc := 7) (j := 2) hX 2 rfl rfl dX1_joinAbove_7 ?_
  refine Z_if_eq (pc := 8) (tgt := 28) hX (by omega) dX1_joinAbove_8 (by decide) (fun h8 => ?_) (fun h8 => ?_)
  · refine V_iconst (pc := 28) (z := 0) hX (oI 0) rfl dX1_joinAbove_28 ?_
    refine V_iret (pc := 29) hX hR dX1_joinAbove_29 ?_
    refine ⟨_, rfl, ρ, c, congrArg oI (by omega), ⟨D.1 11, by rw [rU_self]⟩, hJ, Nat.le_refl c, fun _ _ _ _ e => e, fun a _ ha ht => ?_⟩
    have := ht.1
    omega
  · obtain ⟨b0, hbk⟩ : ∃ b0, (flG S k).1 = b0 + 1 := ⟨(flG S k).1 - 1, by omega⟩
    have hlt := (List.getElem?_eq_some_iff.mp (bnd_at hk).1).1
    obtain ⟨qb, hb0⟩ : ∃ q, (bandsC S)[b0]? = some q := ⟨_, List.getElem?_eq_getElem (l := bandsC S) (i := b0) (by omega)⟩
    have hb1 : (bandsC S)[b0 + 1]? = some (flG S k).2.1 := by rw [← hbk]; exact (bnd_at hk).1
    have rq := bd_rg hb0
    have rq1 := bd_rg hb1
    refine V_aload_n (pc := 11) (j := 0) hX 0 rfl rfl dX1_joinAbove_11 ?_
    refine gf_X1_15 (pc := 12) hX dX1_joinAbove_12 ?_
    refine V_iload_n (pc := 15) (j := 2) hX 2 rfl rfl dX1_joinAbove_15 ?_
    refine V_iconst (pc := 16) (z := 1) hX (oI 1) rfl dX1_joinAbove_16 ?_
    refine Z_isub (pc := 17) hX dX1_joinAbove_17 ?_
    refine zl_7 (pc := 18) hX (b0) (by omega) (by omega) dX1_joinAbove_18 ?_
    refine V_oI qb.2 (hF.bd hb0).2.1 ?_
    refine V_aload_n (pc := 19) (j := 0) hX 0 rfl rfl dX1_joinAbove_19 ?_
    refine gf_X1_9 (pc := 20) hX dX1_joinAbove_20 ?_
    refine V_iload_n (pc := 23) (j := 2) hX 2 rfl rfl dX1_joinAbove_23 ?_
    refine zl_6 (pc := 24) hX (b0 + 1) (by omega) (by omega) dX1_joinAbove_24 ?_
    refine V_oI (flG S k).2.1.1 (hF.bd hb1).1 ?_
    refine Z_icmp_eq (pc := 25) (tgt := 30) hX (by omega) (by omega) dX1_joinAbove_25 (by decide) (fun h25 => ?_) (fun h25 => ?_)
    · have loop : ∀ (m : Nat) (j : Nat) (ρ1 : Nat → Nat) (c1 : Nat) (D1 : Dt), (Fc S b0 ≤ j ∧ j ≤ Fc S (b0 + 1)) ∧ Fc S (b0 + 1) ≤ k → JaI S D k ρ c (Fc S b0) j ρ1 c1 D1 → Fc S (b0 + 1) - j < m → Vw E X 5 D1 42 [(0, some (.ref (E.1 (5, 0)))), (1, some (.int (oI (k : Int)))), (2, some (.int (oI ((b0 + 1 : Nat) : Int)))), (3, some (.int (oI ((c : Int) - ((c1 : Nat) : Int))))), (4, some (.int (oI ((j : Nat) : Int))))] [] := by
        intro m
        induction m with
        | zero => intro j ρ1 c1 D1 g1 g2 g3; omega
        | succ m ih =>
          intro j ρ1 c1 D1 g1 g2 g3
          obtain ⟨g0, hg0⟩ := g2.1
          have hF1 : FormP D1 S := by rw [hg0]; exact hF.u11 g0
          have hqk1 := hF1.at hk
          refine V_iload (pc := 42) hX rfl dX1_joinAbove_42 ?_
          refine V_aload_n (pc := 44) (j := 0) hX 0 rfl rfl dX1_joinAbove_44 ?_
          refine gf_X1_18 (pc := 45) hX dX1_joinAbove_45 ?_
          refine V_iload_n (pc := 48) (j := 2) hX 2 rfl rfl dX1_joinAbove_48 ?_
          refine zl_8 (pc := 49) hX (b0 + 1) (rfl) (by omega) dX1_joinAbove_49 ?_
          refine V_oI (Fc S (b0 + 1) : Int) (hF1.bd hb1).2.2 ?_
          refine Z_icmp_ge (pc := 50) (tgt := 116) hX (by omega) (by omega) dX1_joinAbove_50 (by decide) (fun h50 => ?_) (fun h50 => ?_)
          · refine V_iload_n (pc := 116) (j := 3) hX 3 rfl rfl dX1_joinAbove_116 ?_
            refine V_iret (pc := 117) hX hR dX1_joinAbove_117 ?_
            have e : j = Fc S (b0 + 1) := by omega
            subst e
            exact ⟨_, rfl, ρ1, c1, rfl, g2.fin hk hbk⟩
          · have hjn : j < nsC S := by omega
            have hqj := hF1.at hjn
            have rj := sp_rg hjn
            have hbj := bnd_uni hjn g1.1.1 (by omega)
            refine V_aload_n (pc := 53) (j := 0) hX 0 rfl rfl dX1_joinAbove_53 ?_
            refine gf_X1_24 (pc := 54) hX dX1_joinAbove_54 ?_
            refine V_iconst (pc := 57) (z := 2) hX (oI 2) rfl dX1_joinAbove_57 ?_
            refine V_iload (pc := 58) hX rfl dX1_joinAbove_58 ?_
            refine Z_imul (pc := 60) hX dX1_joinAbove_60 ?_
            refine zl_10 (pc := 61) hX (2 * j) (by omega) (by omega) dX1_joinAbove_61 ?_
            refine V_oI (spV S 0 j) hqj.2.2.1 ?_
            refine V_aload_n (pc := 62) (j := 0) hX 0 rfl rfl dX1_joinAbove_62 ?_
            refine gf_X1_24 (pc := 63) hX dX1_joinAbove_63 ?_
            refine V_iconst (pc := 66) (z := 2) hX (oI 2) rfl dX1_joinAbove_66 ?_
            refine V_iload_n (pc := 67) (j := 1) hX 1 rfl rfl dX1_joinAbove_67 ?_
            refine Z_imul (pc := 68) hX dX1_joinAbove_68 ?_
            refine V_iconst (pc := 69) (z := 1) hX (oI 1) rfl dX1_joinAbove_69 ?_
            refine Z_iadd (pc := 70) hX dX1_joinAbove_70 ?_
            refine zl_10 (pc := 71) hX (2 * k + 1) (by omega) (by omega) dX1_joinAbove_71 ?_
            refine V_oI (spV S 1 k) hqk1.2.2.2 ?_
            refine Z_icmp_ge (pc := 72) (tgt := 110) hX (by omega) (by omega) dX1_joinAbove_72 (by decide) (fun h72 => ?_) (fun h72 => ?_)
            · refine Z_iinc (pc := 110) hX 1 rfl rfl dX1_joinAbove_110 ?_
              refine V_goto (pc := 113) (off := (-71)) (tgt := 42) hX (by decide) dX1_joinAbove_113 ?_
              have ht : ¬ tch S j k := fun q => by have := q.2.2; omega
              refine V_cut [(0, some (.ref (E.1 (5, 0)))), (1, some (.int (oI (k : Int)))), (2, some (.int (oI ((b0 + 1 : Nat) : Int)))), (3, some (.int (oI ((c : Int) - ((c1 : Nat) : Int))))), (4, some (.int (oI ((j + 1 : Nat) : Int))))] ⟨rfl, rfl, rfl, rfl, rfl, trivial⟩ ?_
              exact ih (j + 1) _ _ _ (by omega) (g2.nj ht) (by omega)
            · refine V_aload_n (pc := 75) (j := 0) hX 0 rfl rfl dX1_joinAbove_75 ?_
              refine gf_X1_24 (pc := 76) hX dX1_joinAbove_76 ?_
              refine V_iconst (pc := 79) (z := 2) hX (oI 2) rfl dX1_joinAbove_79 ?_
              refine V_iload_n (pc := 80) (j := 1) hX 1 rfl rfl dX1_joinAbove_80 ?_
              refine Z_imul (pc := 81) hX dX1_joinAbove_81 ?_
              refine zl_10 (pc := 82) hX (2 * k) (by omega) (by omega) dX1_joinAbove_82 ?_
              refine V_oI (spV S 0 k) hqk1.2.2.1 ?_
              refine V_aload_n (pc := 83) (j := 0) hX 0 rfl rfl dX1_joinAbove_83 ?_
              refine gf_X1_24 (pc := 84) hX dX1_joinAbove_84 ?_
              refine V_iconst (pc := 87) (z := 2) hX (oI 2) rfl dX1_joinAbove_87 ?_
              refine V_iload (pc := 88) hX rfl dX1_joinAbove_88 ?_
              refine Z_imul (pc := 90) hX dX1_joinAbove_90 ?_
              refine V_iconst (pc := 91) (z := 1) hX (oI 1) rfl dX1_joinAbove_91 ?_
              refine Z_iadd (pc := 92) hX dX1_joinAbove_92 ?_
              refine zl_10 (pc := 93) hX (2 * j + 1) (by omega) (by omega) dX1_joinAbove_93 ?_
              refine V_oI (spV S 1 j) hqj.2.2.2 ?_
              refine Z_icmp_ge (pc := 94) (tgt := 110) hX (by omega) (by omega) dX1_joinAbove_94 (by decide) (fun h94 => ?_) (fun h94 => ?_)
              · refine Z_iinc (pc := 110) hX 1 rfl rfl dX1_joinAbove_110 ?_
                refine V_goto (pc := 113) (off := (-71)) (tgt := 42) hX (by decide) dX1_joinAbove_113 ?_
                have ht : ¬ tch S j k := fun q => by have := q.2.2; omega
                refine V_cut [(0, some (.ref (E.1 (5, 0)))), (1, some (.int (oI (k : Int)))), (2, some (.int (oI ((b0 + 1 : Nat) : Int)))), (3, some (.int (oI ((c : Int) - ((c1 : Nat) : Int))))), (4, some (.int (oI ((j + 1 : Nat) : Int))))] ⟨rfl, rfl, rfl, rfl, rfl, trivial⟩ ?_
                exact ih (j + 1) _ _ _ (by omega) (g2.nj ht) (by omega)
              · have ht : tch S j k := ⟨by omega, by
                  obtain ⟨w1, -, -⟩ := bnd_at hjn
                  rw [hbj, hb0] at w1
                  rw [spV_3, spV_2, ← Option.some.inj w1, h25], by omega, by omega⟩
                refine V_aload_n (pc := 97) (j := 0) hX 0 rfl rfl dX1_joinAbove_97 ?_
                refine V_iload (pc := 98) hX rfl dX1_joinAbove_98 ?_
                refine V_iload_n (pc := 100) (j := 1) hX 1 rfl rfl dX1_joinAbove_100 ?_
                refine cVIp2 (pc := 101) hX (c_X1_join (j := j) (k := k) hF1.2.1 ⟨hns, by omega⟩ g2.2.1.1 (by omega) (by omega)) (by decide) st_X1_98 ix_5 rfl rfl rfl (Nat.le_of_ble_eq_true rfl) dX1_joinAbove_101 (fun r101 D101 h101 => ?_)
                obtain ⟨rfl, hJ1, hJ2⟩ := h101
                have hJ : True ∧ (∃ g, D101 = rU D1 11 g) ∧ UQ D101 (k + 1) (mg ρ1 j k) (if ρ1 j = ρ1 k then c1 else c1 - 1) := ⟨trivial, hJ1, hJ2⟩
                refine B_if_eq (pc := 104) (tgt := 110) hX dX1_joinAbove_104 (by decide) (fun h104 => ?_) (fun h104 => ?_)
                · refine Z_iinc (pc := 110) hX 1 rfl rfl dX1_joinAbove_110 ?_
                  refine V_goto (pc := 113) (off := (-71)) (tgt := 42) hX (by decide) dX1_joinAbove_113 ?_
                  have hcl := hJ.2.2.c_le
                  have hc : (if ρ1 j = ρ1 k then c1 else c1 - 1) = c1 := if_pos (by have := of_decide_eq_false h104; omega)
                  have hc1 := g2.2.2.1
                  have hge : 0 < c1 := g2.2.1.1.c_pos (by omega)
                  refine V_cut [(0, some (.ref (E.1 (5, 0)))), (1, some (.int (oI (k : Int)))), (2, some (.int (oI ((b0 + 1 : Nat) : Int)))), (3, some (.int (oI ((c : Int) - (((if ρ1 j = ρ1 k then c1 else c1 - 1) : Nat) : Int))))), (4, some (.int (oI ((j + 1 : Nat) : Int))))] ⟨rfl, rfl, rfl, congrArg (fun q => some (Value.int (oI q))) (by rw [hc]), rfl, trivial⟩ ?_
                  exact ih (j + 1) _ _ _ (by omega) (g2.jn hk (by omega) ht hJ.2.1 hJ.2.2) (by omega)
                · refine Z_iinc (pc := 107) hX 1 rfl rfl dX1_joinAbove_107 ?_
                  refine Z_iinc (pc := 110) hX 1 rfl rfl dX1_joinAbove_110 ?_
                  refine V_goto (pc := 113) (off := (-71)) (tgt := 42) hX (by decide) dX1_joinAbove_113 ?_
                  have hcl := hJ.2.2.c_le
                  have hc : (if ρ1 j = ρ1 k then c1 else c1 - 1) = c1 - 1 := if_neg (of_decide_eq_true h104)
                  have hc1 := g2.2.2.1
                  have hge : 0 < c1 := g2.2.1.1.c_pos (by omega)
                  refine V_cut [(0, some (.ref (E.1 (5, 0)))), (1, some (.int (oI (k : Int)))), (2, some (.int (oI ((b0 + 1 : Nat) : Int)))), (3, some (.int (oI ((c : Int) - (((if ρ1 j = ρ1 k then c1 else c1 - 1) : Nat) : Int))))), (4, some (.int (oI ((j + 1 : Nat) : Int))))] ⟨rfl, rfl, rfl, congrArg (fun q => some (Value.int (oI q))) (by rw [hc]; omega), rfl, trivial⟩ ?_
                  exact ih (j + 1) _ _ _ (by omega) (g2.jn hk (by omega) ht hJ.2.1 hJ.2.2) (by omega)
      refine V_iconst (pc := 30) (z := 0) hX (oI 0) rfl dX1_joinAbove_30 ?_
      refine V_istore_n (pc := 31) (j := 3) hX 3 rfl (by decide) rfl dX1_joinAbove_31 ?_
      refine V_aload_n (pc := 32) (j := 0) hX 0 rfl rfl dX1_joinAbove_32 ?_
      refine gf_X1_18 (pc := 33) hX dX1_joinAbove_33 ?_
      refine V_iload_n (pc := 36) (j := 2) hX 2 rfl rfl dX1_joinAbove_36 ?_
      refine V_iconst (pc := 37) (z := 1) hX (oI 1) rfl dX1_joinAbove_37 ?_
      refine Z_isub (pc := 38) hX dX1_joinAbove_38 ?_
      refine zl_8 (pc := 39) hX (b0) (by omega) (by omega) dX1_joinAbove_39 ?_
      refine V_oI (Fc S b0 : Int) (hF.bd hb0).2.2 ?_
      refine V_istore (pc := 40) hX (by decide) rfl dX1_joinAbove_40 ?_
      have hbn := bnd_at hk
      rw [hbk] at hbn
      refine V_cut [(0, some (.ref (E.1 (5, 0)))), (1, some (.int (oI (k : Int)))), (2, some (.int (oI ((b0 + 1 : Nat) : Int)))), (3, some (.int (oI ((c : Int) - ((c : Nat) : Int))))), (4, some (.int (oI ((Fc S b0 : Nat) : Int))))] ⟨rfl, rfl, congrArg (fun q => some (Value.int (oI q))) (by omega), congrArg (fun q => some (Value.int (oI q))) (by omega), rfl, trivial⟩ ?_
      exact loop (Fc S (b0 + 1) - Fc S b0 + 1) (Fc S b0) ρ c D ⟨⟨Nat.le_refl _, Fc_mono (by omega)⟩, hbn.2.1⟩ ⟨⟨D.1 11, by rw [rU_self]⟩, hJ, Nat.le_refl c, fun _ _ _ _ e => e, fun a h1 h2 => absurd h2 (by omega)⟩ (by omega)
    · refine V_iconst (pc := 28) (z := 0) hX (oI 0) rfl dX1_joinAbove_28 ?_
      refine V_iret (pc := 29) hX hR dX1_joinAbove_29 ?_
      refine ⟨_, rfl, ρ, c, congrArg oI (by omega), ⟨D.1 11, by rw [rU_self]⟩, hJ, Nat.le_refl c, fun _ _ _ _ e => e, fun a _ ha ht => ?_⟩
      obtain ⟨w1, -, -⟩ := bnd_at (S := S) (k := a) (by omega)
      have w2 := ht.1
      have w3 := ht.2.1
      rw [show (flG S a).1 = b0 by omega, hb0] at w1
      rw [spV_3, spV_2, ← Option.some.inj w1] at w3
      omega
