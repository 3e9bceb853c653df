/-! a sentence is done -/
def SnOK (s : Sn) : Prop := s.1 < 5 ∧ s.2.1 ≤ 11 ∧ s.2.2.length = (wArg (s.2.1 : Int)).length ∧ ∀ j, j < s.2.2.length → ((wArg (s.2.1 : Int)).getD j (0, 0)).1 ≤ s.2.2.getD j 0 ∧ s.2.2.getD j 0 ≤ ((wArg (s.2.1 : Int)).getD j (0, 0)).2
theorem SnOK.at {ar w : Nat} {vs : List Int} (h : SnOK (ar, w, vs)) {L : List (Int × Int)} (hL : wArg (w : Int) = L) (j : Nat) (hj : j < L.length) : j < vs.length ∧ (L.getD j (0, 0)).1 ≤ vs.getD j 0 ∧ vs.getD j 0 ≤ (L.getD j (0, 0)).2 := by
  obtain ⟨h1, h2, h3, h4⟩ := h
  have h3 : vs.length = (wArg (w : Int)).length := h3
  have hj2 : j < vs.length := by rw [h3, hL]; exact hj
  have h5 := h4 j hj2
  subst hL
  exact ⟨hj2, h5⟩
theorem rdN_ok (x : Tx) : ∀ (L : List (Int × Int)) (k k' : Nat) (vs : List Int), k ≤ x.1 → rdN x L k = .ok (k', vs) → (k ≤ k' ∧ k' ≤ x.1) ∧ vs.length = L.length ∧ ∀ j, j < vs.length → (L.getD j (0, 0)).1 ≤ vs.getD j 0 ∧ vs.getD j 0 ≤ (L.getD j (0, 0)).2 := by
  intro L
  induction L with
  | nil =>
    intro k k' vs hk h
    cases h
    exact ⟨⟨Nat.le_refl _, hk⟩, rfl, fun j hj => absurd hj (Nat.not_lt_zero j)⟩
  | cons q r ih =>
    intro k k' vs hk h
    obtain ⟨lo, hi⟩ := q
    cases hb : nmB x (skp x k) lo hi with
    | false => rw [rdN_f hb] at h; cases h
    | true =>
      rw [rdN_t hb] at h
      have hn := nm_le (skp_le hk) hb
      have hg := skp_ge x k
      cases hr : rdN x r (nmN x (skp x k)) with
      | error e => rw [hr] at h; cases h
      | ok q =>
        obtain ⟨k2, ws⟩ := q
        rw [hr] at h
        cases h
        obtain ⟨i1, i2, i3⟩ := ih _ _ _ hn.2.1 hr
        refine ⟨by omega, by rw [List.length_cons, List.length_cons, i2], fun j hj => ?_⟩
        cases j with
        | zero => exact hn.2.2
        | succ j => exact i3 j (Nat.lt_of_succ_lt_succ hj)
theorem senR_ok {x : Tx} {k k' : Nat} {s : Sn} (hk : k ≤ x.1) (h : senR x k = .ok (k', s)) : SnOK s ∧ k < k' ∧ k' ≤ x.1 := by
  have hg := skp_ge x k
  cases hb : nmB x (skp x k) 0 4 with
  | false => rw [senR, if_neg (by rw [hb]; decide)] at h; cases h
  | true =>
    rw [senR, if_pos hb, senV] at h
    have hn := nm_le (skp_le hk) hb
    obtain ⟨w, k2, hwd⟩ : ∃ w k2, wdR x (skp x (nmN x (skp x k))) = (w, k2) := ⟨_, _, rfl⟩
    have hwr := wdR_rg x (skp x (nmN x (skp x k)))
    have hsl := skp_le hn.2.1
    have hsg := skp_ge x (nmN x (skp x k))
    rw [hwd] at h hwr
    have hwr : (w = -1 ∧ k2 = skp x (nmN x (skp x k))) ∨ (0 ≤ w ∧ w ≤ 11 ∧ skp x (nmN x (skp x k)) + 2 ≤ k2 ∧ k2 ≤ x.1) := hwr
    by_cases c : w < 0
    · rw [if_pos c] at h; cases h
    · rw [if_neg c] at h
      cases hr : rdN x (wArg w) k2 with
      | error e => rw [show (w, k2).1 = w from rfl, show (w, k2).2 = k2 from rfl, hr] at h; cases h
      | ok q =>
        obtain ⟨k3, vs⟩ := q
        rw [show (w, k2).1 = w from rfl, show (w, k2).2 = k2 from rfl, hr, senW] at h
        obtain ⟨i1, i2, i3⟩ := rdN_ok x _ _ _ _ (by omega) hr
        by_cases c2 : byt x (skp x k3) = 59
        · rw [if_pos c2] at h
          cases h
          have hb := byt_lt c2 (by omega)
          have hg3 := skp_ge x k3
          refine ⟨⟨?_, ?_, ?_, ?_⟩, ?_, ?_⟩
          · show (nmA x (skp x k)).toNat < 5; omega
          · show w.toNat ≤ 11; omega
          · show vs.length = (wArg ((w.toNat : Nat) : Int)).length
            rw [Int.toNat_of_nonneg (by omega)]; exact i2
          · show ∀ j, j < vs.length → ((wArg ((w.toNat : Nat) : Int)).getD j (0, 0)).1 ≤ vs.getD j 0 ∧ vs.getD j 0 ≤ ((wArg ((w.toNat : Nat) : Int)).getD j (0, 0)).2
            rw [Int.toNat_of_nonneg (by omega)]; exact i3
          · show k < skp x k3 + 1; omega
          · show skp x k3 + 1 ≤ x.1; omega
        · rw [if_neg c2] at h; cases h
theorem fit_em : fitC (fun _ _ => false) = true := by
  have e : ∀ (n : Nat) (y : Int), (60 - y).toNat ≤ n → bdX (smC (fun _ _ => false)) (emC (fun _ _ => false)) y = [] := by
    intro n
    induction n with
    | zero => intro y h; exact bdX_0 (by omega)
    | succ n ih =>
      intro y h
      by_cases hy : y ≤ 59
      · have hg := rnX_ge (smC (fun _ _ => false) y) _ (y + 1) (Nat.le_refl _)
        rw [bdX_t hy (by rw [emC, emR_t]; intro u _; rfl)]
        exact ih _ (by omega)
      · exact bdX_0 (by omega)
  have e2 : bandsC (fun _ _ => false) = [] := e 120 (-60) (by decide)
  rw [fitC, nbC, nsC, e2]
  decide
def setF (F : Nat → Cl) (b : Nat) (T : Cl) : Nat → Cl := fun a => if a = b then T else F a
def stA (F : Nat → Cl) (T : Cl) (b : Nat) : Int × (Nat → Cl) := if fitC T then ((cntC T : Int), setF F b T) else (-204, F)
/-- the answer of a sentence and the areas behind it -/
noncomputable def dnS (F : Nat → Cl) (ar w : Nat) (vs : List Int) : Int × (Nat → Cl) :=
  if w = 0 then stA F (moveC 0 0 (F (vs.getD 0 0).toNat)) ar
  else if w = 1 then (if 60 < vs.getD 0 0 + vs.getD 2 0 ∨ 60 < vs.getD 1 0 + vs.getD 3 0 then (-203, F) else stA F (boxC (vs.getD 0 0) (vs.getD 1 0) (vs.getD 2 0) (vs.getD 3 0)) ar)
  else if w = 2 then (0, setF F ar (fun _ _ => false))
  else if w < 7 then stA F (mixC ((w : Int) - 3) (F ar) (F (vs.getD 0 0).toNat)) ar
  else if w = 7 then (if mvOKB (vs.getD 0 0) (vs.getD 1 0) (F ar) then stA F (moveC (vs.getD 0 0) (vs.getD 1 0) (F ar)) ar else (-203, F))
  else if w < 10 then stA F (growC (if w = 8 then vs.getD 0 0 else -vs.getD 0 0) (F ar)) ar
  else stA F (flipC (if w = 10 then 0 else 2) (F ar)) ar
def FA5 (D : Dt) (F : Nat → Cl) : Prop := ∀ a, a < 5 → AR (D.2.1 21 0) a (F a) ∧ fitC (F a) = true
def BK (D D' : Dt) : Prop := ∀ a, 8 ≤ a → a < 13 → ∀ k, k < 240 → D'.2.1 21 0 (240 * a + k) = D.2.1 21 0 (240 * a + k)
def DoneP (D : Dt) (q : Int × (Nat → Cl)) (r : Int32) (D' : Dt) : Prop := r = oI q.1 ∧ (-204 ≤ q.1 ∧ q.1 ≤ 14400) ∧ Fr D D' ∧ FA5 D' q.2 ∧ BK D D'
theorem Dn_mk {D D' : Dt} {F : Nat → Cl} {T : Cl} {b : Nat} {r : Int32} (h : FA5 D F) (hb : b < 5) (k : MkP D T b r D') : DoneP D (stA F T b) r D' := by
  obtain ⟨kF, kr, kS, kT⟩ := k
  have hm := cntC_max T
  cases hf : fitC T with
  | true =>
    rw [hf, if_pos rfl] at kr
    rw [stA, if_pos hf]
    refine ⟨kr, by show -204 ≤ (cntC T : Int) ∧ (cntC T : Int) ≤ 14400; omega, kF, fun a ha => ?_, fun a h8 h13 k hk => kS a (Or.inr ⟨h8, h13⟩) (Or.inl (by omega)) k hk⟩
    show AR _ a (if a = b then T else F a) ∧ fitC (if a = b then T else F a) = true
    by_cases q : a = b
    · rw [if_pos q, q]; exact ⟨kT hf, hf⟩
    · rw [if_neg q]; exact ⟨(h a ha).1.same (fun k hk => kS a (Or.inl ha) (Or.inl q) k hk), (h a ha).2⟩
  | false =>
    rw [hf, if_neg (by decide)] at kr
    rw [stA, if_neg (by rw [hf]; decide)]
    exact ⟨kr, ⟨by show (-204 : Int) ≤ -204; omega, by show (-204 : Int) ≤ 14400; omega⟩, kF, fun a ha => ⟨(h a ha).1.same (fun k hk => kS a (Or.inl ha) (Or.inr hf) k hk), (h a ha).2⟩, fun a h8 h13 k hk => kS a (Or.inr ⟨h8, h13⟩) (Or.inr hf) k hk⟩
theorem Dn_no {D : Dt} {F : Nat → Cl} {t : Nat → Int64} {r : Int32} (h : FA5 D F) (hr : r = oI (-203)) (ht : Out5 (D.2.1 21 0) t) : DoneP D (-203, F) r (lU D 21 0 t) :=
  ⟨hr, ⟨by show (-204 : Int) ≤ -203; omega, by show (-203 : Int) ≤ 14400; omega⟩, Fr_lU D t, fun a ha => by rw [lU_get]; exact ⟨(h a ha).1.same (fun k hk => ht _ (by omega)), (h a ha).2⟩, fun a h8 h13 k hk => by rw [lU_get]; exact ht _ (by omega)⟩
theorem Dn_no0 {D : Dt} {F : Nat → Cl} {r : Int32} (h : FA5 D F) (hr : r = oI (-203)) : DoneP D (-203, F) r D := ⟨hr, ⟨by show (-204 : Int) ≤ -203; omega, by show (-203 : Int) ≤ 14400; omega⟩, Fr.rf D, h, fun _ _ _ _ _ => rfl⟩
theorem Dn_em {D : Dt} {F : Nat → Cl} {b : Nat} {r : Int32} (h : FA5 D F) (hb : b < 5) (hr : r = oI 0) : DoneP D (0, setF F b (fun _ _ => false)) r (lU D 21 0 (blk (D.2.1 21 0) b (fun _ => 0) 240)) := by
  refine ⟨hr, ⟨by show (-204 : Int) ≤ 0; omega, by show (0 : Int) ≤ 14400; omega⟩, Fr_lU D _, fun a ha => ?_, fun a h8 h13 k hk => by rw [lU_get]; exact blk_out (by omega)⟩
  rw [lU_get]
  show AR _ a (if a = b then _ else F a) ∧ fitC (if a = b then _ else F a) = true
  by_cases q : a = b
  · rw [if_pos q, q]; exact ⟨AR_empty, fit_em⟩
  · rw [if_neg q]; exact ⟨(h a ha).1.same (fun k hk => blk_out (by omega)), (h a ha).2⟩
theorem mvOK_0 (A : Cl) : mvOK 0 0 A := fun i hi j hj _ => cellB_t.mpr (by omega)
theorem c_X6_done {E : Le} {l : Launch} {D : Dt} {F : Nat → Cl} {ar w : Nat} {vs : List Int} (hS : SnOK (ar, w, vs)) (hF : FA5 D F) (hA : D.1 20 18 = oI (ar : Int)) (hN : ∀ j, j < vs.length → D.1 26 j = oI (vs.getD j 0)) : ConIp E l yX6_done cX6_done 3 (some .int) 8 [.ref (E.1 (20, 0)), .int (oI (w : Int))] D (DoneP D (dnS F ar w vs)) := by
  refine Con_of (by decide) (Nat.le_of_ble_eq_true rfl) ?_
  intro X hX hR hl; subst hl
  have har : ar < 5 := hS.1
  have hw : w ≤ 11 := hS.2.1
  refine V_aload_n (pc := 0) (j := 0) hX 0 rfl rfl dX6_done_0 ?_
  refine gf_X6_26 (pc := 1) hX dX6_done_1 ?_
  refine V_iconst (pc := 4) (z := 0) hX (oI 0) rfl dX6_done_4 ?_
  refine zl_26 (pc := 5) hX (0) (rfl) (by decide) dX6_done_5 ?_
  refine V_istore_n (pc := 6) (j := 2) hX 2 rfl (by decide) rfl dX6_done_6 ?_
  refine V_iload_n (pc := 7) (j := 1) hX 1 rfl rfl dX6_done_7 ?_
  refine Z_if_ne (pc := 8) (tgt := 23) hX (by omega) dX6_done_8 (by decide) (fun h8 => ?_) (fun h8 => ?_)
  · refine V_iload_n (pc := 23) (j := 1) hX 1 rfl rfl dX6_done_23 ?_
    refine V_iconst (pc := 24) (z := 1) hX (oI 1) rfl dX6_done_24 ?_
    refine Z_icmp_ne (pc := 25) (tgt := 56) hX (by omega) (by omega) dX6_done_25 (by decide) (fun h25 => ?_) (fun h25 => ?_)
    · refine V_iload_n (pc := 56) (j := 1) hX 1 rfl rfl dX6_done_56 ?_
      refine V_iconst (pc := 57) (z := 2) hX (oI 2) rfl dX6_done_57 ?_
      refine Z_icmp_ne (pc := 58) (tgt := 71) hX (by omega) (by omega) dX6_done_58 (by decide) (fun h58 => ?_) (fun h58 => ?_)
      · refine V_iload_n (pc := 71) (j := 1) hX 1 rfl rfl dX6_done_71 ?_
        refine V_bipush (pc := 72) (z := 7) hX (oI 7) (by decide) dX6_done_72 ?_
        refine Z_icmp_ge (pc := 74) (tgt := 94) hX (by omega) (by omega) dX6_done_74 (by decide) (fun h74 => ?_) (fun h74 => ?_)
        · refine V_iload_n (pc := 94) (j := 1) hX 1 rfl rfl dX6_done_94 ?_
          refine V_bipush (pc := 95) (z := 7) hX (oI 7) (by decide) dX6_done_95 ?_
          refine Z_icmp_ne (pc := 97) (tgt := 120) hX (by omega) (by omega) dX6_done_97 (by decide) (fun h97 => ?_) (fun h97 => ?_)
          · refine V_iload_n (pc := 120) (j := 1) hX 1 rfl rfl dX6_done_120 ?_
            refine V_bipush (pc := 121) (z := 10) hX (oI 10) (by decide) dX6_done_121 ?_
            refine Z_icmp_ge (pc := 123) (tgt := 153) hX (by omega) (by omega) dX6_done_123 (by decide) (fun h123 => ?_) (fun h123 => ?_)
            · refine V_aload_n (pc := 153) (j := 0) hX 0 rfl rfl dX6_done_153 ?_
              refine V_aload_n (pc := 154) (j := 0) hX 0 rfl rfl dX6_done_154 ?_
              refine gf_X6_218 (pc := 155) hX dX6_done_155 ?_
              refine V_oI (ar : Int) hA ?_
              refine V_iload_n (pc := 158) (j := 1) hX 1 rfl rfl dX6_done_158 ?_
              refine V_bipush (pc := 159) (z := 10) hX (oI 10) (by decide) dX6_done_159 ?_
              refine Z_icmp_ne (pc := 161) (tgt := 168) hX (by omega) (by omega) dX6_done_161 (by decide) (fun h161 => ?_) (fun h161 => ?_)
              · refine V_iconst (pc := 168) (z := 2) hX (oI 2) rfl dX6_done_168 ?_
                refine V_aload_n (pc := 169) (j := 0) hX 0 rfl rfl dX6_done_169 ?_
                refine gf_X6_218 (pc := 170) hX dX6_done_170 ?_
                refine V_oI (ar : Int) hA ?_
                refine cVIp3 (pc := 173) hX (c_X6_flips (a := ar) (b := ar) (by omega) (by omega) (by omega) (hF ar (by omega)).1) (by decide) st_X6_150 ix_20 rfl rfl rfl (Nat.le_of_ble_eq_true rfl) dX6_done_173 (fun r173 D173 h173 => ?_)
                refine V_iret (pc := 176) hX hR dX6_done_176 ?_
                rw [dnS, if_neg (by omega), if_neg (by omega), if_neg (by omega), if_neg (by omega), if_neg (by omega), if_neg (by omega)]
                rw [if_neg (by omega)]
                exact ⟨_, rfl, Dn_mk hF (by omega) h173⟩
              · refine V_iconst (pc := 164) (z := 0) hX (oI 0) rfl dX6_done_164 ?_
                refine V_goto (pc := 165) (off := 4) (tgt := 169) hX (by decide) dX6_done_165 ?_
                refine V_aload_n (pc := 169) (j := 0) hX 0 rfl rfl dX6_done_169 ?_
                refine gf_X6_218 (pc := 170) hX dX6_done_170 ?_
                refine V_oI (ar : Int) hA ?_
                refine cVIp3 (pc := 173) hX (c_X6_flips (a := ar) (b := ar) (by omega) (by omega) (by omega) (hF ar (by omega)).1) (by decide) st_X6_150 ix_20 rfl rfl rfl (Nat.le_of_ble_eq_true rfl) dX6_done_173 (fun r173 D173 h173 => ?_)
                refine V_iret (pc := 176) hX hR dX6_done_176 ?_
                rw [dnS, if_neg (by omega), if_neg (by omega), if_neg (by omega), if_neg (by omega), if_neg (by omega), if_neg (by omega)]
                rw [if_pos (by omega)]
                exact ⟨_, rfl, Dn_mk hF (by omega) h173⟩
            · have R0 : 0 < vs.length ∧ 1 ≤ vs.getD 0 0 ∧ vs.getD 0 0 ≤ 9 := hS.at (L := [(1, 9)]) (by rw [wArg, if_neg (by omega), if_neg (by omega), if_neg (by omega), if_pos (by omega)]) 0 (by decide)
              refine V_aload_n (pc := 126) (j := 0) hX 0 rfl rfl dX6_done_126 ?_
              refine V_aload_n (pc := 127) (j := 0) hX 0 rfl rfl dX6_done_127 ?_
              refine gf_X6_218 (pc := 128) hX dX6_done_128 ?_
              refine V_oI (ar : Int) hA ?_
              refine V_iload_n (pc := 131) (j := 1) hX 1 rfl rfl dX6_done_131 ?_
              refine V_bipush (pc := 132) (z := 8) hX (oI 8) (by decide) dX6_done_132 ?_
              refine Z_icmp_ne (pc := 134) (tgt := 141) hX (by omega) (by omega) dX6_done_134 (by decide) (fun h134 => ?_) (fun h134 => ?_)
              · refine V_iload_n (pc := 141) (j := 2) hX 2 rfl rfl dX6_done_141 ?_
                refine V_oI (vs.getD 0 0) (hN 0 R0.1) ?_
                refine Z_ineg (pc := 142) hX dX6_done_142 ?_
                refine V_aload_n (pc := 143) (j := 0) hX 0 rfl rfl dX6_done_143 ?_
                refine gf_X6_218 (pc := 144) hX dX6_done_144 ?_
                refine V_oI (ar : Int) hA ?_
                refine cVIp3 (pc := 147) hX (c_X6_grows (a := ar) (b := ar) (by omega) (by omega) (by omega) (hF ar (by omega)).1) (by decide) st_X6_146 ix_20 rfl rfl rfl (Nat.le_of_ble_eq_true rfl) dX6_done_147 (fun r147 D147 h147 => ?_)
                refine V_goto (pc := 150) (off := 26) (tgt := 176) hX (by decide) dX6_done_150 ?_
                refine V_iret (pc := 176) hX hR dX6_done_176 ?_
                rw [dnS, if_neg (by omega), if_neg (by omega), if_neg (by omega), if_neg (by omega), if_neg (by omega), if_pos (by omega)]
                rw [if_neg (by omega)]
                exact ⟨_, rfl, Dn_mk hF (by omega) h147⟩
              · refine V_iload_n (pc := 137) (j := 2) hX 2 rfl rfl dX6_done_137 ?_
                refine V_oI (vs.getD 0 0) (hN 0 R0.1) ?_
                refine V_goto (pc := 138) (off := 5) (tgt := 143) hX (by decide) dX6_done_138 ?_
                refine V_aload_n (pc := 143) (j := 0) hX 0 rfl rfl dX6_done_143 ?_
                refine gf_X6_218 (pc := 144) hX dX6_done_144 ?_
                refine V_oI (ar : Int) hA ?_
                refine cVIp3 (pc := 147) hX (c_X6_grows (a := ar) (b := ar) (by omega) (by omega) (by omega) (hF ar (by omega)).1) (by decide) st_X6_146 ix_20 rfl rfl rfl (Nat.le_of_ble_eq_true rfl) dX6_done_147 (fun r147 D147 h147 => ?_)
                refine V_goto (pc := 150) (off := 26) (tgt := 176) hX (by decide) dX6_done_150 ?_
                refine V_iret (pc := 176) hX hR dX6_done_176 ?_
                rw [dnS, if_neg (by omega), if_neg (by omega), if_neg (by omega), if_neg (by omega), if_neg (by omega), if_pos (by omega)]
                rw [if_pos (by omega)]
                exact ⟨_, rfl, Dn_mk hF (by omega) h147⟩
          · have R0 : 0 < vs.length ∧ -99 ≤ vs.getD 0 0 ∧ vs.getD 0 0 ≤ 99 := hS.at (L := [(-99, 99), (-99, 99)]) (by rw [wArg, if_neg (by omega), if_neg (by omega), if_pos (by omega)]) 0 (by decide)
            have R1 : 1 < vs.length ∧ -99 ≤ vs.getD 1 0 ∧ vs.getD 1 0 ≤ 99 := hS.at (L := [(-99, 99), (-99, 99)]) (by rw [wArg, if_neg (by omega), if_neg (by omega), if_pos (by omega)]) 1 (by decide)
            refine V_aload_n (pc := 100) (j := 0) hX 0 rfl rfl dX6_done_100 ?_
            refine V_aload_n (pc := 101) (j := 0) hX 0 rfl rfl dX6_done_101 ?_
            refine gf_X6_218 (pc := 102) hX dX6_done_102 ?_
            refine V_oI (ar : Int) hA ?_
            refine V_iload_n (pc := 105) (j := 2) hX 2 rfl rfl dX6_done_105 ?_
            refine V_oI (vs.getD 0 0) (hN 0 R0.1) ?_
            refine V_aload_n (pc := 106) (j := 0) hX 0 rfl rfl dX6_done_106 ?_
            refine gf_X6_26 (pc := 107) hX dX6_done_107 ?_
            refine V_iconst (pc := 110) (z := 1) hX (oI 1) rfl dX6_done_110 ?_
            refine zl_26 (pc := 111) hX (1) (rfl) (by decide) dX6_done_111 ?_
            refine V_oI (vs.getD 1 0) (hN 1 R1.1) ?_
            refine V_aload_n (pc := 112) (j := 0) hX 0 rfl rfl dX6_done_112 ?_
            refine gf_X6_218 (pc := 113) hX dX6_done_113 ?_
            refine V_oI (ar : Int) hA ?_
            refine cVIp4 (pc := 116) hX (c_X6_moves (a := ar) (b := ar) (by omega) (by omega) (by omega) (by omega) (hF ar (by omega)).1) (by decide) st_X6_143 ix_20 rfl rfl rfl (Nat.le_of_ble_eq_true rfl) dX6_done_116 (fun r116 D116 h116 => ?_)
            refine V_iret (pc := 119) hX hR dX6_done_119 ?_
            rw [dnS, if_neg (by omega), if_neg (by omega), if_neg (by omega), if_neg (by omega), if_pos (by omega)]
            refine ⟨_, rfl, ?_⟩
            by_cases c : mvOK (vs.getD 0 0) (vs.getD 1 0) (F ar)
            · rw [if_pos (mvOKB_t.mpr c)]
              exact Dn_mk hF (by omega) (h116.1 c)
            · rw [if_neg (fun q => c (mvOKB_t.mp q))]
              obtain ⟨e1, t, rfl, e2⟩ := h116.2 c
              exact Dn_no hF e1 e2
        · have R0 : 0 < vs.length ∧ 0 ≤ vs.getD 0 0 ∧ vs.getD 0 0 ≤ 4 := hS.at (L := [(0, 4)]) (by rw [wArg, if_pos (by omega)]) 0 (by decide)
          refine V_aload_n (pc := 77) (j := 0) hX 0 rfl rfl dX6_done_77 ?_
          refine V_iload_n (pc := 78) (j := 1) hX 1 rfl rfl dX6_done_78 ?_
          refine V_iconst (pc := 79) (z := 3) hX (oI 3) rfl dX6_done_79 ?_
          refine Z_isub (pc := 80) hX dX6_done_80 ?_
          refine V_aload_n (pc := 81) (j := 0) hX 0 rfl rfl dX6_done_81 ?_
          refine gf_X6_218 (pc := 82) hX dX6_done_82 ?_
          refine V_oI (ar : Int) hA ?_
          refine V_iload_n (pc := 85) (j := 2) hX 2 rfl rfl dX6_done_85 ?_
          refine V_oI (((vs.getD 0 0).toNat : Nat) : Int) ((hN 0 R0.1).trans (by rw [Int.toNat_of_nonneg R0.2.1])) ?_
          refine V_aload_n (pc := 86) (j := 0) hX 0 rfl rfl dX6_done_86 ?_
          refine gf_X6_218 (pc := 87) hX dX6_done_87 ?_
          refine V_oI (ar : Int) hA ?_
          refine cVIp4 (pc := 90) hX (c_X6_mixes (a := ar) (b := (vs.getD 0 0).toNat) (c := ar) (by omega) (by omega) (by omega) (by omega) (hF ar (by omega)).1 (hF _ (by omega)).1) (by decide) st_X6_139 ix_20 rfl rfl rfl (Nat.le_of_ble_eq_true rfl) dX6_done_90 (fun r90 D90 h90 => ?_)
          refine V_iret (pc := 93) hX hR dX6_done_93 ?_
          rw [dnS, if_neg (by omega), if_neg (by omega), if_neg (by omega), if_pos (by omega)]
          exact ⟨_, rfl, Dn_mk hF (by omega) h90⟩
      · refine V_aload_n (pc := 61) (j := 0) hX 0 rfl rfl dX6_done_61 ?_
        refine V_aload_n (pc := 62) (j := 0) hX 0 rfl rfl dX6_done_62 ?_
        refine gf_X6_218 (pc := 63) hX dX6_done_63 ?_
        refine V_oI (ar : Int) hA ?_
        refine cVV1 (pc := 66) hX (c_X6_empties (a := ar) (by omega)) (by decide) st_X6_108 ix_20 rfl rfl rfl (Nat.le_of_ble_eq_true rfl) dX6_done_66 ?_
        refine V_iconst (pc := 69) (z := 0) hX (oI 0) rfl dX6_done_69 ?_
        refine V_iret (pc := 70) hX hR dX6_done_70 ?_
        rw [dnS, if_neg (by omega), if_neg (by omega), if_pos (by omega)]
        exact ⟨_, rfl, Dn_em hF (by omega) rfl⟩
    · have R0 : 0 < vs.length ∧ -60 ≤ vs.getD 0 0 ∧ vs.getD 0 0 ≤ 59 := hS.at (L := [(-60, 59), (-60, 59), (1, 99), (1, 99)]) (by rw [wArg, if_neg (by omega), if_pos (by omega)]) 0 (by decide)
      have R1 : 1 < vs.length ∧ -60 ≤ vs.getD 1 0 ∧ vs.getD 1 0 ≤ 59 := hS.at (L := [(-60, 59), (-60, 59), (1, 99), (1, 99)]) (by rw [wArg, if_neg (by omega), if_pos (by omega)]) 1 (by decide)
      have R2 : 2 < vs.length ∧ 1 ≤ vs.getD 2 0 ∧ vs.getD 2 0 ≤ 99 := hS.at (L := [(-60, 59), (-60, 59), (1, 99), (1, 99)]) (by rw [wArg, if_neg (by omega), if_pos (by omega)]) 2 (by decide)
      have R3 : 3 < vs.length ∧ 1 ≤ vs.getD 3 0 ∧ vs.getD 3 0 ≤ 99 := hS.at (L := [(-60, 59), (-60, 59), (1, 99), (1, 99)]) (by rw [wArg, if_neg (by omega), if_pos (by omega)]) 3 (by decide)
      refine V_aload_n (pc := 28) (j := 0) hX 0 rfl rfl dX6_done_28 ?_
      refine V_iload_n (pc := 29) (j := 2) hX 2 rfl rfl dX6_done_29 ?_
      refine V_oI (vs.getD 0 0) (hN 0 R0.1) ?_
      refine V_aload_n (pc := 30) (j := 0) hX 0 rfl rfl dX6_done_30 ?_
      refine gf_X6_26 (pc := 31) hX dX6_done_31 ?_
      refine V_iconst (pc := 34) (z := 1) hX (oI 1) rfl dX6_done_34 ?_
      refine zl_26 (pc := 35) hX (1) (rfl) (by decide) dX6_done_35 ?_
      refine V_oI (vs.getD 1 0) (hN 1 R1.1) ?_
      refine V_aload_n (pc := 36) (j := 0) hX 0 rfl rfl dX6_done_36 ?_
      refine gf_X6_26 (pc := 37) hX dX6_done_37 ?_
      refine V_iconst (pc := 40) (z := 2) hX (oI 2) rfl dX6_done_40 ?_
      refine zl_26 (pc := 41) hX (2) (rfl) (by decide) dX6_done_41 ?_
      refine V_oI (vs.getD 2 0) (hN 2 R2.1) ?_
      refine V_aload_n (pc := 42) (j := 0) hX 0 rfl rfl dX6_done_42 ?_
      refine gf_X6_26 (pc := 43) hX dX6_done_43 ?_
      refine V_iconst (pc := 46) (z := 3) hX (oI 3) rfl dX6_done_46 ?_
      refine zl_26 (pc := 47) hX (3) (rfl) (by decide) dX6_done_47 ?_
      refine V_oI (vs.getD 3 0) (hN 3 R3.1) ?_
      refine V_aload_n (pc := 48) (j := 0) hX 0 rfl rfl dX6_done_48 ?_
      refine gf_X6_218 (pc := 49) hX dX6_done_49 ?_
      refine V_oI (ar : Int) hA ?_
      refine cVIp5 (pc := 52) hX (c_X6_boxes (b := ar) (by omega) (by omega) (by omega) (by omega) (by omega)) (by decide) st_X6_133 ix_20 rfl rfl rfl (Nat.le_of_ble_eq_true rfl) dX6_done_52 (fun r52 D52 h52 => ?_)
      refine V_iret (pc := 55) hX hR dX6_done_55 ?_
      rw [dnS, if_neg (by omega), if_pos (by omega)]
      refine ⟨_, rfl, ?_⟩
      by_cases c : 60 < vs.getD 0 0 + vs.getD 2 0 ∨ 60 < vs.getD 1 0 + vs.getD 3 0
      · rw [if_pos c]
        obtain ⟨e1, rfl⟩ := h52.1 c
        exact Dn_no0 hF e1
      · rw [if_neg c]
        exact Dn_mk hF (by omega) (h52.2 c)
  · have R0 : 0 < vs.length ∧ 0 ≤ vs.getD 0 0 ∧ vs.getD 0 0 ≤ 4 := hS.at (L := [(0, 4)]) (by rw [wArg, if_pos (by omega)]) 0 (by decide)
    refine V_aload_n (pc := 11) (j := 0) hX 0 rfl rfl dX6_done_11 ?_
    refine V_iload_n (pc := 12) (j := 2) hX 2 rfl rfl dX6_done_12 ?_
    refine V_oI (((vs.getD 0 0).toNat : Nat) : Int) ((hN 0 R0.1).trans (by rw [Int.toNat_of_nonneg R0.2.1])) ?_
    refine V_iconst (pc := 13) (z := 0) hX (oI 0) rfl dX6_done_13 ?_
    refine V_iconst (pc := 14) (z := 0) hX (oI 0) rfl dX6_done_14 ?_
    refine V_aload_n (pc := 15) (j := 0) hX 0 rfl rfl dX6_done_15 ?_
    refine gf_X6_218 (pc := 16) hX dX6_done_16 ?_
    refine V_oI (ar : Int) hA ?_
    refine cVIp4 (pc := 19) hX (c_X6_moves (a := (vs.getD 0 0).toNat) (b := ar) (x := 0) (y := 0) (by omega) (by omega) (by omega) (by omega) (hF _ (by omega)).1) (by decide) st_X6_143 ix_20 rfl rfl rfl (Nat.le_of_ble_eq_true rfl) dX6_done_19 (fun r19 D19 h19 => ?_)
    refine V_iret (pc := 22) hX hR dX6_done_22 ?_
    rw [dnS, if_pos (by omega)]
    exact ⟨_, rfl, Dn_mk hF (by omega) (h19.1 (mvOK_0 _))⟩
