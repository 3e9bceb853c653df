/-! sentences -/
theorem dgS_le (x : Tx) : ∀ m k v, k ≤ x.1 → k ≤ (dgS x m k v).1 ∧ (dgS x m k v).1 ≤ x.1 ∧ (dgS x m k v).1 ≤ k + m := by
  intro m
  induction m with
  | zero => intro k v h; exact ⟨Nat.le_refl _, h, Nat.le_refl _⟩
  | succ m ih =>
    intro k v h
    rw [dgS]
    by_cases c : 48 ≤ byt x k ∧ byt x k ≤ 57
    · rw [if_pos c]
      have hk : k < x.1 := byt_lt rfl (by omega)
      have := ih (k + 1) (10 * v + byt x k - 48) hk
      omega
    · rw [if_neg c]
      exact ⟨Nat.le_refl _, h, Nat.le_add_right _ _⟩
theorem nmF_le {x : Tx} {k : Nat} (hk : k ≤ x.1) : k ≤ nmF x k ∧ nmF x k ≤ x.1 := by
  unfold nmF nmM
  by_cases e : byt x k = 45
  · have := byt_lt e (by omega)
    rw [decide_eq_true e, if_pos rfl]
    omega
  · rw [decide_eq_false e, if_neg (by decide)]
    omega
theorem nm_le {x : Tx} {k : Nat} {lo hi : Int} (hk : k ≤ x.1) (h : nmB x k lo hi = true) : k < nmN x k ∧ nmN x k ≤ x.1 ∧ lo ≤ nmA x k ∧ nmA x k ≤ hi := by
  have h1 := of_decide_eq_true h
  have h2 := nmF_le hk
  have h3 := dgS_le x 3 (nmF x k) 0 h2.2
  have h4 : nmN x k = (dgS x 3 (nmF x k) 0).1 := rfl
  omega
theorem wsF_rg (x : Tx) (k : Nat) : ∀ m w, w + m = 12 → ((wsF x k m w).1 = -1 ∧ (wsF x k m w).2 = k) ∨ (0 ≤ (wsF x k m w).1 ∧ (wsF x k m w).1 ≤ 11 ∧ k + 2 ≤ (wsF x k m w).2 ∧ (wsF x k m w).2 ≤ x.1) := by
  intro m
  induction m with
  | zero => intro w _; exact Or.inl ⟨rfl, rfl⟩
  | succ m ih =>
    intro w hw
    rw [wsF]
    by_cases h : iwB x k (wf w) (wl w) = true
    · rw [if_pos h]
      right
      have hw1 := (wT w (by omega)).1
      have hb : iwA x k (wf w) (wl w) = true := by
        unfold iwB at h
        rw [Bool.and_eq_true] at h
        exact h.1
      obtain ⟨q, hq⟩ : ∃ q, wl w = q + 1 := ⟨wl w - 1, by omega⟩
      rw [hq, iwA_s, Bool.and_eq_true] at hb
      have hc := byt_lt (of_decide_eq_true hb.2) (wdM_rg _ (by omega)).1
      refine ⟨?_, ?_, ?_, ?_⟩
      · show (0 : Int) ≤ (w : Int); omega
      · show (w : Int) ≤ 11; omega
      · show k + 2 ≤ k + wl w; omega
      · show k + wl w ≤ x.1; omega
    · rw [if_neg h]
      exact ih (w + 1) (by omega)
theorem wdR_rg (x : Tx) (k : Nat) : ((wdR x k).1 = -1 ∧ (wdR x k).2 = k) ∨ (0 ≤ (wdR x k).1 ∧ (wdR x k).1 ≤ 11 ∧ k + 2 ≤ (wdR x k).2 ∧ (wdR x k).2 ≤ x.1) := wsF_rg x k 12 0 rfl
def rdC (v : Int) : Except Nat (Nat × List Int) → Except Nat (Nat × List Int)
  | .ok q => .ok (q.1, v :: q.2)
  | .error e => .error e
/-- numbers, each within its bounds -/
def rdN (x : Tx) : List (Int × Int) → Nat → Except Nat (Nat × List Int)
  | [], k => .ok (k, [])
  | q :: r, k => if nmB x (skp x k) q.1 q.2 then rdC (nmA x (skp x k)) (rdN x r (nmN x (skp x k))) else .error (skp x k)
theorem rdN_t {x : Tx} {k : Nat} {lo hi : Int} {r : List (Int × Int)} (h : nmB x (skp x k) lo hi = true) : rdN x ((lo, hi) :: r) k = rdC (nmA x (skp x k)) (rdN x r (nmN x (skp x k))) := by
  rw [rdN]; exact if_pos h
theorem rdN_f {x : Tx} {k : Nat} {lo hi : Int} {r : List (Int × Int)} (h : nmB x (skp x k) lo hi = false) : rdN x ((lo, hi) :: r) k = .error (skp x k) := by
  rw [rdN]; exact if_neg (by rw [h]; decide)
/-- area, word, numbers -/
abbrev Sn : Type := Nat × Nat × List Int
def wArg (w : Int) : List (Int × Int) := if w = 0 ∨ (3 ≤ w ∧ w < 7) then [(0, 4)] else if w = 1 then [(-60, 59), (-60, 59), (1, 99), (1, 99)] else if w = 7 then [(-99, 99), (-99, 99)] else if w = 8 ∨ w = 9 then [(1, 9)] else []
def senW (x : Tx) (ar w : Int) : Except Nat (Nat × List Int) → Except Nat (Nat × Sn)
  | .ok q => if byt x (skp x q.1) = 59 then .ok (skp x q.1 + 1, (ar.toNat, w.toNat, q.2)) else .error (skp x q.1)
  | .error e => .error e
def senV (x : Tx) (ar : Int) (k1 : Nat) (q : Int × Nat) : Except Nat (Nat × Sn) := if q.1 < 0 then .error k1 else senW x ar q.1 (rdN x (wArg q.1) q.2)
/-- the sentence that begins at k: where it can not go on, or where it goes on and which it is -/
def senR (x : Tx) (k : Nat) : Except Nat (Nat × Sn) := if nmB x (skp x k) 0 4 then senV x (nmA x (skp x k)) (skp x (nmN x (skp x k))) (wdR x (skp x (nmN x (skp x k)))) else .error (skp x k)
def SenQ (D' : Dt) (r : Int32) : Except Nat (Nat × Sn) → Prop
  | .error e => r = oI (-1) ∧ D'.1 20 7 = oI (e : Int)
  | .ok q => r = oI (q.2.2.1 : Int) ∧ D'.1 20 7 = oI (q.1 : Int) ∧ D'.1 20 18 = oI (q.2.1 : Int) ∧ ∀ j, j < q.2.2.2.length → D'.1 26 j = oI (q.2.2.2.getD j 0)
def SenP (x : Tx) (D : Dt) (k : Nat) (r : Int32) (D' : Dt) : Prop := Gr D D' ∧ SenQ D' r (senR x k)
theorem SenP_e {x : Tx} {D D' : Dt} {k e : Nat} {r : Int32} (g : Gr D D') (h : senR x k = .error e) (hr : r = oI (-1)) (h7 : D'.1 20 7 = oI (e : Int)) : SenP x D k r D' := ⟨g, by rw [h]; exact ⟨hr, h7⟩⟩
theorem SenP_o {x : Tx} {D D' : Dt} {k k' ar w : Nat} {vs : List Int} {r : Int32} (g : Gr D D') (h : senR x k = .ok (k', (ar, w, vs))) (hr : r = oI (w : Int)) (h7 : D'.1 20 7 = oI (k' : Int)) (h18 : D'.1 20 18 = oI (ar : Int)) (hv : ∀ j, j < vs.length → D'.1 26 j = oI (vs.getD j 0)) : SenP x D k r D' := ⟨g, by rw [h]; exact ⟨hr, h7, h18, hv⟩⟩
theorem arU_gr (D : Dt) (v : Int32) : Gr D (rU D 20 (upd (D.1 20) 18 v)) := by
  refine ⟨fun t ht _ => rU_ne D _ ht, fun j _ hj => ?_, rfl⟩
  rw [rU_get, upd_at, if_neg hj]
theorem c_X6_sentence {E : Le} {l : Launch} {D : Dt} {x : Tx} {k0 : Nat} (hT : TX D x) (hW : WX D) (hk0 : k0 ≤ x.1) (ha7 : D.1 20 7 = oI (k0 : Int)) : ConIp E l yX6_sentence cX6_sentence 3 (some .int) 4 [.ref (E.1 (20, 0))] D (SenP x D k0) := by
  refine Con_of (by decide) (Nat.le_of_ble_eq_true rfl) ?_
  intro X hX hR hl; subst hl
  have h12 := hT.2.1
  refine V_aload_n (pc := 0) (j := 0) hX 0 rfl rfl dX6_sentence_0 ?_
  refine V_iconst (pc := 1) (z := 0) hX (oI 0) rfl dX6_sentence_1 ?_
  refine V_iconst (pc := 2) (z := 0) hX (oI 0) rfl dX6_sentence_2 ?_
  refine V_iconst (pc := 3) (z := 4) hX (oI 4) rfl dX6_sentence_3 ?_
  refine cVIp3 (pc := 4) hX (c_X6_number (x := x) (w := 0) (k0 := k0) (by decide) (by omega) (by omega) hT hk0 ha7) (by decide) st_X6_215 ix_20 rfl rfl rfl (Nat.le_of_ble_eq_true rfl) dX6_sentence_4 (fun r4 D4 h4 => ?_)
  obtain ⟨G4, A4, N4, rfl, T4, V4⟩ := h4
  refine B_if_ne (pc := 7) (tgt := 12) hX dX6_sentence_7 (by decide) (fun h7 => ?_) (fun h7 => ?_)
  · rw [h7, if_pos rfl] at T4
    have L7 := nm_le (skp_le hk0) h7
    refine V_aload_n (pc := 12) (j := 0) hX 0 rfl rfl dX6_sentence_12 ?_
    refine V_aload_n (pc := 13) (j := 0) hX 0 rfl rfl dX6_sentence_13 ?_
    refine gf_X6_26 (pc := 14) hX dX6_sentence_14 ?_
    refine V_iconst (pc := 17) (z := 0) hX (oI 0) rfl dX6_sentence_17 ?_
    refine zl_26 (pc := 18) hX (0) (rfl) (by decide) dX6_sentence_18 ?_
    refine V_oI (nmA x (skp x k0)) V4 ?_
    refine pf_X6_218 (pc := 19) hX dX6_sentence_19 ?_
    obtain ⟨D5, hD5⟩ : ∃ D5, D5 = rU D4 20 (upd (D4.1 20) 18 (oI (nmA x (skp x k0)))) := ⟨_, rfl⟩
    refine V_heap (D' := D5) hD5.symm ?_
    have F5 : Gr D D5 ∧ D5.1 20 18 = oI (nmA x (skp x k0)) ∧ D5.1 20 7 = D4.1 20 7 ∧ D5.1 26 = D4.1 26 := by subst hD5; exact ⟨G4.tr (arU_gr D4 _), rfl, rfl, rfl⟩
    refine V_aload_n (pc := 22) (j := 0) hX 0 rfl rfl dX6_sentence_22 ?_
    refine cVIp0 (pc := 23) hX (c_X6_word (x := x) (k0 := (nmN x (skp x k0))) (hT.gr F5.1) (hW.gr F5.1) L7.2.1 (F5.2.2.1.trans T4)) (by decide) st_X6_221 ix_20 rfl rfl rfl (Nat.le_of_ble_eq_true rfl) dX6_sentence_23 (fun r23 D23 h23 => ?_)
    obtain ⟨w, k2, hwd⟩ : ∃ w k2, wdR x (skp x (nmN x (skp x k0))) = (w, k2) := ⟨_, _, rfl⟩
    obtain ⟨G23, A23, N23, rfl, T23⟩ := h23
    have hwr := wdR_rg x (skp x (nmN x (skp x k0)))
    have hsl := skp_le L7.2.1
    rw [hwd] at T23 hwr ⊢
    have hwr : (w = -1 ∧ k2 = skp x (nmN x (skp x k0))) ∨ (0 ≤ w ∧ w ≤ 11 ∧ skp x (nmN x (skp x k0)) + 2 ≤ k2 ∧ k2 ≤ x.1) := hwr
    have T23 : D23.1 20 7 = oI (k2 : Int) := T23
    have hk2 : k2 ≤ x.1 := by omega
    have Gw : Gr D D23 := F5.1.tr G23
    have Aw : D23.1 20 18 = oI (nmA x (skp x k0)) := A23.trans F5.2.1
    refine V_oI w rfl ?_
    refine V_istore_n (pc := 26) (j := 1) hX 1 rfl (by decide) rfl dX6_sentence_26 ?_
    refine V_iload_n (pc := 27) (j := 1) hX 1 rfl rfl dX6_sentence_27 ?_
    refine Z_if_lt (pc := 28) (tgt := 35) hX (by omega) dX6_sentence_28 (by decide) (fun h28 => ?_) (fun h28 => ?_)
    · refine V_iconst (pc := 35) (z := 0) hX (oI 0) rfl dX6_sentence_35 ?_
      refine V_istore_n (pc := 36) (j := 2) hX 2 rfl (by decide) rfl dX6_sentence_36 ?_
      refine V_iload_n (pc := 37) (j := 1) hX 1 rfl rfl dX6_sentence_37 ?_
      refine Z_if_eq (pc := 38) (tgt := 52) hX (by omega) dX6_sentence_38 (by decide) (fun h38 => ?_) (fun h38 => ?_)
      · exfalso; omega
      · refine V_iload_n (pc := 41) (j := 1) hX 1 rfl rfl dX6_sentence_41 ?_
        refine V_iconst (pc := 42) (z := 3) hX (oI 3) rfl dX6_sentence_42 ?_
        refine Z_icmp_lt (pc := 43) (tgt := 63) hX (by omega) (by omega) dX6_sentence_43 (by decide) (fun h43 => ?_) (fun h43 => ?_)
        · refine V_iload_n (pc := 63) (j := 1) hX 1 rfl rfl dX6_sentence_63 ?_
          refine V_iconst (pc := 64) (z := 1) hX (oI 1) rfl dX6_sentence_64 ?_
          refine Z_icmp_ne (pc := 65) (tgt := 123) hX (by omega) (by omega) dX6_sentence_65 (by decide) (fun h65 => ?_) (fun h65 => ?_)
          · refine V_iload_n (pc := 123) (j := 1) hX 1 rfl rfl dX6_sentence_123 ?_
            refine V_bipush (pc := 124) (z := 7) hX (oI 7) (by decide) dX6_sentence_124 ?_
            refine Z_icmp_ne (pc := 126) (tgt := 162) hX (by omega) (by omega) dX6_sentence_126 (by decide) (fun h126 => ?_) (fun h126 => ?_)
            · refine V_iload_n (pc := 162) (j := 1) hX 1 rfl rfl dX6_sentence_162 ?_
              refine V_bipush (pc := 163) (z := 8) hX (oI 8) (by decide) dX6_sentence_163 ?_
              refine Z_icmp_eq (pc := 165) (tgt := 174) hX (by omega) (by omega) dX6_sentence_165 (by decide) (fun h165 => ?_) (fun h165 => ?_)
              · exfalso; omega
              · refine V_iload_n (pc := 168) (j := 1) hX 1 rfl rfl dX6_sentence_168 ?_
                refine V_bipush (pc := 169) (z := 9) hX (oI 9) (by decide) dX6_sentence_169 ?_
                refine Z_icmp_ne (pc := 171) (tgt := 183) hX (by omega) (by omega) dX6_sentence_171 (by decide) (fun h171 => ?_) (fun h171 => ?_)
                · refine V_iload_n (pc := 183) (j := 2) hX 2 rfl rfl dX6_sentence_183 ?_
                  refine Z_if_ne (pc := 184) (tgt := 189) hX (by omega) dX6_sentence_184 (by decide) (fun h => absurd h (by decide)) (fun _ => ?_)
                  refine V_iconst (pc := 187) (z := (-1)) hX (oI (-1)) rfl dX6_sentence_187 ?_
                  refine V_iret (pc := 188) hX hR dX6_sentence_188 ?_
                  exact ⟨_, rfl, SenP_e (e := k2) Gw (by rw [senR, if_pos h7, hwd, senV, if_pos (by omega)]; rw [show k2 = skp x (nmN x (skp x k0)) by omega]) rfl T23⟩
                · exfalso; omega
            · exfalso; omega
          · exfalso; omega
        · exfalso; omega
    · refine V_iconst (pc := 31) (z := 1) hX (oI 1) rfl dX6_sentence_31 ?_
      refine V_goto (pc := 32) (off := 4) (tgt := 36) hX (by decide) dX6_sentence_32 ?_
      refine V_istore_n (pc := 36) (j := 2) hX 2 rfl (by decide) rfl dX6_sentence_36 ?_
      refine V_iload_n (pc := 37) (j := 1) hX 1 rfl rfl dX6_sentence_37 ?_
      refine Z_if_eq (pc := 38) (tgt := 52) hX (by omega) dX6_sentence_38 (by decide) (fun h38 => ?_) (fun h38 => ?_)
      · refine V_aload_n (pc := 52) (j := 0) hX 0 rfl rfl dX6_sentence_52 ?_
        refine V_iconst (pc := 53) (z := 0) hX (oI 0) rfl dX6_sentence_53 ?_
        refine V_iconst (pc := 54) (z := 0) hX (oI 0) rfl dX6_sentence_54 ?_
        refine V_iconst (pc := 55) (z := 4) hX (oI 4) rfl dX6_sentence_55 ?_
        refine cVIp3 (pc := 56) hX (c_X6_number (x := x) (w := 0) (k0 := k2) (by decide) (by omega) (by omega) (hT.gr Gw) hk2 T23) (by decide) st_X6_215 ix_20 rfl rfl rfl (Nat.le_of_ble_eq_true rfl) dX6_sentence_56 (fun r56 D56 h56 => ?_)
        obtain ⟨G56, A56, N56, rfl, T56, V56⟩ := h56
        have C56 : Gr D D56 := Gw.tr G56
        have B56 : D56.1 20 18 = oI (nmA x (skp x k0)) := A56.trans Aw
        refine V_istore_n (pc := 59) (j := 2) hX 2 rfl (by decide) rfl dX6_sentence_59 ?_
        refine V_goto (pc := 60) (off := 123) (tgt := 183) hX (by decide) dX6_sentence_60 ?_
        refine V_iload_n (pc := 183) (j := 2) hX 2 rfl rfl dX6_sentence_183 ?_
        refine B_if_ne (pc := 184) (tgt := 189) hX dX6_sentence_184 (by decide) (fun h184 => ?_) (fun h184 => ?_)
        · rw [h184, if_pos rfl] at T56
          have L184 := nm_le (skp_le hk2) h184
          obtain ⟨ke, vs, E1, E2, E3, E4, E5, E6⟩ : ∃ ke vs, rdN x (wArg w) k2 = .ok (ke, vs) ∧ ke ≤ x.1 ∧ D56.1 20 7 = oI (ke : Int) ∧ Gr D D56 ∧ D56.1 20 18 = oI (nmA x (skp x k0)) ∧ ∀ j, j < vs.length → D56.1 26 j = oI (vs.getD j 0) :=
            ⟨nmN x (skp x k2), [nmA x (skp x k2)], by rw [wArg, if_pos (by omega), rdN_t h184]; rfl, L184.2.1, T56, C56, B56, fun j hj => by
              obtain rfl : j = 0 := by have hj : j < 1 := hj; omega
              exact V56⟩
          have hse := skp_le E2
          have hbe := hT.rg (skp x ke)
          refine V_aload_n (pc := 189) (j := 0) hX 0 rfl rfl dX6_sentence_189 ?_
          refine cVV0 (pc := 190) hX (c_X6_skips (x := x) (k0 := ke) (hT.gr E4) E2 E3) (by decide) st_X6_206 ix_20 rfl rfl rfl (Nat.le_of_ble_eq_true rfl) dX6_sentence_190 ?_
          refine V_aload_n (pc := 193) (j := 0) hX 0 rfl rfl dX6_sentence_193 ?_
          refine V_aload_n (pc := 194) (j := 0) hX 0 rfl rfl dX6_sentence_194 ?_
          refine gf_X6_200 (pc := 195) hX dX6_sentence_195 ?_
          refine V_oI (((skp x ke : Nat)) : Int) (atU_at _ _) ?_
          refine cVI1 (pc := 198) hX (c_X6_byteAt (x := x) (k := skp x ke) (hT.gr (E4.tr (atU_gr _ _))) (by omega)) (by decide) st_X6_203 ix_20 rfl rfl rfl (Nat.le_of_ble_eq_true rfl) dX6_sentence_198 ?_
          refine V_bipush (pc := 201) (z := 59) hX (oI 59) (by decide) dX6_sentence_201 ?_
          refine Z_icmp_eq (pc := 203) (tgt := 208) hX (by omega) (by omega) dX6_sentence_203 (by decide) (fun h203 => ?_) (fun h203 => ?_)
          · refine V_aload_n (pc := 208) (j := 0) hX 0 rfl rfl dX6_sentence_208 ?_
            refine V_dup (pc := 209) hX rfl dX6_sentence_209 ?_
            refine gf_X6_200 (pc := 210) hX dX6_sentence_210 ?_
            refine V_oI (((skp x ke : Nat)) : Int) (atU_at _ _) ?_
            refine V_iconst (pc := 213) (z := 1) hX (oI 1) rfl dX6_sentence_213 ?_
            refine Z_iadd (pc := 214) hX dX6_sentence_214 ?_
            refine V_oI (((skp x ke + 1 : Nat)) : Int) (congrArg oI (by omega)) ?_
            refine pf_X6_200 (pc := 215) hX dX6_sentence_215 ?_
            refine V_heap (D' := atU _ (skp x ke + 1)) (atU_up _ (skp x ke) (skp x ke + 1)) ?_
            refine V_iload_n (pc := 218) (j := 1) hX 1 rfl rfl dX6_sentence_218 ?_
            refine V_iret (pc := 219) hX hR dX6_sentence_219 ?_
            exact ⟨_, rfl, SenP_o (E4.tr (atU_gr _ _)) (by rw [senR, if_pos h7, hwd, senV, if_neg (by omega)]; show senW x _ w (rdN x (wArg w) k2) = _; rw [E1]; exact if_pos h203) (by rw [Int.toNat_of_nonneg (by omega)]) (atU_at _ _) (by rw [Int.toNat_of_nonneg (by omega)]; exact E5) E6⟩
          · refine V_iconst (pc := 206) (z := (-1)) hX (oI (-1)) rfl dX6_sentence_206 ?_
            refine V_iret (pc := 207) hX hR dX6_sentence_207 ?_
            exact ⟨_, rfl, SenP_e (e := skp x ke) (E4.tr (atU_gr _ _)) (by rw [senR, if_pos h7, hwd, senV, if_neg (by omega)]; show senW x _ w (rdN x (wArg w) k2) = _; rw [E1]; exact if_neg h203) rfl (atU_at _ _)⟩
        · refine V_iconst (pc := 187) (z := (-1)) hX (oI (-1)) rfl dX6_sentence_187 ?_
          refine V_iret (pc := 188) hX hR dX6_sentence_188 ?_
          rw [h184, if_neg (by decide)] at T56
          exact ⟨_, rfl, SenP_e (e := skp x k2) C56 (by rw [senR, if_pos h7, hwd, senV, if_neg (by omega)]; show senW x _ w (rdN x (wArg w) k2) = _; rw [wArg, if_pos (by omega), rdN_f h184]; rfl) rfl T56⟩
      · refine V_iload_n (pc := 41) (j := 1) hX 1 rfl rfl dX6_sentence_41 ?_
        refine V_iconst (pc := 42) (z := 3) hX (oI 3) rfl dX6_sentence_42 ?_
        refine Z_icmp_lt (pc := 43) (tgt := 63) hX (by omega) (by omega) dX6_sentence_43 (by decide) (fun h43 => ?_) (fun h43 => ?_)
        · refine V_iload_n (pc := 63) (j := 1) hX 1 rfl rfl dX6_sentence_63 ?_
          refine V_iconst (pc := 64) (z := 1) hX (oI 1) rfl dX6_sentence_64 ?_
          refine Z_icmp_ne (pc := 65) (tgt := 123) hX (by omega) (by omega) dX6_sentence_65 (by decide) (fun h65 => ?_) (fun h65 => ?_)
          · refine V_iload_n (pc := 123) (j := 1) hX 1 rfl rfl dX6_sentence_123 ?_
            refine V_bipush (pc := 124) (z := 7) hX (oI 7) (by decide) dX6_sentence_124 ?_
            refine Z_icmp_ne (pc := 126) (tgt := 162) hX (by omega) (by omega) dX6_sentence_126 (by decide) (fun h126 => ?_) (fun h126 => ?_)
            · refine V_iload_n (pc := 162) (j := 1) hX 1 rfl rfl dX6_sentence_162 ?_
              refine V_bipush (pc := 163) (z := 8) hX (oI 8) (by decide) dX6_sentence_163 ?_
              refine Z_icmp_eq (pc := 165) (tgt := 174) hX (by omega) (by omega) dX6_sentence_165 (by decide) (fun h165 => ?_) (fun h165 => ?_)
              · exfalso; omega
              · refine V_iload_n (pc := 168) (j := 1) hX 1 rfl rfl dX6_sentence_168 ?_
                refine V_bipush (pc := 169) (z := 9) hX (oI 9) (by decide) dX6_sentence_169 ?_
                refine Z_icmp_ne (pc := 171) (tgt := 183) hX (by omega) (by omega) dX6_sentence_171 (by decide) (fun h171 => ?_) (fun h171 => ?_)
                · refine V_iload_n (pc := 183) (j := 2) hX 2 rfl rfl dX6_sentence_183 ?_
                  refine Z_if_ne (pc := 184) (tgt := 189) hX (by omega) dX6_sentence_184 (by decide) (fun _ => ?_) (fun h => absurd h (by decide))
                  obtain ⟨ke, vs, E1, E2, E3, E4, E5, E6⟩ : ∃ ke vs, rdN x (wArg w) k2 = .ok (ke, vs) ∧ ke ≤ x.1 ∧ D23.1 20 7 = oI (ke : Int) ∧ Gr D D23 ∧ D23.1 20 18 = oI (nmA x (skp x k0)) ∧ ∀ j, j < vs.length → D23.1 26 j = oI (vs.getD j 0) :=
                    ⟨k2, [], by rw [wArg, if_neg (by omega), if_neg (by omega), if_neg (by omega), if_neg (by omega)]; rfl, hk2, T23, Gw, Aw, fun j hj => absurd hj (Nat.not_lt_zero j)⟩
                  have hse := skp_le E2
                  have hbe := hT.rg (skp x ke)
                  refine V_aload_n (pc := 189) (j := 0) hX 0 rfl rfl dX6_sentence_189 ?_
                  refine cVV0 (pc := 190) hX (c_X6_skips (x := x) (k0 := ke) (hT.gr E4) E2 E3) (by decide) st_X6_206 ix_20 rfl rfl rfl (Nat.le_of_ble_eq_true rfl) dX6_sentence_190 ?_
                  refine V_aload_n (pc := 193) (j := 0) hX 0 rfl rfl dX6_sentence_193 ?_
                  refine V_aload_n (pc := 194) (j := 0) hX 0 rfl rfl dX6_sentence_194 ?_
                  refine gf_X6_200 (pc := 195) hX dX6_sentence_195 ?_
                  refine V_oI (((skp x ke : Nat)) : Int) (atU_at _ _) ?_
                  refine cVI1 (pc := 198) hX (c_X6_byteAt (x := x) (k := skp x ke) (hT.gr (E4.tr (atU_gr _ _))) (by omega)) (by decide) st_X6_203 ix_20 rfl rfl rfl (Nat.le_of_ble_eq_true rfl) dX6_sentence_198 ?_
                  refine V_bipush (pc := 201) (z := 59) hX (oI 59) (by decide) dX6_sentence_201 ?_
                  refine Z_icmp_eq (pc := 203) (tgt := 208) hX (by omega) (by omega) dX6_sentence_203 (by decide) (fun h203 => ?_) (fun h203 => ?_)
                  · refine V_aload_n (pc := 208) (j := 0) hX 0 rfl rfl dX6_sentence_208 ?_
                    refine V_dup (pc := 209) hX rfl dX6_sentence_209 ?_
                    refine gf_X6_200 (pc := 210) hX dX6_sentence_210 ?_
                    refine V_oI (((skp x ke : Nat)) : Int) (atU_at _ _) ?_
                    refine V_iconst (pc := 213) (z := 1) hX (oI 1) rfl dX6_sentence_213 ?_
                    refine Z_iadd (pc := 214) hX dX6_sentence_214 ?_
                    refine V_oI (((skp x ke + 1 : Nat)) : Int) (congrArg oI (by omega)) ?_
                    refine pf_X6_200 (pc := 215) hX dX6_sentence_215 ?_
                    refine V_heap (D' := atU _ (skp x ke + 1)) (atU_up _ (skp x ke) (skp x ke + 1)) ?_
                    refine V_iload_n (pc := 218) (j := 1) hX 1 rfl rfl dX6_sentence_218 ?_
                    refine V_iret (pc := 219) hX hR dX6_sentence_219 ?_
                    exact ⟨_, rfl, SenP_o (E4.tr (atU_gr _ _)) (by rw [senR, if_pos h7, hwd, senV, if_neg (by omega)]; show senW x _ w (rdN x (wArg w) k2) = _; rw [E1]; exact if_pos h203) (by rw [Int.toNat_of_nonneg (by omega)]) (atU_at _ _) (by rw [Int.toNat_of_nonneg (by omega)]; exact E5) E6⟩
                  · refine V_iconst (pc := 206) (z := (-1)) hX (oI (-1)) rfl dX6_sentence_206 ?_
                    refine V_iret (pc := 207) hX hR dX6_sentence_207 ?_
                    exact ⟨_, rfl, SenP_e (e := skp x ke) (E4.tr (atU_gr _ _)) (by rw [senR, if_pos h7, hwd, senV, if_neg (by omega)]; show senW x _ w (rdN x (wArg w) k2) = _; rw [E1]; exact if_neg h203) rfl (atU_at _ _)⟩
                · exfalso; omega
            · exfalso; omega
          · refine V_aload_n (pc := 68) (j := 0) hX 0 rfl rfl dX6_sentence_68 ?_
            refine V_iconst (pc := 69) (z := 0) hX (oI 0) rfl dX6_sentence_69 ?_
            refine V_bipush (pc := 70) (z := (-60)) hX (oI (-60)) (by decide) dX6_sentence_70 ?_
            refine V_bipush (pc := 72) (z := 59) hX (oI 59) (by decide) dX6_sentence_72 ?_
            refine cVIp3 (pc := 74) hX (c_X6_number (x := x) (w := 0) (k0 := k2) (by decide) (by omega) (by omega) (hT.gr Gw) hk2 T23) (by decide) st_X6_215 ix_20 rfl rfl rfl (Nat.le_of_ble_eq_true rfl) dX6_sentence_74 (fun r74 D74 h74 => ?_)
            obtain ⟨G74, A74, N74, rfl, T74, V74⟩ := h74
            have C74 : Gr D D74 := Gw.tr G74
            have B74 : D74.1 20 18 = oI (nmA x (skp x k0)) := A74.trans Aw
            refine B_if_eq (pc := 77) (tgt := 118) hX dX6_sentence_77 (by decide) (fun h77 => ?_) (fun h77 => ?_)
            · rw [h77, if_neg (by decide)] at T74
              refine V_iconst (pc := 118) (z := 0) hX (oI 0) rfl dX6_sentence_118 ?_
              refine V_istore_n (pc := 119) (j := 2) hX 2 rfl (by decide) rfl dX6_sentence_119 ?_
              refine V_goto (pc := 120) (off := 63) (tgt := 183) hX (by decide) dX6_sentence_120 ?_
              refine V_iload_n (pc := 183) (j := 2) hX 2 rfl rfl dX6_sentence_183 ?_
              refine Z_if_ne (pc := 184) (tgt := 189) hX (by omega) dX6_sentence_184 (by decide) (fun h => absurd h (by decide)) (fun _ => ?_)
              refine V_iconst (pc := 187) (z := (-1)) hX (oI (-1)) rfl dX6_sentence_187 ?_
              refine V_iret (pc := 188) hX hR dX6_sentence_188 ?_
              exact ⟨_, rfl, SenP_e (e := skp x k2) C74 (by rw [senR, if_pos h7, hwd, senV, if_neg (by omega)]; show senW x _ w (rdN x (wArg w) k2) = _; rw [wArg, if_neg (by omega), if_pos (by omega), rdN_f h77]; rfl) rfl T74⟩
            · rw [h77, if_pos rfl] at T74
              have L77 := nm_le (skp_le hk2) h77
              obtain ⟨k3, ek3⟩ : ∃ q, nmN x (skp x k2) = q := ⟨_, rfl⟩
              rw [ek3] at T74 L77
              refine V_aload_n (pc := 80) (j := 0) hX 0 rfl rfl dX6_sentence_80 ?_
              refine V_iconst (pc := 81) (z := 1) hX (oI 1) rfl dX6_sentence_81 ?_
              refine V_bipush (pc := 82) (z := (-60)) hX (oI (-60)) (by decide) dX6_sentence_82 ?_
              refine V_bipush (pc := 84) (z := 59) hX (oI 59) (by decide) dX6_sentence_84 ?_
              refine cVIp3 (pc := 86) hX (c_X6_number (x := x) (w := 1) (k0 := k3) (by decide) (by omega) (by omega) (hT.gr C74) L77.2.1 T74) (by decide) st_X6_215 ix_20 rfl rfl rfl (Nat.le_of_ble_eq_true rfl) dX6_sentence_86 (fun r86 D86 h86 => ?_)
              obtain ⟨G86, A86, N86, rfl, T86, V86⟩ := h86
              have C86 : Gr D D86 := C74.tr G86
              have B86 : D86.1 20 18 = oI (nmA x (skp x k0)) := A86.trans B74
              refine B_if_eq (pc := 89) (tgt := 118) hX dX6_sentence_89 (by decide) (fun h89 => ?_) (fun h89 => ?_)
              · rw [h89, if_neg (by decide)] at T86
                refine V_iconst (pc := 118) (z := 0) hX (oI 0) rfl dX6_sentence_118 ?_
                refine V_istore_n (pc := 119) (j := 2) hX 2 rfl (by decide) rfl dX6_sentence_119 ?_
                refine V_goto (pc := 120) (off := 63) (tgt := 183) hX (by decide) dX6_sentence_120 ?_
                refine V_iload_n (pc := 183) (j := 2) hX 2 rfl rfl dX6_sentence_183 ?_
                refine Z_if_ne (pc := 184) (tgt := 189) hX (by omega) dX6_sentence_184 (by decide) (fun h => absurd h (by decide)) (fun _ => ?_)
                refine V_iconst (pc := 187) (z := (-1)) hX (oI (-1)) rfl dX6_sentence_187 ?_
                refine V_iret (pc := 188) hX hR dX6_sentence_188 ?_
                exact ⟨_, rfl, SenP_e (e := skp x k3) C86 (by rw [senR, if_pos h7, hwd, senV, if_neg (by omega)]; show senW x _ w (rdN x (wArg w) k2) = _; rw [wArg, if_neg (by omega), if_pos (by omega), rdN_t h77, ek3, rdN_f h89]; rfl) rfl T86⟩
              · rw [h89, if_pos rfl] at T86
                have L89 := nm_le (skp_le L77.2.1) h89
                obtain ⟨k4, ek4⟩ : ∃ q, nmN x (skp x k3) = q := ⟨_, rfl⟩
                rw [ek4] at T86 L89
                refine V_aload_n (pc := 92) (j := 0) hX 0 rfl rfl dX6_sentence_92 ?_
                refine V_iconst (pc := 93) (z := 2) hX (oI 2) rfl dX6_sentence_93 ?_
                refine V_iconst (pc := 94) (z := 1) hX (oI 1) rfl dX6_sentence_94 ?_
                refine V_bipush (pc := 95) (z := 99) hX (oI 99) (by decide) dX6_sentence_95 ?_
                refine cVIp3 (pc := 97) hX (c_X6_number (x := x) (w := 2) (k0 := k4) (by decide) (by omega) (by omega) (hT.gr C86) L89.2.1 T86) (by decide) st_X6_215 ix_20 rfl rfl rfl (Nat.le_of_ble_eq_true rfl) dX6_sentence_97 (fun r97 D97 h97 => ?_)
                obtain ⟨G97, A97, N97, rfl, T97, V97⟩ := h97
                have C97 : Gr D D97 := C86.tr G97
                have B97 : D97.1 20 18 = oI (nmA x (skp x k0)) := A97.trans B86
                refine B_if_eq (pc := 100) (tgt := 118) hX dX6_sentence_100 (by decide) (fun h100 => ?_) (fun h100 => ?_)
                · rw [h100, if_neg (by decide)] at T97
                  refine V_iconst (pc := 118) (z := 0) hX (oI 0) rfl dX6_sentence_118 ?_
                  refine V_istore_n (pc := 119) (j := 2) hX 2 rfl (by decide) rfl dX6_sentence_119 ?_
                  refine V_goto (pc := 120) (off := 63) (tgt := 183) hX (by decide) dX6_sentence_120 ?_
                  refine V_iload_n (pc := 183) (j := 2) hX 2 rfl rfl dX6_sentence_183 ?_
                  refine Z_if_ne (pc := 184) (tgt := 189) hX (by omega) dX6_sentence_184 (by decide) (fun h => absurd h (by decide)) (fun _ => ?_)
                  refine V_iconst (pc := 187) (z := (-1)) hX (oI (-1)) rfl dX6_sentence_187 ?_
                  refine V_iret (pc := 188) hX hR dX6_sentence_188 ?_
                  exact ⟨_, rfl, SenP_e (e := skp x k4) C97 (by rw [senR, if_pos h7, hwd, senV, if_neg (by omega)]; show senW x _ w (rdN x (wArg w) k2) = _; rw [wArg, if_neg (by omega), if_pos (by omega), rdN_t h77, ek3, rdN_t h89, ek4, rdN_f h100]; rfl) rfl T97⟩
                · rw [h100, if_pos rfl] at T97
                  have L100 := nm_le (skp_le L89.2.1) h100
                  obtain ⟨k5, ek5⟩ : ∃ q, nmN x (skp x k4) = q := ⟨_, rfl⟩
                  rw [ek5] at T97 L100
                  refine V_aload_n (pc := 103) (j := 0) hX 0 rfl rfl dX6_sentence_103 ?_
                  refine V_iconst (pc := 104) (z := 3) hX (oI 3) rfl dX6_sentence_104 ?_
                  refine V_iconst (pc := 105) (z := 1) hX (oI 1) rfl dX6_sentence_105 ?_
                  refine V_bipush (pc := 106) (z := 99) hX (oI 99) (by decide) dX6_sentence_106 ?_
                  refine cVIp3 (pc := 108) hX (c_X6_number (x := x) (w := 3) (k0 := k5) (by decide) (by omega) (by omega) (hT.gr C97) L100.2.1 T97) (by decide) st_X6_215 ix_20 rfl rfl rfl (Nat.le_of_ble_eq_true rfl) dX6_sentence_108 (fun r108 D108 h108 => ?_)
                  obtain ⟨G108, A108, N108, rfl, T108, V108⟩ := h108
                  have C108 : Gr D D108 := C97.tr G108
                  have B108 : D108.1 20 18 = oI (nmA x (skp x k0)) := A108.trans B97
                  refine B_if_eq (pc := 111) (tgt := 118) hX dX6_sentence_111 (by decide) (fun h111 => ?_) (fun h111 => ?_)
                  · rw [h111, if_neg (by decide)] at T108
                    refine V_iconst (pc := 118) (z := 0) hX (oI 0) rfl dX6_sentence_118 ?_
                    refine V_istore_n (pc := 119) (j := 2) hX 2 rfl (by decide) rfl dX6_sentence_119 ?_
                    refine V_goto (pc := 120) (off := 63) (tgt := 183) hX (by decide) dX6_sentence_120 ?_
                    refine V_iload_n (pc := 183) (j := 2) hX 2 rfl rfl dX6_sentence_183 ?_
                    refine Z_if_ne (pc := 184) (tgt := 189) hX (by omega) dX6_sentence_184 (by decide) (fun h => absurd h (by decide)) (fun _ => ?_)
                    refine V_iconst (pc := 187) (z := (-1)) hX (oI (-1)) rfl dX6_sentence_187 ?_
                    refine V_iret (pc := 188) hX hR dX6_sentence_188 ?_
                    exact ⟨_, rfl, SenP_e (e := skp x k5) C108 (by rw [senR, if_pos h7, hwd, senV, if_neg (by omega)]; show senW x _ w (rdN x (wArg w) k2) = _; rw [wArg, if_neg (by omega), if_pos (by omega), rdN_t h77, ek3, rdN_t h89, ek4, rdN_t h100, ek5, rdN_f h111]; rfl) rfl T108⟩
                  · rw [h111, if_pos rfl] at T108
                    have L111 := nm_le (skp_le L100.2.1) h111
                    obtain ⟨k6, ek6⟩ : ∃ q, nmN x (skp x k5) = q := ⟨_, rfl⟩
                    rw [ek6] at T108 L111
                    refine V_iconst (pc := 114) (z := 1) hX (oI 1) rfl dX6_sentence_114 ?_
                    refine V_goto (pc := 115) (off := 4) (tgt := 119) hX (by decide) dX6_sentence_115 ?_
                    refine V_istore_n (pc := 119) (j := 2) hX 2 rfl (by decide) rfl dX6_sentence_119 ?_
                    refine V_goto (pc := 120) (off := 63) (tgt := 183) hX (by decide) dX6_sentence_120 ?_
                    refine V_iload_n (pc := 183) (j := 2) hX 2 rfl rfl dX6_sentence_183 ?_
                    refine Z_if_ne (pc := 184) (tgt := 189) hX (by omega) dX6_sentence_184 (by decide) (fun _ => ?_) (fun h => absurd h (by decide))
                    obtain ⟨ke, vs, E1, E2, E3, E4, E5, E6⟩ : ∃ ke vs, rdN x (wArg w) k2 = .ok (ke, vs) ∧ ke ≤ x.1 ∧ D108.1 20 7 = oI (ke : Int) ∧ Gr D D108 ∧ D108.1 20 18 = oI (nmA x (skp x k0)) ∧ ∀ j, j < vs.length → D108.1 26 j = oI (vs.getD j 0) :=
                      ⟨k6, [nmA x (skp x k2), nmA x (skp x k3), nmA x (skp x k4), nmA x (skp x k5)], by rw [wArg, if_neg (by omega), if_pos (by omega), rdN_t h77, ek3, rdN_t h89, ek4, rdN_t h100, ek5, rdN_t h111, ek6]; rfl, L111.2.1, T108, C108, B108, fun j hj => by
                        rcases (show j = 0 ∨ j = 1 ∨ j = 2 ∨ j = 3 by have hj : j < 4 := hj; omega) with rfl | rfl | rfl | rfl
                        · exact (N108 0 (by decide)).trans ((N97 0 (by decide)).trans ((N86 0 (by decide)).trans (V74)))
                        · exact (N108 1 (by decide)).trans ((N97 1 (by decide)).trans (V86))
                        · exact (N108 2 (by decide)).trans (V97)
                        · exact V108⟩
                    have hse := skp_le E2
                    have hbe := hT.rg (skp x ke)
                    refine V_aload_n (pc := 189) (j := 0) hX 0 rfl rfl dX6_sentence_189 ?_
                    refine cVV0 (pc := 190) hX (c_X6_skips (x := x) (k0 := ke) (hT.gr E4) E2 E3) (by decide) st_X6_206 ix_20 rfl rfl rfl (Nat.le_of_ble_eq_true rfl) dX6_sentence_190 ?_
                    refine V_aload_n (pc := 193) (j := 0) hX 0 rfl rfl dX6_sentence_193 ?_
                    refine V_aload_n (pc := 194) (j := 0) hX 0 rfl rfl dX6_sentence_194 ?_
                    refine gf_X6_200 (pc := 195) hX dX6_sentence_195 ?_
                    refine V_oI (((skp x ke : Nat)) : Int) (atU_at _ _) ?_
                    refine cVI1 (pc := 198) hX (c_X6_byteAt (x := x) (k := skp x ke) (hT.gr (E4.tr (atU_gr _ _))) (by omega)) (by decide) st_X6_203 ix_20 rfl rfl rfl (Nat.le_of_ble_eq_true rfl) dX6_sentence_198 ?_
                    refine V_bipush (pc := 201) (z := 59) hX (oI 59) (by decide) dX6_sentence_201 ?_
                    refine Z_icmp_eq (pc := 203) (tgt := 208) hX (by omega) (by omega) dX6_sentence_203 (by decide) (fun h203 => ?_) (fun h203 => ?_)
                    · refine V_aload_n (pc := 208) (j := 0) hX 0 rfl rfl dX6_sentence_208 ?_
                      refine V_dup (pc := 209) hX rfl dX6_sentence_209 ?_
                      refine gf_X6_200 (pc := 210) hX dX6_sentence_210 ?_
                      refine V_oI (((skp x ke : Nat)) : Int) (atU_at _ _) ?_
                      refine V_iconst (pc := 213) (z := 1) hX (oI 1) rfl dX6_sentence_213 ?_
                      refine Z_iadd (pc := 214) hX dX6_sentence_214 ?_
                      refine V_oI (((skp x ke + 1 : Nat)) : Int) (congrArg oI (by omega)) ?_
                      refine pf_X6_200 (pc := 215) hX dX6_sentence_215 ?_
                      refine V_heap (D' := atU _ (skp x ke + 1)) (atU_up _ (skp x ke) (skp x ke + 1)) ?_
                      refine V_iload_n (pc := 218) (j := 1) hX 1 rfl rfl dX6_sentence_218 ?_
                      refine V_iret (pc := 219) hX hR dX6_sentence_219 ?_
                      exact ⟨_, rfl, SenP_o (E4.tr (atU_gr _ _)) (by rw [senR, if_pos h7, hwd, senV, if_neg (by omega)]; show senW x _ w (rdN x (wArg w) k2) = _; rw [E1]; exact if_pos h203) (by rw [Int.toNat_of_nonneg (by omega)]) (atU_at _ _) (by rw [Int.toNat_of_nonneg (by omega)]; exact E5) E6⟩
                    · refine V_iconst (pc := 206) (z := (-1)) hX (oI (-1)) rfl dX6_sentence_206 ?_
                      refine V_iret (pc := 207) hX hR dX6_sentence_207 ?_
                      exact ⟨_, rfl, SenP_e (e := skp x ke) (E4.tr (atU_gr _ _)) (by rw [senR, if_pos h7, hwd, senV, if_neg (by omega)]; show senW x _ w (rdN x (wArg w) k2) = _; rw [E1]; exact if_neg h203) rfl (atU_at _ _)⟩
        · refine V_iload_n (pc := 46) (j := 1) hX 1 rfl rfl dX6_sentence_46 ?_
          refine V_bipush (pc := 47) (z := 7) hX (oI 7) (by decide) dX6_sentence_47 ?_
          refine Z_icmp_ge (pc := 49) (tgt := 63) hX (by omega) (by omega) dX6_sentence_49 (by decide) (fun h49 => ?_) (fun h49 => ?_)
          · refine V_iload_n (pc := 63) (j := 1) hX 1 rfl rfl dX6_sentence_63 ?_
            refine V_iconst (pc := 64) (z := 1) hX (oI 1) rfl dX6_sentence_64 ?_
            refine Z_icmp_ne (pc := 65) (tgt := 123) hX (by omega) (by omega) dX6_sentence_65 (by decide) (fun h65 => ?_) (fun h65 => ?_)
            · refine V_iload_n (pc := 123) (j := 1) hX 1 rfl rfl dX6_sentence_123 ?_
              refine V_bipush (pc := 124) (z := 7) hX (oI 7) (by decide) dX6_sentence_124 ?_
              refine Z_icmp_ne (pc := 126) (tgt := 162) hX (by omega) (by omega) dX6_sentence_126 (by decide) (fun h126 => ?_) (fun h126 => ?_)
              · refine V_iload_n (pc := 162) (j := 1) hX 1 rfl rfl dX6_sentence_162 ?_
                refine V_bipush (pc := 163) (z := 8) hX (oI 8) (by decide) dX6_sentence_163 ?_
                refine Z_icmp_eq (pc := 165) (tgt := 174) hX (by omega) (by omega) dX6_sentence_165 (by decide) (fun h165 => ?_) (fun h165 => ?_)
                · refine V_aload_n (pc := 174) (j := 0) hX 0 rfl rfl dX6_sentence_174 ?_
                  refine V_iconst (pc := 175) (z := 0) hX (oI 0) rfl dX6_sentence_175 ?_
                  refine V_iconst (pc := 176) (z := 1) hX (oI 1) rfl dX6_sentence_176 ?_
                  refine V_bipush (pc := 177) (z := 9) hX (oI 9) (by decide) dX6_sentence_177 ?_
                  refine cVIp3 (pc := 179) hX (c_X6_number (x := x) (w := 0) (k0 := k2) (by decide) (by omega) (by omega) (hT.gr Gw) hk2 T23) (by decide) st_X6_215 ix_20 rfl rfl rfl (Nat.le_of_ble_eq_true rfl) dX6_sentence_179 (fun r179 D179 h179 => ?_)
                  obtain ⟨G179, A179, N179, rfl, T179, V179⟩ := h179
                  have C179 : Gr D D179 := Gw.tr G179
                  have B179 : D179.1 20 18 = oI (nmA x (skp x k0)) := A179.trans Aw
                  refine V_istore_n (pc := 182) (j := 2) hX 2 rfl (by decide) rfl dX6_sentence_182 ?_
                  refine V_iload_n (pc := 183) (j := 2) hX 2 rfl rfl dX6_sentence_183 ?_
                  refine B_if_ne (pc := 184) (tgt := 189) hX dX6_sentence_184 (by decide) (fun h184 => ?_) (fun h184 => ?_)
                  · rw [h184, if_pos rfl] at T179
                    have L184 := nm_le (skp_le hk2) h184
                    obtain ⟨ke, vs, E1, E2, E3, E4, E5, E6⟩ : ∃ ke vs, rdN x (wArg w) k2 = .ok (ke, vs) ∧ ke ≤ x.1 ∧ D179.1 20 7 = oI (ke : Int) ∧ Gr D D179 ∧ D179.1 20 18 = oI (nmA x (skp x k0)) ∧ ∀ j, j < vs.length → D179.1 26 j = oI (vs.getD j 0) :=
                      ⟨nmN x (skp x k2), [nmA x (skp x k2)], by rw [wArg, if_neg (by omega), if_neg (by omega), if_neg (by omega), if_pos (by omega), rdN_t h184]; rfl, L184.2.1, T179, C179, B179, fun j hj => by
                        obtain rfl : j = 0 := by have hj : j < 1 := hj; omega
                        exact V179⟩
                    have hse := skp_le E2
                    have hbe := hT.rg (skp x ke)
                    refine V_aload_n (pc := 189) (j := 0) hX 0 rfl rfl dX6_sentence_189 ?_
                    refine cVV0 (pc := 190) hX (c_X6_skips (x := x) (k0 := ke) (hT.gr E4) E2 E3) (by decide) st_X6_206 ix_20 rfl rfl rfl (Nat.le_of_ble_eq_true rfl) dX6_sentence_190 ?_
                    refine V_aload_n (pc := 193) (j := 0) hX 0 rfl rfl dX6_sentence_193 ?_
                    refine V_aload_n (pc := 194) (j := 0) hX 0 rfl rfl dX6_sentence_194 ?_
                    refine gf_X6_200 (pc := 195) hX dX6_sentence_195 ?_
                    refine V_oI (((skp x ke : Nat)) : Int) (atU_at _ _) ?_
                    refine cVI1 (pc := 198) hX (c_X6_byteAt (x := x) (k := skp x ke) (hT.gr (E4.tr (atU_gr _ _))) (by omega)) (by decide) st_X6_203 ix_20 rfl rfl rfl (Nat.le_of_ble_eq_true rfl) dX6_sentence_198 ?_
                    refine V_bipush (pc := 201) (z := 59) hX (oI 59) (by decide) dX6_sentence_201 ?_
                    refine Z_icmp_eq (pc := 203) (tgt := 208) hX (by omega) (by omega) dX6_sentence_203 (by decide) (fun h203 => ?_) (fun h203 => ?_)
                    · refine V_aload_n (pc := 208) (j := 0) hX 0 rfl rfl dX6_sentence_208 ?_
                      refine V_dup (pc := 209) hX rfl dX6_sentence_209 ?_
                      refine gf_X6_200 (pc := 210) hX dX6_sentence_210 ?_
                      refine V_oI (((skp x ke : Nat)) : Int) (atU_at _ _) ?_
                      refine V_iconst (pc := 213) (z := 1) hX (oI 1) rfl dX6_sentence_213 ?_
                      refine Z_iadd (pc := 214) hX dX6_sentence_214 ?_
                      refine V_oI (((skp x ke + 1 : Nat)) : Int) (congrArg oI (by omega)) ?_
                      refine pf_X6_200 (pc := 215) hX dX6_sentence_215 ?_
                      refine V_heap (D' := atU _ (skp x ke + 1)) (atU_up _ (skp x ke) (skp x ke + 1)) ?_
                      refine V_iload_n (pc := 218) (j := 1) hX 1 rfl rfl dX6_sentence_218 ?_
                      refine V_iret (pc := 219) hX hR dX6_sentence_219 ?_
                      exact ⟨_, rfl, SenP_o (E4.tr (atU_gr _ _)) (by rw [senR, if_pos h7, hwd, senV, if_neg (by omega)]; show senW x _ w (rdN x (wArg w) k2) = _; rw [E1]; exact if_pos h203) (by rw [Int.toNat_of_nonneg (by omega)]) (atU_at _ _) (by rw [Int.toNat_of_nonneg (by omega)]; exact E5) E6⟩
                    · refine V_iconst (pc := 206) (z := (-1)) hX (oI (-1)) rfl dX6_sentence_206 ?_
                      refine V_iret (pc := 207) hX hR dX6_sentence_207 ?_
                      exact ⟨_, rfl, SenP_e (e := skp x ke) (E4.tr (atU_gr _ _)) (by rw [senR, if_pos h7, hwd, senV, if_neg (by omega)]; show senW x _ w (rdN x (wArg w) k2) = _; rw [E1]; exact if_neg h203) rfl (atU_at _ _)⟩
                  · refine V_iconst (pc := 187) (z := (-1)) hX (oI (-1)) rfl dX6_sentence_187 ?_
                    refine V_iret (pc := 188) hX hR dX6_sentence_188 ?_
                    rw [h184, if_neg (by decide)] at T179
                    exact ⟨_, rfl, SenP_e (e := skp x k2) C179 (by rw [senR, if_pos h7, hwd, senV, if_neg (by omega)]; show senW x _ w (rdN x (wArg w) k2) = _; rw [wArg, if_neg (by omega), if_neg (by omega), if_neg (by omega), if_pos (by omega), rdN_f h184]; rfl) rfl T179⟩
                · refine V_iload_n (pc := 168) (j := 1) hX 1 rfl rfl dX6_sentence_168 ?_
                  refine V_bipush (pc := 169) (z := 9) hX (oI 9) (by decide) dX6_sentence_169 ?_
                  refine Z_icmp_ne (pc := 171) (tgt := 183) hX (by omega) (by omega) dX6_sentence_171 (by decide) (fun h171 => ?_) (fun h171 => ?_)
                  · refine V_iload_n (pc := 183) (j := 2) hX 2 rfl rfl dX6_sentence_183 ?_
                    refine Z_if_ne (pc := 184) (tgt := 189) hX (by omega) dX6_sentence_184 (by decide) (fun _ => ?_) (fun h => absurd h (by decide))
                    obtain ⟨ke, vs, E1, E2, E3, E4, E5, E6⟩ : ∃ ke vs, rdN x (wArg w) k2 = .ok (ke, vs) ∧ ke ≤ x.1 ∧ D23.1 20 7 = oI (ke : Int) ∧ Gr D D23 ∧ D23.1 20 18 = oI (nmA x (skp x k0)) ∧ ∀ j, j < vs.length → D23.1 26 j = oI (vs.getD j 0) :=
                      ⟨k2, [], by rw [wArg, if_neg (by omega), if_neg (by omega), if_neg (by omega), if_neg (by omega)]; rfl, hk2, T23, Gw, Aw, fun j hj => absurd hj (Nat.not_lt_zero j)⟩
                    have hse := skp_le E2
                    have hbe := hT.rg (skp x ke)
                    refine V_aload_n (pc := 189) (j := 0) hX 0 rfl rfl dX6_sentence_189 ?_
                    refine cVV0 (pc := 190) hX (c_X6_skips (x := x) (k0 := ke) (hT.gr E4) E2 E3) (by decide) st_X6_206 ix_20 rfl rfl rfl (Nat.le_of_ble_eq_true rfl) dX6_sentence_190 ?_
                    refine V_aload_n (pc := 193) (j := 0) hX 0 rfl rfl dX6_sentence_193 ?_
                    refine V_aload_n (pc := 194) (j := 0) hX 0 rfl rfl dX6_sentence_194 ?_
                    refine gf_X6_200 (pc := 195) hX dX6_sentence_195 ?_
                    refine V_oI (((skp x ke : Nat)) : Int) (atU_at _ _) ?_
                    refine cVI1 (pc := 198) hX (c_X6_byteAt (x := x) (k := skp x ke) (hT.gr (E4.tr (atU_gr _ _))) (by omega)) (by decide) st_X6_203 ix_20 rfl rfl rfl (Nat.le_of_ble_eq_true rfl) dX6_sentence_198 ?_
                    refine V_bipush (pc := 201) (z := 59) hX (oI 59) (by decide) dX6_sentence_201 ?_
                    refine Z_icmp_eq (pc := 203) (tgt := 208) hX (by omega) (by omega) dX6_sentence_203 (by decide) (fun h203 => ?_) (fun h203 => ?_)
                    · refine V_aload_n (pc := 208) (j := 0) hX 0 rfl rfl dX6_sentence_208 ?_
                      refine V_dup (pc := 209) hX rfl dX6_sentence_209 ?_
                      refine gf_X6_200 (pc := 210) hX dX6_sentence_210 ?_
                      refine V_oI (((skp x ke : Nat)) : Int) (atU_at _ _) ?_
                      refine V_iconst (pc := 213) (z := 1) hX (oI 1) rfl dX6_sentence_213 ?_
                      refine Z_iadd (pc := 214) hX dX6_sentence_214 ?_
                      refine V_oI (((skp x ke + 1 : Nat)) : Int) (congrArg oI (by omega)) ?_
                      refine pf_X6_200 (pc := 215) hX dX6_sentence_215 ?_
                      refine V_heap (D' := atU _ (skp x ke + 1)) (atU_up _ (skp x ke) (skp x ke + 1)) ?_
                      refine V_iload_n (pc := 218) (j := 1) hX 1 rfl rfl dX6_sentence_218 ?_
                      refine V_iret (pc := 219) hX hR dX6_sentence_219 ?_
                      exact ⟨_, rfl, SenP_o (E4.tr (atU_gr _ _)) (by rw [senR, if_pos h7, hwd, senV, if_neg (by omega)]; show senW x _ w (rdN x (wArg w) k2) = _; rw [E1]; exact if_pos h203) (by rw [Int.toNat_of_nonneg (by omega)]) (atU_at _ _) (by rw [Int.toNat_of_nonneg (by omega)]; exact E5) E6⟩
                    · refine V_iconst (pc := 206) (z := (-1)) hX (oI (-1)) rfl dX6_sentence_206 ?_
                      refine V_iret (pc := 207) hX hR dX6_sentence_207 ?_
                      exact ⟨_, rfl, SenP_e (e := skp x ke) (E4.tr (atU_gr _ _)) (by rw [senR, if_pos h7, hwd, senV, if_neg (by omega)]; show senW x _ w (rdN x (wArg w) k2) = _; rw [E1]; exact if_neg h203) rfl (atU_at _ _)⟩
                  · refine V_aload_n (pc := 174) (j := 0) hX 0 rfl rfl dX6_sentence_174 ?_
                    refine V_iconst (pc := 175) (z := 0) hX (oI 0) rfl dX6_sentence_175 ?_
                    refine V_iconst (pc := 176) (z := 1) hX (oI 1) rfl dX6_sentence_176 ?_
                    refine V_bipush (pc := 177) (z := 9) hX (oI 9) (by decide) dX6_sentence_177 ?_
                    refine cVIp3 (pc := 179) hX (c_X6_number (x := x) (w := 0) (k0 := k2) (by decide) (by omega) (by omega) (hT.gr Gw) hk2 T23) (by decide) st_X6_215 ix_20 rfl rfl rfl (Nat.le_of_ble_eq_true rfl) dX6_sentence_179 (fun r179 D179 h179 => ?_)
                    obtain ⟨G179, A179, N179, rfl, T179, V179⟩ := h179
                    have C179 : Gr D D179 := Gw.tr G179
                    have B179 : D179.1 20 18 = oI (nmA x (skp x k0)) := A179.trans Aw
                    refine V_istore_n (pc := 182) (j := 2) hX 2 rfl (by decide) rfl dX6_sentence_182 ?_
                    refine V_iload_n (pc := 183) (j := 2) hX 2 rfl rfl dX6_sentence_183 ?_
                    refine B_if_ne (pc := 184) (tgt := 189) hX dX6_sentence_184 (by decide) (fun h184 => ?_) (fun h184 => ?_)
                    · rw [h184, if_pos rfl] at T179
                      have L184 := nm_le (skp_le hk2) h184
                      obtain ⟨ke, vs, E1, E2, E3, E4, E5, E6⟩ : ∃ ke vs, rdN x (wArg w) k2 = .ok (ke, vs) ∧ ke ≤ x.1 ∧ D179.1 20 7 = oI (ke : Int) ∧ Gr D D179 ∧ D179.1 20 18 = oI (nmA x (skp x k0)) ∧ ∀ j, j < vs.length → D179.1 26 j = oI (vs.getD j 0) :=
                        ⟨nmN x (skp x k2), [nmA x (skp x k2)], by rw [wArg, if_neg (by omega), if_neg (by omega), if_neg (by omega), if_pos (by omega), rdN_t h184]; rfl, L184.2.1, T179, C179, B179, fun j hj => by
                          obtain rfl : j = 0 := by have hj : j < 1 := hj; omega
                          exact V179⟩
                      have hse := skp_le E2
                      have hbe := hT.rg (skp x ke)
                      refine V_aload_n (pc := 189) (j := 0) hX 0 rfl rfl dX6_sentence_189 ?_
                      refine cVV0 (pc := 190) hX (c_X6_skips (x := x) (k0 := ke) (hT.gr E4) E2 E3) (by decide) st_X6_206 ix_20 rfl rfl rfl (Nat.le_of_ble_eq_true rfl) dX6_sentence_190 ?_
                      refine V_aload_n (pc := 193) (j := 0) hX 0 rfl rfl dX6_sentence_193 ?_
                      refine V_aload_n (pc := 194) (j := 0) hX 0 rfl rfl dX6_sentence_194 ?_
                      refine gf_X6_200 (pc := 195) hX dX6_sentence_195 ?_
                      refine V_oI (((skp x ke : Nat)) : Int) (atU_at _ _) ?_
                      refine cVI1 (pc := 198) hX (c_X6_byteAt (x := x) (k := skp x ke) (hT.gr (E4.tr (atU_gr _ _))) (by omega)) (by decide) st_X6_203 ix_20 rfl rfl rfl (Nat.le_of_ble_eq_true rfl) dX6_sentence_198 ?_
                      refine V_bipush (pc := 201) (z := 59) hX (oI 59) (by decide) dX6_sentence_201 ?_
                      refine Z_icmp_eq (pc := 203) (tgt := 208) hX (by omega) (by omega) dX6_sentence_203 (by decide) (fun h203 => ?_) (fun h203 => ?_)
                      · refine V_aload_n (pc := 208) (j := 0) hX 0 rfl rfl dX6_sentence_208 ?_
                        refine V_dup (pc := 209) hX rfl dX6_sentence_209 ?_
                        refine gf_X6_200 (pc := 210) hX dX6_sentence_210 ?_
                        refine V_oI (((skp x ke : Nat)) : Int) (atU_at _ _) ?_
                        refine V_iconst (pc := 213) (z := 1) hX (oI 1) rfl dX6_sentence_213 ?_
                        refine Z_iadd (pc := 214) hX dX6_sentence_214 ?_
                        refine V_oI (((skp x ke + 1 : Nat)) : Int) (congrArg oI (by omega)) ?_
                        refine pf_X6_200 (pc := 215) hX dX6_sentence_215 ?_
                        refine V_heap (D' := atU _ (skp x ke + 1)) (atU_up _ (skp x ke) (skp x ke + 1)) ?_
                        refine V_iload_n (pc := 218) (j := 1) hX 1 rfl rfl dX6_sentence_218 ?_
                        refine V_iret (pc := 219) hX hR dX6_sentence_219 ?_
                        exact ⟨_, rfl, SenP_o (E4.tr (atU_gr _ _)) (by rw [senR, if_pos h7, hwd, senV, if_neg (by omega)]; show senW x _ w (rdN x (wArg w) k2) = _; rw [E1]; exact if_pos h203) (by rw [Int.toNat_of_nonneg (by omega)]) (atU_at _ _) (by rw [Int.toNat_of_nonneg (by omega)]; exact E5) E6⟩
                      · refine V_iconst (pc := 206) (z := (-1)) hX (oI (-1)) rfl dX6_sentence_206 ?_
                        refine V_iret (pc := 207) hX hR dX6_sentence_207 ?_
                        exact ⟨_, rfl, SenP_e (e := skp x ke) (E4.tr (atU_gr _ _)) (by rw [senR, if_pos h7, hwd, senV, if_neg (by omega)]; show senW x _ w (rdN x (wArg w) k2) = _; rw [E1]; exact if_neg h203) rfl (atU_at _ _)⟩
                    · refine V_iconst (pc := 187) (z := (-1)) hX (oI (-1)) rfl dX6_sentence_187 ?_
                      refine V_iret (pc := 188) hX hR dX6_sentence_188 ?_
                      rw [h184, if_neg (by decide)] at T179
                      exact ⟨_, rfl, SenP_e (e := skp x k2) C179 (by rw [senR, if_pos h7, hwd, senV, if_neg (by omega)]; show senW x _ w (rdN x (wArg w) k2) = _; rw [wArg, if_neg (by omega), if_neg (by omega), if_neg (by omega), if_pos (by omega), rdN_f h184]; rfl) rfl T179⟩
              · refine V_aload_n (pc := 129) (j := 0) hX 0 rfl rfl dX6_sentence_129 ?_
                refine V_iconst (pc := 130) (z := 0) hX (oI 0) rfl dX6_sentence_130 ?_
                refine V_bipush (pc := 131) (z := (-99)) hX (oI (-99)) (by decide) dX6_sentence_131 ?_
                refine V_bipush (pc := 133) (z := 99) hX (oI 99) (by decide) dX6_sentence_133 ?_
                refine cVIp3 (pc := 135) hX (c_X6_number (x := x) (w := 0) (k0 := k2) (by decide) (by omega) (by omega) (hT.gr Gw) hk2 T23) (by decide) st_X6_215 ix_20 rfl rfl rfl (Nat.le_of_ble_eq_true rfl) dX6_sentence_135 (fun r135 D135 h135 => ?_)
                obtain ⟨G135, A135, N135, rfl, T135, V135⟩ := h135
                have C135 : Gr D D135 := Gw.tr G135
                have B135 : D135.1 20 18 = oI (nmA x (skp x k0)) := A135.trans Aw
                refine B_if_eq (pc := 138) (tgt := 157) hX dX6_sentence_138 (by decide) (fun h138 => ?_) (fun h138 => ?_)
                · rw [h138, if_neg (by decide)] at T135
                  refine V_iconst (pc := 157) (z := 0) hX (oI 0) rfl dX6_sentence_157 ?_
                  refine V_istore_n (pc := 158) (j := 2) hX 2 rfl (by decide) rfl dX6_sentence_158 ?_
                  refine V_goto (pc := 159) (off := 24) (tgt := 183) hX (by decide) dX6_sentence_159 ?_
                  refine V_iload_n (pc := 183) (j := 2) hX 2 rfl rfl dX6_sentence_183 ?_
                  refine Z_if_ne (pc := 184) (tgt := 189) hX (by omega) dX6_sentence_184 (by decide) (fun h => absurd h (by decide)) (fun _ => ?_)
                  refine V_iconst (pc := 187) (z := (-1)) hX (oI (-1)) rfl dX6_sentence_187 ?_
                  refine V_iret (pc := 188) hX hR dX6_sentence_188 ?_
                  exact ⟨_, rfl, SenP_e (e := skp x k2) C135 (by rw [senR, if_pos h7, hwd, senV, if_neg (by omega)]; show senW x _ w (rdN x (wArg w) k2) = _; rw [wArg, if_neg (by omega), if_neg (by omega), if_pos (by omega), rdN_f h138]; rfl) rfl T135⟩
                · rw [h138, if_pos rfl] at T135
                  have L138 := nm_le (skp_le hk2) h138
                  obtain ⟨k3, ek3⟩ : ∃ q, nmN x (skp x k2) = q := ⟨_, rfl⟩
                  rw [ek3] at T135 L138
                  refine V_aload_n (pc := 141) (j := 0) hX 0 rfl rfl dX6_sentence_141 ?_
                  refine V_iconst (pc := 142) (z := 1) hX (oI 1) rfl dX6_sentence_142 ?_
                  refine V_bipush (pc := 143) (z := (-99)) hX (oI (-99)) (by decide) dX6_sentence_143 ?_
                  refine V_bipush (pc := 145) (z := 99) hX (oI 99) (by decide) dX6_sentence_145 ?_
                  refine cVIp3 (pc := 147) hX (c_X6_number (x := x) (w := 1) (k0 := k3) (by decide) (by omega) (by omega) (hT.gr C135) L138.2.1 T135) (by decide) st_X6_215 ix_20 rfl rfl rfl (Nat.le_of_ble_eq_true rfl) dX6_sentence_147 (fun r147 D147 h147 => ?_)
                  obtain ⟨G147, A147, N147, rfl, T147, V147⟩ := h147
                  have C147 : Gr D D147 := C135.tr G147
                  have B147 : D147.1 20 18 = oI (nmA x (skp x k0)) := A147.trans B135
                  refine B_if_eq (pc := 150) (tgt := 157) hX dX6_sentence_150 (by decide) (fun h150 => ?_) (fun h150 => ?_)
                  · rw [h150, if_neg (by decide)] at T147
                    refine V_iconst (pc := 157) (z := 0) hX (oI 0) rfl dX6_sentence_157 ?_
                    refine V_istore_n (pc := 158) (j := 2) hX 2 rfl (by decide) rfl dX6_sentence_158 ?_
                    refine V_goto (pc := 159) (off := 24) (tgt := 183) hX (by decide) dX6_sentence_159 ?_
                    refine V_iload_n (pc := 183) (j := 2) hX 2 rfl rfl dX6_sentence_183 ?_
                    refine Z_if_ne (pc := 184) (tgt := 189) hX (by omega) dX6_sentence_184 (by decide) (fun h => absurd h (by decide)) (fun _ => ?_)
                    refine V_iconst (pc := 187) (z := (-1)) hX (oI (-1)) rfl dX6_sentence_187 ?_
                    refine V_iret (pc := 188) hX hR dX6_sentence_188 ?_
                    exact ⟨_, rfl, SenP_e (e := skp x k3) C147 (by rw [senR, if_pos h7, hwd, senV, if_neg (by omega)]; show senW x _ w (rdN x (wArg w) k2) = _; rw [wArg, if_neg (by omega), if_neg (by omega), if_pos (by omega), rdN_t h138, ek3, rdN_f h150]; rfl) rfl T147⟩
                  · rw [h150, if_pos rfl] at T147
                    have L150 := nm_le (skp_le L138.2.1) h150
                    obtain ⟨k4, ek4⟩ : ∃ q, nmN x (skp x k3) = q := ⟨_, rfl⟩
                    rw [ek4] at T147 L150
                    refine V_iconst (pc := 153) (z := 1) hX (oI 1) rfl dX6_sentence_153 ?_
                    refine V_goto (pc := 154) (off := 4) (tgt := 158) hX (by decide) dX6_sentence_154 ?_
                    refine V_istore_n (pc := 158) (j := 2) hX 2 rfl (by decide) rfl dX6_sentence_158 ?_
                    refine V_goto (pc := 159) (off := 24) (tgt := 183) hX (by decide) dX6_sentence_159 ?_
                    refine V_iload_n (pc := 183) (j := 2) hX 2 rfl rfl dX6_sentence_183 ?_
                    refine Z_if_ne (pc := 184) (tgt := 189) hX (by omega) dX6_sentence_184 (by decide) (fun _ => ?_) (fun h => absurd h (by decide))
                    obtain ⟨ke, vs, E1, E2, E3, E4, E5, E6⟩ : ∃ ke vs, rdN x (wArg w) k2 = .ok (ke, vs) ∧ ke ≤ x.1 ∧ D147.1 20 7 = oI (ke : Int) ∧ Gr D D147 ∧ D147.1 20 18 = oI (nmA x (skp x k0)) ∧ ∀ j, j < vs.length → D147.1 26 j = oI (vs.getD j 0) :=
                      ⟨k4, [nmA x (skp x k2), nmA x (skp x k3)], by rw [wArg, if_neg (by omega), if_neg (by omega), if_pos (by omega), rdN_t h138, ek3, rdN_t h150, ek4]; rfl, L150.2.1, T147, C147, B147, fun j hj => by
                        rcases (show j = 0 ∨ j = 1 by have hj : j < 2 := hj; omega) with rfl | rfl
                        · exact (N147 0 (by decide)).trans (V135)
                        · exact V147⟩
                    have hse := skp_le E2
                    have hbe := hT.rg (skp x ke)
                    refine V_aload_n (pc := 189) (j := 0) hX 0 rfl rfl dX6_sentence_189 ?_
                    refine cVV0 (pc := 190) hX (c_X6_skips (x := x) (k0 := ke) (hT.gr E4) E2 E3) (by decide) st_X6_206 ix_20 rfl rfl rfl (Nat.le_of_ble_eq_true rfl) dX6_sentence_190 ?_
                    refine V_aload_n (pc := 193) (j := 0) hX 0 rfl rfl dX6_sentence_193 ?_
                    refine V_aload_n (pc := 194) (j := 0) hX 0 rfl rfl dX6_sentence_194 ?_
                    refine gf_X6_200 (pc := 195) hX dX6_sentence_195 ?_
                    refine V_oI (((skp x ke : Nat)) : Int) (atU_at _ _) ?_
                    refine cVI1 (pc := 198) hX (c_X6_byteAt (x := x) (k := skp x ke) (hT.gr (E4.tr (atU_gr _ _))) (by omega)) (by decide) st_X6_203 ix_20 rfl rfl rfl (Nat.le_of_ble_eq_true rfl) dX6_sentence_198 ?_
                    refine V_bipush (pc := 201) (z := 59) hX (oI 59) (by decide) dX6_sentence_201 ?_
                    refine Z_icmp_eq (pc := 203) (tgt := 208) hX (by omega) (by omega) dX6_sentence_203 (by decide) (fun h203 => ?_) (fun h203 => ?_)
                    · refine V_aload_n (pc := 208) (j := 0) hX 0 rfl rfl dX6_sentence_208 ?_
                      refine V_dup (pc := 209) hX rfl dX6_sentence_209 ?_
                      refine gf_X6_200 (pc := 210) hX dX6_sentence_210 ?_
                      refine V_oI (((skp x ke : Nat)) : Int) (atU_at _ _) ?_
                      refine V_iconst (pc := 213) (z := 1) hX (oI 1) rfl dX6_sentence_213 ?_
                      refine Z_iadd (pc := 214) hX dX6_sentence_214 ?_
                      refine V_oI (((skp x ke + 1 : Nat)) : Int) (congrArg oI (by omega)) ?_
                      refine pf_X6_200 (pc := 215) hX dX6_sentence_215 ?_
                      refine V_heap (D' := atU _ (skp x ke + 1)) (atU_up _ (skp x ke) (skp x ke + 1)) ?_
                      refine V_iload_n (pc := 218) (j := 1) hX 1 rfl rfl dX6_sentence_218 ?_
                      refine V_iret (pc := 219) hX hR dX6_sentence_219 ?_
                      exact ⟨_, rfl, SenP_o (E4.tr (atU_gr _ _)) (by rw [senR, if_pos h7, hwd, senV, if_neg (by omega)]; show senW x _ w (rdN x (wArg w) k2) = _; rw [E1]; exact if_pos h203) (by rw [Int.toNat_of_nonneg (by omega)]) (atU_at _ _) (by rw [Int.toNat_of_nonneg (by omega)]; exact E5) E6⟩
                    · refine V_iconst (pc := 206) (z := (-1)) hX (oI (-1)) rfl dX6_sentence_206 ?_
                      refine V_iret (pc := 207) hX hR dX6_sentence_207 ?_
                      exact ⟨_, rfl, SenP_e (e := skp x ke) (E4.tr (atU_gr _ _)) (by rw [senR, if_pos h7, hwd, senV, if_neg (by omega)]; show senW x _ w (rdN x (wArg w) k2) = _; rw [E1]; exact if_neg h203) rfl (atU_at _ _)⟩
            · exfalso; omega
          · refine V_aload_n (pc := 52) (j := 0) hX 0 rfl rfl dX6_sentence_52 ?_
            refine V_iconst (pc := 53) (z := 0) hX (oI 0) rfl dX6_sentence_53 ?_
            refine V_iconst (pc := 54) (z := 0) hX (oI 0) rfl dX6_sentence_54 ?_
            refine V_iconst (pc := 55) (z := 4) hX (oI 4) rfl dX6_sentence_55 ?_
            refine cVIp3 (pc := 56) hX (c_X6_number (x := x) (w := 0) (k0 := k2) (by decide) (by omega) (by omega) (hT.gr Gw) hk2 T23) (by decide) st_X6_215 ix_20 rfl rfl rfl (Nat.le_of_ble_eq_true rfl) dX6_sentence_56 (fun r56 D56 h56 => ?_)
            obtain ⟨G56, A56, N56, rfl, T56, V56⟩ := h56
            have C56 : Gr D D56 := Gw.tr G56
            have B56 : D56.1 20 18 = oI (nmA x (skp x k0)) := A56.trans Aw
            refine V_istore_n (pc := 59) (j := 2) hX 2 rfl (by decide) rfl dX6_sentence_59 ?_
            refine V_goto (pc := 60) (off := 123) (tgt := 183) hX (by decide) dX6_sentence_60 ?_
            refine V_iload_n (pc := 183) (j := 2) hX 2 rfl rfl dX6_sentence_183 ?_
            refine B_if_ne (pc := 184) (tgt := 189) hX dX6_sentence_184 (by decide) (fun h184 => ?_) (fun h184 => ?_)
            · rw [h184, if_pos rfl] at T56
              have L184 := nm_le (skp_le hk2) h184
              obtain ⟨ke, vs, E1, E2, E3, E4, E5, E6⟩ : ∃ ke vs, rdN x (wArg w) k2 = .ok (ke, vs) ∧ ke ≤ x.1 ∧ D56.1 20 7 = oI (ke : Int) ∧ Gr D D56 ∧ D56.1 20 18 = oI (nmA x (skp x k0)) ∧ ∀ j, j < vs.length → D56.1 26 j = oI (vs.getD j 0) :=
                ⟨nmN x (skp x k2), [nmA x (skp x k2)], by rw [wArg, if_pos (by omega), rdN_t h184]; rfl, L184.2.1, T56, C56, B56, fun j hj => by
                  obtain rfl : j = 0 := by have hj : j < 1 := hj; omega
                  exact V56⟩
              have hse := skp_le E2
              have hbe := hT.rg (skp x ke)
              refine V_aload_n (pc := 189) (j := 0) hX 0 rfl rfl dX6_sentence_189 ?_
              refine cVV0 (pc := 190) hX (c_X6_skips (x := x) (k0 := ke) (hT.gr E4) E2 E3) (by decide) st_X6_206 ix_20 rfl rfl rfl (Nat.le_of_ble_eq_true rfl) dX6_sentence_190 ?_
              refine V_aload_n (pc := 193) (j := 0) hX 0 rfl rfl dX6_sentence_193 ?_
              refine V_aload_n (pc := 194) (j := 0) hX 0 rfl rfl dX6_sentence_194 ?_
              refine gf_X6_200 (pc := 195) hX dX6_sentence_195 ?_
              refine V_oI (((skp x ke : Nat)) : Int) (atU_at _ _) ?_
              refine cVI1 (pc := 198) hX (c_X6_byteAt (x := x) (k := skp x ke) (hT.gr (E4.tr (atU_gr _ _))) (by omega)) (by decide) st_X6_203 ix_20 rfl rfl rfl (Nat.le_of_ble_eq_true rfl) dX6_sentence_198 ?_
              refine V_bipush (pc := 201) (z := 59) hX (oI 59) (by decide) dX6_sentence_201 ?_
              refine Z_icmp_eq (pc := 203) (tgt := 208) hX (by omega) (by omega) dX6_sentence_203 (by decide) (fun h203 => ?_) (fun h203 => ?_)
              · refine V_aload_n (pc := 208) (j := 0) hX 0 rfl rfl dX6_sentence_208 ?_
                refine V_dup (pc := 209) hX rfl dX6_sentence_209 ?_
                refine gf_X6_200 (pc := 210) hX dX6_sentence_210 ?_
                refine V_oI (((skp x ke : Nat)) : Int) (atU_at _ _) ?_
                refine V_iconst (pc := 213) (z := 1) hX (oI 1) rfl dX6_sentence_213 ?_
                refine Z_iadd (pc := 214) hX dX6_sentence_214 ?_
                refine V_oI (((skp x ke + 1 : Nat)) : Int) (congrArg oI (by omega)) ?_
                refine pf_X6_200 (pc := 215) hX dX6_sentence_215 ?_
                refine V_heap (D' := atU _ (skp x ke + 1)) (atU_up _ (skp x ke) (skp x ke + 1)) ?_
                refine V_iload_n (pc := 218) (j := 1) hX 1 rfl rfl dX6_sentence_218 ?_
                refine V_iret (pc := 219) hX hR dX6_sentence_219 ?_
                exact ⟨_, rfl, SenP_o (E4.tr (atU_gr _ _)) (by rw [senR, if_pos h7, hwd, senV, if_neg (by omega)]; show senW x _ w (rdN x (wArg w) k2) = _; rw [E1]; exact if_pos h203) (by rw [Int.toNat_of_nonneg (by omega)]) (atU_at _ _) (by rw [Int.toNat_of_nonneg (by omega)]; exact E5) E6⟩
              · refine V_iconst (pc := 206) (z := (-1)) hX (oI (-1)) rfl dX6_sentence_206 ?_
                refine V_iret (pc := 207) hX hR dX6_sentence_207 ?_
                exact ⟨_, rfl, SenP_e (e := skp x ke) (E4.tr (atU_gr _ _)) (by rw [senR, if_pos h7, hwd, senV, if_neg (by omega)]; show senW x _ w (rdN x (wArg w) k2) = _; rw [E1]; exact if_neg h203) rfl (atU_at _ _)⟩
            · refine V_iconst (pc := 187) (z := (-1)) hX (oI (-1)) rfl dX6_sentence_187 ?_
              refine V_iret (pc := 188) hX hR dX6_sentence_188 ?_
              rw [h184, if_neg (by decide)] at T56
              exact ⟨_, rfl, SenP_e (e := skp x k2) C56 (by rw [senR, if_pos h7, hwd, senV, if_neg (by omega)]; show senW x _ w (rdN x (wArg w) k2) = _; rw [wArg, if_pos (by omega), rdN_f h184]; rfl) rfl T56⟩
  · rw [h7, if_neg (by decide)] at T4
    refine V_iconst (pc := 10) (z := (-1)) hX (oI (-1)) rfl dX6_sentence_10 ?_
    refine V_iret (pc := 11) hX hR dX6_sentence_11 ?_
    exact ⟨_, rfl, SenP_e G4 (by rw [senR, if_neg (by rw [h7]; decide)]) rfl T4⟩
