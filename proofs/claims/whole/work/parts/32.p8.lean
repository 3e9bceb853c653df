/-! THE TEXT: its bytes, blanks, numbers -/
abbrev Tx : Type := Nat × (Nat → Int)
def TX (D : Dt) (x : Tx) : Prop := D.1 20 3 = oI (x.1 : Int) ∧ x.1 ≤ 120 ∧ ∀ k, k < x.1 → D.1 23 k = oI (x.2 k) ∧ 0 ≤ x.2 k ∧ x.2 k < 128
def byt (x : Tx) (k : Nat) : Int := if k < x.1 then x.2 k else -1
theorem TX.rg {D : Dt} {x : Tx} (h : TX D x) (k : Nat) : -1 ≤ byt x k ∧ byt x k < 128 := by
  unfold byt
  split
  · rename_i hk
    have := h.2.2 k hk
    omega
  · omega
theorem byt_lt {x : Tx} {k : Nat} {c : Int} (h : byt x k = c) (hc : 0 ≤ c) : k < x.1 := by
  unfold byt at h
  split at h
  · assumption
  · omega
theorem byt_in {x : Tx} {k : Nat} (h : k < x.1) : byt x k = x.2 k := if_pos h
def skF (x : Tx) : Nat → Nat → Nat
  | 0, k => k
  | m + 1, k => if byt x k = 32 then skF x m (k + 1) else k
def skp (x : Tx) (k : Nat) : Nat := skF x (x.1 - k) k
theorem skp_t {x : Tx} {k : Nat} (h : byt x k = 32) : skp x k = skp x (k + 1) := by
  have hk := byt_lt h (by omega)
  rw [skp, show x.1 - k = (x.1 - (k + 1)) + 1 by omega, skF, if_pos h]
  rfl
theorem skp_f {x : Tx} {k : Nat} (h : byt x k ≠ 32) : skp x k = k := by
  rw [skp]
  cases x.1 - k with
  | zero => rfl
  | succ m => rw [skF, if_neg h]
theorem skF_ge (x : Tx) : ∀ m k, k ≤ skF x m k ∧ skF x m k ≤ k + m := by
  intro m
  induction m with
  | zero => intro k; exact ⟨Nat.le_refl _, Nat.le_refl _⟩
  | succ m ih =>
    intro k
    rw [skF]
    split
    · have := ih (k + 1); omega
    · omega
theorem skp_ge (x : Tx) (k : Nat) : k ≤ skp x k := (skF_ge x _ k).1
theorem skp_le {x : Tx} {k : Nat} (h : k ≤ x.1) : skp x k ≤ x.1 := by
  have := (skF_ge x (x.1 - k) k).2
  unfold skp
  omega
/-- only what reading a text needs has changed -/
def Gr (D D' : Dt) : Prop := (∀ t, t ≠ 20 → t ≠ 26 → D'.1 t = D.1 t) ∧ (∀ j, j ≠ 7 → j ≠ 18 → D'.1 20 j = D.1 20 j) ∧ D'.2 = D.2
theorem Gr.rf (D : Dt) : Gr D D := ⟨fun _ _ _ => rfl, fun _ _ _ => rfl, rfl⟩
theorem Gr.tr {D D1 D2 : Dt} (h : Gr D D1) (k : Gr D1 D2) : Gr D D2 := ⟨fun t ht hu => (k.1 t ht hu).trans (h.1 t ht hu), fun j hj hk => (k.2.1 j hj hk).trans (h.2.1 j hj hk), k.2.2.trans h.2.2⟩
theorem TX.gr {D D' : Dt} {x : Tx} (h : TX D x) (k : Gr D D') : TX D' x := ⟨by rw [k.2.1 3 (by decide) (by decide)]; exact h.1, h.2.1, fun j hj => by rw [k.1 23 (by decide) (by decide)]; exact h.2.2 j hj⟩
def atU (D : Dt) (k : Nat) : Dt := rU D 20 (upd (D.1 20) 7 (oI (k : Int)))
theorem atU_at (D : Dt) (k : Nat) : (atU D k).1 20 7 = oI (k : Int) := rfl
theorem atU_gr (D : Dt) (k : Nat) : Gr D (atU D k) := by
  refine ⟨fun t ht _ => rU_ne D _ ht, fun j hj _ => ?_, rfl⟩
  rw [atU, rU_get, upd_at, if_neg hj]
theorem atU_up (D : Dt) (k q : Nat) : rU (atU D k) 20 (upd ((atU D k).1 20) 7 (oI (q : Int))) = atU D q := by
  unfold atU
  rw [rU_rU, rU_get]
  congr 1
  funext j
  rw [upd_at, upd_at, upd_at]
  split <;> rfl
theorem atU_self {D : Dt} {k : Nat} (h : D.1 20 7 = oI (k : Int)) : atU D k = D := by rw [atU, upd_self h, rU_self]
theorem c_X6_byteAt {E : Le} {l : Launch} {D : Dt} {x : Tx} {k : Nat} (hT : TX D x) (hk : k < 10000) : ConI E l yX6_byteAt cX6_byteAt 2 (some .int) 1 [.ref (E.1 (20, 0)), .int (oI (k : Int))] D (oI (byt x k)) D := by
  refine Con_of (by decide) (Nat.le_of_ble_eq_true rfl) ?_
  intro X hX hR hl; subst hl
  have h12 := hT.2.1
  refine V_iload_n (pc := 0) (j := 1) hX 1 rfl rfl dX6_byteAt_0 ?_
  refine V_aload_n (pc := 1) (j := 0) hX 0 rfl rfl dX6_byteAt_1 ?_
  refine gf_X6_197 (pc := 2) hX dX6_byteAt_2 ?_
  refine V_oI (x.1 : Int) hT.1 ?_
  refine Z_icmp_ge (pc := 5) (tgt := 17) hX (by omega) (by omega) dX6_byteAt_5 (by decide) (fun h5 => ?_) (fun h5 => ?_)
  · refine V_iconst (pc := 17) (z := (-1)) hX (oI (-1)) rfl dX6_byteAt_17 ?_
    refine V_iret (pc := 18) hX hR dX6_byteAt_18 ?_
    exact ⟨some_int (by rw [byt, if_neg (by omega)]), rfl⟩
  · refine V_aload_n (pc := 8) (j := 0) hX 0 rfl rfl dX6_byteAt_8 ?_
    refine gf_X6_17 (pc := 9) hX dX6_byteAt_9 ?_
    refine V_iload_n (pc := 12) (j := 1) hX 1 rfl rfl dX6_byteAt_12 ?_
    refine zl_23 (pc := 13) hX _ rfl (by omega) dX6_byteAt_13 ?_
    refine V_oI (x.2 k) (hT.2.2 k (by omega)).1 ?_
    refine V_goto (pc := 14) (off := 4) (tgt := 18) hX (by decide) dX6_byteAt_14 ?_
    refine V_iret (pc := 18) hX hR dX6_byteAt_18 ?_
    exact ⟨some_int (by rw [byt, if_pos (by omega)]), rfl⟩
theorem c_X6_isDigit {E : Le} {l : Launch} {D : Dt} {c : Int} (hc : Rg c) : ConI E l yX6_isDigit cX6_isDigit 1 (some .boolean) 2 [.int (oI c)] D (bI (inB c 48 57)) D := by
  refine Con_of (by decide) (Nat.le_of_ble_eq_true rfl) ?_
  intro X hX hR hl; subst hl
  refine V_iload_n (pc := 0) (j := 0) hX 0 rfl rfl dX6_isDigit_0 ?_
  refine V_bipush (pc := 1) (z := 48) hX (oI 48) (by decide) dX6_isDigit_1 ?_
  refine V_bipush (pc := 3) (z := 57) hX (oI 57) (by decide) dX6_isDigit_3 ?_
  refine cSI3 (pc := 5) hX (c_X6_in (by omega) (by omega) (by omega)) (by decide) st_X6_33 (Nat.le_of_ble_eq_true rfl) dX6_isDigit_5 ?_
  refine V_zret (pc := 8) hX hR (bI_nar _) dX6_isDigit_8 ?_
  exact ⟨rfl, rfl⟩
theorem c_X6_skips {E : Le} {l : Launch} {D : Dt} {x : Tx} {k0 : Nat} (hT : TX D x) (hk : k0 ≤ x.1) (h7 : D.1 20 7 = oI (k0 : Int)) : ConV E l yX6_skips cX6_skips 1 none 2 [.ref (E.1 (20, 0))] D (atU D (skp x k0)) := by
  refine Con_of (by decide) (Nat.le_of_ble_eq_true rfl) ?_
  intro X hX hR hl; subst hl
  have loop : ∀ (m : Nat) (k : Nat), k ≤ x.1 → skp x k = skp x k0 → x.1 - k < m → Vw E X 1 (atU D k) 0 [(0, some (.ref (E.1 (20, 0))))] [] := by
    intro m
    induction m with
    | zero => intro k g1 g2 g3; omega
    | succ m ih =>
      intro k g1 g2 g3
      have h12 := hT.2.1
      refine V_aload_n (pc := 0) (j := 0) hX 0 rfl rfl dX6_skips_0 ?_
      refine V_aload_n (pc := 1) (j := 0) hX 0 rfl rfl dX6_skips_1 ?_
      refine gf_X6_200 (pc := 2) hX dX6_skips_2 ?_
      refine V_oI (k : Int) (atU_at D k) ?_
      refine cVI1 (pc := 5) hX (c_X6_byteAt (x := x) (k := k) (hT.gr (atU_gr D k)) (by omega)) (by decide) st_X6_203 ix_20 rfl rfl rfl (Nat.le_of_ble_eq_true rfl) dX6_skips_5 ?_
      have hb := hT.rg k
      refine V_bipush (pc := 8) (z := 32) hX (oI 32) (by decide) dX6_skips_8 ?_
      refine Z_icmp_ne (pc := 10) (tgt := 26) hX (by omega) (by omega) dX6_skips_10 (by decide) (fun h10 => ?_) (fun h10 => ?_)
      · refine V_vret (pc := 26) hX hR dX6_skips_26 ?_
        exact ⟨rfl, by rw [← g2, skp_f h10]⟩
      · have hk := byt_lt h10 (by omega)
        refine V_aload_n (pc := 13) (j := 0) hX 0 rfl rfl dX6_skips_13 ?_
        refine V_dup (pc := 14) hX rfl dX6_skips_14 ?_
        refine gf_X6_200 (pc := 15) hX dX6_skips_15 ?_
        refine V_oI (k : Int) (atU_at D k) ?_
        refine V_iconst (pc := 18) (z := 1) hX (oI 1) rfl dX6_skips_18 ?_
        refine Z_iadd (pc := 19) hX dX6_skips_19 ?_
        refine pf_X6_200 (pc := 20) hX dX6_skips_20 ?_
        refine V_heap (D' := atU D (k + 1)) (atU_up D k (k + 1)) ?_
        refine V_goto (pc := 23) (off := (-23)) (tgt := 0) hX (by decide) dX6_skips_23 ?_
        exact ih (k + 1) (by omega) ((skp_t h10).symm.trans g2) (by omega)
  have hs := loop (x.1 - k0 + 1) k0 hk rfl (by omega)
  rw [atU_self h7] at hs
  exact hs
def dgS (x : Tx) : Nat → Nat → Int → Nat × Int
  | 0, k, v => (k, v)
  | m + 1, k, v => if 48 ≤ byt x k ∧ byt x k ≤ 57 then dgS x m (k + 1) (10 * v + byt x k - 48) else (k, v)
/-- a number within bounds: whether it is one, where it goes on, which it is -/
def nmM (x : Tx) (k : Nat) : Bool := decide (byt x k = 45)
def nmF (x : Tx) (k : Nat) : Nat := if nmM x k then k + 1 else k
def nmN (x : Tx) (k : Nat) : Nat := (dgS x 3 (nmF x k) 0).1
def nmA (x : Tx) (k : Nat) : Int := if nmM x k then -(dgS x 3 (nmF x k) 0).2 else (dgS x 3 (nmF x k) 0).2
def nmB (x : Tx) (k : Nat) (lo hi : Int) : Bool := decide (nmF x k < nmN x k ∧ nmN x k - nmF x k < 3 ∧ lo ≤ nmA x k ∧ nmA x k ≤ hi)
/-- what number() answers and leaves -/
def NumP (x : Tx) (D : Dt) (w k : Nat) (lo hi : Int) (r : Int32) (D' : Dt) : Prop := Gr D D' ∧ D'.1 20 18 = D.1 20 18 ∧ (∀ j, j ≠ w → D'.1 26 j = D.1 26 j) ∧ r = bI (nmB x (skp x k) lo hi) ∧ D'.1 20 7 = oI ((if nmB x (skp x k) lo hi then nmN x (skp x k) else skp x k : Nat) : Int) ∧ D'.1 26 w = oI (nmA x (skp x k))
theorem Num_mk {x : Tx} {D : Dt} {w k : Nat} {lo hi : Int} {b : Bool} {v : Int} {q : Nat} (hb : nmB x (skp x k) lo hi = b) (hv : nmA x (skp x k) = v) (hq : q = if b then nmN x (skp x k) else skp x k) : NumP x D w k lo hi (bI b) (atU (rU (atU D (skp x k)) 26 (upd ((atU D (skp x k)).1 26) w (oI v))) q) := by
  refine ⟨⟨fun t h20 h26 => ?_, fun j h7 h18 => ?_, rfl⟩, ?_, fun j hj => ?_, by rw [hb], by rw [hb, ← hq]; rfl, ?_⟩
  · rw [atU, rU_ne _ _ h20, rU_ne _ _ h26, atU, rU_ne _ _ h20]
  · exact ((atU_gr _ _).2.1 j h7 h18).trans (((congrFun (rU_ne _ _ (by decide)) j)).trans ((atU_gr _ _).2.1 j h7 h18))
  · rfl
  · show upd ((atU D (skp x k)).1 26) w (oI v) j = _
    rw [upd_at, if_neg hj]; rfl
  · show upd ((atU D (skp x k)).1 26) w (oI v) w = _
    rw [upd_at, if_pos rfl, hv]
theorem c_X6_number {E : Le} {l : Launch} {D : Dt} {x : Tx} {w k0 : Nat} {lo hi : Int} (hw : w < 4) (r_l : Rg lo) (r_h : Rg hi) (hT : TX D x) (h_k : k0 ≤ x.1) (h7 : D.1 20 7 = oI (k0 : Int)) : ConIp E l yX6_number cX6_number 9 (some .boolean) 3 [.ref (E.1 (20, 0)), .int (oI (w : Int)), .int (oI lo), .int (oI hi)] D (NumP x D w k0 lo hi) := by
  refine Con_of (by decide) (Nat.le_of_ble_eq_true rfl) ?_
  intro X hX hR hl; subst hl
  have h12 := hT.2.1
  have hsk := skp_le h_k
  have hT1 := hT.gr (atU_gr D (skp x k0))
  have loop : ∀ (mi : Bool) (f : Nat), f ≤ x.1 + 1 → mi = nmM x (skp x k0) → f = nmF x (skp x k0) → ∀ (m : Nat) (k : Nat) (v : Int), f ≤ k → k ≤ f + 3 → 0 ≤ v → ((k = f ∧ v ≤ 0) ∨ (k = f + 1 ∧ v ≤ 9) ∨ (k = f + 2 ∧ v ≤ 99) ∨ (k = f + 3 ∧ v ≤ 999)) → dgS x (3 - (k - f)) k v = dgS x 3 f 0 → f + 3 - k < m → Vw E X 9 (atU D (skp x k0)) 51 [(0, some (.ref (E.1 (20, 0)))), (1, some (.int (oI (w : Int)))), (2, some (.int (oI lo))), (3, some (.int (oI hi))), (4, some (.int (bI mi))), (5, some (.int (oI (f : Int)))), (6, some (.int (oI (k : Int)))), (7, some (.int (oI v)))] [] := by
    intro mi f hfl hm hf m
    induction m with
    | zero => intro k v g1 g2 g3 g4 g5 g6; omega
    | succ m ih =>
      intro k v g1 g2 g3 g4 g5 g6
      have hb := hT.rg k
      refine V_aload_n (pc := 51) (j := 0) hX 0 rfl rfl dX6_number_51 ?_
      refine V_iload (pc := 52) hX rfl dX6_number_52 ?_
      refine cVI1 (pc := 54) hX (c_X6_byteAt (x := x) (k := k) hT1 (by omega)) (by decide) st_X6_203 ix_20 rfl rfl rfl (Nat.le_of_ble_eq_true rfl) dX6_number_54 ?_
      refine cSI1 (pc := 57) hX (c_X6_isDigit (by omega)) (by decide) st_X6_209 (Nat.le_of_ble_eq_true rfl) dX6_number_57 ?_
      refine B_if_eq (pc := 60) (tgt := 96) hX dX6_number_60 (by decide) (fun h60 => ?_) (fun h60 => ?_)
      · have q60 := inB_f.mp h60
        refine V_iload (pc := 96) hX rfl dX6_number_96 ?_
        refine B_if_eq (pc := 98) (tgt := 107) hX dX6_number_98 (by decide) (fun h98 => ?_) (fun h98 => ?_)
        · refine V_iload (pc := 107) hX rfl dX6_number_107 ?_
          refine V_istore (pc := 109) hX (by decide) rfl dX6_number_109 ?_
          refine V_iload (pc := 111) hX rfl dX6_number_111 ?_
          refine V_iload (pc := 113) hX rfl dX6_number_113 ?_
          refine Z_icmp_le (pc := 115) (tgt := 141) hX (by omega) (by omega) dX6_number_115 (by decide) (fun h115 => ?_) (fun h115 => ?_)
          · refine V_iconst (pc := 141) (z := 0) hX (oI 0) rfl dX6_number_141 ?_
            refine V_istore (pc := 142) hX (by decide) rfl dX6_number_142 ?_
            refine V_aload_n (pc := 144) (j := 0) hX 0 rfl rfl dX6_number_144 ?_
            refine gf_X6_26 (pc := 145) hX dX6_number_145 ?_
            refine V_iload_n (pc := 148) (j := 1) hX 1 rfl rfl dX6_number_148 ?_
            refine V_iload (pc := 149) hX rfl dX6_number_149 ?_
            refine zs_26 (pc := 151) hX (w) (by omega) (by omega) dX6_number_151 ?_
            refine V_aload_n (pc := 152) (j := 0) hX 0 rfl rfl dX6_number_152 ?_
            refine V_iload (pc := 153) hX rfl dX6_number_153 ?_
            refine Z_if_eq (pc := 155) (tgt := 163) hX (by omega) dX6_number_155 (by decide) (fun _ => ?_) (fun h => absurd h (by decide))
            refine V_aload_n (pc := 163) (j := 0) hX 0 rfl rfl dX6_number_163 ?_
            refine gf_X6_200 (pc := 164) hX dX6_number_164 ?_
            refine V_oI (((skp x k0 : Nat)) : Int) rfl ?_
            refine pf_X6_200 (pc := 167) hX dX6_number_167 ?_
            refine V_iload (pc := 170) hX rfl dX6_number_170 ?_
            refine V_zret (pc := 172) hX hR (by decide) dX6_number_172 ?_
            have hd2 : dgS x (3 - (k - f)) k v = (k, v) := by
              first | rw [show 3 - (k - f) = 0 by omega]; rfl | (rw [show 3 - (k - f) = (2 - (k - f)) + 1 by omega, dgS, if_neg (by omega)])
            rw [hd2] at g5
            have e1 : nmN x (skp x k0) = k := by rw [nmN, ← hf, ← g5]
            have e2 : nmA x (skp x k0) = v := by rw [nmA, ← hm, h98, ← hf, ← g5]; rfl
            have e3 : nmB x (skp x k0) lo hi = false := by rw [nmB, e1, e2, ← hf]; exact decide_eq_false (by omega)
            exact ⟨_, rfl, by have h := Num_mk (D := D) (w := w) (q := (skp x k0)) e3 e2 (by rfl); exact h⟩
          · refine V_iload (pc := 118) hX rfl dX6_number_118 ?_
            refine V_iload (pc := 120) hX rfl dX6_number_120 ?_
            refine Z_isub (pc := 122) hX dX6_number_122 ?_
            refine V_iconst (pc := 123) (z := 3) hX (oI 3) rfl dX6_number_123 ?_
            refine Z_icmp_ge (pc := 124) (tgt := 141) hX (by omega) (by omega) dX6_number_124 (by decide) (fun h124 => ?_) (fun h124 => ?_)
            · refine V_iconst (pc := 141) (z := 0) hX (oI 0) rfl dX6_number_141 ?_
              refine V_istore (pc := 142) hX (by decide) rfl dX6_number_142 ?_
              refine V_aload_n (pc := 144) (j := 0) hX 0 rfl rfl dX6_number_144 ?_
              refine gf_X6_26 (pc := 145) hX dX6_number_145 ?_
              refine V_iload_n (pc := 148) (j := 1) hX 1 rfl rfl dX6_number_148 ?_
              refine V_iload (pc := 149) hX rfl dX6_number_149 ?_
              refine zs_26 (pc := 151) hX (w) (by omega) (by omega) dX6_number_151 ?_
              refine V_aload_n (pc := 152) (j := 0) hX 0 rfl rfl dX6_number_152 ?_
              refine V_iload (pc := 153) hX rfl dX6_number_153 ?_
              refine Z_if_eq (pc := 155) (tgt := 163) hX (by omega) dX6_number_155 (by decide) (fun _ => ?_) (fun h => absurd h (by decide))
              refine V_aload_n (pc := 163) (j := 0) hX 0 rfl rfl dX6_number_163 ?_
              refine gf_X6_200 (pc := 164) hX dX6_number_164 ?_
              refine V_oI (((skp x k0 : Nat)) : Int) rfl ?_
              refine pf_X6_200 (pc := 167) hX dX6_number_167 ?_
              refine V_iload (pc := 170) hX rfl dX6_number_170 ?_
              refine V_zret (pc := 172) hX hR (by decide) dX6_number_172 ?_
              have hd2 : dgS x (3 - (k - f)) k v = (k, v) := by
                first | rw [show 3 - (k - f) = 0 by omega]; rfl | (rw [show 3 - (k - f) = (2 - (k - f)) + 1 by omega, dgS, if_neg (by omega)])
              rw [hd2] at g5
              have e1 : nmN x (skp x k0) = k := by rw [nmN, ← hf, ← g5]
              have e2 : nmA x (skp x k0) = v := by rw [nmA, ← hm, h98, ← hf, ← g5]; rfl
              have e3 : nmB x (skp x k0) lo hi = false := by rw [nmB, e1, e2, ← hf]; exact decide_eq_false (by omega)
              exact ⟨_, rfl, by have h := Num_mk (D := D) (w := w) (q := (skp x k0)) e3 e2 (by rfl); exact h⟩
            · refine V_iload (pc := 127) hX rfl dX6_number_127 ?_
              refine V_iload_n (pc := 129) (j := 2) hX 2 rfl rfl dX6_number_129 ?_
              refine V_iload_n (pc := 130) (j := 3) hX 3 rfl rfl dX6_number_130 ?_
              refine cSI3 (pc := 131) hX (c_X6_in (by omega) (by omega) (by omega)) (by decide) st_X6_33 (Nat.le_of_ble_eq_true rfl) dX6_number_131 ?_
              refine B_if_eq (pc := 134) (tgt := 141) hX dX6_number_134 (by decide) (fun h134 => ?_) (fun h134 => ?_)
              · have q134 := inB_f.mp h134
                refine V_iconst (pc := 141) (z := 0) hX (oI 0) rfl dX6_number_141 ?_
                refine V_istore (pc := 142) hX (by decide) rfl dX6_number_142 ?_
                refine V_aload_n (pc := 144) (j := 0) hX 0 rfl rfl dX6_number_144 ?_
                refine gf_X6_26 (pc := 145) hX dX6_number_145 ?_
                refine V_iload_n (pc := 148) (j := 1) hX 1 rfl rfl dX6_number_148 ?_
                refine V_iload (pc := 149) hX rfl dX6_number_149 ?_
                refine zs_26 (pc := 151) hX (w) (by omega) (by omega) dX6_number_151 ?_
                refine V_aload_n (pc := 152) (j := 0) hX 0 rfl rfl dX6_number_152 ?_
                refine V_iload (pc := 153) hX rfl dX6_number_153 ?_
                refine Z_if_eq (pc := 155) (tgt := 163) hX (by omega) dX6_number_155 (by decide) (fun _ => ?_) (fun h => absurd h (by decide))
                refine V_aload_n (pc := 163) (j := 0) hX 0 rfl rfl dX6_number_163 ?_
                refine gf_X6_200 (pc := 164) hX dX6_number_164 ?_
                refine V_oI (((skp x k0 : Nat)) : Int) rfl ?_
                refine pf_X6_200 (pc := 167) hX dX6_number_167 ?_
                refine V_iload (pc := 170) hX rfl dX6_number_170 ?_
                refine V_zret (pc := 172) hX hR (by decide) dX6_number_172 ?_
                have hd2 : dgS x (3 - (k - f)) k v = (k, v) := by
                  first | rw [show 3 - (k - f) = 0 by omega]; rfl | (rw [show 3 - (k - f) = (2 - (k - f)) + 1 by omega, dgS, if_neg (by omega)])
                rw [hd2] at g5
                have e1 : nmN x (skp x k0) = k := by rw [nmN, ← hf, ← g5]
                have e2 : nmA x (skp x k0) = v := by rw [nmA, ← hm, h98, ← hf, ← g5]; rfl
                have e3 : nmB x (skp x k0) lo hi = false := by rw [nmB, e1, e2, ← hf]; exact decide_eq_false (by omega)
                exact ⟨_, rfl, by have h := Num_mk (D := D) (w := w) (q := (skp x k0)) e3 e2 (by rfl); exact h⟩
              · have q134 := inB_t.mp h134
                refine V_iconst (pc := 137) (z := 1) hX (oI 1) rfl dX6_number_137 ?_
                refine V_goto (pc := 138) (off := 4) (tgt := 142) hX (by decide) dX6_number_138 ?_
                refine V_istore (pc := 142) hX (by decide) rfl dX6_number_142 ?_
                refine V_aload_n (pc := 144) (j := 0) hX 0 rfl rfl dX6_number_144 ?_
                refine gf_X6_26 (pc := 145) hX dX6_number_145 ?_
                refine V_iload_n (pc := 148) (j := 1) hX 1 rfl rfl dX6_number_148 ?_
                refine V_iload (pc := 149) hX rfl dX6_number_149 ?_
                refine zs_26 (pc := 151) hX (w) (by omega) (by omega) dX6_number_151 ?_
                refine V_aload_n (pc := 152) (j := 0) hX 0 rfl rfl dX6_number_152 ?_
                refine V_iload (pc := 153) hX rfl dX6_number_153 ?_
                refine Z_if_eq (pc := 155) (tgt := 163) hX (by omega) dX6_number_155 (by decide) (fun h => absurd h (by decide)) (fun _ => ?_)
                refine V_iload (pc := 158) hX rfl dX6_number_158 ?_
                refine V_goto (pc := 160) (off := 7) (tgt := 167) hX (by decide) dX6_number_160 ?_
                refine V_oI ((k : Nat) : Int) rfl ?_
                refine pf_X6_200 (pc := 167) hX dX6_number_167 ?_
                refine V_iload (pc := 170) hX rfl dX6_number_170 ?_
                refine V_zret (pc := 172) hX hR (by decide) dX6_number_172 ?_
                have hd2 : dgS x (3 - (k - f)) k v = (k, v) := by
                  first | rw [show 3 - (k - f) = 0 by omega]; rfl | (rw [show 3 - (k - f) = (2 - (k - f)) + 1 by omega, dgS, if_neg (by omega)])
                rw [hd2] at g5
                have e1 : nmN x (skp x k0) = k := by rw [nmN, ← hf, ← g5]
                have e2 : nmA x (skp x k0) = v := by rw [nmA, ← hm, h98, ← hf, ← g5]; rfl
                have e3 : nmB x (skp x k0) lo hi = true := by rw [nmB, e1, e2, ← hf]; exact decide_eq_true (by omega)
                exact ⟨_, rfl, by have h := Num_mk (D := D) (w := w) (q := k) e3 e2 (by rw [e1]; rfl); exact h⟩
        · refine V_iload (pc := 101) hX rfl dX6_number_101 ?_
          refine Z_ineg (pc := 103) hX dX6_number_103 ?_
          refine V_goto (pc := 104) (off := 5) (tgt := 109) hX (by decide) dX6_number_104 ?_
          refine V_istore (pc := 109) hX (by decide) rfl dX6_number_109 ?_
          refine V_iload (pc := 111) hX rfl dX6_number_111 ?_
          refine V_iload (pc := 113) hX rfl dX6_number_113 ?_
          refine Z_icmp_le (pc := 115) (tgt := 141) hX (by omega) (by omega) dX6_number_115 (by decide) (fun h115 => ?_) (fun h115 => ?_)
          · refine V_iconst (pc := 141) (z := 0) hX (oI 0) rfl dX6_number_141 ?_
            refine V_istore (pc := 142) hX (by decide) rfl dX6_number_142 ?_
            refine V_aload_n (pc := 144) (j := 0) hX 0 rfl rfl dX6_number_144 ?_
            refine gf_X6_26 (pc := 145) hX dX6_number_145 ?_
            refine V_iload_n (pc := 148) (j := 1) hX 1 rfl rfl dX6_number_148 ?_
            refine V_iload (pc := 149) hX rfl dX6_number_149 ?_
            refine zs_26 (pc := 151) hX (w) (by omega) (by omega) dX6_number_151 ?_
            refine V_aload_n (pc := 152) (j := 0) hX 0 rfl rfl dX6_number_152 ?_
            refine V_iload (pc := 153) hX rfl dX6_number_153 ?_
            refine Z_if_eq (pc := 155) (tgt := 163) hX (by omega) dX6_number_155 (by decide) (fun _ => ?_) (fun h => absurd h (by decide))
            refine V_aload_n (pc := 163) (j := 0) hX 0 rfl rfl dX6_number_163 ?_
            refine gf_X6_200 (pc := 164) hX dX6_number_164 ?_
            refine V_oI (((skp x k0 : Nat)) : Int) rfl ?_
            refine pf_X6_200 (pc := 167) hX dX6_number_167 ?_
            refine V_iload (pc := 170) hX rfl dX6_number_170 ?_
            refine V_zret (pc := 172) hX hR (by decide) dX6_number_172 ?_
            have hd2 : dgS x (3 - (k - f)) k v = (k, v) := by
              first | rw [show 3 - (k - f) = 0 by omega]; rfl | (rw [show 3 - (k - f) = (2 - (k - f)) + 1 by omega, dgS, if_neg (by omega)])
            rw [hd2] at g5
            have e1 : nmN x (skp x k0) = k := by rw [nmN, ← hf, ← g5]
            have e2 : nmA x (skp x k0) = -v := by rw [nmA, ← hm, h98, ← hf, ← g5]; rfl
            have e3 : nmB x (skp x k0) lo hi = false := by rw [nmB, e1, e2, ← hf]; exact decide_eq_false (by omega)
            exact ⟨_, rfl, by have h := Num_mk (D := D) (w := w) (q := (skp x k0)) e3 e2 (by rfl); exact h⟩
          · refine V_iload (pc := 118) hX rfl dX6_number_118 ?_
            refine V_iload (pc := 120) hX rfl dX6_number_120 ?_
            refine Z_isub (pc := 122) hX dX6_number_122 ?_
            refine V_iconst (pc := 123) (z := 3) hX (oI 3) rfl dX6_number_123 ?_
            refine Z_icmp_ge (pc := 124) (tgt := 141) hX (by omega) (by omega) dX6_number_124 (by decide) (fun h124 => ?_) (fun h124 => ?_)
            · refine V_iconst (pc := 141) (z := 0) hX (oI 0) rfl dX6_number_141 ?_
              refine V_istore (pc := 142) hX (by decide) rfl dX6_number_142 ?_
              refine V_aload_n (pc := 144) (j := 0) hX 0 rfl rfl dX6_number_144 ?_
              refine gf_X6_26 (pc := 145) hX dX6_number_145 ?_
              refine V_iload_n (pc := 148) (j := 1) hX 1 rfl rfl dX6_number_148 ?_
              refine V_iload (pc := 149) hX rfl dX6_number_149 ?_
              refine zs_26 (pc := 151) hX (w) (by omega) (by omega) dX6_number_151 ?_
              refine V_aload_n (pc := 152) (j := 0) hX 0 rfl rfl dX6_number_152 ?_
              refine V_iload (pc := 153) hX rfl dX6_number_153 ?_
              refine Z_if_eq (pc := 155) (tgt := 163) hX (by omega) dX6_number_155 (by decide) (fun _ => ?_) (fun h => absurd h (by decide))
              refine V_aload_n (pc := 163) (j := 0) hX 0 rfl rfl dX6_number_163 ?_
              refine gf_X6_200 (pc := 164) hX dX6_number_164 ?_
              refine V_oI (((skp x k0 : Nat)) : Int) rfl ?_
              refine pf_X6_200 (pc := 167) hX dX6_number_167 ?_
              refine V_iload (pc := 170) hX rfl dX6_number_170 ?_
              refine V_zret (pc := 172) hX hR (by decide) dX6_number_172 ?_
              have hd2 : dgS x (3 - (k - f)) k v = (k, v) := by
                first | rw [show 3 - (k - f) = 0 by omega]; rfl | (rw [show 3 - (k - f) = (2 - (k - f)) + 1 by omega, dgS, if_neg (by omega)])
              rw [hd2] at g5
              have e1 : nmN x (skp x k0) = k := by rw [nmN, ← hf, ← g5]
              have e2 : nmA x (skp x k0) = -v := by rw [nmA, ← hm, h98, ← hf, ← g5]; rfl
              have e3 : nmB x (skp x k0) lo hi = false := by rw [nmB, e1, e2, ← hf]; exact decide_eq_false (by omega)
              exact ⟨_, rfl, by have h := Num_mk (D := D) (w := w) (q := (skp x k0)) e3 e2 (by rfl); exact h⟩
            · refine V_iload (pc := 127) hX rfl dX6_number_127 ?_
              refine V_iload_n (pc := 129) (j := 2) hX 2 rfl rfl dX6_number_129 ?_
              refine V_iload_n (pc := 130) (j := 3) hX 3 rfl rfl dX6_number_130 ?_
              refine cSI3 (pc := 131) hX (c_X6_in (by omega) (by omega) (by omega)) (by decide) st_X6_33 (Nat.le_of_ble_eq_true rfl) dX6_number_131 ?_
              refine B_if_eq (pc := 134) (tgt := 141) hX dX6_number_134 (by decide) (fun h134 => ?_) (fun h134 => ?_)
              · have q134 := inB_f.mp h134
                refine V_iconst (pc := 141) (z := 0) hX (oI 0) rfl dX6_number_141 ?_
                refine V_istore (pc := 142) hX (by decide) rfl dX6_number_142 ?_
                refine V_aload_n (pc := 144) (j := 0) hX 0 rfl rfl dX6_number_144 ?_
                refine gf_X6_26 (pc := 145) hX dX6_number_145 ?_
                refine V_iload_n (pc := 148) (j := 1) hX 1 rfl rfl dX6_number_148 ?_
                refine V_iload (pc := 149) hX rfl dX6_number_149 ?_
                refine zs_26 (pc := 151) hX (w) (by omega) (by omega) dX6_number_151 ?_
                refine V_aload_n (pc := 152) (j := 0) hX 0 rfl rfl dX6_number_152 ?_
                refine V_iload (pc := 153) hX rfl dX6_number_153 ?_
                refine Z_if_eq (pc := 155) (tgt := 163) hX (by omega) dX6_number_155 (by decide) (fun _ => ?_) (fun h => absurd h (by decide))
                refine V_aload_n (pc := 163) (j := 0) hX 0 rfl rfl dX6_number_163 ?_
                refine gf_X6_200 (pc := 164) hX dX6_number_164 ?_
                refine V_oI (((skp x k0 : Nat)) : Int) rfl ?_
                refine pf_X6_200 (pc := 167) hX dX6_number_167 ?_
                refine V_iload (pc := 170) hX rfl dX6_number_170 ?_
                refine V_zret (pc := 172) hX hR (by decide) dX6_number_172 ?_
                have hd2 : dgS x (3 - (k - f)) k v = (k, v) := by
                  first | rw [show 3 - (k - f) = 0 by omega]; rfl | (rw [show 3 - (k - f) = (2 - (k - f)) + 1 by omega, dgS, if_neg (by omega)])
                rw [hd2] at g5
                have e1 : nmN x (skp x k0) = k := by rw [nmN, ← hf, ← g5]
                have e2 : nmA x (skp x k0) = -v := by rw [nmA, ← hm, h98, ← hf, ← g5]; rfl
                have e3 : nmB x (skp x k0) lo hi = false := by rw [nmB, e1, e2, ← hf]; exact decide_eq_false (by omega)
                exact ⟨_, rfl, by have h := Num_mk (D := D) (w := w) (q := (skp x k0)) e3 e2 (by rfl); exact h⟩
              · have q134 := inB_t.mp h134
                refine V_iconst (pc := 137) (z := 1) hX (oI 1) rfl dX6_number_137 ?_
                refine V_goto (pc := 138) (off := 4) (tgt := 142) hX (by decide) dX6_number_138 ?_
                refine V_istore (pc := 142) hX (by decide) rfl dX6_number_142 ?_
                refine V_aload_n (pc := 144) (j := 0) hX 0 rfl rfl dX6_number_144 ?_
                refine gf_X6_26 (pc := 145) hX dX6_number_145 ?_
                refine V_iload_n (pc := 148) (j := 1) hX 1 rfl rfl dX6_number_148 ?_
                refine V_iload (pc := 149) hX rfl dX6_number_149 ?_
                refine zs_26 (pc := 151) hX (w) (by omega) (by omega) dX6_number_151 ?_
                refine V_aload_n (pc := 152) (j := 0) hX 0 rfl rfl dX6_number_152 ?_
                refine V_iload (pc := 153) hX rfl dX6_number_153 ?_
                refine Z_if_eq (pc := 155) (tgt := 163) hX (by omega) dX6_number_155 (by decide) (fun h => absurd h (by decide)) (fun _ => ?_)
                refine V_iload (pc := 158) hX rfl dX6_number_158 ?_
                refine V_goto (pc := 160) (off := 7) (tgt := 167) hX (by decide) dX6_number_160 ?_
                refine V_oI ((k : Nat) : Int) rfl ?_
                refine pf_X6_200 (pc := 167) hX dX6_number_167 ?_
                refine V_iload (pc := 170) hX rfl dX6_number_170 ?_
                refine V_zret (pc := 172) hX hR (by decide) dX6_number_172 ?_
                have hd2 : dgS x (3 - (k - f)) k v = (k, v) := by
                  first | rw [show 3 - (k - f) = 0 by omega]; rfl | (rw [show 3 - (k - f) = (2 - (k - f)) + 1 by omega, dgS, if_neg (by omega)])
                rw [hd2] at g5
                have e1 : nmN x (skp x k0) = k := by rw [nmN, ← hf, ← g5]
                have e2 : nmA x (skp x k0) = -v := by rw [nmA, ← hm, h98, ← hf, ← g5]; rfl
                have e3 : nmB x (skp x k0) lo hi = true := by rw [nmB, e1, e2, ← hf]; exact decide_eq_true (by omega)
                exact ⟨_, rfl, by have h := Num_mk (D := D) (w := w) (q := k) e3 e2 (by rw [e1]; rfl); exact h⟩
      · have q60 := inB_t.mp h60
        refine V_iload (pc := 63) hX rfl dX6_number_63 ?_
        refine V_iload (pc := 65) hX rfl dX6_number_65 ?_
        refine Z_isub (pc := 67) hX dX6_number_67 ?_
        refine V_iconst (pc := 68) (z := 3) hX (oI 3) rfl dX6_number_68 ?_
        refine Z_icmp_ge (pc := 69) (tgt := 96) hX (by omega) (by omega) dX6_number_69 (by decide) (fun h69 => ?_) (fun h69 => ?_)
        · refine V_iload (pc := 96) hX rfl dX6_number_96 ?_
          refine B_if_eq (pc := 98) (tgt := 107) hX dX6_number_98 (by decide) (fun h98 => ?_) (fun h98 => ?_)
          · refine V_iload (pc := 107) hX rfl dX6_number_107 ?_
            refine V_istore (pc := 109) hX (by decide) rfl dX6_number_109 ?_
            refine V_iload (pc := 111) hX rfl dX6_number_111 ?_
            refine V_iload (pc := 113) hX rfl dX6_number_113 ?_
            refine Z_icmp_le (pc := 115) (tgt := 141) hX (by omega) (by omega) dX6_number_115 (by decide) (fun h115 => ?_) (fun h115 => ?_)
            · refine V_iconst (pc := 141) (z := 0) hX (oI 0) rfl dX6_number_141 ?_
              refine V_istore (pc := 142) hX (by decide) rfl dX6_number_142 ?_
              refine V_aload_n (pc := 144) (j := 0) hX 0 rfl rfl dX6_number_144 ?_
              refine gf_X6_26 (pc := 145) hX dX6_number_145 ?_
              refine V_iload_n (pc := 148) (j := 1) hX 1 rfl rfl dX6_number_148 ?_
              refine V_iload (pc := 149) hX rfl dX6_number_149 ?_
              refine zs_26 (pc := 151) hX (w) (by omega) (by omega) dX6_number_151 ?_
              refine V_aload_n (pc := 152) (j := 0) hX 0 rfl rfl dX6_number_152 ?_
              refine V_iload (pc := 153) hX rfl dX6_number_153 ?_
              refine Z_if_eq (pc := 155) (tgt := 163) hX (by omega) dX6_number_155 (by decide) (fun _ => ?_) (fun h => absurd h (by decide))
              refine V_aload_n (pc := 163) (j := 0) hX 0 rfl rfl dX6_number_163 ?_
              refine gf_X6_200 (pc := 164) hX dX6_number_164 ?_
              refine V_oI (((skp x k0 : Nat)) : Int) rfl ?_
              refine pf_X6_200 (pc := 167) hX dX6_number_167 ?_
              refine V_iload (pc := 170) hX rfl dX6_number_170 ?_
              refine V_zret (pc := 172) hX hR (by decide) dX6_number_172 ?_
              have hd2 : dgS x (3 - (k - f)) k v = (k, v) := by
                first | rw [show 3 - (k - f) = 0 by omega]; rfl | (rw [show 3 - (k - f) = (2 - (k - f)) + 1 by omega, dgS, if_neg (by omega)])
              rw [hd2] at g5
              have e1 : nmN x (skp x k0) = k := by rw [nmN, ← hf, ← g5]
              have e2 : nmA x (skp x k0) = v := by rw [nmA, ← hm, h98, ← hf, ← g5]; rfl
              have e3 : nmB x (skp x k0) lo hi = false := by rw [nmB, e1, e2, ← hf]; exact decide_eq_false (by omega)
              exact ⟨_, rfl, by have h := Num_mk (D := D) (w := w) (q := (skp x k0)) e3 e2 (by rfl); exact h⟩
            · refine V_iload (pc := 118) hX rfl dX6_number_118 ?_
              refine V_iload (pc := 120) hX rfl dX6_number_120 ?_
              refine Z_isub (pc := 122) hX dX6_number_122 ?_
              refine V_iconst (pc := 123) (z := 3) hX (oI 3) rfl dX6_number_123 ?_
              refine Z_icmp_ge (pc := 124) (tgt := 141) hX (by omega) (by omega) dX6_number_124 (by decide) (fun h124 => ?_) (fun h124 => ?_)
              · refine V_iconst (pc := 141) (z := 0) hX (oI 0) rfl dX6_number_141 ?_
                refine V_istore (pc := 142) hX (by decide) rfl dX6_number_142 ?_
                refine V_aload_n (pc := 144) (j := 0) hX 0 rfl rfl dX6_number_144 ?_
                refine gf_X6_26 (pc := 145) hX dX6_number_145 ?_
                refine V_iload_n (pc := 148) (j := 1) hX 1 rfl rfl dX6_number_148 ?_
                refine V_iload (pc := 149) hX rfl dX6_number_149 ?_
                refine zs_26 (pc := 151) hX (w) (by omega) (by omega) dX6_number_151 ?_
                refine V_aload_n (pc := 152) (j := 0) hX 0 rfl rfl dX6_number_152 ?_
                refine V_iload (pc := 153) hX rfl dX6_number_153 ?_
                refine Z_if_eq (pc := 155) (tgt := 163) hX (by omega) dX6_number_155 (by decide) (fun _ => ?_) (fun h => absurd h (by decide))
                refine V_aload_n (pc := 163) (j := 0) hX 0 rfl rfl dX6_number_163 ?_
                refine gf_X6_200 (pc := 164) hX dX6_number_164 ?_
                refine V_oI (((skp x k0 : Nat)) : Int) rfl ?_
                refine pf_X6_200 (pc := 167) hX dX6_number_167 ?_
                refine V_iload (pc := 170) hX rfl dX6_number_170 ?_
                refine V_zret (pc := 172) hX hR (by decide) dX6_number_172 ?_
                have hd2 : dgS x (3 - (k - f)) k v = (k, v) := by
                  first | rw [show 3 - (k - f) = 0 by omega]; rfl | (rw [show 3 - (k - f) = (2 - (k - f)) + 1 by omega, dgS, if_neg (by omega)])
                rw [hd2] at g5
                have e1 : nmN x (skp x k0) = k := by rw [nmN, ← hf, ← g5]
                have e2 : nmA x (skp x k0) = v := by rw [nmA, ← hm, h98, ← hf, ← g5]; rfl
                have e3 : nmB x (skp x k0) lo hi = false := by rw [nmB, e1, e2, ← hf]; exact decide_eq_false (by omega)
                exact ⟨_, rfl, by have h := Num_mk (D := D) (w := w) (q := (skp x k0)) e3 e2 (by rfl); exact h⟩
              · refine V_iload (pc := 127) hX rfl dX6_number_127 ?_
                refine V_iload_n (pc := 129) (j := 2) hX 2 rfl rfl dX6_number_129 ?_
                refine V_iload_n (pc := 130) (j := 3) hX 3 rfl rfl dX6_number_130 ?_
                refine cSI3 (pc := 131) hX (c_X6_in (by omega) (by omega) (by omega)) (by decide) st_X6_33 (Nat.le_of_ble_eq_true rfl) dX6_number_131 ?_
                refine B_if_eq (pc := 134) (tgt := 141) hX dX6_number_134 (by decide) (fun h134 => ?_) (fun h134 => ?_)
                · have q134 := inB_f.mp h134
                  refine V_iconst (pc := 141) (z := 0) hX (oI 0) rfl dX6_number_141 ?_
                  refine V_istore (pc := 142) hX (by decide) rfl dX6_number_142 ?_
                  refine V_aload_n (pc := 144) (j := 0) hX 0 rfl rfl dX6_number_144 ?_
                  refine gf_X6_26 (pc := 145) hX dX6_number_145 ?_
                  refine V_iload_n (pc := 148) (j := 1) hX 1 rfl rfl dX6_number_148 ?_
                  refine V_iload (pc := 149) hX rfl dX6_number_149 ?_
                  refine zs_26 (pc := 151) hX (w) (by omega) (by omega) dX6_number_151 ?_
                  refine V_aload_n (pc := 152) (j := 0) hX 0 rfl rfl dX6_number_152 ?_
                  refine V_iload (pc := 153) hX rfl dX6_number_153 ?_
                  refine Z_if_eq (pc := 155) (tgt := 163) hX (by omega) dX6_number_155 (by decide) (fun _ => ?_) (fun h => absurd h (by decide))
                  refine V_aload_n (pc := 163) (j := 0) hX 0 rfl rfl dX6_number_163 ?_
                  refine gf_X6_200 (pc := 164) hX dX6_number_164 ?_
                  refine V_oI (((skp x k0 : Nat)) : Int) rfl ?_
                  refine pf_X6_200 (pc := 167) hX dX6_number_167 ?_
                  refine V_iload (pc := 170) hX rfl dX6_number_170 ?_
                  refine V_zret (pc := 172) hX hR (by decide) dX6_number_172 ?_
                  have hd2 : dgS x (3 - (k - f)) k v = (k, v) := by
                    first | rw [show 3 - (k - f) = 0 by omega]; rfl | (rw [show 3 - (k - f) = (2 - (k - f)) + 1 by omega, dgS, if_neg (by omega)])
                  rw [hd2] at g5
                  have e1 : nmN x (skp x k0) = k := by rw [nmN, ← hf, ← g5]
                  have e2 : nmA x (skp x k0) = v := by rw [nmA, ← hm, h98, ← hf, ← g5]; rfl
                  have e3 : nmB x (skp x k0) lo hi = false := by rw [nmB, e1, e2, ← hf]; exact decide_eq_false (by omega)
                  exact ⟨_, rfl, by have h := Num_mk (D := D) (w := w) (q := (skp x k0)) e3 e2 (by rfl); exact h⟩
                · have q134 := inB_t.mp h134
                  refine V_iconst (pc := 137) (z := 1) hX (oI 1) rfl dX6_number_137 ?_
                  refine V_goto (pc := 138) (off := 4) (tgt := 142) hX (by decide) dX6_number_138 ?_
                  refine V_istore (pc := 142) hX (by decide) rfl dX6_number_142 ?_
                  refine V_aload_n (pc := 144) (j := 0) hX 0 rfl rfl dX6_number_144 ?_
                  refine gf_X6_26 (pc := 145) hX dX6_number_145 ?_
                  refine V_iload_n (pc := 148) (j := 1) hX 1 rfl rfl dX6_number_148 ?_
                  refine V_iload (pc := 149) hX rfl dX6_number_149 ?_
                  refine zs_26 (pc := 151) hX (w) (by omega) (by omega) dX6_number_151 ?_
                  refine V_aload_n (pc := 152) (j := 0) hX 0 rfl rfl dX6_number_152 ?_
                  refine V_iload (pc := 153) hX rfl dX6_number_153 ?_
                  refine Z_if_eq (pc := 155) (tgt := 163) hX (by omega) dX6_number_155 (by decide) (fun h => absurd h (by decide)) (fun _ => ?_)
                  refine V_iload (pc := 158) hX rfl dX6_number_158 ?_
                  refine V_goto (pc := 160) (off := 7) (tgt := 167) hX (by decide) dX6_number_160 ?_
                  refine V_oI ((k : Nat) : Int) rfl ?_
                  refine pf_X6_200 (pc := 167) hX dX6_number_167 ?_
                  refine V_iload (pc := 170) hX rfl dX6_number_170 ?_
                  refine V_zret (pc := 172) hX hR (by decide) dX6_number_172 ?_
                  have hd2 : dgS x (3 - (k - f)) k v = (k, v) := by
                    first | rw [show 3 - (k - f) = 0 by omega]; rfl | (rw [show 3 - (k - f) = (2 - (k - f)) + 1 by omega, dgS, if_neg (by omega)])
                  rw [hd2] at g5
                  have e1 : nmN x (skp x k0) = k := by rw [nmN, ← hf, ← g5]
                  have e2 : nmA x (skp x k0) = v := by rw [nmA, ← hm, h98, ← hf, ← g5]; rfl
                  have e3 : nmB x (skp x k0) lo hi = true := by rw [nmB, e1, e2, ← hf]; exact decide_eq_true (by omega)
                  exact ⟨_, rfl, by have h := Num_mk (D := D) (w := w) (q := k) e3 e2 (by rw [e1]; rfl); exact h⟩
          · refine V_iload (pc := 101) hX rfl dX6_number_101 ?_
            refine Z_ineg (pc := 103) hX dX6_number_103 ?_
            refine V_goto (pc := 104) (off := 5) (tgt := 109) hX (by decide) dX6_number_104 ?_
            refine V_istore (pc := 109) hX (by decide) rfl dX6_number_109 ?_
            refine V_iload (pc := 111) hX rfl dX6_number_111 ?_
            refine V_iload (pc := 113) hX rfl dX6_number_113 ?_
            refine Z_icmp_le (pc := 115) (tgt := 141) hX (by omega) (by omega) dX6_number_115 (by decide) (fun h115 => ?_) (fun h115 => ?_)
            · refine V_iconst (pc := 141) (z := 0) hX (oI 0) rfl dX6_number_141 ?_
              refine V_istore (pc := 142) hX (by decide) rfl dX6_number_142 ?_
              refine V_aload_n (pc := 144) (j := 0) hX 0 rfl rfl dX6_number_144 ?_
              refine gf_X6_26 (pc := 145) hX dX6_number_145 ?_
              refine V_iload_n (pc := 148) (j := 1) hX 1 rfl rfl dX6_number_148 ?_
              refine V_iload (pc := 149) hX rfl dX6_number_149 ?_
              refine zs_26 (pc := 151) hX (w) (by omega) (by omega) dX6_number_151 ?_
              refine V_aload_n (pc := 152) (j := 0) hX 0 rfl rfl dX6_number_152 ?_
              refine V_iload (pc := 153) hX rfl dX6_number_153 ?_
              refine Z_if_eq (pc := 155) (tgt := 163) hX (by omega) dX6_number_155 (by decide) (fun _ => ?_) (fun h => absurd h (by decide))
              refine V_aload_n (pc := 163) (j := 0) hX 0 rfl rfl dX6_number_163 ?_
              refine gf_X6_200 (pc := 164) hX dX6_number_164 ?_
              refine V_oI (((skp x k0 : Nat)) : Int) rfl ?_
              refine pf_X6_200 (pc := 167) hX dX6_number_167 ?_
              refine V_iload (pc := 170) hX rfl dX6_number_170 ?_
              refine V_zret (pc := 172) hX hR (by decide) dX6_number_172 ?_
              have hd2 : dgS x (3 - (k - f)) k v = (k, v) := by
                first | rw [show 3 - (k - f) = 0 by omega]; rfl | (rw [show 3 - (k - f) = (2 - (k - f)) + 1 by omega, dgS, if_neg (by omega)])
              rw [hd2] at g5
              have e1 : nmN x (skp x k0) = k := by rw [nmN, ← hf, ← g5]
              have e2 : nmA x (skp x k0) = -v := by rw [nmA, ← hm, h98, ← hf, ← g5]; rfl
              have e3 : nmB x (skp x k0) lo hi = false := by rw [nmB, e1, e2, ← hf]; exact decide_eq_false (by omega)
              exact ⟨_, rfl, by have h := Num_mk (D := D) (w := w) (q := (skp x k0)) e3 e2 (by rfl); exact h⟩
            · refine V_iload (pc := 118) hX rfl dX6_number_118 ?_
              refine V_iload (pc := 120) hX rfl dX6_number_120 ?_
              refine Z_isub (pc := 122) hX dX6_number_122 ?_
              refine V_iconst (pc := 123) (z := 3) hX (oI 3) rfl dX6_number_123 ?_
              refine Z_icmp_ge (pc := 124) (tgt := 141) hX (by omega) (by omega) dX6_number_124 (by decide) (fun h124 => ?_) (fun h124 => ?_)
              · refine V_iconst (pc := 141) (z := 0) hX (oI 0) rfl dX6_number_141 ?_
                refine V_istore (pc := 142) hX (by decide) rfl dX6_number_142 ?_
                refine V_aload_n (pc := 144) (j := 0) hX 0 rfl rfl dX6_number_144 ?_
                refine gf_X6_26 (pc := 145) hX dX6_number_145 ?_
                refine V_iload_n (pc := 148) (j := 1) hX 1 rfl rfl dX6_number_148 ?_
                refine V_iload (pc := 149) hX rfl dX6_number_149 ?_
                refine zs_26 (pc := 151) hX (w) (by omega) (by omega) dX6_number_151 ?_
                refine V_aload_n (pc := 152) (j := 0) hX 0 rfl rfl dX6_number_152 ?_
                refine V_iload (pc := 153) hX rfl dX6_number_153 ?_
                refine Z_if_eq (pc := 155) (tgt := 163) hX (by omega) dX6_number_155 (by decide) (fun _ => ?_) (fun h => absurd h (by decide))
                refine V_aload_n (pc := 163) (j := 0) hX 0 rfl rfl dX6_number_163 ?_
                refine gf_X6_200 (pc := 164) hX dX6_number_164 ?_
                refine V_oI (((skp x k0 : Nat)) : Int) rfl ?_
                refine pf_X6_200 (pc := 167) hX dX6_number_167 ?_
                refine V_iload (pc := 170) hX rfl dX6_number_170 ?_
                refine V_zret (pc := 172) hX hR (by decide) dX6_number_172 ?_
                have hd2 : dgS x (3 - (k - f)) k v = (k, v) := by
                  first | rw [show 3 - (k - f) = 0 by omega]; rfl | (rw [show 3 - (k - f) = (2 - (k - f)) + 1 by omega, dgS, if_neg (by omega)])
                rw [hd2] at g5
                have e1 : nmN x (skp x k0) = k := by rw [nmN, ← hf, ← g5]
                have e2 : nmA x (skp x k0) = -v := by rw [nmA, ← hm, h98, ← hf, ← g5]; rfl
                have e3 : nmB x (skp x k0) lo hi = false := by rw [nmB, e1, e2, ← hf]; exact decide_eq_false (by omega)
                exact ⟨_, rfl, by have h := Num_mk (D := D) (w := w) (q := (skp x k0)) e3 e2 (by rfl); exact h⟩
              · refine V_iload (pc := 127) hX rfl dX6_number_127 ?_
                refine V_iload_n (pc := 129) (j := 2) hX 2 rfl rfl dX6_number_129 ?_
                refine V_iload_n (pc := 130) (j := 3) hX 3 rfl rfl dX6_number_130 ?_
                refine cSI3 (pc := 131) hX (c_X6_in (by omega) (by omega) (by omega)) (by decide) st_X6_33 (Nat.le_of_ble_eq_true rfl) dX6_number_131 ?_
                refine B_if_eq (pc := 134) (tgt := 141) hX dX6_number_134 (by decide) (fun h134 => ?_) (fun h134 => ?_)
                · have q134 := inB_f.mp h134
                  refine V_iconst (pc := 141) (z := 0) hX (oI 0) rfl dX6_number_141 ?_
                  refine V_istore (pc := 142) hX (by decide) rfl dX6_number_142 ?_
                  refine V_aload_n (pc := 144) (j := 0) hX 0 rfl rfl dX6_number_144 ?_
                  refine gf_X6_26 (pc := 145) hX dX6_number_145 ?_
                  refine V_iload_n (pc := 148) (j := 1) hX 1 rfl rfl dX6_number_148 ?_
                  refine V_iload (pc := 149) hX rfl dX6_number_149 ?_
                  refine zs_26 (pc := 151) hX (w) (by omega) (by omega) dX6_number_151 ?_
                  refine V_aload_n (pc := 152) (j := 0) hX 0 rfl rfl dX6_number_152 ?_
                  refine V_iload (pc := 153) hX rfl dX6_number_153 ?_
                  refine Z_if_eq (pc := 155) (tgt := 163) hX (by omega) dX6_number_155 (by decide) (fun _ => ?_) (fun h => absurd h (by decide))
                  refine V_aload_n (pc := 163) (j := 0) hX 0 rfl rfl dX6_number_163 ?_
                  refine gf_X6_200 (pc := 164) hX dX6_number_164 ?_
                  refine V_oI (((skp x k0 : Nat)) : Int) rfl ?_
                  refine pf_X6_200 (pc := 167) hX dX6_number_167 ?_
                  refine V_iload (pc := 170) hX rfl dX6_number_170 ?_
                  refine V_zret (pc := 172) hX hR (by decide) dX6_number_172 ?_
                  have hd2 : dgS x (3 - (k - f)) k v = (k, v) := by
                    first | rw [show 3 - (k - f) = 0 by omega]; rfl | (rw [show 3 - (k - f) = (2 - (k - f)) + 1 by omega, dgS, if_neg (by omega)])
                  rw [hd2] at g5
                  have e1 : nmN x (skp x k0) = k := by rw [nmN, ← hf, ← g5]
                  have e2 : nmA x (skp x k0) = -v := by rw [nmA, ← hm, h98, ← hf, ← g5]; rfl
                  have e3 : nmB x (skp x k0) lo hi = false := by rw [nmB, e1, e2, ← hf]; exact decide_eq_false (by omega)
                  exact ⟨_, rfl, by have h := Num_mk (D := D) (w := w) (q := (skp x k0)) e3 e2 (by rfl); exact h⟩
                · have q134 := inB_t.mp h134
                  refine V_iconst (pc := 137) (z := 1) hX (oI 1) rfl dX6_number_137 ?_
                  refine V_goto (pc := 138) (off := 4) (tgt := 142) hX (by decide) dX6_number_138 ?_
                  refine V_istore (pc := 142) hX (by decide) rfl dX6_number_142 ?_
                  refine V_aload_n (pc := 144) (j := 0) hX 0 rfl rfl dX6_number_144 ?_
                  refine gf_X6_26 (pc := 145) hX dX6_number_145 ?_
                  refine V_iload_n (pc := 148) (j := 1) hX 1 rfl rfl dX6_number_148 ?_
                  refine V_iload (pc := 149) hX rfl dX6_number_149 ?_
                  refine zs_26 (pc := 151) hX (w) (by omega) (by omega) dX6_number_151 ?_
                  refine V_aload_n (pc := 152) (j := 0) hX 0 rfl rfl dX6_number_152 ?_
                  refine V_iload (pc := 153) hX rfl dX6_number_153 ?_
                  refine Z_if_eq (pc := 155) (tgt := 163) hX (by omega) dX6_number_155 (by decide) (fun h => absurd h (by decide)) (fun _ => ?_)
                  refine V_iload (pc := 158) hX rfl dX6_number_158 ?_
                  refine V_goto (pc := 160) (off := 7) (tgt := 167) hX (by decide) dX6_number_160 ?_
                  refine V_oI ((k : Nat) : Int) rfl ?_
                  refine pf_X6_200 (pc := 167) hX dX6_number_167 ?_
                  refine V_iload (pc := 170) hX rfl dX6_number_170 ?_
                  refine V_zret (pc := 172) hX hR (by decide) dX6_number_172 ?_
                  have hd2 : dgS x (3 - (k - f)) k v = (k, v) := by
                    first | rw [show 3 - (k - f) = 0 by omega]; rfl | (rw [show 3 - (k - f) = (2 - (k - f)) + 1 by omega, dgS, if_neg (by omega)])
                  rw [hd2] at g5
                  have e1 : nmN x (skp x k0) = k := by rw [nmN, ← hf, ← g5]
                  have e2 : nmA x (skp x k0) = -v := by rw [nmA, ← hm, h98, ← hf, ← g5]; rfl
                  have e3 : nmB x (skp x k0) lo hi = true := by rw [nmB, e1, e2, ← hf]; exact decide_eq_true (by omega)
                  exact ⟨_, rfl, by have h := Num_mk (D := D) (w := w) (q := k) e3 e2 (by rw [e1]; rfl); exact h⟩
        · have hk : k < x.1 := byt_lt rfl (by omega)
          refine V_bipush (pc := 72) (z := 10) hX (oI 10) (by decide) dX6_number_72 ?_
          refine V_iload (pc := 74) hX rfl dX6_number_74 ?_
          refine Z_imul (pc := 76) hX dX6_number_76 ?_
          refine V_aload_n (pc := 77) (j := 0) hX 0 rfl rfl dX6_number_77 ?_
          refine gf_X6_17 (pc := 78) hX dX6_number_78 ?_
          refine V_iload (pc := 81) hX rfl dX6_number_81 ?_
          refine zl_23 (pc := 83) hX _ rfl (by omega) dX6_number_83 ?_
          refine V_oI (byt x k) ((hT1.2.2 k hk).1.trans (by rw [byt_in hk])) ?_
          refine Z_iadd (pc := 84) hX dX6_number_84 ?_
          refine V_bipush (pc := 85) (z := 48) hX (oI 48) (by decide) dX6_number_85 ?_
          refine Z_isub (pc := 87) hX dX6_number_87 ?_
          refine V_istore (pc := 88) hX (by decide) rfl dX6_number_88 ?_
          refine Z_iinc (pc := 90) hX 1 rfl rfl dX6_number_90 ?_
          refine V_goto (pc := 93) (off := (-42)) (tgt := 51) hX (by decide) dX6_number_93 ?_
          refine V_cut [(0, some (.ref (E.1 (20, 0)))), (1, some (.int (oI (w : Int)))), (2, some (.int (oI lo))), (3, some (.int (oI hi))), (4, some (.int (bI mi))), (5, some (.int (oI (f : Int)))), (6, some (.int (oI ((k + 1 : Nat) : Int)))), (7, some (.int (oI (10 * v + byt x k - 48))))] ⟨rfl, rfl, rfl, rfl, rfl, rfl, rfl, rfl, trivial⟩ ?_
          exact ih (k + 1) _ (by omega) (by omega) (by omega) (by omega) (by rw [← g5, show 3 - (k - f) = (3 - (k + 1 - f)) + 1 by omega, dgS, if_pos (by omega)]) (by omega)
  refine V_aload_n (pc := 0) (j := 0) hX 0 rfl rfl dX6_number_0 ?_
  refine cVV0 (pc := 1) hX (c_X6_skips (x := x) (k0 := k0) hT h_k h7) (by decide) st_X6_206 ix_20 rfl rfl rfl (Nat.le_of_ble_eq_true rfl) dX6_number_1 ?_
  refine V_aload_n (pc := 4) (j := 0) hX 0 rfl rfl dX6_number_4 ?_
  refine V_aload_n (pc := 5) (j := 0) hX 0 rfl rfl dX6_number_5 ?_
  refine gf_X6_200 (pc := 6) hX dX6_number_6 ?_
  refine V_oI (((skp x k0 : Nat)) : Int) (atU_at D _) ?_
  refine cVI1 (pc := 9) hX (c_X6_byteAt (x := x) (k := skp x k0) hT1 (by omega)) (by decide) st_X6_203 ix_20 rfl rfl rfl (Nat.le_of_ble_eq_true rfl) dX6_number_9 ?_
  have hb := hT.rg (skp x k0)
  refine V_bipush (pc := 12) (z := 45) hX (oI 45) (by decide) dX6_number_12 ?_
  refine Z_icmp_ne (pc := 14) (tgt := 21) hX (by omega) (by omega) dX6_number_14 (by decide) (fun h14 => ?_) (fun h14 => ?_)
  · refine V_iconst (pc := 21) (z := 0) hX (oI 0) rfl dX6_number_21 ?_
    refine V_istore (pc := 22) hX (by decide) rfl dX6_number_22 ?_
    refine V_iload (pc := 24) hX rfl dX6_number_24 ?_
    refine Z_if_eq (pc := 26) (tgt := 38) hX (by omega) dX6_number_26 (by decide) (fun _ => ?_) (fun h => absurd h (by decide))
    refine V_aload_n (pc := 38) (j := 0) hX 0 rfl rfl dX6_number_38 ?_
    refine gf_X6_200 (pc := 39) hX dX6_number_39 ?_
    refine V_oI (((skp x k0 : Nat)) : Int) (atU_at D _) ?_
    refine V_istore (pc := 42) hX (by decide) rfl dX6_number_42 ?_
    refine V_iload (pc := 44) hX rfl dX6_number_44 ?_
    refine V_istore (pc := 46) hX (by decide) rfl dX6_number_46 ?_
    refine V_iconst (pc := 48) (z := 0) hX (oI 0) rfl dX6_number_48 ?_
    refine V_istore (pc := 49) hX (by decide) rfl dX6_number_49 ?_
    have hm : nmM x (skp x k0) = false := decide_eq_false h14
    have hf : nmF x (skp x k0) = skp x k0 := by rw [nmF, hm]; rfl
    refine V_cut [(0, some (.ref (E.1 (20, 0)))), (1, some (.int (oI (w : Int)))), (2, some (.int (oI lo))), (3, some (.int (oI hi))), (4, some (.int (bI false))), (5, some (.int (oI ((skp x k0 : Nat) : Int)))), (6, some (.int (oI ((skp x k0 : Nat) : Int)))), (7, some (.int (oI 0)))] ⟨rfl, rfl, rfl, rfl, congrArg (fun q => some (Value.int q)) (by first | rfl | decide), rfl, rfl, rfl, trivial⟩ ?_
    exact loop _ _ (by omega) hm.symm hf.symm 4 _ 0 (Nat.le_refl _) (by omega) (by omega) (by omega) (by rw [Nat.sub_self]) (by omega)
  · refine V_iconst (pc := 17) (z := 1) hX (oI 1) rfl dX6_number_17 ?_
    refine V_goto (pc := 18) (off := 4) (tgt := 22) hX (by decide) dX6_number_18 ?_
    refine V_istore (pc := 22) hX (by decide) rfl dX6_number_22 ?_
    refine V_iload (pc := 24) hX rfl dX6_number_24 ?_
    refine Z_if_eq (pc := 26) (tgt := 38) hX (by omega) dX6_number_26 (by decide) (fun h => absurd h (by decide)) (fun _ => ?_)
    refine V_aload_n (pc := 29) (j := 0) hX 0 rfl rfl dX6_number_29 ?_
    refine gf_X6_200 (pc := 30) hX dX6_number_30 ?_
    refine V_oI (((skp x k0 : Nat)) : Int) (atU_at D _) ?_
    refine V_iconst (pc := 33) (z := 1) hX (oI 1) rfl dX6_number_33 ?_
    refine Z_iadd (pc := 34) hX dX6_number_34 ?_
    refine V_goto (pc := 35) (off := 7) (tgt := 42) hX (by decide) dX6_number_35 ?_
    refine V_istore (pc := 42) hX (by decide) rfl dX6_number_42 ?_
    refine V_iload (pc := 44) hX rfl dX6_number_44 ?_
    refine V_istore (pc := 46) hX (by decide) rfl dX6_number_46 ?_
    refine V_iconst (pc := 48) (z := 0) hX (oI 0) rfl dX6_number_48 ?_
    refine V_istore (pc := 49) hX (by decide) rfl dX6_number_49 ?_
    have hm : nmM x (skp x k0) = true := decide_eq_true h14
    have hf : nmF x (skp x k0) = skp x k0 + 1 := by rw [nmF, hm]; rfl
    refine V_cut [(0, some (.ref (E.1 (20, 0)))), (1, some (.int (oI (w : Int)))), (2, some (.int (oI lo))), (3, some (.int (oI hi))), (4, some (.int (bI true))), (5, some (.int (oI ((skp x k0 + 1 : Nat) : Int)))), (6, some (.int (oI ((skp x k0 + 1 : Nat) : Int)))), (7, some (.int (oI 0)))] ⟨rfl, rfl, rfl, rfl, congrArg (fun q => some (Value.int q)) (by first | rfl | decide), rfl, rfl, rfl, trivial⟩ ?_
    exact loop _ _ (by omega) hm.symm hf.symm 4 _ 0 (Nat.le_refl _) (by omega) (by omega) (by omega) (by rw [Nat.sub_self]) (by omega)
