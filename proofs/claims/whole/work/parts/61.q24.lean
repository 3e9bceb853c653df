/-! THE SCRIPT: all sentences -/
def okB {α : Type} : Except Nat α → Bool
  | .ok _ => true
  | .error _ => false
theorem SrQ.b {x : Tx} {k pl : Nat} {D D' : Dt} {r : Int32} (h : SrQ x k pl D r D') : r = bI (okB (senR x k)) := by
  obtain ⟨-, h2⟩ := h
  cases hs : senR x k with
  | error e => rw [hs] at h2; exact h2.1
  | ok q => rw [hs] at h2; exact h2.1
theorem okB_t {α : Type} {r : Except Nat α} (h : okB r = true) : ∃ q, r = .ok q := by
  cases r with
  | error e => cases h
  | ok q => exact ⟨q, rfl⟩
theorem okB_f {α : Type} {r : Except Nat α} (h : okB r = false) : ∃ e, r = .error e := by
  cases r with
  | error e => exact ⟨e, rfl⟩
  | ok q => cases h
theorem skp_ne {x : Tx} : ∀ (m k : Nat), x.1 - k < m → byt x (skp x k) ≠ 32 := by
  intro m
  induction m with
  | zero => intro k h; omega
  | succ m ih =>
    intro k h
    by_cases c : byt x k = 32
    · have hk := byt_lt c (by omega)
      rw [skp_t c]
      exact ih (k + 1) (by omega)
    · rw [skp_f c]; exact c
theorem skp_skp (x : Tx) (k : Nat) : skp x (skp x k) = skp x k := skp_f (skp_ne (x.1 - k + 1) k (by omega))
theorem senR_skp (x : Tx) (k : Nat) : senR x (skp x k) = senR x k := by rw [senR, senR, skp_skp]
theorem wsF_p {x : Tx} {k : Nat} : ∀ m w0, w0 + m = 12 → 0 ≤ (wsF x k m w0).1 → ∃ w : Nat, w < 12 ∧ wsF x k m w0 = ((w : Int), k + wl w) := by
  intro m
  induction m with
  | zero => intro w0 _ h; exact absurd h (by show ¬ (0 : Int) ≤ -1; omega)
  | succ m ih =>
    intro w0 hw h
    rw [wsF] at h ⊢
    by_cases c : iwB x k (wf w0) (wl w0) = true
    · rw [if_pos c]; exact ⟨w0, by omega, rfl⟩
    · rw [if_neg c] at h ⊢
      exact ih (w0 + 1) (by omega) h
theorem rdN_len {x : Tx} : ∀ (L : List (Int × Int)) (k k2 : Nat) (vs : List Int), k ≤ x.1 → rdN x L k = .ok (k2, vs) → k + L.length ≤ k2 ∧ k2 ≤ x.1
  | [], k, k2, vs, hk, h => by
    rw [rdN] at h
    cases h
    exact ⟨by show k + 0 ≤ k; omega, hk⟩
  | q :: r, k, k2, vs, hk, h => by
    rw [rdN] at h
    by_cases c : nmB x (skp x k) q.1 q.2 = true
    · rw [if_pos c] at h
      have hn := nm_le (skp_le hk) c
      have hg := skp_ge x k
      cases hr : rdN x r (nmN x (skp x k)) with
      | error e => rw [hr] at h; cases h
      | ok p =>
        rw [hr] at h
        cases h
        have ih := rdN_len r (nmN x (skp x k)) p.1 p.2 hn.2.1 hr
        rw [List.length_cons]
        exact ⟨by have := ih.1; show k + (r.length + 1) ≤ p.1; omega, ih.2⟩
    · rw [if_neg c] at h; cases h
theorem w_len : ∀ w : Nat, w < 12 → 3 ≤ wl w + (wArg (w : Int)).length := by decide +kernel
theorem senR_5 {x : Tx} {k k2 : Nat} {s : Sn} (hk : k ≤ x.1) (h : senR x k = .ok (k2, s)) : k + 5 ≤ k2 ∧ k2 ≤ x.1 := by
  have hso := senR_ok hk h
  refine ⟨?_, hso.2.2⟩
  rw [senR] at h
  by_cases c : nmB x (skp x k) 0 4 = true
  · rw [if_pos c] at h
    have hg := skp_ge x k
    have hn := nm_le (skp_le hk) c
    have hg2 := skp_ge x (nmN x (skp x k))
    have hs2 := skp_le hn.2.1
    rw [senV] at h
    by_cases d : (wdR x (skp x (nmN x (skp x k)))).1 < 0
    · rw [if_pos d] at h; cases h
    · rw [if_neg d] at h
      obtain ⟨w, hw, e⟩ := wsF_p (x := x) (k := skp x (nmN x (skp x k))) 12 0 rfl (by
        have : ¬ (wsF x (skp x (nmN x (skp x k))) 12 0).1 < 0 := d
        omega)
      have e2 : wdR x (skp x (nmN x (skp x k))) = ((w : Int), skp x (nmN x (skp x k)) + wl w) := e
      rw [e2] at h
      dsimp only at h
      have hwr := wdR_rg x (skp x (nmN x (skp x k)))
      rw [e2] at hwr
      dsimp only at hwr
      have hl := w_len w hw
      cases hr : rdN x (wArg (w : Int)) (skp x (nmN x (skp x k)) + wl w) with
      | error e => rw [hr] at h; cases h
      | ok p =>
        rw [hr] at h
        have hrl := rdN_len _ _ _ _ (by omega) hr
        have hg3 := skp_ge x p.1
        rw [senW] at h
        by_cases f : byt x (skp x p.1) = 59
        · rw [if_pos f] at h
          cases h
          omega
        · rw [if_neg f] at h; cases h
  · rw [if_neg c] at h; cases h
def PkK (D D' : Dt) : Prop := (∀ t, t ≠ 15 → t ≠ 17 → D'.1 t = D.1 t) ∧ (∀ j, (j < 3 ∨ 7 < j) → D'.1 15 j = D.1 15 j) ∧ D'.2 = D.2
theorem PkK.tr {D D1 D2 : Dt} (h : PkK D D1) (k : PkK D1 D2) : PkK D D2 := ⟨fun t ht hu => (k.1 t ht hu).trans (h.1 t ht hu), fun j hj => (k.2.1 j hj).trans (h.2.1 j hj), k.2.2.trans h.2.2⟩
theorem SnK.pk {pl : Nat} {D D' : Dt} (h : SnK pl D D') : PkK D D' := ⟨h.1, fun j hj => h.2.1 j (by omega), h.2.2.1⟩
theorem TNk.pk {D D' : Dt} (h : TNk D D') : PkK D D' := (h.sn (pl := 0)).pk
theorem PkK_U (D : Dt) {i : Nat} (hi : 3 ≤ i ∧ i ≤ 7) (v : Int32) : PkK D (rU D 15 (upd (D.1 15) i v)) := ⟨fun t ht _ => rU_ne D _ ht, fun j hj => by rw [U15, if_neg (by omega)], rfl⟩
theorem TcX.pk {D D' : Dt} {x : Tx} (h : TcX D x) (k : PkK D D') : TcX D' x := ⟨by rw [k.2.1 1 (by omega)]; exact h.1, h.2.1, fun j hj => by rw [k.1 16 (by decide) (by decide)]; exact h.2.2 j hj⟩
def SnS (D : Dt) (L : List Sn) : Prop := ∀ (c : Nat) (s : Sn), L[c]? = some s → D.1 17 (c * 6) = oI (s.1 : Int) ∧ D.1 17 (c * 6 + 1) = oI (s.2.1 : Int) ∧ ∀ (i : Nat) (v : Int), s.2.2[i]? = some v → D.1 17 (c * 6 + 2 + i) = oI v
theorem SnS.fr {D D' : Dt} {L : List Sn} (h : SnS D L) (e : D'.1 17 = D.1 17) : SnS D' L := fun c s hc => by rw [e]; exact h c s hc
def LsO (L : List Sn) : Prop := ∀ (c : Nat) (s : Sn), L[c]? = some s → SnOK s
def PrI (x : Tx) (D : Dt) (kc : Nat) (L : List Sn) (kd vl : Int) (p : Nat) (D1 : Dt) : Prop := (PkK D D1 ∧ D1.1 15 3 = oI (L.length : Int)) ∧ (SnS D1 L ∧ LsO L) ∧ (D1.1 15 5 = oI (skp x kc : Int) ∧ D1.1 15 6 = oI kd ∧ D1.1 15 7 = oI vl ∧ D1.1 15 4 = oI (p : Int)) ∧ TkP x (skp x kc) kd vl p ∧ (5 * L.length ≤ kc ∧ kc ≤ x.1) ∧ prsA x = psPre L (psF x (x.1 + 1 - L.length) (skp x kc) false)
def PrR (D' : Dt) (r : Int32) : Except Nat (List Sn) → Prop
  | .error e => r = oI (e : Int) ∧ e ≤ 120
  | .ok L => r = oI (-1) ∧ D'.1 15 3 = oI (L.length : Int) ∧ L.length ≤ 24 ∧ SnS D' L ∧ LsO L
def PrQ (x : Tx) (D : Dt) (r : Int32) (D' : Dt) : Prop := PkK D D' ∧ PrR D' r (prsA x)
theorem PrI.end {x : Tx} {D D1 : Dt} {kc p : Nat} {L : List Sn} {kd vl : Int} (h : PrI x D kc L kd vl p D1) (hx : x.1 ≤ 120) (h0 : kd = 0) : PrQ x D (oI (-1)) D1 := by
  obtain ⟨⟨a1, a2⟩, ⟨b1, b2⟩, c, d, ⟨e1, e2⟩, f⟩ := h
  have hk := d.2.1.mp h0
  have e : psF x (x.1 + 1 - L.length) (skp x kc) false = .ok [] := by
    cases hm : x.1 + 1 - L.length with
    | zero => rfl
    | succ m => exact psF_n (fun q => by rcases q with q | q; exact hk q; cases q)
  refine ⟨a1, ?_⟩
  rw [f, e]
  show PrR D1 _ (.ok (L ++ []))
  rw [List.append_nil]
  exact ⟨rfl, a2, by omega, b1, b2⟩
theorem senR_e {x : Tx} {k e : Nat} (hk : k ≤ x.1) (h : senR x k = .error e) : e ≤ x.1 := by
  have rdE : ∀ (L : List (Int × Int)) (k e : Nat), k ≤ x.1 → rdN x L k = .error e → e ≤ x.1 := by
    intro L
    induction L with
    | nil => intro k e _ h; rw [rdN] at h; cases h
    | cons q r ih =>
      intro k e hk h
      rw [rdN] at h
      by_cases c : nmB x (skp x k) q.1 q.2 = true
      · rw [if_pos c] at h
        have hn := nm_le (skp_le hk) c
        cases hr : rdN x r (nmN x (skp x k)) with
        | error e2 => rw [hr] at h; cases h; exact ih _ _ hn.2.1 hr
        | ok p => rw [hr] at h; cases h
      · rw [if_neg c] at h; cases h; exact skp_le hk
  rw [senR] at h
  by_cases c : nmB x (skp x k) 0 4 = true
  · rw [if_pos c] at h
    have hn := nm_le (skp_le hk) c
    have hs2 := skp_le hn.2.1
    rw [senV] at h
    by_cases d : (wdR x (skp x (nmN x (skp x k)))).1 < 0
    · rw [if_pos d] at h; cases h; exact hs2
    · rw [if_neg d] at h
      have hwr := wdR_rg x (skp x (nmN x (skp x k)))
      cases hr : rdN x (wArg (wdR x (skp x (nmN x (skp x k)))).1) (wdR x (skp x (nmN x (skp x k)))).2 with
      | error e2 => rw [hr] at h; cases h; exact rdE _ _ _ (by omega) hr
      | ok p =>
        rw [hr] at h
        have hrl := rdN_len _ _ _ _ (by omega) hr
        rw [senW] at h
        by_cases f : byt x (skp x p.1) = 59
        · rw [if_pos f] at h; cases h
        · rw [if_neg f] at h; cases h; exact skp_le hrl.2
  · rw [if_neg c] at h; cases h; exact skp_le hk
theorem PrI.err {x : Tx} {D D1 D2 : Dt} {kc p e : Nat} {L : List Sn} {kd vl : Int} (h : PrI x D kc L kd vl p D1) (hx : x.1 ≤ 120) (h0 : kd ≠ 0) (hk2 : SnK (L.length * 6) D1 D2) (he : senR x kc = .error e) : PrQ x D (oI (e : Int)) D2 := by
  obtain ⟨⟨a1, a2⟩, ⟨b1, b2⟩, c, d, ⟨e1, e2⟩, f⟩ := h
  have hk : skp x kc < x.1 := by
    by_cases q : skp x kc < x.1
    · exact q
    · exact absurd (d.2.1.mpr q) h0
  have hg := skp_ge x kc
  refine ⟨a1.tr hk2.pk, ?_⟩
  rw [f, show x.1 + 1 - L.length = (x.1 - L.length) + 1 by omega, psF_e (Or.inl hk) (by rw [senR_skp]; exact he)]
  exact ⟨rfl, by have := senR_e e2 he; omega⟩
theorem PrI.nx {x : Tx} {D D1 D2 D3 : Dt} {kc p k2 p2 : Nat} {L : List Sn} {s : Sn} {kd vl kd2 vl2 : Int} (h : PrI x D kc L kd vl p D1) (hx : x.1 ≤ 120) (h0 : kd ≠ 0) (hq : SrQ x kc (L.length * 6) D1 (bI true) D2) (hs : senR x kc = .ok (k2, s)) (h3 : RnQ x k2 (rU D2 15 (upd (D2.1 15) 3 (oI ((L.length : Int) + 1)))) D3) : ∃ kd2 vl2 p2, PrI x D k2 (L ++ [s]) kd2 vl2 p2 D3 := by
  obtain ⟨⟨a1, a2⟩, ⟨b1, b2⟩, c, d, ⟨e1, e2⟩, f⟩ := h
  obtain ⟨q1, q2⟩ := hq
  rw [hs] at q2
  obtain ⟨-, q3, q4, q5, q6⟩ := q2
  obtain ⟨⟨r1, r2⟩, kd2, vl2, p2, r3, r4⟩ := h3
  have hk : skp x kc < x.1 := by
    by_cases q : skp x kc < x.1
    · exact q
    · exact absurd (d.2.1.mpr q) h0
  have hg := skp_ge x kc
  have h5 := senR_5 e2 hs
  have h17 : D3.1 17 = D2.1 17 := by rw [r1.1 17 (by decide), rU_ne _ _ (by decide)]
  refine ⟨kd2, vl2, p2, ⟨((a1.tr q1.pk).tr (PkK_U D2 (by omega) _)).tr r1.pk, ?_⟩, ⟨fun cq0 sq0 hcq0 => ?_, fun cq0 sq0 hcq0 => ?_⟩, ⟨r2, r3⟩, r4, ⟨by rw [List.length_append, List.length_singleton]; omega, h5.2⟩, ?_⟩
  · rw [r1.2.1 3 (by omega), U15, if_pos rfl, List.length_append, List.length_singleton]; rfl
  · rw [h17]
    by_cases q : cq0 < L.length
    · rw [List.getElem?_append_left q] at hcq0
      obtain ⟨u1, u2, u3⟩ := b1 cq0 sq0 hcq0
      have hn := (b2 cq0 sq0 hcq0).2.2.1
      have hwl := wArg_len (sq0.2.1 : Int)
      refine ⟨by rw [q1.2.2.2 _ (by omega)]; exact u1, by rw [q1.2.2.2 _ (by omega)]; exact u2, fun i v hi => ?_⟩
      have hil := (List.getElem?_eq_some_iff.mp hi).1
      rw [q1.2.2.2 _ (by omega)]; exact u3 i v hi
    · rw [List.getElem?_append_right (by omega)] at hcq0
      by_cases q2 : cq0 = L.length
      · rw [q2, Nat.sub_self] at hcq0
        cases hcq0
        rw [q2]
        exact ⟨q4, q5, q6⟩
      · obtain ⟨m, hm⟩ : ∃ m, cq0 - L.length = m + 1 := ⟨cq0 - L.length - 1, by omega⟩
        rw [hm] at hcq0
        cases hcq0
  · by_cases q : cq0 < L.length
    · rw [List.getElem?_append_left q] at hcq0
      exact b2 cq0 sq0 hcq0
    · rw [List.getElem?_append_right (by omega)] at hcq0
      by_cases q2 : cq0 = L.length
      · rw [q2, Nat.sub_self] at hcq0
        cases hcq0
        exact (senR_ok e2 hs).1
      · obtain ⟨m, hm⟩ : ∃ m, cq0 - L.length = m + 1 := ⟨cq0 - L.length - 1, by omega⟩
        rw [hm] at hcq0
        cases hcq0
  · rw [f, show x.1 + 1 - L.length = (x.1 + 1 - (L ++ [s]).length) + 1 by rw [List.length_append, List.length_singleton]; omega, psF_o (Or.inl hk) (by rw [senR_skp]; exact hs), psPre_K]
theorem prsA_0 {x : Tx} (h : ¬ skp x 0 < x.1) : prsA x = .error (skp x 0) := by
  refine psF_e (Or.inr rfl) ?_
  rw [senR_skp, senR, if_neg]
  intro q
  have hn := nm_no (x := x) (s := skp x 0) (by rw [byt_end h]; decide) (by rw [byt_end h]; rfl)
  exact hn (of_decide_eq_true q).1
theorem prsA_1 {x : Tx} (h : skp x 0 < x.1) : prsA x = psPre [] (psF x (x.1 + 1 - 0) (skp x 0) false) := by
  rw [psPre_nil, prsA, Nat.sub_zero, psF, psF, if_pos (Or.inl h), if_pos (Or.inl h)]
theorem c_X4_parse {E : Le} {l : Launch} {D : Dt} {x : Tx} (hT : TcX D x) : ConIp E l yX4_parse cX4_parse 1 (some .int) 10 [.ref (E.1 (15, 0))] D (PrQ x D) := by
  have hx := hT.2.1
  refine Con_of (by decide) (Nat.le_of_ble_eq_true rfl) ?_
  intro X hX hR hl; subst hl
  have loop : ∀ (m : Nat) (kc : Nat) (L : List Sn) (kd vl : Int) (p : Nat) (D1 : Dt), PrI x D kc L kd vl p D1 → 120 - kc < m → Vw E X 1 D1 26 [(0, some (.ref (E.1 (15, 0))))] [] := by
    intro m
    induction m with
    | zero => intro kc L kd vl p D1 g1 g2; omega
    | succ m ih =>
      intro kc L kd vl p D1 g1 g2
      have hkd := g1.2.2.2.1.1.1
      have hl5 := g1.2.2.2.2.1
      refine V_aload_n (pc := 26) (j := 0) hX 0 rfl rfl dX4_parse_26 ?_
      refine gf_X4_32 (pc := 27) hX dX4_parse_27 ?_
      refine V_oI kd g1.2.2.1.2.1 ?_
      refine Z_if_eq (pc := 30) (tgt := 78) hX (by omega) dX4_parse_30 (by decide) (fun h30 => ?_) (fun h30 => ?_)
      · refine V_iconst (pc := 78) (z := (-1)) hX (oI (-1)) rfl dX4_parse_78 ?_
        refine V_iret (pc := 79) hX hR dX4_parse_79 ?_
        exact ⟨_, rfl, g1.end hx (by omega)⟩
      · refine V_aload_n (pc := 33) (j := 0) hX 0 rfl rfl dX4_parse_33 ?_
        refine gf_X4_23 (pc := 34) hX dX4_parse_34 ?_
        refine V_oI (L.length : Int) (by first | exact g1.1.2 | (rw [h50.1.2.1 3 (by omega)]; exact g1.1.2)) ?_
        refine V_bipush (pc := 37) (z := 24) hX (oI 24) (by decide) dX4_parse_37 ?_
        refine Z_icmp_ge (pc := 39) (tgt := 78) hX (by omega) (by omega) dX4_parse_39 (by decide) (fun h39 => ?_) (fun h39 => ?_)
        · refine V_iconst (pc := 78) (z := (-1)) hX (oI (-1)) rfl dX4_parse_78 ?_
          refine V_iret (pc := 79) hX hR dX4_parse_79 ?_
          exfalso
          have hg := skp_ge x kc
          have h0 := g1.2.2.2.1.2.1
          have := g1.2.2.2.2.1
          exact h30 (h0.mpr (by omega))
        · refine V_aload_n (pc := 42) (j := 0) hX 0 rfl rfl dX4_parse_42 ?_
          refine V_aload_n (pc := 43) (j := 0) hX 0 rfl rfl dX4_parse_43 ?_
          refine gf_X4_23 (pc := 44) hX dX4_parse_44 ?_
          refine V_oI (L.length : Int) (by first | exact g1.1.2 | (rw [h50.1.2.1 3 (by omega)]; exact g1.1.2)) ?_
          refine V_bipush (pc := 47) (z := 6) hX (oI 6) (by decide) dX4_parse_47 ?_
          refine Z_imul (pc := 49) hX dX4_parse_49 ?_
          refine V_oI ((L.length * 6 : Nat) : Int) (congrArg oI (by omega)) ?_
          refine cVIp1 (pc := 50) hX (c_X4_readSentence (x := x) (k := kc) (pl := L.length * 6) (hT.pk g1.1.1) (by omega) g1.2.2.1.1 g1.2.2.1.2.1 g1.2.2.1.2.2.1 g1.2.2.1.2.2.2 g1.2.2.2.1) (by decide) st_X4_38 ix_15 rfl rfl rfl (Nat.le_of_ble_eq_true rfl) dX4_parse_50 (fun r50 D50 h50 => ?_)
          obtain rfl := h50.b
          refine B_if_ne (pc := 53) (tgt := 61) hX dX4_parse_53 (by decide) (fun h53 => ?_) (fun h53 => ?_)
          · obtain ⟨q, hq⟩ := okB_t h53
            refine V_aload_n (pc := 61) (j := 0) hX 0 rfl rfl dX4_parse_61 ?_
            refine V_dup (pc := 62) hX rfl dX4_parse_62 ?_
            refine gf_X4_23 (pc := 63) hX dX4_parse_63 ?_
            refine V_oI (L.length : Int) (by first | exact g1.1.2 | (rw [h50.1.2.1 3 (by omega)]; exact g1.1.2)) ?_
            refine V_iconst (pc := 66) (z := 1) hX (oI 1) rfl dX4_parse_66 ?_
            refine Z_iadd (pc := 67) hX dX4_parse_67 ?_
            refine pf_X4_23 (pc := 68) hX dX4_parse_68 ?_
            refine V_aload_n (pc := 71) (j := 0) hX 0 rfl rfl dX4_parse_71 ?_
            refine cVVp0 (pc := 72) hX (c_X4_readNext (x := x) (k0 := q.1) ((hT.pk (g1.1.1.tr h50.1.pk)).pk (PkK_U D50 (by omega) _)) (senR_5 hl5.2 hq).2 (by rw [U15, if_neg (by decide)]; have h5 := h50.2; rw [hq] at h5; exact h5.2.1)) (by decide) st_X4_29 ix_15 rfl rfl rfl (Nat.le_of_ble_eq_true rfl) dX4_parse_72 (fun D72 h72 => ?_)
            refine V_goto (pc := 75) (off := (-49)) (tgt := 26) hX (by decide) dX4_parse_75 ?_
            rw [h53] at h50
            obtain ⟨kd2, vl2, p2, hN⟩ := g1.nx (kd2 := 0) (vl2 := 0) (p2 := 0) hx h30 h50 hq h72
            refine V_cut [(0, some (.ref (E.1 (15, 0))))] ⟨rfl, trivial⟩ ?_
            exact ih q.1 (L ++ [q.2]) kd2 vl2 p2 _ hN (by have := senR_5 hl5.2 hq; have := hl5.2; omega)
          · refine V_aload_n (pc := 56) (j := 0) hX 0 rfl rfl dX4_parse_56 ?_
            refine gf_X4_35 (pc := 57) hX dX4_parse_57 ?_
            refine V_iret (pc := 60) hX hR dX4_parse_60 ?_
            obtain ⟨e, he⟩ := okB_f h53
            have h5 := h50.2
            rw [he] at h5
            exact ⟨_, rfl, by rw [h5.2]; exact g1.err hx h30 h50.1 he⟩
  refine V_aload_n (pc := 0) (j := 0) hX 0 rfl rfl dX4_parse_0 ?_
  refine V_iconst (pc := 1) (z := 0) hX (oI 0) rfl dX4_parse_1 ?_
  refine pf_X4_23 (pc := 2) hX dX4_parse_2 ?_
  refine V_aload_n (pc := 5) (j := 0) hX 0 rfl rfl dX4_parse_5 ?_
  refine V_iconst (pc := 6) (z := 0) hX (oI 0) rfl dX4_parse_6 ?_
  refine pf_X4_26 (pc := 7) hX dX4_parse_7 ?_
  refine V_aload_n (pc := 10) (j := 0) hX 0 rfl rfl dX4_parse_10 ?_
  refine cVVp0 (pc := 11) hX (c_X4_readNext (x := x) (k0 := 0) (hT.pk (((PkK_U D (by omega) (oI 0)).tr (PkK_U _ (by omega) (oI 0))))) (by omega) (by rw [U15, if_pos rfl]; rfl)) (by decide) st_X4_29 ix_15 rfl rfl rfl (Nat.le_of_ble_eq_true rfl) dX4_parse_11 (fun D11 h11 => ?_)
  obtain ⟨⟨tn, hst⟩, kd, vl, p, ⟨t6, t7, t4⟩, tk⟩ := h11
  refine V_aload_n (pc := 14) (j := 0) hX 0 rfl rfl dX4_parse_14 ?_
  refine gf_X4_32 (pc := 15) hX dX4_parse_15 ?_
  refine V_oI kd t6 ?_
  have hk := tk.1.1
  refine Z_if_ne (pc := 18) (tgt := 26) hX (by omega) dX4_parse_18 (by decide) (fun h18 => ?_) (fun h18 => ?_)
  · refine V_cut [(0, some (.ref (E.1 (15, 0))))] ⟨rfl, trivial⟩ ?_
    refine loop 121 0 [] kd vl p _ ⟨⟨(((PkK_U D (by omega) (oI 0)).tr (PkK_U _ (by omega) (oI 0)))).tr tn.pk, ?_⟩, ⟨fun c s hc => (by rw [List.getElem?_nil] at hc; cases hc), fun c s hc => (by rw [List.getElem?_nil] at hc; cases hc)⟩, ⟨hst, t6, t7, t4⟩, tk, ⟨by show 5 * 0 ≤ 0; omega, by omega⟩, ?_⟩ (by omega)
    · rw [tn.2.1 3 (by omega), U15, if_neg (by decide), U15, if_pos rfl]; rfl
    · exact prsA_1 (by by_cases c : skp x 0 < x.1; exact c; exact absurd (tk.2.1.mpr c) h18)
  · refine V_aload_n (pc := 21) (j := 0) hX 0 rfl rfl dX4_parse_21 ?_
    refine gf_X4_35 (pc := 22) hX dX4_parse_22 ?_
    refine V_iret (pc := 25) hX hR dX4_parse_25 ?_
    have hn : ¬ skp x 0 < x.1 := tk.2.1.mp (by omega)
    have hle := skp_le (x := x) (k := 0) (by omega)
    refine ⟨_, rfl, (((PkK_U D (by omega) (oI 0)).tr (PkK_U _ (by omega) (oI 0)))).tr tn.pk, ?_⟩
    rw [prsA_0 hn]
    exact ⟨hst, by omega⟩
theorem nar_b {c : Int} (h : 0 ≤ c ∧ c < 128) : vp_nar .byte (oI c) = oI c := by
  have : ∀ k : Nat, k < 128 → vp_nar .byte (oI (k : Int)) = oI (k : Int) := by decide +kernel
  have q := this c.toNat (by omega)
  rw [show ((c.toNat : Nat) : Int) = c by omega] at q
  exact q
def SaQ (D : Dt) (n : Nat) (c : Int) (r : Int32) (D' : Dt) : Prop := r = bI (decide (n < 120)) ∧ (n < 120 → (D'.1 15 1 = oI ((n + 1 : Nat) : Int) ∧ D'.1 16 = upd (D.1 16) n (oI c)) ∧ (∀ t, t ≠ 15 → t ≠ 16 → D'.1 t = D.1 t) ∧ D'.2 = D.2) ∧ (¬ n < 120 → D' = D)
theorem c_X4_add {E : Le} {l : Launch} {D : Dt} {n : Nat} {c : Int} (hn : D.1 15 1 = oI (n : Int)) (hn2 : n ≤ 120) (hc : 0 ≤ c ∧ c < 128) : ConIp E l yX4_add cX4_add 2 (some .boolean) 1 [.ref (E.1 (15, 0)), .int (oI c)] D (SaQ D n c) := by
  refine Con_of (by decide) (Nat.le_of_ble_eq_true rfl) ?_
  intro X hX hR hl; subst hl
  refine V_aload_n (pc := 0) (j := 0) hX 0 rfl rfl dX4_add_0 ?_
  refine gf_X4_19 (pc := 1) hX dX4_add_1 ?_
  refine V_oI (n : Int) hn ?_
  refine V_bipush (pc := 4) (z := 120) hX (oI 120) (by decide) dX4_add_4 ?_
  refine Z_icmp_lt (pc := 6) (tgt := 11) hX (by omega) (by omega) dX4_add_6 (by decide) (fun h6 => ?_) (fun h6 => ?_)
  · refine V_aload_n (pc := 11) (j := 0) hX 0 rfl rfl dX4_add_11 ?_
    refine gf_X4_9 (pc := 12) hX dX4_add_12 ?_
    refine V_aload_n (pc := 15) (j := 0) hX 0 rfl rfl dX4_add_15 ?_
    refine gf_X4_19 (pc := 16) hX dX4_add_16 ?_
    refine V_oI (n : Int) hn ?_
    refine V_iload_n (pc := 19) (j := 1) hX 1 rfl rfl dX4_add_19 ?_
    refine Z_i2b (pc := 20) hX (by omega) (by omega) dX4_add_20 ?_
    refine zs_16 (pc := 21) hX (n) (rfl) (by omega) (nar_b (by omega)) dX4_add_21 ?_
    refine V_aload_n (pc := 22) (j := 0) hX 0 rfl rfl dX4_add_22 ?_
    refine V_dup (pc := 23) hX rfl dX4_add_23 ?_
    refine gf_X4_19 (pc := 24) hX dX4_add_24 ?_
    refine V_oI (n : Int) hn ?_
    refine V_iconst (pc := 27) (z := 1) hX (oI 1) rfl dX4_add_27 ?_
    refine Z_iadd (pc := 28) hX dX4_add_28 ?_
    refine pf_X4_19 (pc := 29) hX dX4_add_29 ?_
    refine V_iconst (pc := 32) (z := 1) hX (oI 1) rfl dX4_add_32 ?_
    refine V_zret (pc := 33) hX hR (by decide) dX4_add_33 ?_
    exact ⟨_, rfl, bI_1 (decide_eq_true (by omega)), fun _ => ⟨⟨by rw [rU_get, upd_at, if_pos rfl]; rfl, rfl⟩, fun t h1 h2 => by rw [rU_ne _ _ h1, rU_ne _ _ h2], rfl⟩, fun h => absurd h (by omega)⟩
  · refine V_iconst (pc := 9) (z := 0) hX (oI 0) rfl dX4_add_9 ?_
    refine V_zret (pc := 10) hX hR (by decide) dX4_add_10 ?_
    exact ⟨_, rfl, bI_0 (decide_eq_false (by omega)), fun h => absurd h (by omega), fun _ => rfl⟩
theorem c_X4_areaOf {E : Le} {l : Launch} {D : Dt} {k : Nat} (hk : k < 24) : ConI E l yX4_areaOf cX4_areaOf 2 (some .int) 1 [.ref (E.1 (15, 0)), .int (oI (k : Int))] D (D.1 17 (k * 6)) D := by
  refine Con_of (by decide) (Nat.le_of_ble_eq_true rfl) ?_
  intro X hX hR hl; subst hl
  refine V_aload_n (pc := 0) (j := 0) hX 0 rfl rfl dX4_areaOf_0 ?_
  refine gf_X4_15 (pc := 1) hX dX4_areaOf_1 ?_
  refine V_iload_n (pc := 4) (j := 1) hX 1 rfl rfl dX4_areaOf_4 ?_
  refine V_bipush (pc := 5) (z := 6) hX (oI 6) (by decide) dX4_areaOf_5 ?_
  refine Z_imul (pc := 7) hX dX4_areaOf_7 ?_
  refine zl_17 (pc := 8) hX (k * 6) (by omega) (by omega) dX4_areaOf_8 ?_
  refine V_iret (pc := 9) hX hR dX4_areaOf_9 ?_
  exact ⟨rfl, rfl⟩
theorem c_X4_wordOf {E : Le} {l : Launch} {D : Dt} {k : Nat} (hk : k < 24) : ConI E l yX4_wordOf cX4_wordOf 2 (some .int) 1 [.ref (E.1 (15, 0)), .int (oI (k : Int))] D (D.1 17 (k * 6 + 1)) D := by
  refine Con_of (by decide) (Nat.le_of_ble_eq_true rfl) ?_
  intro X hX hR hl; subst hl
  refine V_aload_n (pc := 0) (j := 0) hX 0 rfl rfl dX4_wordOf_0 ?_
  refine gf_X4_15 (pc := 1) hX dX4_wordOf_1 ?_
  refine V_iload_n (pc := 4) (j := 1) hX 1 rfl rfl dX4_wordOf_4 ?_
  refine V_bipush (pc := 5) (z := 6) hX (oI 6) (by decide) dX4_wordOf_5 ?_
  refine Z_imul (pc := 7) hX dX4_wordOf_7 ?_
  refine V_iconst (pc := 8) (z := 1) hX (oI 1) rfl dX4_wordOf_8 ?_
  refine Z_iadd (pc := 9) hX dX4_wordOf_9 ?_
  refine zl_17 (pc := 10) hX (k * 6 + 1) (by omega) (by omega) dX4_wordOf_10 ?_
  refine V_iret (pc := 11) hX hR dX4_wordOf_11 ?_
  exact ⟨rfl, rfl⟩
theorem c_X4_numberOf {E : Le} {l : Launch} {D : Dt} {k i : Nat} (hk : k < 24) (hi : i < 4) : ConI E l yX4_numberOf cX4_numberOf 3 (some .int) 1 [.ref (E.1 (15, 0)), .int (oI (k : Int)), .int (oI (i : Int))] D (D.1 17 (k * 6 + 2 + i)) D := by
  refine Con_of (by decide) (Nat.le_of_ble_eq_true rfl) ?_
  intro X hX hR hl; subst hl
  refine V_aload_n (pc := 0) (j := 0) hX 0 rfl rfl dX4_numberOf_0 ?_
  refine gf_X4_15 (pc := 1) hX dX4_numberOf_1 ?_
  refine V_iload_n (pc := 4) (j := 1) hX 1 rfl rfl dX4_numberOf_4 ?_
  refine V_bipush (pc := 5) (z := 6) hX (oI 6) (by decide) dX4_numberOf_5 ?_
  refine Z_imul (pc := 7) hX dX4_numberOf_7 ?_
  refine V_iconst (pc := 8) (z := 2) hX (oI 2) rfl dX4_numberOf_8 ?_
  refine Z_iadd (pc := 9) hX dX4_numberOf_9 ?_
  refine V_iload_n (pc := 10) (j := 2) hX 2 rfl rfl dX4_numberOf_10 ?_
  refine Z_iadd (pc := 11) hX dX4_numberOf_11 ?_
  refine zl_17 (pc := 12) hX (k * 6 + 2 + i) (by omega) (by omega) dX4_numberOf_12 ?_
  refine V_iret (pc := 13) hX hR dX4_numberOf_13 ?_
  exact ⟨rfl, rfl⟩
