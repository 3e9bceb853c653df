/-! all sentences -/
def psK (s : Sn) : Except Nat (List Sn) → Except Nat (List Sn)
  | .ok l => .ok (s :: l)
  | .error e => .error e
def psG (g : Nat → Except Nat (List Sn)) : Except Nat (Nat × Sn) → Except Nat (List Sn)
  | .error e => .error e
  | .ok q => psK q.2 (g q.1)
/-- the sentences from k on (c: there must be one) -/
def psF (x : Tx) : Nat → Nat → Bool → Except Nat (List Sn)
  | 0, _, _ => .ok []
  | m + 1, k, c => if k < x.1 ∨ c = true then psG (fun k' => psF x m (skp x k') false) (senR x k) else .ok []
def prsA (x : Tx) : Except Nat (List Sn) := psF x (x.1 + 1) (skp x 0) true
def psPre (p : List Sn) : Except Nat (List Sn) → Except Nat (List Sn)
  | .ok l => .ok (p ++ l)
  | .error e => .error e
theorem psPre_K (p : List Sn) (s : Sn) (r : Except Nat (List Sn)) : psPre p (psK s r) = psPre (p ++ [s]) r := by
  cases r with
  | error e => rfl
  | ok l => show Except.ok (p ++ s :: l) = Except.ok (p ++ [s] ++ l); rw [List.append_assoc]; rfl
theorem psPre_nil (r : Except Nat (List Sn)) : psPre [] r = r := by cases r <;> rfl
theorem psF_e {x : Tx} {m k e : Nat} {c : Bool} (h : k < x.1 ∨ c = true) (hs : senR x k = .error e) : psF x (m + 1) k c = .error e := by
  rw [psF, if_pos h, hs]; rfl
theorem psF_o {x : Tx} {m k k' : Nat} {s : Sn} {c : Bool} (h : k < x.1 ∨ c = true) (hs : senR x k = .ok (k', s)) : psF x (m + 1) k c = psK s (psF x m (skp x k') false) := by
  rw [psF, if_pos h, hs]; rfl
theorem psF_n {x : Tx} {m k : Nat} {c : Bool} (h : ¬ (k < x.1 ∨ c = true)) : psF x (m + 1) k c = .ok [] := by
  rw [psF, if_neg h]
noncomputable def rnA (F : Nat → Cl) (n : Nat) : List Sn → Int × (Nat → Cl)
  | [] => ((n : Int), F)
  | s :: l => if (dnS F s.1 s.2.1 s.2.2).1 < 0 then ((dnS F s.1 s.2.1 s.2.2).1, F) else rnA (dnS F s.1 s.2.1 s.2.2).2 (n + 1) l
def GrQ (D' : Dt) (r : Int32) : Except Nat (List Sn) → Prop
  | .error e => r = oI (-201) ∧ D'.1 20 7 = oI (e : Int)
  | .ok l => r = oI (l.length : Int) ∧ l.length ≤ 120
/-- what reading and doing may change -/
def Hr (D D' : Dt) : Prop := (∀ t, t ≠ 20 → t ≠ 26 → D'.1 t = D.1 t) ∧ (∀ j, j ≠ 7 → j ≠ 18 → (j < 9 ∨ 16 < j) → D'.1 20 j = D.1 20 j) ∧ (∀ t z, t ≠ 21 → D'.2.1 t z = D.2.1 t z) ∧ D'.2.2 = D.2.2
theorem Hr.tr {D D1 D2 : Dt} (h : Hr D D1) (k : Hr D1 D2) : Hr D D2 := ⟨fun t ht hu => (k.1 t ht hu).trans (h.1 t ht hu), fun j h1 h2 h3 => (k.2.1 j h1 h2 h3).trans (h.2.1 j h1 h2 h3), fun t z ht => (k.2.2.1 t z ht).trans (h.2.2.1 t z ht), k.2.2.2.trans h.2.2.2⟩
theorem Gr.hr {D D' : Dt} (h : Gr D D') : Hr D D' := ⟨h.1, fun j h1 h2 _ => h.2.1 j h1 h2, fun t z _ => by rw [h.2.2], by rw [h.2.2]⟩
theorem Fr.hr {D D' : Dt} (h : Fr D D') : Hr D D' := ⟨fun t h1 _ => h.1 t h1, fun j _ _ h3 => h.2.1 j h3, h.2.2.1, h.2.2.2⟩
theorem TX.hr {D D' : Dt} {x : Tx} (h : TX D x) (k : Hr D D') : TX D' x := ⟨by rw [k.2.1 3 (by decide) (by decide) (by decide)]; exact h.1, h.2.1, fun j hj => by rw [k.1 23 (by decide) (by decide)]; exact h.2.2 j hj⟩
theorem WX.hr {D D' : Dt} (h : WX D) (k : Hr D D') : WX D' := fun j hj => by rw [k.1 27 (by decide) (by decide)]; exact h j hj
theorem FA5.gr {D D' : Dt} {F : Nat → Cl} (h : FA5 D F) (k : Gr D D') : FA5 D' F := fun a ha => by rw [k.2.2]; exact h a ha
theorem BK.tr {D D1 D2 : Dt} (h : BK D D1) (k : BK D1 D2) : BK D D2 := fun a h1 h2 j hj => (k a h1 h2 j hj).trans (h a h1 h2 j hj)
theorem BK.gr {D D' : Dt} (k : Gr D D') : BK D D' := fun a _ _ j _ => by rw [k.2.2]
theorem c_X6_goes0 {E : Le} {l : Launch} {D : Dt} {x : Tx} (hT : TX D x) (hW : WX D) : ConIp E l yX6_goesThrough cX6_goesThrough 5 (some .int) 9 [.ref (E.1 (20, 0)), .int (bI false)] D (fun r D' => Gr D D' ∧ GrQ D' r (prsA x)) := by
  refine Con_of (by decide) (Nat.le_of_ble_eq_true rfl) ?_
  intro X hX hR hl; subst hl
  have h12 := hT.2.1
  have loop : ∀ (m : Nat) (k : Nat) (n : Nat) (pre : List Sn) (D1 : Dt), k ≤ x.1 → n ≤ k → pre.length = n → Gr D D1 → D1.1 20 7 = oI (k : Int) → psPre pre (psF x m k (decide (n = 0))) = prsA x → x.1 - k < m → Vw E X 5 D1 11 [(0, some (.ref (E.1 (20, 0)))), (1, some (.int (bI false))), (2, some (.int (oI (n : Int))))] [] := by
    intro m
    induction m with
    | zero => intro k n pre D1 g1 g2 g6 g3 g4 g5 g7; omega
    | succ m ih =>
      intro k n pre D1 g1 g2 g6 g3 g4 g5 g7
      refine V_aload_n (pc := 11) (j := 0) hX 0 rfl rfl dX6_goesThrough_11 ?_
      refine gf_X6_200 (pc := 12) hX dX6_goesThrough_12 ?_
      refine V_oI (k : Int) g4 ?_
      refine V_aload_n (pc := 15) (j := 0) hX 0 rfl rfl dX6_goesThrough_15 ?_
      refine gf_X6_197 (pc := 16) hX dX6_goesThrough_16 ?_
      refine V_oI (x.1 : Int) (hT.gr g3).1 ?_
      refine Z_icmp_lt (pc := 19) (tgt := 26) hX (by omega) (by omega) dX6_goesThrough_19 (by decide) (fun h19 => ?_) (fun h19 => ?_)
      · have hcd : k < x.1 ∨ decide (n = 0) = true := Or.inl (by omega)
        refine V_aload_n (pc := 26) (j := 0) hX 0 rfl rfl dX6_goesThrough_26 ?_
        refine cVIp0 (pc := 27) hX (c_X6_sentence (x := x) (k0 := k) (hT.gr g3) (hW.gr g3) (by omega) g4) (by decide) st_X6_225 ix_20 rfl rfl rfl (Nat.le_of_ble_eq_true rfl) dX6_goesThrough_27 (fun r27 D27 h27 => ?_)
        obtain ⟨G27, Q27⟩ := h27
        cases hs : senR x k with
        | error e =>
          rw [hs] at Q27
          obtain ⟨rfl, T27⟩ := Q27
          refine V_istore_n (pc := 30) (j := 3) hX 3 rfl (by decide) rfl dX6_goesThrough_30 ?_
          refine V_iload_n (pc := 31) (j := 3) hX 3 rfl rfl dX6_goesThrough_31 ?_
          refine Z_if_ge (pc := 32) (tgt := 39) hX (by omega) dX6_goesThrough_32 (by decide) (fun h => absurd h (by decide)) (fun _ => ?_)
          refine V_sipush (pc := 35) (z := (-201)) hX (oI (-201)) (by decide) dX6_goesThrough_35 ?_
          refine V_iret (pc := 38) hX hR dX6_goesThrough_38 ?_
          exact ⟨_, rfl, g3.tr G27, by rw [← g5, psF_e hcd hs]; exact ⟨rfl, T27⟩⟩
        | ok q =>
          obtain ⟨k', ar, w, vs⟩ := q
          rw [hs] at Q27
          obtain ⟨rfl, T27, A27, N27⟩ := Q27
          have T27 : D27.1 20 7 = oI (k' : Int) := T27
          have ho := senR_ok (by omega) hs
          have hw : w ≤ 11 := ho.1.2.1
          have hsk := skp_le ho.2.2
          have hsg := skp_ge x k'
          refine V_oI (w : Int) rfl ?_
          refine V_istore_n (pc := 30) (j := 3) hX 3 rfl (by decide) rfl dX6_goesThrough_30 ?_
          refine V_iload_n (pc := 31) (j := 3) hX 3 rfl rfl dX6_goesThrough_31 ?_
          refine Z_if_ge (pc := 32) (tgt := 39) hX (by omega) dX6_goesThrough_32 (by decide) (fun h32 => ?_) (fun h32 => ?_)
          · refine V_iload_n (pc := 39) (j := 1) hX 1 rfl rfl dX6_goesThrough_39 ?_
            refine B_if_eq (pc := 40) (tgt := 51) hX dX6_goesThrough_40 (by decide) (fun h40 => ?_) (fun h40 => ?_)
            · refine V_iconst (pc := 51) (z := 0) hX (oI 0) rfl dX6_goesThrough_51 ?_
              refine V_istore (pc := 52) hX (by decide) rfl dX6_goesThrough_52 ?_
              refine V_iload (pc := 54) hX rfl dX6_goesThrough_54 ?_
              refine Z_if_ge (pc := 56) (tgt := 62) hX (by omega) dX6_goesThrough_56 (by decide) (fun _ => ?_) (fun h => absurd h (by decide))
              refine Z_iinc (pc := 62) hX 1 rfl rfl dX6_goesThrough_62 ?_
              refine V_aload_n (pc := 65) (j := 0) hX 0 rfl rfl dX6_goesThrough_65 ?_
              refine cVV0 (pc := 66) hX (c_X6_skips (x := x) (k0 := k') (hT.gr (g3.tr G27)) ho.2.2 T27) (by decide) st_X6_206 ix_20 rfl rfl rfl (Nat.le_of_ble_eq_true rfl) dX6_goesThrough_66 ?_
              refine V_goto (pc := 69) (off := (-58)) (tgt := 11) hX (by decide) dX6_goesThrough_69 ?_
              have e := psF_o (m := m) hcd hs
              rw [e, psPre_K] at g5
              refine V_cut [(0, some (.ref (E.1 (20, 0)))), (1, some (.int (bI false))), (2, some (.int (oI ((n + 1 : Nat) : Int))))] ⟨rfl, rfl, rfl, trivial⟩ ?_
              refine ih (skp x k') (n + 1) (pre ++ [(ar, w, vs)]) _ (by omega) (by omega) (by rw [List.length_append, g6]; rfl) ((g3.tr G27).tr (atU_gr _ _)) (atU_at _ _) ?_ (by omega)
              rw [decide_eq_false (by omega)]
              exact g5
            · cases h40
          · exfalso; omega
      · refine V_iload_n (pc := 22) (j := 2) hX 2 rfl rfl dX6_goesThrough_22 ?_
        refine Z_if_ne (pc := 23) (tgt := 72) hX (by omega) dX6_goesThrough_23 (by decide) (fun h23 => ?_) (fun h23 => ?_)
        · refine V_iload_n (pc := 72) (j := 2) hX 2 rfl rfl dX6_goesThrough_72 ?_
          refine V_iret (pc := 73) hX hR dX6_goesThrough_73 ?_
          exact ⟨_, rfl, g3, by rw [← g5, psF_n (fun q => q.elim (by omega) (fun q => absurd (of_decide_eq_true q) (by omega)))]; exact ⟨by rw [List.append_nil, g6], by rw [List.append_nil, g6]; omega⟩⟩
        · have hcd : k < x.1 ∨ decide (n = 0) = true := Or.inr (decide_eq_true (by omega))
          refine V_aload_n (pc := 26) (j := 0) hX 0 rfl rfl dX6_goesThrough_26 ?_
          refine cVIp0 (pc := 27) hX (c_X6_sentence (x := x) (k0 := k) (hT.gr g3) (hW.gr g3) (by omega) g4) (by decide) st_X6_225 ix_20 rfl rfl rfl (Nat.le_of_ble_eq_true rfl) dX6_goesThrough_27 (fun r27 D27 h27 => ?_)
          obtain ⟨G27, Q27⟩ := h27
          cases hs : senR x k with
          | error e =>
            rw [hs] at Q27
            obtain ⟨rfl, T27⟩ := Q27
            refine V_istore_n (pc := 30) (j := 3) hX 3 rfl (by decide) rfl dX6_goesThrough_30 ?_
            refine V_iload_n (pc := 31) (j := 3) hX 3 rfl rfl dX6_goesThrough_31 ?_
            refine Z_if_ge (pc := 32) (tgt := 39) hX (by omega) dX6_goesThrough_32 (by decide) (fun h => absurd h (by decide)) (fun _ => ?_)
            refine V_sipush (pc := 35) (z := (-201)) hX (oI (-201)) (by decide) dX6_goesThrough_35 ?_
            refine V_iret (pc := 38) hX hR dX6_goesThrough_38 ?_
            exact ⟨_, rfl, g3.tr G27, by rw [← g5, psF_e hcd hs]; exact ⟨rfl, T27⟩⟩
          | ok q =>
            obtain ⟨k', ar, w, vs⟩ := q
            rw [hs] at Q27
            obtain ⟨rfl, T27, A27, N27⟩ := Q27
            have T27 : D27.1 20 7 = oI (k' : Int) := T27
            have ho := senR_ok (by omega) hs
            have hw : w ≤ 11 := ho.1.2.1
            have hsk := skp_le ho.2.2
            have hsg := skp_ge x k'
            refine V_oI (w : Int) rfl ?_
            refine V_istore_n (pc := 30) (j := 3) hX 3 rfl (by decide) rfl dX6_goesThrough_30 ?_
            refine V_iload_n (pc := 31) (j := 3) hX 3 rfl rfl dX6_goesThrough_31 ?_
            refine Z_if_ge (pc := 32) (tgt := 39) hX (by omega) dX6_goesThrough_32 (by decide) (fun h32 => ?_) (fun h32 => ?_)
            · refine V_iload_n (pc := 39) (j := 1) hX 1 rfl rfl dX6_goesThrough_39 ?_
              refine B_if_eq (pc := 40) (tgt := 51) hX dX6_goesThrough_40 (by decide) (fun h40 => ?_) (fun h40 => ?_)
              · refine V_iconst (pc := 51) (z := 0) hX (oI 0) rfl dX6_goesThrough_51 ?_
                refine V_istore (pc := 52) hX (by decide) rfl dX6_goesThrough_52 ?_
                refine V_iload (pc := 54) hX rfl dX6_goesThrough_54 ?_
                refine Z_if_ge (pc := 56) (tgt := 62) hX (by omega) dX6_goesThrough_56 (by decide) (fun _ => ?_) (fun h => absurd h (by decide))
                refine Z_iinc (pc := 62) hX 1 rfl rfl dX6_goesThrough_62 ?_
                refine V_aload_n (pc := 65) (j := 0) hX 0 rfl rfl dX6_goesThrough_65 ?_
                refine cVV0 (pc := 66) hX (c_X6_skips (x := x) (k0 := k') (hT.gr (g3.tr G27)) ho.2.2 T27) (by decide) st_X6_206 ix_20 rfl rfl rfl (Nat.le_of_ble_eq_true rfl) dX6_goesThrough_66 ?_
                refine V_goto (pc := 69) (off := (-58)) (tgt := 11) hX (by decide) dX6_goesThrough_69 ?_
                have e := psF_o (m := m) hcd hs
                rw [e, psPre_K] at g5
                refine V_cut [(0, some (.ref (E.1 (20, 0)))), (1, some (.int (bI false))), (2, some (.int (oI ((n + 1 : Nat) : Int))))] ⟨rfl, rfl, rfl, trivial⟩ ?_
                refine ih (skp x k') (n + 1) (pre ++ [(ar, w, vs)]) _ (by omega) (by omega) (by rw [List.length_append, g6]; rfl) ((g3.tr G27).tr (atU_gr _ _)) (atU_at _ _) ?_ (by omega)
                rw [decide_eq_false (by omega)]
                exact g5
              · cases h40
            · exfalso; omega
  refine V_iconst (pc := 0) (z := 0) hX (oI 0) rfl dX6_goesThrough_0 ?_
  refine V_istore_n (pc := 1) (j := 2) hX 2 rfl (by decide) rfl dX6_goesThrough_1 ?_
  refine V_aload_n (pc := 2) (j := 0) hX 0 rfl rfl dX6_goesThrough_2 ?_
  refine V_iconst (pc := 3) (z := 0) hX (oI 0) rfl dX6_goesThrough_3 ?_
  refine pf_X6_200 (pc := 4) hX dX6_goesThrough_4 ?_
  refine V_heap (D' := atU D 0) rfl ?_
  refine V_aload_n (pc := 7) (j := 0) hX 0 rfl rfl dX6_goesThrough_7 ?_
  refine cVV0 (pc := 8) hX (c_X6_skips (x := x) (k0 := 0) (hT.gr (atU_gr D 0)) (by omega) (atU_at D 0)) (by decide) st_X6_206 ix_20 rfl rfl rfl (Nat.le_of_ble_eq_true rfl) dX6_goesThrough_8 ?_
  refine V_cut [(0, some (.ref (E.1 (20, 0)))), (1, some (.int (bI false))), (2, some (.int (oI ((0 : Nat) : Int))))] ⟨rfl, rfl, rfl, trivial⟩ ?_
  exact loop (x.1 + 1) (skp x 0) 0 [] _ (skp_le (by omega)) (by omega) rfl ((atU_gr D 0).tr (atU_gr _ _)) (atU_at _ _) (psPre_nil _) (by omega)
theorem stA_n {F : Nat → Cl} {T : Cl} {b : Nat} (h : (stA F T b).1 < 0) : (stA F T b).1 = -204 ∧ (stA F T b).2 = F := by
  unfold stA at h ⊢
  split at h
  · exact absurd h (by show ¬ ((cntC T : Int) < 0); omega)
  · rename_i c; rw [if_neg c]; exact ⟨rfl, rfl⟩
theorem dn_neg {F : Nat → Cl} {ar w : Nat} {vs : List Int} (h : (dnS F ar w vs).1 < 0) : ((dnS F ar w vs).1 = -204 ∨ (dnS F ar w vs).1 = -203) ∧ (dnS F ar w vs).2 = F := by
  have key : ∀ q : Int × (Nat → Cl), dnS F ar w vs = q → q.1 < 0 → ((∃ T, q = stA F T ar) ∨ q = (-203, F) ∨ 0 ≤ q.1) → (q.1 = -204 ∨ q.1 = -203) ∧ q.2 = F := by
    intro q _ hq hc
    rcases hc with ⟨T, rfl⟩ | rfl | hc
    · exact ⟨Or.inl (stA_n hq).1, (stA_n hq).2⟩
    · exact ⟨Or.inr rfl, rfl⟩
    · omega
  refine key _ rfl h ?_
  unfold dnS
  split
  · exact Or.inl ⟨_, rfl⟩
  split
  · split
    · exact Or.inr (Or.inl rfl)
    · exact Or.inl ⟨_, rfl⟩
  split
  · exact Or.inr (Or.inr (Int.le_refl 0))
  split
  · exact Or.inl ⟨_, rfl⟩
  split
  · split
    · exact Or.inl ⟨_, rfl⟩
    · exact Or.inr (Or.inl rfl)
  split
  · exact Or.inl ⟨_, rfl⟩
  · exact Or.inl ⟨_, rfl⟩
theorem c_X6_goes1 {E : Le} {l : Launch} {D : Dt} {x : Tx} {F0 : Nat → Cl} {L : List Sn} (hT : TX D x) (hW : WX D) (hL : prsA x = .ok L) (hF : FA5 D F0) : ConIp E l yX6_goesThrough cX6_goesThrough 5 (some .int) 9 [.ref (E.1 (20, 0)), .int (bI true)] D (fun r D' => r = oI (rnA F0 0 L).1 ∧ (-204 ≤ (rnA F0 0 L).1 ∧ (rnA F0 0 L).1 ≤ 14400) ∧ Hr D D' ∧ FA5 D' (rnA F0 0 L).2 ∧ BK D D') := by
  refine Con_of (by decide) (Nat.le_of_ble_eq_true rfl) ?_
  intro X hX hR hl; subst hl
  have h12 := hT.2.1
  have loop : ∀ (m : Nat) (k : Nat) (n : Nat) (l : List Sn) (F : Nat → Cl) (D1 : Dt), k ≤ x.1 → n ≤ k → n ≤ 120 → Hr D D1 → D1.1 20 7 = oI (k : Int) → psF x m k (decide (n = 0)) = .ok l → rnA F n l = rnA F0 0 L → FA5 D1 F → BK D D1 → x.1 - k < m → Vw E X 5 D1 11 [(0, some (.ref (E.1 (20, 0)))), (1, some (.int (bI true))), (2, some (.int (oI (n : Int))))] [] := by
    intro m
    induction m with
    | zero => intro k n l F D1 g1 g2 g11 g3 g4 g5 g6 g8 g9 g7; omega
    | succ m ih =>
      intro k n l F D1 g1 g2 g11 g3 g4 g5 g6 g8 g9 g7
      refine V_aload_n (pc := 11) (j := 0) hX 0 rfl rfl dX6_goesThrough_11 ?_
      refine gf_X6_200 (pc := 12) hX dX6_goesThrough_12 ?_
      refine V_oI (k : Int) g4 ?_
      refine V_aload_n (pc := 15) (j := 0) hX 0 rfl rfl dX6_goesThrough_15 ?_
      refine gf_X6_197 (pc := 16) hX dX6_goesThrough_16 ?_
      refine V_oI (x.1 : Int) (hT.hr g3).1 ?_
      refine Z_icmp_lt (pc := 19) (tgt := 26) hX (by omega) (by omega) dX6_goesThrough_19 (by decide) (fun h19 => ?_) (fun h19 => ?_)
      · have hcd : k < x.1 ∨ decide (n = 0) = true := Or.inl (by omega)
        refine V_aload_n (pc := 26) (j := 0) hX 0 rfl rfl dX6_goesThrough_26 ?_
        refine cVIp0 (pc := 27) hX (c_X6_sentence (x := x) (k0 := k) (hT.hr g3) (hW.hr g3) (by omega) g4) (by decide) st_X6_225 ix_20 rfl rfl rfl (Nat.le_of_ble_eq_true rfl) dX6_goesThrough_27 (fun r27 D27 h27 => ?_)
        obtain ⟨G27, Q27⟩ := h27
        cases hs : senR x k with
        | error e =>
          rw [hs] at Q27
          obtain ⟨rfl, T27⟩ := Q27
          rw [psF_e hcd hs] at g5
          cases g5
        | ok q =>
          obtain ⟨k', ar, w, vs⟩ := q
          rw [hs] at Q27
          obtain ⟨rfl, T27, A27, N27⟩ := Q27
          have T27 : D27.1 20 7 = oI (k' : Int) := T27
          have ho := senR_ok (by omega) hs
          have hw : w ≤ 11 := ho.1.2.1
          have hsk := skp_le ho.2.2
          have hsg := skp_ge x k'
          refine V_oI (w : Int) rfl ?_
          refine V_istore_n (pc := 30) (j := 3) hX 3 rfl (by decide) rfl dX6_goesThrough_30 ?_
          refine V_iload_n (pc := 31) (j := 3) hX 3 rfl rfl dX6_goesThrough_31 ?_
          refine Z_if_ge (pc := 32) (tgt := 39) hX (by omega) dX6_goesThrough_32 (by decide) (fun h32 => ?_) (fun h32 => ?_)
          · refine V_iload_n (pc := 39) (j := 1) hX 1 rfl rfl dX6_goesThrough_39 ?_
            refine B_if_eq (pc := 40) (tgt := 51) hX dX6_goesThrough_40 (by decide) (fun h40 => ?_) (fun h40 => ?_)
            · cases h40
            · refine V_aload_n (pc := 43) (j := 0) hX 0 rfl rfl dX6_goesThrough_43 ?_
              refine V_iload_n (pc := 44) (j := 3) hX 3 rfl rfl dX6_goesThrough_44 ?_
              refine cVIp1 (pc := 45) hX (c_X6_done (F := F) (ar := ar) (w := w) (vs := vs) ho.1 (g8.gr G27) A27 N27) (by decide) st_X6_228 ix_20 rfl rfl rfl (Nat.le_of_ble_eq_true rfl) dX6_goesThrough_45 (fun r45 D45 h45 => ?_)
              obtain ⟨rfl, R45, F45, A45, K45⟩ := h45
              have A45 : FA5 D45 (dnS F ar w vs).2 := A45
              have K45 : BK D27 D45 := K45
              refine V_goto (pc := 48) (off := 4) (tgt := 52) hX (by decide) dX6_goesThrough_48 ?_
              refine V_istore (pc := 52) hX (by decide) rfl dX6_goesThrough_52 ?_
              refine V_iload (pc := 54) hX rfl dX6_goesThrough_54 ?_
              refine Z_if_ge (pc := 56) (tgt := 62) hX (by omega) dX6_goesThrough_56 (by decide) (fun h56 => ?_) (fun h56 => ?_)
              · refine Z_iinc (pc := 62) hX 1 rfl rfl dX6_goesThrough_62 ?_
                refine V_aload_n (pc := 65) (j := 0) hX 0 rfl rfl dX6_goesThrough_65 ?_
                refine cVV0 (pc := 66) hX (c_X6_skips (x := x) (k0 := k') (hT.hr ((g3.tr G27.hr).tr F45.hr)) ho.2.2 ((F45.2.1 7 (by decide)).trans T27)) (by decide) st_X6_206 ix_20 rfl rfl rfl (Nat.le_of_ble_eq_true rfl) dX6_goesThrough_66 ?_
                refine V_goto (pc := 69) (off := (-58)) (tgt := 11) hX (by decide) dX6_goesThrough_69 ?_
                have e := psF_o (m := m) hcd hs
                rw [e] at g5
                cases hl : psF x m (skp x k') false with
                | error e2 => rw [hl] at g5; cases g5
                | ok l2 =>
                  rw [hl] at g5
                  cases g5
                  rw [rnA, if_neg (show ¬ (dnS F ar w vs).1 < 0 by omega)] at g6
                  refine V_cut [(0, some (.ref (E.1 (20, 0)))), (1, some (.int (bI true))), (2, some (.int (oI ((n + 1 : Nat) : Int))))] ⟨rfl, rfl, rfl, trivial⟩ ?_
                  exact ih (skp x k') (n + 1) l2 _ _ (by omega) (by omega) (by omega) ((g3.tr G27.hr).tr (F45.hr.tr (atU_gr _ _).hr)) (atU_at _ _) (by rw [decide_eq_false (by omega)]; exact hl) g6 (A45.gr (atU_gr _ _)) ((BK.tr g9 (BK.gr G27)).tr (K45.tr (BK.gr (atU_gr _ _)))) (by omega)
              · refine V_iload (pc := 59) hX rfl dX6_goesThrough_59 ?_
                refine V_iret (pc := 61) hX hR dX6_goesThrough_61 ?_
                cases hl : psF x m (skp x k') false with
                | error e2 => rw [psF_o (m := m) hcd hs, hl] at g5; cases g5
                | ok l2 =>
                  rw [psF_o (m := m) hcd hs, hl] at g5
                  cases g5
                  rw [rnA, if_pos (show (dnS F ar w vs).1 < 0 by omega)] at g6
                  refine ⟨_, rfl, by rw [← g6], by rw [← g6]; exact R45, (g3.tr G27.hr).tr F45.hr, ?_, (BK.tr g9 (BK.gr G27)).tr K45⟩
                  rw [← g6]
                  have hd := (dn_neg (F := F) (ar := ar) (w := w) (vs := vs) (by omega)).2
                  rw [hd] at A45
                  exact A45
          · exfalso; omega
      · refine V_iload_n (pc := 22) (j := 2) hX 2 rfl rfl dX6_goesThrough_22 ?_
        refine Z_if_ne (pc := 23) (tgt := 72) hX (by omega) dX6_goesThrough_23 (by decide) (fun h23 => ?_) (fun h23 => ?_)
        · refine V_iload_n (pc := 72) (j := 2) hX 2 rfl rfl dX6_goesThrough_72 ?_
          refine V_iret (pc := 73) hX hR dX6_goesThrough_73 ?_
          rw [psF_n (fun q => q.elim (by omega) (fun q => absurd (of_decide_eq_true q) (by omega)))] at g5
          cases g5
          rw [rnA] at g6
          exact ⟨_, rfl, by rw [← g6], by rw [← g6]; exact ⟨by show (-204 : Int) ≤ (n : Int); omega, by show (n : Int) ≤ 14400; omega⟩, g3, by rw [← g6]; exact g8, g9⟩
        · have hcd : k < x.1 ∨ decide (n = 0) = true := Or.inr (decide_eq_true (by omega))
          refine V_aload_n (pc := 26) (j := 0) hX 0 rfl rfl dX6_goesThrough_26 ?_
          refine cVIp0 (pc := 27) hX (c_X6_sentence (x := x) (k0 := k) (hT.hr g3) (hW.hr g3) (by omega) g4) (by decide) st_X6_225 ix_20 rfl rfl rfl (Nat.le_of_ble_eq_true rfl) dX6_goesThrough_27 (fun r27 D27 h27 => ?_)
          obtain ⟨G27, Q27⟩ := h27
          cases hs : senR x k with
          | error e =>
            rw [hs] at Q27
            obtain ⟨rfl, T27⟩ := Q27
            rw [psF_e hcd hs] at g5
            cases g5
          | ok q =>
            obtain ⟨k', ar, w, vs⟩ := q
            rw [hs] at Q27
            obtain ⟨rfl, T27, A27, N27⟩ := Q27
            have T27 : D27.1 20 7 = oI (k' : Int) := T27
            have ho := senR_ok (by omega) hs
            have hw : w ≤ 11 := ho.1.2.1
            have hsk := skp_le ho.2.2
            have hsg := skp_ge x k'
            refine V_oI (w : Int) rfl ?_
            refine V_istore_n (pc := 30) (j := 3) hX 3 rfl (by decide) rfl dX6_goesThrough_30 ?_
            refine V_iload_n (pc := 31) (j := 3) hX 3 rfl rfl dX6_goesThrough_31 ?_
            refine Z_if_ge (pc := 32) (tgt := 39) hX (by omega) dX6_goesThrough_32 (by decide) (fun h32 => ?_) (fun h32 => ?_)
            · refine V_iload_n (pc := 39) (j := 1) hX 1 rfl rfl dX6_goesThrough_39 ?_
              refine B_if_eq (pc := 40) (tgt := 51) hX dX6_goesThrough_40 (by decide) (fun h40 => ?_) (fun h40 => ?_)
              · cases h40
              · refine V_aload_n (pc := 43) (j := 0) hX 0 rfl rfl dX6_goesThrough_43 ?_
                refine V_iload_n (pc := 44) (j := 3) hX 3 rfl rfl dX6_goesThrough_44 ?_
                refine cVIp1 (pc := 45) hX (c_X6_done (F := F) (ar := ar) (w := w) (vs := vs) ho.1 (g8.gr G27) A27 N27) (by decide) st_X6_228 ix_20 rfl rfl rfl (Nat.le_of_ble_eq_true rfl) dX6_goesThrough_45 (fun r45 D45 h45 => ?_)
                obtain ⟨rfl, R45, F45, A45, K45⟩ := h45
                have A45 : FA5 D45 (dnS F ar w vs).2 := A45
                have K45 : BK D27 D45 := K45
                refine V_goto (pc := 48) (off := 4) (tgt := 52) hX (by decide) dX6_goesThrough_48 ?_
                refine V_istore (pc := 52) hX (by decide) rfl dX6_goesThrough_52 ?_
                refine V_iload (pc := 54) hX rfl dX6_goesThrough_54 ?_
                refine Z_if_ge (pc := 56) (tgt := 62) hX (by omega) dX6_goesThrough_56 (by decide) (fun h56 => ?_) (fun h56 => ?_)
                · refine Z_iinc (pc := 62) hX 1 rfl rfl dX6_goesThrough_62 ?_
                  refine V_aload_n (pc := 65) (j := 0) hX 0 rfl rfl dX6_goesThrough_65 ?_
                  refine cVV0 (pc := 66) hX (c_X6_skips (x := x) (k0 := k') (hT.hr ((g3.tr G27.hr).tr F45.hr)) ho.2.2 ((F45.2.1 7 (by decide)).trans T27)) (by decide) st_X6_206 ix_20 rfl rfl rfl (Nat.le_of_ble_eq_true rfl) dX6_goesThrough_66 ?_
                  refine V_goto (pc := 69) (off := (-58)) (tgt := 11) hX (by decide) dX6_goesThrough_69 ?_
                  have e := psF_o (m := m) hcd hs
                  rw [e] at g5
                  cases hl : psF x m (skp x k') false with
                  | error e2 => rw [hl] at g5; cases g5
                  | ok l2 =>
                    rw [hl] at g5
                    cases g5
                    rw [rnA, if_neg (show ¬ (dnS F ar w vs).1 < 0 by omega)] at g6
                    refine V_cut [(0, some (.ref (E.1 (20, 0)))), (1, some (.int (bI true))), (2, some (.int (oI ((n + 1 : Nat) : Int))))] ⟨rfl, rfl, rfl, trivial⟩ ?_
                    exact ih (skp x k') (n + 1) l2 _ _ (by omega) (by omega) (by omega) ((g3.tr G27.hr).tr (F45.hr.tr (atU_gr _ _).hr)) (atU_at _ _) (by rw [decide_eq_false (by omega)]; exact hl) g6 (A45.gr (atU_gr _ _)) ((BK.tr g9 (BK.gr G27)).tr (K45.tr (BK.gr (atU_gr _ _)))) (by omega)
                · refine V_iload (pc := 59) hX rfl dX6_goesThrough_59 ?_
                  refine V_iret (pc := 61) hX hR dX6_goesThrough_61 ?_
                  cases hl : psF x m (skp x k') false with
                  | error e2 => rw [psF_o (m := m) hcd hs, hl] at g5; cases g5
                  | ok l2 =>
                    rw [psF_o (m := m) hcd hs, hl] at g5
                    cases g5
                    rw [rnA, if_pos (show (dnS F ar w vs).1 < 0 by omega)] at g6
                    refine ⟨_, rfl, by rw [← g6], by rw [← g6]; exact R45, (g3.tr G27.hr).tr F45.hr, ?_, (BK.tr g9 (BK.gr G27)).tr K45⟩
                    rw [← g6]
                    have hd := (dn_neg (F := F) (ar := ar) (w := w) (vs := vs) (by omega)).2
                    rw [hd] at A45
                    exact A45
            · exfalso; omega
  refine V_iconst (pc := 0) (z := 0) hX (oI 0) rfl dX6_goesThrough_0 ?_
  refine V_istore_n (pc := 1) (j := 2) hX 2 rfl (by decide) rfl dX6_goesThrough_1 ?_
  refine V_aload_n (pc := 2) (j := 0) hX 0 rfl rfl dX6_goesThrough_2 ?_
  refine V_iconst (pc := 3) (z := 0) hX (oI 0) rfl dX6_goesThrough_3 ?_
  refine pf_X6_200 (pc := 4) hX dX6_goesThrough_4 ?_
  refine V_heap (D' := atU D 0) rfl ?_
  refine V_aload_n (pc := 7) (j := 0) hX 0 rfl rfl dX6_goesThrough_7 ?_
  refine cVV0 (pc := 8) hX (c_X6_skips (x := x) (k0 := 0) (hT.gr (atU_gr D 0)) (by omega) (atU_at D 0)) (by decide) st_X6_206 ix_20 rfl rfl rfl (Nat.le_of_ble_eq_true rfl) dX6_goesThrough_8 ?_
  refine V_cut [(0, some (.ref (E.1 (20, 0)))), (1, some (.int (bI true))), (2, some (.int (oI ((0 : Nat) : Int))))] ⟨rfl, rfl, rfl, trivial⟩ ?_
  exact loop (x.1 + 1) (skp x 0) 0 L F0 _ (skp_le (by omega)) (by omega) (by omega) ((atU_gr D 0).tr (atU_gr _ _)).hr (atU_at _ _) hL rfl ((hF.gr (atU_gr D 0)).gr (atU_gr _ _)) (BK.gr ((atU_gr D 0).tr (atU_gr _ _))) (by omega)
