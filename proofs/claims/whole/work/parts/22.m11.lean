/-! parts -/
def Cn (A : Cl) (p q i j : Nat) : Prop := ∀ U : Cl, U p q = true → Clo A U → U i j = true
noncomputable def cnB (A : Cl) (p q i j : Nat) : Bool := @decide (Cn A p q i j) (Classical.propDecidable _)
theorem cnB_t {A : Cl} {p q i j : Nat} : cnB A p q i j = true ↔ Cn A p q i j := @decide_eq_true_iff _ (Classical.propDecidable _)
noncomputable def partC (A : Cl) (p q : Nat) : Cl := fun i j => cnB A p q i j
def oneC (p q : Nat) : Cl := fun i j => decide (i = p ∧ j = q)
theorem Hng_part {A T : Cl} {p q : Nat} (hp : p < 120) (hq : q < 120) (h : Hng A (oneC p q) T) {i j : Nat} (hi : i < 120) (hj : j < 120) : T i j = partC A p q i j := by
  rw [Bool.eq_iff_iff, partC, cnB_t]
  constructor
  · intro ht U hU hC
    refine h.2.2.2 U (fun x hx y hy e => ?_) hC i hi j hj ht
    obtain ⟨rfl, rfl⟩ := of_decide_eq_true e
    exact hU
  · intro hc
    exact hc T (h.1 p hp q hq (decide_eq_true ⟨rfl, rfl⟩)) h.2.2.1
theorem Cn.tr {A : Cl} {p q i j x y : Nat} (h : Cn A p q i j) (k : Cn A i j x y) : Cn A p q x y := fun U h1 h2 => k U (h U h1 h2) h2
/-- a neighbour of a connected cell -/
theorem Cn.nb {A : Cl} {p q i j x y : Nat} (h : Cn A p q i j) (hx : x < 120) (hy : y < 120) (hA : A x y = true) (hn : ∀ U : Cl, U i j = true → nb4 U x y = true) : Cn A p q x y := fun U h1 h2 => h2 x hx y hy hA (hn U (h U h1 h2))
theorem nb4_ex {U : Cl} {i j : Nat} (h : nb4 U i j = true) : ∃ x y, (x < 120 ∧ y < 120) ∧ U x y = true ∧ (∀ V : Cl, V x y = true → nb4 V i j = true) ∧ ((x = i ∧ y = j) ∨ (x + 1 = i ∧ y = j) ∨ (x = i + 1 ∧ y = j) ∨ (x = i ∧ y + 1 = j) ∨ (x = i ∧ y = j + 1)) := by
  have key : ∀ (V : Cl) (a b : Nat), pd V a b = true ↔ ((1 ≤ a ∧ a ≤ 120) ∧ 1 ≤ b ∧ b ≤ 120) ∧ V (a - 1) (b - 1) = true := fun V a b => by rw [pd, Bool.and_eq_true, decide_eq_true_iff]
  have up : ∀ (V : Cl), nb4 V i j = true ↔ ((((pd V (i + 1) (j + 1) = true ∨ pd V i (j + 1) = true) ∨ pd V (i + 2) (j + 1) = true) ∨ pd V (i + 1) j = true) ∨ pd V (i + 1) (j + 2) = true) := fun V => by simp only [nb4, Bool.or_eq_true]
  rcases (up U).mp h with (((q | q) | q) | q) | q
  · obtain ⟨h1, h2⟩ := (key _ _ _).mp q
    exact ⟨_, _, ⟨by omega, by omega⟩, h2, fun V hV => (up V).mpr (Or.inl (Or.inl (Or.inl (Or.inl ((key _ _ _).mpr ⟨h1, hV⟩))))), by omega⟩
  · obtain ⟨h1, h2⟩ := (key _ _ _).mp q
    exact ⟨_, _, ⟨by omega, by omega⟩, h2, fun V hV => (up V).mpr (Or.inl (Or.inl (Or.inl (Or.inr ((key _ _ _).mpr ⟨h1, hV⟩))))), by omega⟩
  · obtain ⟨h1, h2⟩ := (key _ _ _).mp q
    exact ⟨_, _, ⟨by omega, by omega⟩, h2, fun V hV => (up V).mpr (Or.inl (Or.inl (Or.inr ((key _ _ _).mpr ⟨h1, hV⟩)))), by omega⟩
  · obtain ⟨h1, h2⟩ := (key _ _ _).mp q
    exact ⟨_, _, ⟨by omega, by omega⟩, h2, fun V hV => (up V).mpr (Or.inl (Or.inr ((key _ _ _).mpr ⟨h1, hV⟩))), by omega⟩
  · obtain ⟨h1, h2⟩ := (key _ _ _).mp q
    exact ⟨_, _, ⟨by omega, by omega⟩, h2, fun V hV => (up V).mpr (Or.inr ((key _ _ _).mpr ⟨h1, hV⟩)), by omega⟩
/-- the other way: side by side is mutual -/
theorem nb4_at {V : Cl} {x y i j : Nat} (hx : x < 120) (hy : y < 120) (hV : V x y = true) (e : (x = i ∧ y = j) ∨ (x + 1 = i ∧ y = j) ∨ (x = i + 1 ∧ y = j) ∨ (x = i ∧ y + 1 = j) ∨ (x = i ∧ y = j + 1)) : nb4 V i j = true := by
  have k := pd_in (S := V) hx hy
  rw [hV] at k
  simp only [nb4, Bool.or_eq_true]
  rcases e with ⟨rfl, rfl⟩ | ⟨rfl, rfl⟩ | ⟨rfl, rfl⟩ | ⟨rfl, rfl⟩ | ⟨rfl, rfl⟩
  · exact Or.inl (Or.inl (Or.inl (Or.inl k)))
  · exact Or.inl (Or.inl (Or.inl (Or.inr k)))
  · exact Or.inl (Or.inl (Or.inr k))
  · exact Or.inl (Or.inr k)
  · exact Or.inr k
/-- before u, v, row by row -/
def bef (i j u v : Nat) : Prop := j < v ∨ (j = v ∧ i < u)
def Rem (A : Cl) (u v i j : Nat) : Prop := ∀ x, x < 120 → ∀ y, y < 120 → bef x y u v → A x y = true → ¬ Cn A x y i j
noncomputable def remC (A : Cl) (u v : Nat) : Cl := fun i j => A i j && @decide (Rem A u v i j) (Classical.propDecidable _)
theorem remC_t {A : Cl} {u v i j : Nat} : remC A u v i j = true ↔ A i j = true ∧ Rem A u v i j := by
  rw [remC, Bool.and_eq_true]
  exact and_congr Iff.rfl (@decide_eq_true_iff _ (Classical.propDecidable _))
/-- the first cell of its part -/
noncomputable def firstB (A : Cl) (u v : Nat) : Bool := remC A u v u v
noncomputable def nPart (A : Cl) : Nat := fb_sm (fun j => fb_ct (fun i => firstB A i j) 120) 120
theorem rem_f {A : Cl} {u v : Nat} (hu : u < 120) (hv : v < 120) (h : remC A u v u v = false) {i j : Nat} (_hi : i < 120) (_hj : j < 120) : remC A u v i j = remC A (u + 1) v i j := by
  rw [Bool.eq_iff_iff, remC_t, remC_t]
  constructor
  · rintro ⟨hA, hR⟩
    refine ⟨hA, fun x hx y hy hb hxy hc => ?_⟩
    by_cases e : x = u ∧ y = v
    · obtain ⟨rfl, rfl⟩ := e
      apply Bool.eq_false_iff.mp h
      rw [remC_t]
      exact ⟨hxy, fun x2 hx2 y2 hy2 hb2 hA2 hc2 => hR x2 hx2 y2 hy2 hb2 hA2 (hc2.tr hc)⟩
    · exact hR x hx y hy (by unfold bef at hb ⊢; omega) hxy hc
  · rintro ⟨hA, hR⟩
    exact ⟨hA, fun x hx y hy hb => hR x hx y hy (by unfold bef at hb ⊢; omega)⟩
theorem rem_n {A : Cl} {v i j : Nat} : remC A 120 v i j = remC A 0 (v + 1) i j := by
  rw [Bool.eq_iff_iff, remC_t, remC_t]
  refine and_congr Iff.rfl ⟨fun h x hx y hy hb => h x hx y hy (by unfold bef at hb ⊢; omega), fun h x hx y hy hb => h x hx y hy (by unfold bef at hb ⊢; omega)⟩
theorem rem_0 {A : Cl} {i j : Nat} : remC A 0 0 i j = A i j := by
  rw [Bool.eq_iff_iff, remC_t]
  exact ⟨fun h => h.1, fun h => ⟨h, fun x hx y hy hb => by unfold bef at hb; omega⟩⟩
theorem rem_hng {A T : Cl} {u v : Nat} (hu : u < 120) (hv : v < 120) (hr : remC A u v u v = true) (h : Hng (remC A u v) (oneC u v) T) {i j : Nat} (hi : i < 120) (hj : j < 120) : T i j = true ↔ Cn A u v i j := by
  constructor
  · intro ht U hU hC
    refine h.2.2.2 U (fun x hx y hy e => ?_) (fun x hx y hy hA hn => hC x hx y hy (remC_t.mp hA).1 hn) i hi j hj ht
    obtain ⟨rfl, rfl⟩ := of_decide_eq_true e
    exact hU
  · intro hc
    refine hc T (h.1 u hu v hv (decide_eq_true ⟨rfl, rfl⟩)) (fun x hx y hy hA hn => h.2.2.1 x hx y hy ?_ hn)
    obtain ⟨x2, y2, ⟨l1, l2⟩, hT, -, hadj⟩ := nb4_ex hn
    have h2 := remC_t.mp (h.2.1 x2 l1 y2 l2 hT)
    rw [remC_t]
    refine ⟨hA, fun a ha b hb hbf hab hc2 => h2.2 a ha b hb hbf hab ?_⟩
    exact hc2.nb l1 l2 h2.1 (fun V hV => nb4_at hx hy hV (by omega))
theorem rem_t {A T : Cl} {u v : Nat} (hu : u < 120) (hv : v < 120) (hr : remC A u v u v = true) (h : Hng (remC A u v) (oneC u v) T) {i j : Nat} (hi : i < 120) (hj : j < 120) : mixC 2 (remC A u v) T i j = remC A (u + 1) v i j := by
  show (remC A u v i j && !T i j) = _
  rw [Bool.eq_iff_iff, Bool.and_eq_true, Bool.not_eq_true', remC_t, remC_t]
  have hT := rem_hng hu hv hr h hi hj
  constructor
  · rintro ⟨⟨hA, hR⟩, hf⟩
    refine ⟨hA, fun x hx y hy hb hxy hc => ?_⟩
    by_cases e : x = u ∧ y = v
    · obtain ⟨rfl, rfl⟩ := e
      rw [hT.mpr hc] at hf; cases hf
    · exact hR x hx y hy (by unfold bef at hb ⊢; omega) hxy hc
  · rintro ⟨hA, hR⟩
    refine ⟨⟨hA, fun x hx y hy hb => hR x hx y hy (by unfold bef at hb ⊢; omega)⟩, ?_⟩
    cases q : T i j with
    | false => rfl
    | true => exact absurd (hT.mp q) (hR u hu v hv (by unfold bef; omega) (remC_t.mp hr).1)
theorem AR_one {s : Nat → Int64} {a p q : Nat} (hp : p < 120) (hq : q < 120) : AR (setM (blk s a (fun _ => 0) 240) a p q) a (oneC p q) :=
  (AR_set hp hq AR_empty).congr (fun i hi j hj => by rw [Bool.false_or]; rfl)
theorem c_X6_partsOf {E : Le} {l : Launch} {D : Dt} {A : Cl} {a : Nat} (ha : a < 5) (hA : AR (D.2.1 21 0) a A) : ConIp E l yX6_partsOf cX6_partsOf 6 (some .int) 4 [.ref (E.1 (20, 0)), .int (oI (a : Int))] D (fun r D' => r = oI (nPart A : Int) ∧ Fr D D' ∧ Out8 (D.2.1 21 0) (D'.2.1 21 0)) := by
  refine Con_of (by decide) (Nat.le_of_ble_eq_true rfl) ?_
  intro X hX hR hl; subst hl
  have outer : ∀ (m v : Nat) (D1 : Dt), v ≤ 120 → Fr D D1 → Out8 (D.2.1 21 0) (D1.2.1 21 0) → AR (D1.2.1 21 0) 7 (remC A 0 v) → 120 - v < m → Vw E X 6 D1 12 [(0, some (.ref (E.1 (20, 0)))), (1, some (.int (oI (a : Int)))), (2, some (.int (oI ((fb_sm (fun j => fb_ct (fun i => firstB A i j) 120) v + fb_ct (fun i => firstB A i v) 0 : Nat) : Int)))), (3, some (.int (oI ((v : Int) - 60))))] [] := by
    intro m
    induction m with
    | zero => intro v D1 g1 e1 e2 e3 g4; omega
    | succ m ihO =>
      intro v D1 g1 e1 e2 e3 g4
      have inner : v < 120 → ∀ (m u : Nat) (D1 : Dt), u ≤ 120 → Fr D D1 → Out8 (D.2.1 21 0) (D1.2.1 21 0) → AR (D1.2.1 21 0) 7 (remC A u v) → 120 - u < m → Vw E X 6 D1 22 [(0, some (.ref (E.1 (20, 0)))), (1, some (.int (oI (a : Int)))), (2, some (.int (oI ((fb_sm (fun j => fb_ct (fun i => firstB A i j) 120) v + fb_ct (fun i => firstB A i v) u : Nat) : Int)))), (3, some (.int (oI ((v : Int) - 60)))), (4, some (.int (oI ((u : Int) - 60))))] [] := by
        intro hv m
        induction m with
        | zero => intro u D1 g1 e1 e2 e3 g4; omega
        | succ m ih =>
          intro u D1 g1 e1 e2 e3 g4
          have hAv : u < 120 → hasM (D1.2.1 21 0) 7 ((u : Int) - 60) ((v : Int) - 60) = remC A u v u v := fun hu => by
            rw [AR_has e3, rpC, cellB_t.mpr (by omega), Bool.true_and, show ((u : Int) - 60 + 60).toNat = u by omega, show ((v : Int) - 60 + 60).toNat = v by omega]
          refine V_iload (pc := 22) hX rfl dX6_partsOf_22 ?_
          refine V_bipush (pc := 24) (z := 59) hX (oI 59) (by decide) dX6_partsOf_24 ?_
          refine Z_icmp_gt (pc := 26) (tgt := 113) hX (by omega) (by omega) dX6_partsOf_26 (by decide) (fun h26 => ?_) (fun h26 => ?_)
          · refine Z_iinc (pc := 113) hX 1 rfl rfl dX6_partsOf_113 ?_
            refine V_goto (pc := 116) (off := (-104)) (tgt := 12) hX (by decide) dX6_partsOf_116 ?_
            have e : u = 120 := by omega
            subst e
            refine V_cut [(0, some (.ref (E.1 (20, 0)))), (1, some (.int (oI (a : Int)))), (2, some (.int (oI ((fb_sm (fun j => fb_ct (fun i => firstB A i j) 120) (v + 1) + fb_ct (fun i => firstB A i (v + 1)) 0 : Nat) : Int)))), (3, some (.int (oI (((v + 1 : Nat) : Int) - 60))))] ⟨rfl, rfl, rfl, congrArg (fun q => some (Value.int (oI q))) (by omega), trivial⟩ ?_
            exact ihO (v + 1) D1 (by omega) e1 e2 (e3.congr (fun i hi j hj => rem_n)) (by omega)
          · have hu : u < 120 := by omega
            have hAv := hAv hu
            refine V_aload_n (pc := 29) (j := 0) hX 0 rfl rfl dX6_partsOf_29 ?_
            refine V_bipush (pc := 30) (z := 7) hX (oI 7) (by decide) dX6_partsOf_30 ?_
            refine V_iload (pc := 32) hX rfl dX6_partsOf_32 ?_
            refine V_iload_n (pc := 34) (j := 3) hX 3 rfl rfl dX6_partsOf_34 ?_
            refine cVI3 (pc := 35) hX (c_X6_has (a := 7) (by omega) (by omega) (by omega)) (by decide) st_X6_65 ix_20 rfl rfl rfl (Nat.le_of_ble_eq_true rfl) dX6_partsOf_35 ?_
            refine B_if_eq (pc := 38) (tgt := 107) hX dX6_partsOf_38 (by decide) (fun h38 => ?_) (fun h38 => ?_)
            · refine Z_iinc (pc := 107) hX 1 rfl rfl dX6_partsOf_107 ?_
              refine V_goto (pc := 110) (off := (-88)) (tgt := 22) hX (by decide) dX6_partsOf_110 ?_
              have hf : remC A u v u v = false := by rw [← hAv]; exact h38
              refine V_cut [(0, some (.ref (E.1 (20, 0)))), (1, some (.int (oI (a : Int)))), (2, some (.int (oI ((fb_sm (fun j => fb_ct (fun i => firstB A i j) 120) v + fb_ct (fun i => firstB A i v) (u + 1) : Nat) : Int)))), (3, some (.int (oI ((v : Int) - 60)))), (4, some (.int (oI (((u + 1 : Nat) : Int) - 60))))] ⟨rfl, rfl, congrArg (fun q => some (Value.int (oI q))) (by rw [fb_ct_succ, show firstB A u v = false from hf]; rfl), rfl, congrArg (fun q => some (Value.int (oI q))) (by omega), trivial⟩ ?_
              exact ih (u + 1) D1 (by omega) e1 e2 (e3.congr (fun i hi j hj => rem_f (by omega) hv hf hi hj)) (by omega)
            · have hf : remC A u v u v = true := by rw [← hAv]; exact h38
              refine Z_iinc (pc := 41) hX 1 rfl rfl dX6_partsOf_41 ?_
              refine V_aload_n (pc := 44) (j := 0) hX 0 rfl rfl dX6_partsOf_44 ?_
              refine V_iconst (pc := 45) (z := 5) hX (oI 5) rfl dX6_partsOf_45 ?_
              refine cVV1 (pc := 46) hX (c_X6_empties (a := 5) (by omega)) (by decide) st_X6_108 ix_20 rfl rfl rfl (Nat.le_of_ble_eq_true rfl) dX6_partsOf_46 ?_
              refine V_aload_n (pc := 49) (j := 0) hX 0 rfl rfl dX6_partsOf_49 ?_
              refine V_iconst (pc := 50) (z := 5) hX (oI 5) rfl dX6_partsOf_50 ?_
              refine V_iload (pc := 51) hX rfl dX6_partsOf_51 ?_
              refine V_iload_n (pc := 53) (j := 3) hX 3 rfl rfl dX6_partsOf_53 ?_
              refine cVV3 (pc := 54) hX (c_X6_lays (a := 5) (by omega) (by omega) (by omega)) (by decide) st_X6_117 ix_20 rfl rfl rfl (Nat.le_of_ble_eq_true rfl) dX6_partsOf_54 ?_
              obtain ⟨D2, hD2⟩ : ∃ q, q = lU (lU D1 21 0 (blk (D1.2.1 21 0) 5 (fun _ => 0) 240)) 21 0 (setM ((lU D1 21 0 (blk (D1.2.1 21 0) 5 (fun _ => 0) 240)).2.1 21 0) 5 (((u : Int) - 60) + 60).toNat (((v : Int) - 60) + 60).toNat) := ⟨_, rfl⟩
              refine V_heap hD2.symm ?_
              rw [lU_get, lU_lU, show (((u : Int) - 60) + 60).toNat = u by omega, show (((v : Int) - 60) + 60).toNat = v by omega] at hD2
              have hS5 : AR (D2.2.1 21 0) 5 (oneC u v) := by rw [hD2, lU_get]; exact AR_one (by omega) (by omega)
              have hO5 : Out5 (D1.2.1 21 0) (D2.2.1 21 0) := by rw [hD2, lU_get]; exact Out5_blk.tr (Out5_set (by omega) (by omega))
              have hA7 : AR (D2.2.1 21 0) 7 (remC A u v) := e3.same (fun k hk => hO5 _ (by omega))
              have hsub : Sub (oneC u v) (remC A u v) := fun x hx y hy q => by obtain ⟨rfl, rfl⟩ := of_decide_eq_true q; exact hf
              refine V_aload_n (pc := 57) (j := 0) hX 0 rfl rfl dX6_partsOf_57 ?_
              refine cVVp0 (pc := 58) hX (c_X6_hangs (A := remC A u v) (S0 := oneC u v) hA7 hS5 hsub) (by decide) st_X6_153 ix_20 rfl rfl rfl (Nat.le_of_ble_eq_true rfl) dX6_partsOf_58 (fun D58 h58 => ?_)
              obtain ⟨t, T, rfl, hO, hT5, hHg⟩ := h58
              obtain ⟨D3, hD3⟩ : ∃ q, q = lU D2 21 0 t := ⟨_, rfl⟩
              rw [← hD3]
              have hs3 : D3.2.1 21 0 = t := by rw [hD3, lU_get]
              rw [← hs3] at hO hT5
              have hA7b : AR (D3.2.1 21 0) 7 (remC A u v) := hA7.same (fun k hk => hO _ (by omega))
              have hF2 : Fr D D3 := by rw [hD3, hD2]; exact (e1.tr (Fr_lU _ _)).tr (Fr_lU _ _)
              have hO2 : Out8 (D.2.1 21 0) (D3.2.1 21 0) := e2.tr (hO5.o8.tr hO.o8)
              have lk2 : ∀ (m k : Nat) (D1 : Dt), k ≤ 240 → D1 = lU D3 21 0 (blk (D3.2.1 21 0) 7 (fun k => opL 2 (D3.2.1 21 0 (240 * 7 + k)) (D3.2.1 21 0 (240 * 5 + k))) k) → 240 - k < m → Vw E X 6 D1 64 [(0, some (.ref (E.1 (20, 0)))), (1, some (.int (oI (a : Int)))), (2, some (.int (oI (((fb_sm (fun j => fb_ct (fun i => firstB A i j) 120) v + fb_ct (fun i => firstB A i v) u : Nat) : Int) + 1)))), (3, some (.int (oI ((v : Int) - 60)))), (4, some (.int (oI ((u : Int) - 60)))), (5, some (.int (oI (k : Int))))] [] := by
                intro m
                induction m with
                | zero => intro k D1 g1 g2 g3; omega
                | succ m ihk =>
                  intro k D1 g1 g2 g3
                  refine V_iload (pc := 64) hX rfl dX6_partsOf_64 ?_
                  refine V_sipush (pc := 66) (z := 240) hX (oI 240) (by decide) dX6_partsOf_66 ?_
                  refine Z_icmp_ge (pc := 69) (tgt := 107) hX (by omega) (by omega) dX6_partsOf_69 (by decide) (fun h69 => ?_) (fun h69 => ?_)
                  · refine Z_iinc (pc := 107) hX 1 rfl rfl dX6_partsOf_107 ?_
                    refine V_goto (pc := 110) (off := (-88)) (tgt := 22) hX (by decide) dX6_partsOf_110 ?_
                    have e : k = 240 := by omega
                    subst e
                    refine V_cut [(0, some (.ref (E.1 (20, 0)))), (1, some (.int (oI (a : Int)))), (2, some (.int (oI ((fb_sm (fun j => fb_ct (fun i => firstB A i j) 120) v + fb_ct (fun i => firstB A i v) (u + 1) : Nat) : Int)))), (3, some (.int (oI ((v : Int) - 60)))), (4, some (.int (oI (((u + 1 : Nat) : Int) - 60))))] ⟨rfl, rfl, congrArg (fun q => some (Value.int (oI q))) (by rw [fb_ct_succ, show firstB A u v = true from hf]; simp; omega), rfl, congrArg (fun q => some (Value.int (oI q))) (by omega), trivial⟩ ?_
                    exact ih (u + 1) D1 (by omega) (by rw [g2]; exact hF2.tr (Fr_lU _ _)) (by rw [g2, lU_get]; exact hO2.tr (fun k hk => blk_out (by omega))) (by rw [g2, lU_get]; exact (AR_mix 2 hA7b hT5 (fun k hk => blk_in hk)).congr (fun i hi j hj => rem_t (by omega) hv hf hHg hi hj)) (by omega)
                  · refine V_aload_n (pc := 72) (j := 0) hX 0 rfl rfl dX6_partsOf_72 ?_
                    refine gf_X6_7 (pc := 73) hX dX6_partsOf_73 ?_
                    refine V_sipush (pc := 76) (z := 1680) hX (oI 1680) (by decide) dX6_partsOf_76 ?_
                    refine V_iload (pc := 79) hX rfl dX6_partsOf_79 ?_
                    refine Z_iadd (pc := 81) hX dX6_partsOf_81 ?_
                    refine V_dup2_11 (pc := 82) hX rfl rfl dX6_partsOf_82 ?_
                    refine zl_21 (pc := 83) hX (240 * 7 + k) (by omega) (by omega) dX6_partsOf_83 ?_
                    refine V_aload_n (pc := 84) (j := 0) hX 0 rfl rfl dX6_partsOf_84 ?_
                    refine gf_X6_7 (pc := 85) hX dX6_partsOf_85 ?_
                    refine V_sipush (pc := 88) (z := 1200) hX (oI 1200) (by decide) dX6_partsOf_88 ?_
                    refine V_iload (pc := 91) hX rfl dX6_partsOf_91 ?_
                    refine Z_iadd (pc := 93) hX dX6_partsOf_93 ?_
                    refine zl_21 (pc := 94) hX (240 * 5 + k) (by omega) (by omega) dX6_partsOf_94 ?_
                    refine V_ldc2 (pc := 95) hX (-1) w_867 dX6_partsOf_95 ?_
                    refine V_lxor (pc := 98) hX dX6_partsOf_98 ?_
                    refine V_land (pc := 99) hX dX6_partsOf_99 ?_
                    refine zs_21 (pc := 100) hX (240 * 7 + k) (by omega) (by omega) dX6_partsOf_100 ?_
                    refine Z_iinc (pc := 101) hX 1 rfl rfl dX6_partsOf_101 ?_
                    refine V_goto (pc := 104) (off := (-40)) (tgt := 64) hX (by decide) dX6_partsOf_104 ?_
                    refine V_cut [(0, some (.ref (E.1 (20, 0)))), (1, some (.int (oI (a : Int)))), (2, some (.int (oI (((fb_sm (fun j => fb_ct (fun i => firstB A i j) 120) v + fb_ct (fun i => firstB A i v) u : Nat) : Int) + 1)))), (3, some (.int (oI ((v : Int) - 60)))), (4, some (.int (oI ((u : Int) - 60)))), (5, some (.int (oI ((k + 1 : Nat) : Int))))] ⟨rfl, rfl, rfl, rfl, rfl, rfl, trivial⟩ ?_
                    refine ihk (k + 1) _ (by omega) ?_ (by omega)
                    rw [g2, lU_get, lU_lU, ← blk_s, opL, if_neg (by decide), if_neg (by decide), if_pos rfl, blk_out (by omega), blk_out (by omega)]
              refine V_iconst (pc := 61) (z := 0) hX (oI 0) rfl dX6_partsOf_61 ?_
              refine V_istore (pc := 62) hX (by decide) rfl dX6_partsOf_62 ?_
              refine V_cut [(0, some (.ref (E.1 (20, 0)))), (1, some (.int (oI (a : Int)))), (2, some (.int (oI (((fb_sm (fun j => fb_ct (fun i => firstB A i j) 120) v + fb_ct (fun i => firstB A i v) u : Nat) : Int) + 1)))), (3, some (.int (oI ((v : Int) - 60)))), (4, some (.int (oI ((u : Int) - 60)))), (5, some (.int (oI ((0 : Nat) : Int))))] ⟨rfl, rfl, rfl, rfl, rfl, rfl, trivial⟩ ?_
              exact lk2 241 0 D3 (by omega) (by rw [blk_0, lU_self]) (by omega)
      refine V_iload_n (pc := 12) (j := 3) hX 3 rfl rfl dX6_partsOf_12 ?_
      refine V_bipush (pc := 13) (z := 59) hX (oI 59) (by decide) dX6_partsOf_13 ?_
      refine Z_icmp_gt (pc := 15) (tgt := 119) hX (by omega) (by omega) dX6_partsOf_15 (by decide) (fun h15 => ?_) (fun h15 => ?_)
      · refine V_iload_n (pc := 119) (j := 2) hX 2 rfl rfl dX6_partsOf_119 ?_
        refine V_iret (pc := 120) hX hR dX6_partsOf_120 ?_
        have e : v = 120 := by omega
        subst e
        exact ⟨_, rfl, by rw [nPart, show fb_ct (fun i => firstB A i 120) 0 = 0 from rfl, Nat.add_zero], e1, e2⟩
      · refine V_bipush (pc := 18) (z := (-60)) hX (oI (-60)) (by decide) dX6_partsOf_18 ?_
        refine V_istore (pc := 20) hX (by decide) rfl dX6_partsOf_20 ?_
        refine V_cut [(0, some (.ref (E.1 (20, 0)))), (1, some (.int (oI (a : Int)))), (2, some (.int (oI ((fb_sm (fun j => fb_ct (fun i => firstB A i j) 120) v + fb_ct (fun i => firstB A i v) 0 : Nat) : Int)))), (3, some (.int (oI ((v : Int) - 60)))), (4, some (.int (oI (((0 : Nat) : Int) - 60))))] ⟨rfl, rfl, rfl, rfl, rfl, trivial⟩ ?_
        exact inner (by omega) 121 0 D1 (by omega) e1 e2 e3 (by omega)
  refine V_iconst (pc := 0) (z := 0) hX (oI 0) rfl dX6_partsOf_0 ?_
  refine V_istore_n (pc := 1) (j := 2) hX 2 rfl (by decide) rfl dX6_partsOf_1 ?_
  refine V_aload_n (pc := 2) (j := 0) hX 0 rfl rfl dX6_partsOf_2 ?_
  refine V_iload_n (pc := 3) (j := 1) hX 1 rfl rfl dX6_partsOf_3 ?_
  refine V_bipush (pc := 4) (z := 7) hX (oI 7) (by decide) dX6_partsOf_4 ?_
  refine cVV2 (pc := 6) hX (c_X6_copies (a := a) (b := 7) (by omega) (by omega)) (by decide) st_X6_97 ix_20 rfl rfl rfl (Nat.le_of_ble_eq_true rfl) dX6_partsOf_6 ?_
  refine V_bipush (pc := 9) (z := (-60)) hX (oI (-60)) (by decide) dX6_partsOf_9 ?_
  refine V_istore_n (pc := 11) (j := 3) hX 3 rfl (by decide) rfl dX6_partsOf_11 ?_
  refine V_cut [(0, some (.ref (E.1 (20, 0)))), (1, some (.int (oI (a : Int)))), (2, some (.int (oI ((fb_sm (fun j => fb_ct (fun i => firstB A i j) 120) 0 + fb_ct (fun i => firstB A i 0) 0 : Nat) : Int)))), (3, some (.int (oI (((0 : Nat) : Int) - 60))))] ⟨rfl, rfl, rfl, rfl, trivial⟩ ?_
  exact outer 121 0 _ (by omega) (Fr_lU D _) (by rw [lU_get]; exact fun k hk => blk_out (by omega)) (by rw [lU_get]; exact (hA.same (fun k hk => blk_in hk)).congr (fun i hi j hj => rem_0.symm)) (by omega)
