/-! THE CLASS: its state -/
def raD (D : Dt) : Nat := 1 + (b2 (D.2.2 0 0)).val
def rtD (D : Dt) : Nat := 1 + (b2 (D.2.2 0 1)).val
/-- rows p and q of areas and the one that is made: all of them different -/
def PtG (P : Nat → Nat → Fin 11) (p q : Nat) : Prop := (p ≠ q ∧ p ≠ 0 ∧ q ≠ 0) ∧ (∀ a, a < 5 → ∀ b, b < 5 → P p a = P p b → a = b) ∧ (∀ a, a < 5 → ∀ b, b < 5 → P q a = P q b → a = b) ∧ (∀ a, a < 5 → ∀ b, b < 5 → P p a ≠ P q b) ∧ (∀ a, a < 5 → P p a ≠ P 0 2) ∧ (∀ a, a < 5 → P q a ≠ P 0 2)
theorem PtG.symm {P : Nat → Nat → Fin 11} {p q : Nat} (h : PtG P p q) : PtG P q p := ⟨⟨Ne.symm h.1.1, h.1.2.2, h.1.2.1⟩, h.2.2.1, h.2.1, fun a ha b hb => Ne.symm (h.2.2.2.1 b hb a ha), h.2.2.2.2.2, h.2.2.2.2.1⟩
/-- what is made changes places with an area of row p -/
def swP (P : Nat → Nat → Fin 11) (p to : Nat) : Nat → Nat → Fin 11 := fun x => if x = 0 then pS (P 0) 2 (P p to) else if x = p then pS (P p) to (P 0 2) else P x
theorem swP_0 (P : Nat → Nat → Fin 11) (p to j : Nat) : swP P p to 0 j = if j = 2 then P p to else P 0 j := by
  show (if 0 = 0 then pS (P 0) 2 (P p to) else _) j = _
  rw [if_pos rfl]; rfl
theorem swP_p {P : Nat → Nat → Fin 11} {p : Nat} (hp : p ≠ 0) (to j : Nat) : swP P p to p j = if j = to then P 0 2 else P p j := by
  show (if p = 0 then _ else if p = p then pS (P p) to (P 0 2) else _) j = _
  rw [if_neg hp, if_pos rfl]; rfl
theorem swP_q {P : Nat → Nat → Fin 11} {p q : Nat} (hq : q ≠ 0) (hpq : q ≠ p) (to j : Nat) : swP P p to q j = P q j := by
  show (if q = 0 then _ else if q = p then _ else P q) j = _
  rw [if_neg hq, if_neg hpq]
theorem PtG.sw {P : Nat → Nat → Fin 11} {p q to : Nat} (h : PtG P p q) (ht : to < 5) : PtG (swP P p to) p q := by
  obtain ⟨⟨h1, h2, h3⟩, h4, h5, h6, h7, h8⟩ := h
  refine ⟨⟨h1, h2, h3⟩, fun a ha b hb e => ?_, fun a ha b hb e => ?_, fun a ha b hb e => ?_, fun a ha e => ?_, fun a ha e => ?_⟩
  · rw [swP_p h2, swP_p h2] at e
    by_cases c1 : a = to
    · by_cases c2 : b = to
      · omega
      · rw [if_pos c1, if_neg c2] at e; exact absurd e.symm (h7 b hb)
    · by_cases c2 : b = to
      · rw [if_neg c1, if_pos c2] at e; exact absurd e (h7 a ha)
      · rw [if_neg c1, if_neg c2] at e; exact h4 a ha b hb e
  · rw [swP_q h3 (Ne.symm h1), swP_q h3 (Ne.symm h1)] at e
    exact h5 a ha b hb e
  · rw [swP_p h2, swP_q h3 (Ne.symm h1)] at e
    by_cases c1 : a = to
    · rw [if_pos c1] at e; exact h8 b hb e.symm
    · rw [if_neg c1] at e; exact h6 a ha b hb e
  · rw [swP_p h2, swP_0, if_pos rfl] at e
    by_cases c1 : a = to
    · rw [if_pos c1] at e; exact h7 to ht e.symm
    · rw [if_neg c1] at e; exact c1 (h4 a ha to ht e)
  · rw [swP_q h3 (Ne.symm h1), swP_0, if_pos rfl] at e
    exact h6 to ht a ha e.symm
def PtW (D : Dt) : Prop := PtG D.2.2 (raD D) (rtD D)
/-- the areas of row p are F -/
def ArR (D : Dt) (p : Nat) (F : Nat → Cl) : Prop := ∀ a, a < 5 → AC D (D.2.2 p a) (F a) ∧ fitC (F a) = true
def CRs (D : Dt) (σ : AS) : Prop := (∀ k, k < 3 → D.1 19 k = σ.2.1 k) ∧ TcX D σ.2.2.1 ∧ CrQ D σ.2.2.2.1 σ.2.2.2.2.1 σ.2.2.2.2.2
def Cst (D : Dt) (σ : AS) : Prop := PtW D ∧ ArR D (raD D) σ.1 ∧ CRs D σ
/-- the reference's cells are as they were -/
def MKf (D D' : Dt) : Prop := (∀ t, 20 ≤ t → D'.1 t = D.1 t) ∧ ∀ z, D'.2.1 21 z = D.2.1 21 z
theorem MKf.rf (D : Dt) : MKf D D := ⟨fun _ _ => rfl, fun _ => rfl⟩
theorem MKf.tr {D D1 D2 : Dt} (h : MKf D D1) (k : MKf D1 D2) : MKf D D2 := ⟨fun t ht => (k.1 t ht).trans (h.1 t ht), fun z => (k.2 z).trans (h.2 z)⟩
def PubC (D : Dt) (q : Int × AS) (r : Int32) (D' : Dt) : Prop := r = oI q.1 ∧ Cst D' q.2 ∧ MKf D D'
/-- what laying changes: the form, and what is made -/
def LK (D D' : Dt) : Prop := (∀ t, ¬ (5 ≤ t ∧ t ≤ 11) → D'.1 t = D.1 t) ∧ D'.2.2 = D.2.2 ∧ ∀ t y, ¬ ((t = 2 ∨ t = 3) ∧ y = D.2.2 0 2) → D'.2.1 t y = D.2.1 t y
theorem LK.rf (D : Dt) : LK D D := ⟨fun _ _ => rfl, rfl, fun _ _ _ => rfl⟩
theorem LK.tr {D D1 D2 : Dt} (h : LK D D1) (k : LK D1 D2) : LK D D2 := ⟨fun t ht => (k.1 t ht).trans (h.1 t ht), k.2.1.trans h.2.1, fun t y q => (k.2.2 t y (by rw [h.2.1]; exact q)).trans (h.2.2 t y q)⟩
theorem FK.lk {D D' : Dt} (h : FK D D') : LK D D' := ⟨h.1, by rw [h.2], fun t y _ => by rw [h.2]⟩
theorem Az.lk {D D' : Dt} (h : Az (D.2.2 0 2) D D') : LK D D' := ⟨fun t _ => by rw [h.1], h.2.1, h.2.2⟩
theorem LK.ac {D D' : Dt} {z : Fin 11} {S : Cl} (h : LK D D') (hz : z ≠ D.2.2 0 2) (k : AC D z S) : AC D' z S := by
  unfold AC
  rw [h.2.2 2 z (fun q => hz q.2), h.2.2 3 z (fun q => hz q.2)]
  exact k
theorem LK.pt {D D' : Dt} (h : LK D D') (k : PtW D) : PtW D' := by
  unfold PtW raD rtD
  rw [h.2.1]; exact k
theorem LK.ar {D D' : Dt} {p : Nat} {F : Nat → Cl} (h : LK D D') (hp : ∀ a, a < 5 → D.2.2 p a ≠ D.2.2 0 2) (k : ArR D p F) : ArR D' p F := fun a ha => by
  rw [h.2.1]; exact ⟨h.ac (hp a ha) (k a ha).1, (k a ha).2⟩
theorem LK.rs {D D' : Dt} {σ : AS} (h : LK D D') (k : CRs D σ) : CRs D' σ := by
  obtain ⟨k1, k2, k3⟩ := k
  refine ⟨fun j hj => by rw [h.1 19 (by omega)]; exact k1 j hj, ⟨by rw [h.1 15 (by omega)]; exact k2.1, k2.2.1, fun j hj => by rw [h.1 16 (by omega)]; exact k2.2.2 j hj⟩, k3.fr (fun t ht => h.1 t (by omega))⟩
theorem LK.mk {D D' : Dt} (h : LK D D') : MKf D D' := ⟨fun t ht => h.1 t (by omega), fun z => h.2.2 21 z (by omega)⟩
theorem Cst.lk {D D' : Dt} {σ : AS} (h : Cst D σ) (k : LK D D') : Cst D' σ := by
  obtain ⟨h1, h2, h3⟩ := h
  refine ⟨k.pt h1, ?_, k.rs h3⟩
  have e : raD D' = raD D := by unfold raD; rw [k.2.1]
  rw [e]
  exact k.ar h1.2.2.2.2.1 h2
def LyQ (D : Dt) (T : Cl) (D' : Dt) : Prop := LK D D' ∧ AC D' (D.2.2 0 2) T
def KpD (D : Dt) (rw0 : Fin 11) (to : Nat) (T : Cl) (D' : Dt) : Prop := (∀ t, ¬ (5 ≤ t ∧ t ≤ 11) → D'.1 t = D.1 t) ∧ D'.2.1 = D.2.1 ∧ (fitC T = false → D'.2.2 = D.2.2) ∧ (fitC T = true → D'.2.2 = swP D.2.2 (1 + (b2 rw0).val) to)
theorem KpD.rw0 {D D' : Dt} {r0 : Fin 11} {to : Nat} {T : Cl} (h : KpD D r0 to T D') : raD D' = raD D ∧ rtD D' = rtD D := by
  cases hf : fitC T with
  | false => unfold raD rtD; rw [h.2.2.1 hf]; exact ⟨rfl, rfl⟩
  | true => unfold raD rtD; rw [h.2.2.2 hf, swP_0, swP_0]; exact ⟨rfl, rfl⟩
/-- row p takes what is made -/
theorem Kp_row {D D' : Dt} {r0 : Fin 11} {p q to : Nat} {T : Cl} {F : Nat → Cl} (hpt : PtG D.2.2 p q) (hp : p = 1 + (b2 r0).val) (ht : to < 5) (hF : ArR D p F) (hT : AC D (D.2.2 0 2) T) (h : KpD D r0 to T D') : PtG D'.2.2 p q ∧ ArR D' p (if fitC T then setF F to T else F) := by
  have ac : ∀ {z : Fin 11} {S : Cl}, AC D z S → AC D' z S := fun {z S} k => by unfold AC; rw [h.2.1]; exact k
  cases hf : fitC T with
  | false =>
    rw [if_neg Bool.false_ne_true, h.2.2.1 hf]
    exact ⟨hpt, fun a ha => by rw [h.2.2.1 hf]; exact ⟨ac (hF a ha).1, (hF a ha).2⟩⟩
  | true =>
    have e : D'.2.2 = swP D.2.2 p to := by rw [h.2.2.2 hf, hp]
    rw [if_pos rfl, e]
    refine ⟨hpt.sw ht, fun a ha => ?_⟩
    rw [e, swP_p hpt.1.2.1, setF]
    by_cases c : a = to
    · rw [if_pos c, if_pos c]; exact ⟨ac hT, hf⟩
    · rw [if_neg c, if_neg c]; exact ⟨ac (hF a ha).1, (hF a ha).2⟩
theorem Kp_oth {D D' : Dt} {r0 : Fin 11} {p q to : Nat} {T : Cl} {F : Nat → Cl} (hpt : PtG D.2.2 p q) (hp : p = 1 + (b2 r0).val) (hF : ArR D q F) (h : KpD D r0 to T D') : ArR D' q F := by
  have ac : ∀ {z : Fin 11} {S : Cl}, AC D z S → AC D' z S := fun {z S} k => by unfold AC; rw [h.2.1]; exact k
  intro a ha
  cases hf : fitC T with
  | false => rw [h.2.2.1 hf]; exact ⟨ac (hF a ha).1, (hF a ha).2⟩
  | true =>
    rw [h.2.2.2 hf, ← hp, swP_q hpt.1.2.2 (Ne.symm hpt.1.1)]
    exact ⟨ac (hF a ha).1, (hF a ha).2⟩
theorem CRs.kp {D D' : Dt} {σ : AS} (h : ∀ t, ¬ (5 ≤ t ∧ t ≤ 11) → D'.1 t = D.1 t) (k : CRs D σ) : CRs D' σ := by
  obtain ⟨k1, k2, k3⟩ := k
  refine ⟨fun j hj => by rw [h 19 (by omega)]; exact k1 j hj, ⟨by rw [h 15 (by omega)]; exact k2.1, k2.2.1, fun j hj => by rw [h 16 (by omega)]; exact k2.2.2 j hj⟩, k3.fr (fun t ht => h t (by omega))⟩
/-! answers -/
def ansS (f : Nat → Int32) (v : Int) : Nat → Int32 := if -204 ≤ v ∧ v ≤ -202 then refS f v else f
theorem Cst.ref {D : Dt} {σ : AS} (h : Cst D σ) {v : Int} (hv : -204 ≤ v ∧ v ≤ -202) : Cst (rU D 19 (refS (D.1 19) v)) (refA σ v) := by
  obtain ⟨h1, h2, h3, h4, h5⟩ := h
  refine ⟨h1, h2, fun j hj => ?_, h4, h5⟩
  rw [rU_get]
  exact refS_at _ _ v hv h3 j hj
theorem MKf_rU (D : Dt) {t : Nat} (ht : t < 20) (f : Nat → Int32) : MKf D (rU D t f) := ⟨fun u hu => rU_ne D f (by omega), fun _ => rfl⟩
theorem ansS_t {f : Nat → Int32} {v : Int} (h : -204 ≤ v ∧ v ≤ -202) : ansS f v = refS f v := if_pos h
theorem ansS_f {f : Nat → Int32} {v : Int} (h : ¬ (-204 ≤ v ∧ v ≤ -202)) : ansS f v = f := if_neg h
theorem PC_bad {D : Dt} {σ : AS} (h : Cst D σ) : PubC D (badA σ) (oI (-202)) (rU D 19 (ansS (D.1 19) (-202))) := by
  rw [ansS_t (by omega)]
  exact ⟨rfl, h.ref (by omega), MKf_rU D (by decide) _⟩
theorem PC_no {D D1 : Dt} {σ : AS} (h : Cst D σ) (k : LK D D1) : PubC D (noA σ) (oI (-203)) (rU D1 19 (ansS (D1.1 19) (-203))) := by
  rw [ansS_t (by omega)]
  exact ⟨rfl, (h.lk k).ref (by omega), k.mk.tr (MKf_rU D1 (by decide) _)⟩
theorem KpD.mk {D D' : Dt} {r0 : Fin 11} {to : Nat} {T : Cl} (h : KpD D r0 to T D') : MKf D D' := ⟨fun t ht => h.1 t (by omega), fun z => by rw [h.2.1]⟩
theorem Cst.kp {D D1 D2 : Dt} {σ : AS} {T : Cl} {to : Nat} (h : Cst D σ) (k : LyQ D T D1) (ht : to < 5) (q : KpD D1 (D1.2.2 0 0) to T D2) : Cst D2 ((if fitC T then setF σ.1 to T else σ.1), σ.2) := by
  have h1 := h.lk k.1
  have hT : AC D1 (D1.2.2 0 2) T := by rw [k.1.2.1]; exact k.2
  have hr := Kp_row (r0 := D1.2.2 0 0) (p := raD D1) (q := rtD D1) h1.1 rfl ht h1.2.1 hT q
  have he := q.rw0
  refine ⟨?_, ?_, CRs.kp q.1 h1.2.2⟩
  · unfold PtW; rw [he.1, he.2]; exact hr.1
  · rw [he.1]; exact hr.2
theorem PC_keep {D D1 D2 : Dt} {σ : AS} {T : Cl} {to : Nat} (h : Cst D σ) (k : LyQ D T D1) (ht : to < 5) (q : KpD D1 (D1.2.2 0 0) to T D2) : PubC D (mkA σ T to) (oI (mkV T)) (rU D2 19 (ansS (D2.1 19) (mkV T))) := by
  have hc := h.kp k ht q
  have hm := (k.1.mk.tr q.mk).tr (MKf_rU D2 (by decide : 19 < 20) (ansS (D2.1 19) (mkV T)))
  have hg := cntC_max T
  refine ⟨by rw [mkA_1], ?_, hm⟩
  cases hf : fitC T with
  | true =>
    have e1 : mkV T = (cntC T : Int) := by rw [mkV, hf]; rfl
    have e2 : (mkA σ T to).2 = setA σ to T := by rw [mkA, hf]; rfl
    rw [e1, e2, ansS_f (by omega), rU_self]
    rw [hf] at hc
    exact hc
  | false =>
    have e1 : mkV T = -204 := by rw [mkV, hf]; rfl
    have e2 : (mkA σ T to).2 = refA σ (-204) := by rw [mkA, hf]; rfl
    rw [e1, e2, ansS_t (by omega)]
    rw [hf] at hc
    exact hc.ref (by omega)
theorem c_X5_answer {E : Le} {l : Launch} {D : Dt} {v : Int} (hv : Rg v) : ConI E l yX5_answer cX5_answer 2 (some .int) 2 [.ref (E.1 (0, 0)), .int (oI v)] D (oI v) (rU D 19 (ansS (D.1 19) v)) := by
  refine Con_of (by decide) (Nat.le_of_ble_eq_true rfl) ?_
  intro X hX hR hl; subst hl
  refine V_iload_n (pc := 0) (j := 1) hX 1 rfl rfl dX5_answer_0 ?_
  refine V_sipush (pc := 1) (z := (-204)) hX (oI (-204)) (by decide) dX5_answer_1 ?_
  refine V_sipush (pc := 4) (z := (-202)) hX (oI (-202)) (by decide) dX5_answer_4 ?_
  refine cSI3 (pc := 7) hX (c_X5_within hv (by omega) (by omega)) (by decide) st_X5_59 (Nat.le_of_ble_eq_true rfl) dX5_answer_7 ?_
  refine B_if_eq (pc := 10) (tgt := 27) hX dX5_answer_10 (by decide) (fun h10 => ?_) (fun h10 => ?_)
  · have q10 := inB_f.mp h10
    refine V_iload_n (pc := 27) (j := 1) hX 1 rfl rfl dX5_answer_27 ?_
    refine V_iret (pc := 28) hX hR dX5_answer_28 ?_
    exact ⟨rfl, by rw [ansS_f (by omega), rU_self]⟩
  · have q10 := inB_t.mp h10
    refine V_aload_n (pc := 13) (j := 0) hX 0 rfl rfl dX5_answer_13 ?_
    refine gf_X5_51 (pc := 14) hX dX5_answer_14 ?_
    refine V_sipush (pc := 17) (z := (-202)) hX (oI (-202)) (by decide) dX5_answer_17 ?_
    refine V_iload_n (pc := 20) (j := 1) hX 1 rfl rfl dX5_answer_20 ?_
    refine Z_isub (pc := 21) hX dX5_answer_21 ?_
    refine V_dup2_11 (pc := 22) hX rfl rfl dX5_answer_22 ?_
    refine zl_19 (pc := 23) hX ((-202 - v).toNat) (by omega) (by omega) dX5_answer_23 ?_
    refine V_iconst (pc := 24) (z := 1) hX (oI 1) rfl dX5_answer_24 ?_
    refine V_iadd (pc := 25) hX dX5_answer_25 ?_
    refine zs_19 (pc := 26) hX ((-202 - v).toNat) (by omega) (by omega) dX5_answer_26 ?_
    refine V_iload_n (pc := 27) (j := 1) hX 1 rfl rfl dX5_answer_27 ?_
    refine V_iret (pc := 28) hX hR dX5_answer_28 ?_
    exact ⟨rfl, by rw [ansS_t (by omega)]; rfl⟩
def KpQ (D : Dt) (rw0 : Fin 11) (to : Nat) (T : Cl) (r : Int32) (D' : Dt) : Prop := r = oI (mkV T) ∧ KpD D rw0 to T D'
theorem b2_01 (z : Fin 11) : (b2 z).val = 0 ∨ (b2 z).val = 1 := by revert z; decide
theorem keep_D {D D1 : Dt} {rw0 : Fin 11} {to : Nat} {T : Cl} (h : FK D D1) (hf : fitC T = true) : KpD D rw0 to T (pU (pU D1 (1 + (b2 rw0).val) (pS (D1.2.2 (1 + (b2 rw0).val)) to (D1.2.2 0 2))) 0 (pS ((pU D1 (1 + (b2 rw0).val) (pS (D1.2.2 (1 + (b2 rw0).val)) to (D1.2.2 0 2))).2.2 0) 2 (D1.2.2 (1 + (b2 rw0).val) to))) := by
  refine ⟨h.1, by show D1.2.1 = _; rw [h.2], fun q => (by rw [hf] at q; cases q), fun _ => ?_⟩
  funext x
  have hb := b2_01 rw0
  rw [← h.2]
  show (if x = 0 then pS ((if 0 = 1 + (b2 rw0).val then _ else D1.2.2 0)) 2 _ else if x = 1 + (b2 rw0).val then pS (D1.2.2 (1 + (b2 rw0).val)) to (D1.2.2 0 2) else D1.2.2 x) = (if x = 0 then pS (D1.2.2 0) 2 (D1.2.2 (1 + (b2 rw0).val) to) else if x = 1 + (b2 rw0).val then pS (D1.2.2 (1 + (b2 rw0).val)) to (D1.2.2 0 2) else D1.2.2 x)
  rw [if_neg (show ¬ 0 = 1 + (b2 rw0).val by omega)]
theorem V_rf {E : Le} {X : Cx} {nL : Nat} {D : Dt} {pc : Nat} {lv : Lv} {st : List Value} {z y : Fin 11} (h : y = z) (k : Vw E X nL D pc lv (.ref (E.1 (1, z)) :: st)) : Vw E X nL D pc lv (.ref (E.1 (1, y)) :: st) := h ▸ k
theorem c_X5_keep {E : Le} {l : Launch} {D : Dt} {rw0 : Fin 11} {to : Int} {T : Cl} (hto : 0 ≤ to ∧ to ≤ 4) (hT : AC D (D.2.2 0 2) T) : ConIp E l yX5_keep cX5_keep 4 (some .int) 5 [.ref (E.1 (0, 0)), .ref (E.1 (4, b2 rw0)), .int (oI to)] D (KpQ D rw0 to.toNat T) := by
  refine Con_of (by decide) (Nat.le_of_ble_eq_true rfl) ?_
  intro X hX hR hl; subst hl
  refine V_aload_n (pc := 0) (j := 0) hX 0 rfl rfl dX5_keep_0 ?_
  refine gf_X5_26 (pc := 1) hX dX5_keep_1 ?_
  refine V_aload_n (pc := 4) (j := 0) hX 0 rfl rfl dX5_keep_4 ?_
  refine gf_X5_19 (pc := 5) hX dX5_keep_5 ?_
  refine cVIp1 (pc := 8) hX (c_X1_read hT) (by decide) st_X5_104 ix_5 rfl rfl rfl (Nat.le_of_ble_eq_true rfl) dX5_keep_8 (fun r8 D8 h8 => ?_)
  obtain ⟨rfl, h8⟩ := h8
  have h8 : True ∧ FK D D8 ∧ True := ⟨trivial, h8.1, trivial⟩
  refine B_if_ne (pc := 11) (tgt := 18) hX dX5_keep_11 (by decide) (fun h11 => ?_) (fun h11 => ?_)
  · refine V_aload_n (pc := 18) (j := 1) hX 1 rfl rfl dX5_keep_18 ?_
    refine V_iload_n (pc := 19) (j := 2) hX 2 rfl rfl dX5_keep_19 ?_
    refine zl_4 (pc := 20) hX (to.toNat) (by omega) (by omega) dX5_keep_20 ?_
    refine V_astore_n (pc := 21) (j := 3) hX 3 rfl (by decide) rfl dX5_keep_21 ?_
    refine V_aload_n (pc := 22) (j := 1) hX 1 rfl rfl dX5_keep_22 ?_
    refine V_iload_n (pc := 23) (j := 2) hX 2 rfl rfl dX5_keep_23 ?_
    refine V_aload_n (pc := 24) (j := 0) hX 0 rfl rfl dX5_keep_24 ?_
    refine gf_X5_19 (pc := 25) hX dX5_keep_25 ?_
    refine zs_4 (pc := 28) hX (to.toNat) (by omega) (by omega) dX5_keep_28 ?_
    refine V_aload_n (pc := 29) (j := 0) hX 0 rfl rfl dX5_keep_29 ?_
    refine V_aload_n (pc := 30) (j := 3) hX 3 rfl rfl dX5_keep_30 ?_
    refine pf_X5_19 (pc := 31) hX dX5_keep_31 ?_
    refine V_aload_n (pc := 34) (j := 1) hX 1 rfl rfl dX5_keep_34 ?_
    refine V_iload_n (pc := 35) (j := 2) hX 2 rfl rfl dX5_keep_35 ?_
    refine zl_4 (pc := 36) hX (to.toNat) (by omega) (by omega) dX5_keep_36 ?_
    have hTT : AC (pU (pU D8 (1 + (b2 rw0).val) (pS (D8.2.2 (1 + (b2 rw0).val)) to.toNat (D8.2.2 0 2))) 0 (pS ((pU D8 (1 + (b2 rw0).val) (pS (D8.2.2 (1 + (b2 rw0).val)) to.toNat (D8.2.2 0 2))).2.2 0) 2 (D8.2.2 (1 + (b2 rw0).val) to.toNat))) (D.2.2 0 2) T := h8.2.1.ac hT
    refine V_rf (z := D.2.2 0 2) ?_ ?_
    · have hb := b2_01 rw0
      show (if 1 + (b2 rw0).val = 0 then _ else if 1 + (b2 rw0).val = 1 + (b2 rw0).val then pS (D8.2.2 (1 + (b2 rw0).val)) to.toNat (D8.2.2 0 2) else _) to.toNat = D.2.2 0 2
      rw [if_neg (by omega), if_pos rfl, ← h8.2.1.2]
      show (if to.toNat = to.toNat then _ else _) = _
      rw [if_pos rfl]
    refine cVI0 (pc := 37) hX (c_X0_cells (S := T) hTT) (by decide) st_X5_131 (ix_1 _) rfl rfl rfl (Nat.le_of_ble_eq_true rfl) dX5_keep_37 ?_
    refine V_iret (pc := 40) hX hR dX5_keep_40 ?_
    exact ⟨_, rfl, by rw [mkV, h11]; rfl, keep_D h8.2.1 h11⟩
  · refine V_sipush (pc := 14) (z := (-204)) hX (oI (-204)) (by decide) dX5_keep_14 ?_
    refine V_iret (pc := 17) hX hR dX5_keep_17 ?_
    refine ⟨_, rfl, by rw [mkV, h11]; rfl, h8.2.1.1, by rw [h8.2.1.2], fun _ => by rw [h8.2.1.2], fun q => (by rw [h11] at q; cases q)⟩
