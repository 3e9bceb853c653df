/-! THE ABSTRACT STATE: areas, how often refused, the text (how many bytes, which), the corners (how many, x, y) -/
abbrev AS : Type := (Nat → Cl) × (Nat → Int32) × (Nat × (Nat → Int)) × (Nat × (Nat → Int) × (Nat → Int))
def refA (σ : AS) (v : Int) : AS := (σ.1, refS σ.2.1 v, σ.2.2)
def setA (σ : AS) (b : Nat) (T : Cl) : AS := (fun a => if a = b then T else σ.1 a, σ.2)
def mkA (σ : AS) (T : Cl) (b : Nat) : Int × AS := if fitC T then ((cntC T : Int), setA σ b T) else (-204, refA σ (-204))
def badA (σ : AS) : Int × AS := (-202, refA σ (-202))
def noA (σ : AS) : Int × AS := (-203, refA σ (-203))
def wdM (k : Nat) : Int := ([98, 101, 32, 98, 111, 120, 32, 110, 111, 110, 101, 32, 111, 114, 32, 97, 110, 100, 32, 98, 117, 116, 32, 120, 111, 114, 32, 109, 111, 118, 101, 32, 103, 114, 111, 119, 32, 115, 104, 114, 105, 110, 107, 32, 102, 108, 105, 112, 32, 116, 117, 114, 110, 32] : List Int).getD k 0
/-! what the reference holds of it -/
def MR (D : Dt) (σ : AS) : Prop := (∀ k, k < 3 → D.1 22 k = σ.2.1 k) ∧ (D.1 20 3 = oI (σ.2.2.1.1 : Int) ∧ σ.2.2.1.1 ≤ 120 ∧ ∀ k, k < σ.2.2.1.1 → D.1 23 k = oI (σ.2.2.1.2 k) ∧ 0 ≤ σ.2.2.1.2 k ∧ σ.2.2.1.2 k < 128) ∧ (D.1 20 6 = oI (σ.2.2.2.1 : Int) ∧ σ.2.2.2.1 ≤ 10 ∧ ∀ k, k < σ.2.2.2.1 → (D.1 24 k = oI (σ.2.2.2.2.1 k) ∧ -60 ≤ σ.2.2.2.2.1 k ∧ σ.2.2.2.2.1 k ≤ 60) ∧ (D.1 25 k = oI (σ.2.2.2.2.2 k) ∧ -60 ≤ σ.2.2.2.2.2 k ∧ σ.2.2.2.2.2 k ≤ 60)) ∧ (∀ k, k < 54 → D.1 27 k = oI (wdM k))
def MA (D : Dt) (σ : AS) : Prop := ∀ a, a < 5 → AR (D.2.1 21 0) a (σ.1 a) ∧ fitC (σ.1 a) = true
def Mst (D : Dt) (σ : AS) : Prop := MA D σ ∧ MR D σ
/-- the class's cells are as they were -/
def CK (D D' : Dt) : Prop := (∀ t, t < 20 → D'.1 t = D.1 t) ∧ (∀ t z, t ≠ 21 → D'.2.1 t z = D.2.1 t z) ∧ D'.2.2 = D.2.2
theorem CK.rf (D : Dt) : CK D D := ⟨fun _ _ => rfl, fun _ _ _ => rfl, rfl⟩
theorem CK.tr {D D1 D2 : Dt} (h : CK D D1) (k : CK D1 D2) : CK D D2 := ⟨fun t ht => (k.1 t ht).trans (h.1 t ht), fun t z ht => (k.2.1 t z ht).trans (h.2.1 t z ht), k.2.2.trans h.2.2⟩
theorem Fr.ck {D D' : Dt} (h : Fr D D') : CK D D' := ⟨fun t ht => h.1 t (by omega), h.2.2.1, h.2.2.2⟩
theorem CK_rU (D : Dt) {t : Nat} (ht : 20 ≤ t) (f : Nat → Int32) : CK D (rU D t f) := ⟨fun u hu => rU_ne D f (by omega), fun _ _ _ => rfl, rfl⟩
theorem CK_lU (D : Dt) (f : Nat → Int64) : CK D (lU D 21 0 f) := (Fr_lU D f).ck
theorem MR.fr {D D' : Dt} {σ : AS} (h : MR D σ) (k : Fr D D') : MR D' σ := by
  obtain ⟨h1, h2, h3, h4⟩ := h
  obtain ⟨k1, k2, -, -⟩ := k
  refine ⟨fun j hj => by rw [k1 22 (by decide)]; exact h1 j hj, ⟨by rw [k2 3 (by omega)]; exact h2.1, h2.2.1, fun j hj => by rw [k1 23 (by decide)]; exact h2.2.2 j hj⟩, ⟨by rw [k2 6 (by omega)]; exact h3.1, h3.2.1, fun j hj => by rw [k1 24 (by decide), k1 25 (by decide)]; exact h3.2.2 j hj⟩, fun j hj => by rw [k1 27 (by decide)]; exact h4 j hj⟩
theorem refS_at (f g : Nat → Int32) (v : Int) (hv : -204 ≤ v ∧ v ≤ -202) (h : ∀ k, k < 3 → f k = g k) : ∀ k, k < 3 → refS f v k = refS g v k := by
  intro k hk
  show (if k = (-202 - v).toNat then f (-202 - v).toNat + oI 1 else f k) = (if k = (-202 - v).toNat then g (-202 - v).toNat + oI 1 else g k)
  rw [h k hk, h (-202 - v).toNat (by omega)]
theorem MR.ref {D : Dt} {σ : AS} (h : MR D σ) {v : Int} (hv : -204 ≤ v ∧ v ≤ -202) : MR (rU D 22 (refS (D.1 22) v)) (refA σ v) := by
  obtain ⟨h1, h2, h3, h4⟩ := h
  refine ⟨fun j hj => ?_, h2, h3, h4⟩
  rw [rU_get]
  exact refS_at _ _ v hv h1 j hj
theorem MA.ref {D : Dt} {σ : AS} (h : MA D σ) (v : Int) (f : Nat → Int32) : MA (rU D 22 f) (refA σ v) := h
theorem Mst.ref {D : Dt} {σ : AS} (h : Mst D σ) {v : Int} (hv : -204 ≤ v ∧ v ≤ -202) : Mst (rU D 22 (refS (D.1 22) v)) (refA σ v) := ⟨h.1.ref v _, h.2.ref hv⟩
/-- only junk has changed -/
theorem Mst.fr {D D' : Dt} {σ : AS} (h : Mst D σ) (k : Fr D D') (o : Out8 (D.2.1 21 0) (D'.2.1 21 0)) : Mst D' σ := ⟨fun a ha => ⟨(h.1 a ha).1.same (fun k hk => o _ (by omega)), (h.1 a ha).2⟩, h.2.fr k⟩
def mkV (T : Cl) : Int := if fitC T then (cntC T : Int) else -204
theorem mkV_rg (T : Cl) : -204 ≤ mkV T ∧ mkV T ≤ 14400 := by
  unfold mkV
  have := cntC_max T
  split <;> omega
theorem mkA_1 (σ : AS) (T : Cl) (b : Nat) : (mkA σ T b).1 = mkV T := by
  unfold mkA mkV
  split <;> rfl
theorem Mst.mk {D D' : Dt} {σ : AS} {T : Cl} {b : Nat} {r : Int32} (h : Mst D σ) (hb : b < 5) (k : MkP D T b r D') : Mst (rU D' 22 (endS (D'.1 22) (mkV T))) (mkA σ T b).2 := by
  obtain ⟨kF, -, kS, kT⟩ := k
  cases hf : fitC T with
  | true =>
    have e : mkV T = (cntC T : Int) := by rw [mkV, hf]; rfl
    have e2 : endS (D'.1 22) (mkV T) = D'.1 22 := by rw [endS, e, if_neg (by omega)]
    have e3 : (mkA σ T b).2 = setA σ b T := by rw [mkA, hf]; rfl
    rw [e2, rU_self, e3]
    refine ⟨fun a ha => ?_, h.2.fr kF⟩
    show AR _ a (if a = b then T else σ.1 a) ∧ fitC (if a = b then T else σ.1 a) = true
    by_cases q : a = b
    · rw [if_pos q, q]; exact ⟨kT hf, hf⟩
    · rw [if_neg q]
      exact ⟨(h.1 a ha).1.same (fun k hk => kS a (Or.inl ha) (Or.inl q) k hk), (h.1 a ha).2⟩
  | false =>
    have e : mkV T = -204 := by rw [mkV, hf]; rfl
    have e2 : endS (D'.1 22) (mkV T) = refS (D'.1 22) (-204) := by rw [endS, e, if_pos (by omega)]
    have e3 : (mkA σ T b).2 = refA σ (-204) := by rw [mkA, hf]; rfl
    rw [e2, e3]
    exact Mst.ref ⟨fun a ha => ⟨(h.1 a ha).1.same (fun k hk => kS a (Or.inl ha) (Or.inr hf) k hk), (h.1 a ha).2⟩, h.2.fr kF⟩ (by omega)
theorem cellB_f {x y : Int} : cellB x y = false ↔ (x < -60 ∨ 59 < x) ∨ (y < -60 ∨ 59 < y) := by
  rw [← Bool.not_eq_true, cellB_t]; omega
/-! the public calls: answer and state -/
def boxO (σ : AS) (x y w h to : Int) : Int × AS := if ((-60 ≤ x ∧ x ≤ 59) ∧ (-60 ≤ y ∧ y ≤ 59) ∧ (1 ≤ w ∧ w ≤ 99) ∧ (1 ≤ h ∧ h ≤ 99) ∧ 0 ≤ to ∧ to ≤ 4) then (if 60 < x + w ∨ 60 < y + h then noA σ else mkA σ (boxC x y w h) to.toNat) else badA σ
def mixO (σ : AS) (so a b to : Int) : Int × AS := if ((0 ≤ so ∧ so ≤ 3) ∧ (0 ≤ a ∧ a ≤ 4) ∧ (0 ≤ b ∧ b ≤ 4) ∧ 0 ≤ to ∧ to ≤ 4) then mkA σ (mixC so (σ.1 a.toNat) (σ.1 b.toNat)) to.toNat else badA σ
noncomputable def mvOKB (x y : Int) (A : Cl) : Bool := @decide (mvOK x y A) (Classical.propDecidable _)
theorem mvOKB_t {x y : Int} {A : Cl} : mvOKB x y A = true ↔ mvOK x y A := @decide_eq_true_iff _ (Classical.propDecidable _)
noncomputable def moveO (σ : AS) (a x y to : Int) : Int × AS := if ((0 ≤ a ∧ a ≤ 4) ∧ (-120 ≤ x ∧ x ≤ 120) ∧ (-120 ≤ y ∧ y ≤ 120) ∧ 0 ≤ to ∧ to ≤ 4) then (if mvOKB x y (σ.1 a.toNat) then mkA σ (moveC x y (σ.1 a.toNat)) to.toNat else noA σ) else badA σ
def growO (σ : AS) (a n to : Int) : Int × AS := if ((0 ≤ a ∧ a ≤ 4) ∧ (-9 ≤ n ∧ n ≤ 9) ∧ 0 ≤ to ∧ to ≤ 4) then mkA σ (growC n (σ.1 a.toNat)) to.toNat else badA σ
def flipO (σ : AS) (a way to : Int) : Int × AS := if ((0 ≤ a ∧ a ≤ 4) ∧ (0 ≤ way ∧ way ≤ 2) ∧ 0 ≤ to ∧ to ≤ 4) then mkA σ (flipC way (σ.1 a.toNat)) to.toNat else badA σ
def restC (A : Cl) : Cl := fun i j => !A i j
def restO (σ : AS) (a to : Int) : Int × AS := if ((0 ≤ a ∧ a ≤ 4) ∧ 0 ≤ to ∧ to ≤ 4) then mkA σ (restC (σ.1 a.toNat)) to.toNat else badA σ
noncomputable def partO (σ : AS) (a x y to : Int) : Int × AS := if ((0 ≤ a ∧ a ≤ 4) ∧ (-60 ≤ x ∧ x ≤ 59) ∧ (-60 ≤ y ∧ y ≤ 59) ∧ 0 ≤ to ∧ to ≤ 4) then (if σ.1 a.toNat (x + 60).toNat (y + 60).toNat then mkA σ (partC (σ.1 a.toNat) (x + 60).toNat (y + 60).toNat) to.toNat else noA σ) else badA σ
def hitO (σ : AS) (a x y : Int) : Int × AS := if 0 ≤ a ∧ a ≤ 4 then (if rpC (σ.1 a.toNat) y x then 1 else 0, σ) else badA σ
