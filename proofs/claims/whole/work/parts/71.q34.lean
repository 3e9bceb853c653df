/-! THE START: nothing in any area, nothing typed, no corner, nothing refused -/
def sg0 : AS := (fun _ => noC, fun _ => oI 0, (0, fun _ => 0), (0, fun _ => 0, fun _ => 0))
theorem AR_zero {s : Nat → Int64} {a : Nat} (hzs : ∀ k, s k = 0) : AR s a noC := by
  refine ⟨fun kk0 _ => by rw [hzs]; exact b60_0, fun ii0 _ jj0 _ => ?_⟩
  unfold cM
  simp only [hzs, tb_0]
  rfl
theorem Bth0 {D : Dt} (hPt : PtW D) (hz2 : ∀ z k, D.2.1 2 z k = 0) (hz3 : ∀ z k, D.2.1 3 z k = 0) (h19 : ∀ k, k < 3 → D.1 19 k = oI 0) (h15 : D.1 15 1 = oI 0) (h12 : D.1 12 2 = oI 0) (hzm : ∀ k, D.2.1 21 0 k = 0) (h22 : ∀ k, k < 3 → D.1 22 k = oI 0) (h203 : D.1 20 3 = oI 0) (h206 : D.1 20 6 = oI 0) (h27 : ∀ k, k < 54 → D.1 27 k = oI (wdM k)) : Bth D sg0 := by
  have hac : ∀ z : Fin 11, AC D z noC := fun z => AC_mk (fun jj0 _ => ⟨by rw [hz2]; exact b60_0, fun ii0 _ => by rw [hz2]; exact tb_0 ii0⟩) (fun jj0 _ => ⟨by rw [hz3]; exact b60_0, fun ii0 _ => by rw [hz3]; exact tb_0 ii0⟩)
  refine ⟨⟨hPt, fun aa0 _ => ⟨hac _, fit_em⟩, h19, ⟨h15, Nat.zero_le _, fun kk0 hkk => absurd hkk (Nat.not_lt_zero _)⟩, ⟨h12, Nat.zero_le _, fun kk0 hkk => absurd hkk (Nat.not_lt_zero _)⟩⟩, fun aa0 _ => ⟨AR_zero hzm, fit_em⟩, h22, ⟨h203, Nat.zero_le _, fun kk0 hkk => absurd hkk (Nat.not_lt_zero _)⟩, ⟨h206, Nat.zero_le _, fun kk0 hkk => absurd hkk (Nat.not_lt_zero _)⟩, h27⟩
/-- the first places: row 1 has areas 0-4, row 2 has areas 5-9, 10 is what is made -/
def pl0 : Nat → Nat → Fin 11 := fun x j => if x = 0 then (if j = 0 then 0 else if j = 1 then 1 else 10) else if x = 1 then (if j = 0 then 0 else if j = 1 then 1 else if j = 2 then 2 else if j = 3 then 3 else 4) else (if j = 0 then 5 else if j = 1 then 6 else if j = 2 then 7 else if j = 3 then 8 else 9)
theorem pl0_ok : PtG pl0 1 2 := by
  refine ⟨⟨by decide, by decide, by decide⟩, by decide, by decide, by decide, by decide, by decide⟩
theorem pl0_W {D : Dt} (hpl : D.2.2 = pl0) : PtW D := by
  unfold PtW raD rtD
  rw [hpl]
  exact pl0_ok
