/-! BOTH SIDES from one state -/
theorem Cst.ck {D D' : Dt} {σ : AS} (hCs : Cst D σ) (hCk : CK D D') : Cst D' σ := by
  obtain ⟨hPt, hAr, hRs⟩ := hCs
  obtain ⟨hTa, hTb, hTc⟩ := hCk
  have hRa : raD D' = raD D := by unfold raD; rw [hTc]
  have hRt : rtD D' = rtD D := by unfold rtD; rw [hTc]
  refine ⟨?_, ?_, ⟨fun kk0 hkk => ?_, ⟨?_, hRs.2.1.2.1, fun kk0 hkk => ?_⟩, hRs.2.2.fr (fun t ht => hTa t (by omega))⟩⟩
  · unfold PtW; rw [hRa, hRt, hTc]; exact hPt
  · intro aa0 haa
    rw [hRa, hTc]
    have hq0 := hAr aa0 haa
    unfold AC at hq0 ⊢
    rw [hTb 2 _ (by decide), hTb 3 _ (by decide)]; exact hq0
  · rw [hTa 19 (by decide)]; exact hRs.1 kk0 hkk
  · rw [hTa 15 (by decide)]; exact hRs.2.1.1
  · rw [hTa 16 (by decide)]; exact hRs.2.1.2.2 kk0 hkk
theorem Mst.mkf {D D' : Dt} {σ : AS} (hMs : Mst D σ) (hMk : MKf D D') : Mst D' σ := by
  obtain ⟨hMa, hMr⟩ := hMs
  refine ⟨fun aa0 haa => by rw [hMk.2 0]; exact hMa aa0 haa, ?_⟩
  unfold MR at hMr ⊢
  simp only [hMk.1 20 (by decide), hMk.1 22 (by decide), hMk.1 23 (by decide), hMk.1 24 (by decide), hMk.1 25 (by decide), hMk.1 26 (by decide), hMk.1 27 (by decide)]
  exact hMr
/-- both sides hold σ -/
def Bth (D : Dt) (σ : AS) : Prop := Cst D σ ∧ Mst D σ
/-- the class is asked, then the reference -/
theorem Bth.cm {D D1 D2 : Dt} {q : Int × AS} {r r2 : Int32} (h1 : PubC D q r D1) (h2 : PubP D1 q r2 D2) : r = r2 ∧ Bth D2 q.2 := ⟨h1.1.trans h2.1.symm, h1.2.1.ck h2.2.2, h2.2.1⟩
theorem Bth.m1 {D D1 : Dt} {σ : AS} {q : Int × AS} {r : Int32} (hB : Bth D σ) (h1 : PubC D q r D1) : Mst D1 σ := hB.2.mkf h1.2.2
/-- the reference is asked, then the class -/
theorem Bth.mc {D D1 D2 : Dt} {q : Int × AS} {r r2 : Int32} (h1 : PubP D q r D1) (h2 : PubC D1 q r2 D2) : r = r2 ∧ Bth D2 q.2 := ⟨h1.1.trans h2.1.symm, h2.2.1, h1.2.1.mkf h2.2.2⟩
theorem Bth.c1 {D D1 : Dt} {σ : AS} {q : Int × AS} {r : Int32} (hB : Bth D σ) (h1 : PubP D q r D1) : Cst D1 σ := hB.1.ck h1.2.2
/-- the digests -/
theorem Bth.dg {D D1 D2 : Dt} {σ : AS} {r r2 : Int64} (h1 : PubLC D σ r D1) (h2 : PubL D1 σ r2 D2) : r = r2 ∧ Bth D2 σ := ⟨h1.1.trans h2.1.symm, h1.2.1.ck h2.2.2, h2.2.1⟩
theorem Bth.dgm {D D1 : Dt} {σ : AS} {r : Int64} (hB : Bth D σ) (h1 : PubLC D σ r D1) : Mst D1 σ := hB.2.mkf h1.2.2
theorem cVLp0 {E : Le} {X : Cx} {cc : ByteArray} {own : String} {nL n : Nat} {D : Dt} {pc : Nat} {lv : Lv} {st : List Value} {y : MethodName} {cy : ByteArray} {mL : Nat} {ret : Option FieldType} {n2 idx : Nat} {C : String} {Q : Int64 → Dt → Prop} {q : Nat × Fin 11} {ip ci : Nat} {fs : List Value} {r0 : vw_C} (hX : Amb E X cc own nL n) (hM : ConLp E (Xl X) y cy mL ret n2 [.ref (E.1 q)] D Q) (hn : n2 < n) (hs : SiteV own idx y cy mL ret 0 C) (hp : ids[ip]? = some q) (he : cellOf E D q = .inr (ci, fs)) (hc : vwCl[ci]? = some r0) (hr : r0.1 = C) (hsm : (st.map fun v => v.category).sum ≤ 8) (d : decode cc pc = .ok (.invokevirtual idx, 3)) (k : ∀ (r : Int64) (D1 : Dt), Q r D1 → Vw E X nL D1 (pc + 3) lv (.long r :: st)) : Vw E X nL D pc lv (.ref (E.1 q) :: st) :=
  V_callV hX hM hn hs.1 hs.2.1 hs.2.2.1 hs.2.2.2 hp he hc hr rfl rfl hsm d (fun v D2 h => by obtain ⟨r, rfl, h⟩ := h; exact k r D2 h)
