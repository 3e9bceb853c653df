/-! THE FORM: its spans one by one -/
abbrev Sp5 : Type := Nat × (Int × Int) × (Int × Int)
def flL (rp : Int → Int → Bool) : Nat → List (Int × Int) → List Sp5
  | _, [] => []
  | b, q :: r => (spX (rp q.1) (-60)).map (fun u => (b, q, u)) ++ flL rp (b + 1) r
def flC (S : Cl) : List Sp5 := flL (rpC S) 0 (bandsC S)
def flG (S : Cl) (k : Nat) : Sp5 := ((flC S)[k]?).getD (0, (0, 0), (0, 0))
theorem flL_len (rp : Int → Int → Bool) : ∀ (L : List (Int × Int)) (b : Nat), (flL rp b L).length = nsL rp L
  | [], _ => rfl
  | q :: r, b => by rw [flL, List.length_append, List.length_map, flL_len rp r, nsL_cons]
theorem HS_at {D : Dt} {b : Nat} : ∀ (L : List (Int × Int)) (k : Nat), HS D b k L → ∀ i u, L[i]? = some u → D.1 9 (k + i) = oI (b : Int) ∧ D.1 10 (2 * (k + i)) = oI u.1 ∧ D.1 10 (2 * (k + i) + 1) = oI u.2
  | [], _, _, i, u, h => by rw [List.getElem?_nil] at h; cases h
  | q :: r, k, hs, 0, u, h => by
    rw [List.getElem?_cons_zero] at h
    cases h
    exact hs.1
  | q :: r, k, hs, i + 1, u, h => by
    rw [List.getElem?_cons_succ] at h
    rw [show k + (i + 1) = k + 1 + i by omega]
    exact HS_at r (k + 1) hs.2 i u h
theorem HB_at {D : Dt} {rp : Int → Int → Bool} : ∀ (L : List (Int × Int)) (b k : Nat), HB D rp b k L → ∀ i s, (flL rp b L)[i]? = some s → (D.1 9 (k + i) = oI (s.1 : Int) ∧ b ≤ s.1 ∧ s.1 < b + L.length) ∧ (D.1 6 s.1 = oI s.2.1.1 ∧ D.1 7 s.1 = oI s.2.1.2) ∧ D.1 10 (2 * (k + i)) = oI s.2.2.1 ∧ D.1 10 (2 * (k + i) + 1) = oI s.2.2.2
  | [], _, _, _, i, s, h => by rw [flL, List.getElem?_nil] at h; cases h
  | q :: r, b, k, hB, i, s, h => by
    rw [flL] at h
    by_cases c : i < ((spX (rp q.1) (-60)).map (fun u => ((b, q, u) : Sp5))).length
    · rw [List.getElem?_append_left c, List.getElem?_map] at h
      cases hu : (spX (rp q.1) (-60))[i]? with
      | none => rw [hu] at h; cases h
      | some u =>
        rw [hu] at h
        cases h
        have hs := HS_at _ k hB.2.1 i u hu
        rw [List.length_cons]
        exact ⟨⟨hs.1, Nat.le_refl b, by show b < _; omega⟩, ⟨hB.1.1, hB.1.2.1⟩, hs.2⟩
    · rw [List.getElem?_append_right (by omega), List.length_map] at h
      rw [List.length_map] at c
      have ih := HB_at r (b + 1) (k + (spX (rp q.1) (-60)).length) hB.2.2 (i - (spX (rp q.1) (-60)).length) s h
      rw [show k + (spX (rp q.1) (-60)).length + (i - (spX (rp q.1) (-60)).length) = k + i by omega] at ih
      rw [List.length_cons]
      exact ⟨⟨ih.1.1, by omega, by omega⟩, ih.2⟩
theorem flG_some {S : Cl} {k : Nat} (hk : k < nsC S) : (flC S)[k]? = some (flG S k) := by
  have e : (flC S).length = nsC S := flL_len _ _ _
  have h := List.getElem?_eq_getElem (l := flC S) (i := k) (by omega)
  rw [flG, h]; rfl
theorem FormP.at {D : Dt} {S : Cl} {k : Nat} (h : FormP D S) (hk : k < nsC S) : (D.1 9 k = oI ((flG S k).1 : Int) ∧ (flG S k).1 < nbC S) ∧ (D.1 6 (flG S k).1 = oI (flG S k).2.1.1 ∧ D.1 7 (flG S k).1 = oI (flG S k).2.1.2) ∧ D.1 10 (2 * k) = oI (flG S k).2.2.1 ∧ D.1 10 (2 * k + 1) = oI (flG S k).2.2.2 := by
  have q := HB_at _ 0 0 h.2.2.2 k _ (flG_some hk)
  rw [Nat.zero_add] at q
  exact ⟨⟨q.1.1, by have := q.1.2.2; rw [Nat.zero_add] at this; exact this⟩, q.2⟩
theorem HS_1 {D D' : Dt} {b : Nat} (e : D'.1 = D.1) {L : List (Int × Int)} {k : Nat} (h : HS D b k L) : HS D' b k L := HS_fr (D := D) L k (fun i _ _ => by rw [e]; exact ⟨rfl, rfl, rfl⟩) h
theorem FormP.fr {D D' : Dt} {S : Cl} (h : FormP D S) (e : D'.1 = D.1) : FormP D' S := by
  obtain ⟨h1, h2, h3, h4⟩ := h
  exact ⟨by rw [e]; exact h1, by rw [e]; exact h2, h3, HB_fr (D := D) _ 0 0 (fun i _ _ => by rw [e]; exact ⟨rfl, rfl, rfl⟩) (fun i _ _ => by rw [e]; exact ⟨rfl, rfl, rfl⟩) h4⟩
/-! spans and bands: what they hold -/
theorem spX_mem {p : Int → Bool} : ∀ (n : Nat) (x : Int), (61 - x).toNat ≤ n → ∀ u ∈ spX p x, (x ≤ u.1 ∧ u.1 < u.2 ∧ u.2 ≤ 60) ∧ (∀ v, u.1 ≤ v → v < u.2 → p v = true) ∧ (u.2 ≤ 59 → p u.2 = false) := by
  intro n
  induction n with
  | zero => intro x h u hu; rw [spX_0 (by omega)] at hu; cases hu
  | succ n ih =>
    intro x h u hu
    by_cases hx : x ≤ 59
    · have hg := rnX_ge p _ x (Nat.le_refl _)
      have hl := rnX_le p _ x (Nat.le_refl _) (by omega)
      have hin := rnX_in (p := p) _ x (Nat.le_refl _)
      have hst := rnX_stop (p := p) _ x (Nat.le_refl _) (by omega)
      by_cases hr : x < rnX p x
      · rw [spX_t hx hr] at hu
        rcases List.mem_cons.mp hu with rfl | hu
        · exact ⟨⟨Int.le_refl _, hr, hl⟩, hin, fun q => Bool.eq_false_iff.mpr (fun w => hst ⟨q, w⟩)⟩
        · have := ih (rnX p x + 1) (by omega) u hu
          exact ⟨by omega, this.2⟩
      · rw [spX_f hx hr] at hu
        have := ih (rnX p x + 1) (by omega) u hu
        exact ⟨by omega, this.2⟩
    · rw [spX_0 (by omega)] at hu; cases hu
theorem spX_cov {p : Int → Bool} : ∀ (n : Nat) (x : Int), (61 - x).toNat ≤ n → ∀ v, x ≤ v → v ≤ 59 → p v = true → ∃ u ∈ spX p x, u.1 ≤ v ∧ v < u.2 := by
  intro n
  induction n with
  | zero => intro x h v h1 h2; omega
  | succ n ih =>
    intro x h v h1 h2 hv
    have hx : x ≤ 59 := by omega
    have hg := rnX_ge p _ x (Nat.le_refl _)
    have hst := rnX_stop (p := p) _ x (Nat.le_refl _) (by omega)
    have hne : v ≠ rnX p x := fun e => hst (by rw [← e]; exact ⟨h2, hv⟩)
    by_cases hr : x < rnX p x
    · rw [spX_t hx hr]
      by_cases q : v < rnX p x
      · exact ⟨_, List.mem_cons_self, h1, q⟩
      · obtain ⟨u, hu, q1, q2⟩ := ih (rnX p x + 1) (by omega) v (by omega) h2 hv
        exact ⟨u, List.mem_cons_of_mem _ hu, q1, q2⟩
    · rw [spX_f hx hr]
      exact ih (rnX p x + 1) (by omega) v (by omega) h2 hv
theorem bdX_mem {sm : Int → Int → Bool} {em : Int → Bool} : ∀ (n : Nat) (y : Int), (60 - y).toNat ≤ n → ∀ q ∈ bdX sm em y, em q.1 = false ∧ ∀ v, q.1 < v → v < q.2 → sm q.1 v = true := by
  intro n
  induction n with
  | zero => intro y h q hq; rw [bdX_0 (by omega)] at hq; cases hq
  | succ n ih =>
    intro y h q hq
    by_cases hy : y ≤ 59
    · have hg := rnX_ge (sm y) _ (y + 1) (Nat.le_refl _)
      have hin := rnX_in (p := sm y) _ (y + 1) (Nat.le_refl _)
      have hi := ih (rnX (sm y) (y + 1)) (by omega)
      cases he : em y with
      | true => rw [bdX_t hy he] at hq; exact hi q hq
      | false =>
        rw [bdX_f hy he] at hq
        rcases List.mem_cons.mp hq with rfl | hq
        · exact ⟨he, fun v h1 h2 => hin v (by have h1 : y < v := h1; omega) h2⟩
        · exact hi q hq
    · rw [bdX_0 (by omega)] at hq; cases hq
theorem bdX_cov {sm : Int → Int → Bool} {em : Int → Bool} (hc : ∀ u v, sm u v = true → em u = em v) : ∀ (n : Nat) (y : Int), (60 - y).toNat ≤ n → ∀ v, y ≤ v → v ≤ 59 → em v = false → ∃ q ∈ bdX sm em y, q.1 ≤ v ∧ v < q.2 := by
  intro n
  induction n with
  | zero => intro y h v h1 h2; omega
  | succ n ih =>
    intro y h v h1 h2 hv
    have hy : y ≤ 59 := by omega
    have hg := rnX_ge (sm y) _ (y + 1) (Nat.le_refl _)
    have hin := rnX_in (p := sm y) _ (y + 1) (Nat.le_refl _)
    cases he : em y with
    | true =>
      rw [bdX_t hy he]
      by_cases q : v < rnX (sm y) (y + 1)
      · by_cases e : v = y
        · rw [e, he] at hv; cases hv
        · rw [← hc y v (hin v (by omega) q), he] at hv; cases hv
      · exact ih (rnX (sm y) (y + 1)) (by omega) v (by omega) h2 hv
    | false =>
      rw [bdX_f hy he]
      by_cases q : v < rnX (sm y) (y + 1)
      · exact ⟨_, List.mem_cons_self, h1, q⟩
      · obtain ⟨u, hu, q1, q2⟩ := ih (rnX (sm y) (y + 1)) (by omega) v (by omega) h2 hv
        exact ⟨u, List.mem_cons_of_mem _ hu, q1, q2⟩
theorem flL_mem {rp : Int → Int → Bool} : ∀ (L : List (Int × Int)) (b : Nat) (s : Sp5), s ∈ flL rp b L → s.2.1 ∈ L ∧ s.2.2 ∈ spX (rp s.2.1.1) (-60)
  | [], _, s, h => by rw [flL] at h; cases h
  | q :: r, b, s, h => by
    rw [flL, List.mem_append] at h
    rcases h with h | h
    · obtain ⟨u, hu, rfl⟩ := List.mem_map.mp h
      exact ⟨List.mem_cons_self, hu⟩
    · have := flL_mem r (b + 1) s h
      exact ⟨List.mem_cons_of_mem _ this.1, this.2⟩
theorem flL_ex {rp : Int → Int → Bool} : ∀ (L : List (Int × Int)) (b : Nat) (q u : Int × Int), q ∈ L → u ∈ spX (rp q.1) (-60) → ∃ c, (c, q, u) ∈ flL rp b L
  | [], _, q, _, h, _ => by cases h
  | p :: r, b, q, u, h, hu => by
    rw [flL]
    rcases List.mem_cons.mp h with rfl | h
    · exact ⟨b, List.mem_append_left _ (List.mem_map.mpr ⟨u, hu, rfl⟩)⟩
    · obtain ⟨c, hc⟩ := flL_ex r (b + 1) q u h hu
      exact ⟨c, List.mem_append_right _ hc⟩
theorem smem {S : Cl} (u v : Int) (h : smC S u v = true) : emC S u = emC S v := em_eq h
/-- a span's numbers -/
def spV (S : Cl) (wh : Int) (k : Nat) : Int := fOf wh (flG S k).2.2.1 (flG S k).2.2.2 (flG S k).2.1.1 (flG S k).2.1.2
theorem spV_0 (S : Cl) (k : Nat) : spV S 0 k = (flG S k).2.2.1 := rfl
theorem spV_1 (S : Cl) (k : Nat) : spV S 1 k = (flG S k).2.2.2 := rfl
theorem spV_2 (S : Cl) (k : Nat) : spV S 2 k = (flG S k).2.1.1 := rfl
theorem spV_3 (S : Cl) (k : Nat) : spV S 3 k = (flG S k).2.1.2 := rfl
theorem sp_rg {S : Cl} {k : Nat} (hk : k < nsC S) : (-60 ≤ spV S 0 k ∧ spV S 0 k < spV S 1 k ∧ spV S 1 k ≤ 60) ∧ -60 ≤ spV S 2 k ∧ spV S 2 k < spV S 3 k ∧ spV S 3 k ≤ 60 := by
  have h := flL_mem _ _ _ (List.mem_of_getElem? (flG_some hk))
  exact ⟨(spX_mem 121 (-60) (by omega) _ h.2).1, bdX_rng 120 (-60) (by omega) _ h.1⟩
theorem spV_rg {S : Cl} {k : Nat} (hk : k < nsC S) {wh : Int} : -60 ≤ spV S wh k ∧ spV S wh k ≤ 60 := by
  have h := sp_rg hk
  rw [spV_0, spV_1, spV_2, spV_3] at h
  unfold spV fOf
  split
  · omega
  · split
    · omega
    · split <;> omega
/-- cells of a span are cells of the area -/
theorem sp_in {S : Cl} {k : Nat} (hk : k < nsC S) {i j : Nat} (hi : i < 120) (hj : j < 120) (h : (spV S 0 k ≤ (i : Int) - 60 ∧ (i : Int) - 60 < spV S 1 k) ∧ spV S 2 k ≤ (j : Int) - 60 ∧ (j : Int) - 60 < spV S 3 k) : S i j = true := by
  have hm := flL_mem _ _ _ (List.mem_of_getElem? (flG_some hk))
  have hx := (spX_mem 121 (-60) (by omega) _ hm.2).2.1 _ h.1.1 h.1.2
  have hb := (bdX_mem 120 (-60) (by omega) _ hm.1).2 ((j : Int) - 60)
  have hr := (sp_rg hk).2
  rw [spV_2] at h hr
  rw [spV_3] at h hr
  rw [rpC, Bool.and_eq_true] at hx
  have hx2 := hx.2
  rw [show ((i : Int) - 60 + 60).toNat = i by omega] at hx2
  by_cases q : (flG S k).2.1.1 = (j : Int) - 60
  · rw [q, show ((j : Int) - 60 + 60).toNat = j by omega] at hx2
    exact hx2
  · have hs := hb (by omega) h.2.2
    rw [smC, show ((j : Int) - 60 + 60).toNat = j by omega] at hs
    rw [← eqR_t.mp hs i hi]
    exact hx2
/-- each cell is of a span -/
theorem sp_ex {S : Cl} {i j : Nat} (hi : i < 120) (hj : j < 120) (h : S i j = true) : ∃ k, k < nsC S ∧ (spV S 0 k ≤ (i : Int) - 60 ∧ (i : Int) - 60 < spV S 1 k) ∧ spV S 2 k ≤ (j : Int) - 60 ∧ (j : Int) - 60 < spV S 3 k := by
  have he : emC S ((j : Int) - 60) = false := by
    rw [emC, show ((j : Int) - 60 + 60).toNat = j by omega]
    apply Bool.eq_false_iff.mpr
    intro q
    rw [emR_t.mp q i hi] at h; cases h
  obtain ⟨q, hq, q1, q2⟩ := bdX_cov smem 120 (-60) (by omega) ((j : Int) - 60) (by omega) (by omega) he
  have hqr := bdX_rng 120 (-60) (by omega) _ hq
  have hx : rpC S q.1 ((i : Int) - 60) = true := by
    rw [rpC, cellB_t.mpr (by omega), Bool.true_and, show ((i : Int) - 60 + 60).toNat = i by omega]
    by_cases c : q.1 = (j : Int) - 60
    · rw [c, show ((j : Int) - 60 + 60).toNat = j by omega]; exact h
    · have hs := (bdX_mem 120 (-60) (by omega) _ hq).2 ((j : Int) - 60) (by omega) q2
      rw [smC, show ((j : Int) - 60 + 60).toNat = j by omega] at hs
      rw [eqR_t.mp hs i hi]; exact h
  obtain ⟨u, hu, u1, u2⟩ := spX_cov 121 (-60) (by omega) ((i : Int) - 60) (by omega) (by omega) hx
  obtain ⟨c, hc⟩ := flL_ex (bandsC S) 0 q u hq hu
  obtain ⟨k, hk⟩ := List.mem_iff_getElem?.mp hc
  have hl : k < nsC S := by
    have e : (flC S).length = nsC S := flL_len _ _ _
    have := (List.getElem?_eq_some_iff.mp hk).1
    rw [← e]; exact this
  have e : flG S k = (c, q, u) := by
    have h1 := flG_some hl
    rw [show (flC S)[k]? = some (c, q, u) from hk] at h1
    exact (Option.some.inj h1).symm
  refine ⟨k, hl, ?_⟩
  rw [spV_0, spV_1, spV_2, spV_3, e]
  exact ⟨⟨u1, u2⟩, q1, q2⟩
theorem ns_0 {S : Cl} (h : nsC S = 0) : ∀ i, i < 120 → ∀ j, j < 120 → S i j = false := fun i hi j hj => by
  apply Bool.eq_false_iff.mpr
  intro q
  obtain ⟨k, hk, -⟩ := sp_ex hi hj q
  omega
theorem c_X1_spanSide {E : Le} {l : Launch} {D : Dt} {S : Cl} {k : Nat} {wh : Int} (hF : FormP D S) (hk : k < nsC S) (hw : 0 ≤ wh ∧ wh ≤ 3) : ConI E l yX1_spanSide cX1_spanSide 3 (some .int) 1 [.ref (E.1 (5, 0)), .int (oI (k : Int)), .int (oI wh)] D (oI (spV S wh k)) D := by
  have hq := hF.at hk
  have hl := hF.2.2.1
  refine Con_of (by decide) (Nat.le_of_ble_eq_true rfl) ?_
  intro X hX hR hl; subst hl
  refine V_iload_n (pc := 0) (j := 2) hX 2 rfl rfl dX1_spanSide_0 ?_
  by_cases h1_0 : wh = 0
  · refine Z_tableIn (pc := 1) (tgt := 28) hX 0 h1_0 (by decide) (by decide) (by decide) dX1_spanSide_1 rfl (by decide) ?_
    refine V_aload_n (pc := 28) (j := 0) hX 0 rfl rfl dX1_spanSide_28 ?_
    refine gf_X1_24 (pc := 29) hX dX1_spanSide_29 ?_
    refine V_iconst (pc := 32) (z := 2) hX (oI 2) rfl dX1_spanSide_32 ?_
    refine V_iload_n (pc := 33) (j := 1) hX 1 rfl rfl dX1_spanSide_33 ?_
    refine Z_imul (pc := 34) hX dX1_spanSide_34 ?_
    refine zl_10 (pc := 35) hX (2 * k) (by omega) (by omega) dX1_spanSide_35 ?_
    refine V_iret (pc := 36) hX hR dX1_spanSide_36 ?_
    exact ⟨congrArg (fun q => some (Value.int q)) (by rw [hq.2.2.1, h1_0]; rfl), rfl⟩
  by_cases h1_1 : wh = 1
  · refine Z_tableIn (pc := 1) (tgt := 37) hX 1 h1_1 (by decide) (by decide) (by decide) dX1_spanSide_1 rfl (by decide) ?_
    refine V_aload_n (pc := 37) (j := 0) hX 0 rfl rfl dX1_spanSide_37 ?_
    refine gf_X1_24 (pc := 38) hX dX1_spanSide_38 ?_
    refine V_iconst (pc := 41) (z := 2) hX (oI 2) rfl dX1_spanSide_41 ?_
    refine V_iload_n (pc := 42) (j := 1) hX 1 rfl rfl dX1_spanSide_42 ?_
    refine Z_imul (pc := 43) hX dX1_spanSide_43 ?_
    refine V_iconst (pc := 44) (z := 1) hX (oI 1) rfl dX1_spanSide_44 ?_
    refine Z_iadd (pc := 45) hX dX1_spanSide_45 ?_
    refine zl_10 (pc := 46) hX (2 * k + 1) (by omega) (by omega) dX1_spanSide_46 ?_
    refine V_iret (pc := 47) hX hR dX1_spanSide_47 ?_
    exact ⟨congrArg (fun q => some (Value.int q)) (by rw [hq.2.2.2, h1_1]; rfl), rfl⟩
  by_cases h1_2 : wh = 2
  · refine Z_tableIn (pc := 1) (tgt := 48) hX 2 h1_2 (by decide) (by decide) (by decide) dX1_spanSide_1 rfl (by decide) ?_
    refine V_aload_n (pc := 48) (j := 0) hX 0 rfl rfl dX1_spanSide_48 ?_
    refine gf_X1_9 (pc := 49) hX dX1_spanSide_49 ?_
    refine V_aload_n (pc := 52) (j := 0) hX 0 rfl rfl dX1_spanSide_52 ?_
    refine gf_X1_21 (pc := 53) hX dX1_spanSide_53 ?_
    refine V_iload_n (pc := 56) (j := 1) hX 1 rfl rfl dX1_spanSide_56 ?_
    refine zl_9 (pc := 57) hX (k) (by omega) (by omega) dX1_spanSide_57 ?_
    refine V_oI ((flG S k).1 : Int) hq.1.1 ?_
    refine zl_6 (pc := 58) hX ((flG S k).1) (rfl) (by omega) dX1_spanSide_58 ?_
    refine V_iret (pc := 59) hX hR dX1_spanSide_59 ?_
    exact ⟨congrArg (fun q => some (Value.int q)) (by rw [hq.2.1.1, h1_2]; rfl), rfl⟩
  refine Z_tableOut (pc := 1) (tgt := 60) hX (by omega) (by omega) dX1_spanSide_1 (by decide) ?_
  refine V_aload_n (pc := 60) (j := 0) hX 0 rfl rfl dX1_spanSide_60 ?_
  refine gf_X1_15 (pc := 61) hX dX1_spanSide_61 ?_
  refine V_aload_n (pc := 64) (j := 0) hX 0 rfl rfl dX1_spanSide_64 ?_
  refine gf_X1_21 (pc := 65) hX dX1_spanSide_65 ?_
  refine V_iload_n (pc := 68) (j := 1) hX 1 rfl rfl dX1_spanSide_68 ?_
  refine zl_9 (pc := 69) hX (k) (by omega) (by omega) dX1_spanSide_69 ?_
  refine V_oI ((flG S k).1 : Int) hq.1.1 ?_
  refine zl_7 (pc := 70) hX ((flG S k).1) (rfl) (by omega) dX1_spanSide_70 ?_
  refine V_iret (pc := 71) hX hR dX1_spanSide_71 ?_
  exact ⟨congrArg (fun q => some (Value.int q)) (by rw [hq.2.1.2, show wh = 3 by omega]; rfl), rfl⟩
