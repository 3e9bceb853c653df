/-! the signs of a writing; the k-th of something -/
def spW : List Int32 → List (Int × Int) → List Int32
  | _, [] => []
  | c, q :: r => (c ++ (numS q.1 ++ (oI 46 :: numS q.2))) ++ spW [oI 44] r
def bandW (y z : Int) (L : List (Int × Int)) : List Int32 := (numS y ++ (oI 46 :: (numS z ++ [oI 58]))) ++ (spW [] L ++ [oI 59])
def sgL (rp : Int → Int → Bool) (L : List (Int × Int)) : List Int32 := L.flatMap (fun q => bandW q.1 q.2 (spX (rp q.1) (-60)))
def pj (φ : Ph) : Int32 × Int32 × Int32 := (φ.1, φ.2.1, φ.2.2.1)
theorem pj_wc {w : Int32} {φ ψ : Ph} (h : pj φ = pj ψ) (c : Int32) : pj (wc w φ c) = pj (wc w ψ c) := by
  have h1 : φ.1 = ψ.1 := congrArg (fun q => q.1) h
  have h2 : φ.2.1 = ψ.2.1 := congrArg (fun q => q.2.1) h
  have h3 : φ.2.2.1 = ψ.2.2.1 := congrArg (fun q => q.2.2) h
  show (φ.1 + oI 1, oI 31 * φ.2.1 + c, if φ.1 = w then c else φ.2.2.1) = (ψ.1 + oI 1, oI 31 * ψ.2.1 + c, if ψ.1 = w then c else ψ.2.2.1)
  rw [h1, h2, h3]
theorem pj_wcL {w : Int32} (cs : List Int32) : ∀ {φ ψ : Ph}, pj φ = pj ψ → pj (wcL w φ cs) = pj (wcL w ψ cs) := by
  induction cs with
  | nil => intro φ ψ h; exact h
  | cons c cs ih => intro φ ψ h; rw [wcL_cons, wcL_cons]; exact ih (pj_wc h c)
theorem pj_spans (I : Nat → Int32) (wh y z : Int) (L : List (Int × Int)) : ∀ (φ ψ : Ph) (c : List Int32), pj φ = pj ψ → pj (spansS I wh y z φ c L) = pj (wcL (I 14) ψ (spW c L)) := by
  induction L with
  | nil => intro φ ψ c h; exact h
  | cons q r ih =>
    intro φ ψ c h
    rw [spW, wcL_app]
    exact ih _ _ _ (pj_wcL (w := I 14) (c ++ (numS q.1 ++ (oI 46 :: numS q.2))) h)
theorem pj_band (I : Nat → Int32) (wh y z : Int) (L : List (Int × Int)) (φ ψ : Ph) (h : pj φ = pj ψ) : pj (bandS I wh y z φ L) = pj (wcL (I 14) ψ (bandW y z L)) := by
  rw [bandW, wcL_app, wcL_app]
  exact pj_wcL (w := I 14) [oI 59] (pj_spans I wh y z L _ _ [] (pj_wcL (w := I 14) (numS y ++ (oI 46 :: (numS z ++ [oI 58]))) h))
theorem pj_fm (I : Nat → Int32) (wh : Int) (rp : Int → Int → Bool) (L : List (Int × Int)) : ∀ (φ ψ : Ph), pj φ = pj ψ → pj (fmS I wh rp φ L) = pj (wcL (I 14) ψ (sgL rp L)) := by
  induction L with
  | nil => intro φ ψ h; exact h
  | cons q r ih =>
    intro φ ψ h
    rw [sgL, List.flatMap_cons, wcL_app]
    exact ih _ _ (pj_band I wh q.1 q.2 _ φ ψ h)
def hsL (h : Int32) (cs : List Int32) : Int32 := cs.foldl (fun h c => oI 31 * h + c) h
theorem wcL_n (w : Int32) (cs : List Int32) : ∀ φ : Ph, (wcL w φ cs).1 = φ.1 + oI (cs.length : Int) ∧ (wcL w φ cs).2.1 = hsL φ.2.1 cs := by
  induction cs with
  | nil =>
    intro φ
    refine ⟨?_, rfl⟩
    show φ.1 = φ.1 + oI 0
    rw [oI_0, Int32.add_zero]
  | cons c cs ih =>
    intro φ
    have h := ih (wc w φ c)
    rw [wcL_cons]
    refine ⟨?_, h.2⟩
    rw [h.1]
    show φ.1 + oI 1 + _ = _
    rw [Int32.add_assoc, oI_add, List.length_cons]
    congr 2
    omega
/-- the k-th of a list of ints, or something else -/
def kth (L : List Int32) (k : Int) (d : Int32) : Int32 := if 0 ≤ k ∧ k < L.length then L.getD k.toNat d else d
theorem kth_nil (k : Int) (d : Int32) : kth [] k d = d := by
  unfold kth
  split
  · rename_i h; simp only [List.length_nil] at h; omega
  · rfl
theorem kth_cons (c : Int32) (L : List Int32) (k : Int) (d : Int32) : kth (c :: L) k d = if k = 0 then c else kth L (k - 1) d := by
  unfold kth
  rw [List.length_cons]
  by_cases h : k = 0
  · subst h
    rw [if_pos (by omega), if_pos rfl]; rfl
  · rw [if_neg h]
    by_cases h2 : 0 ≤ k ∧ k < (L.length : Int) + 1
    · rw [if_pos (by omega), if_pos (by omega), show k.toNat = (k - 1).toNat + 1 by omega]; rfl
    · rw [if_neg (by omega), if_neg (by omega)]
theorem kth_neg {L : List Int32} {k : Int} {d : Int32} (h : k < 0) : kth L k d = d := if_neg (by omega)
theorem wcL_g {w : Int} (hw : Rg w) (cs : List Int32) : ∀ (φ : Ph) (m : Int), φ.1 = oI m → 0 ≤ m → m + cs.length < 2147483648 → (wcL (oI w) φ cs).2.2.1 = kth cs (w - m) φ.2.2.1 := by
  induction cs with
  | nil => intro φ m h1 h2 h3; rw [kth_nil]; rfl
  | cons c cs ih =>
    intro φ m h1 h2 h3
    rw [List.length_cons] at h3
    rw [wcL_cons, ih (wc (oI w) φ c) (m + 1) (by show φ.1 + oI 1 = _; rw [h1, oI_add]) (by omega) (by omega), kth_cons]
    show kth cs (w - (m + 1)) (if φ.1 = oI w then c else φ.2.2.1) = _
    by_cases e : w - m = 0
    · rw [if_pos e, if_pos (by rw [h1]; congr 1; omega), kth_neg (by omega)]
    · rw [if_neg e, if_neg (by rw [h1, oI_inj (by omega) hw]; omega), show w - (m + 1) = w - m - 1 by omega]
/-! signs are few -/
theorem numS_len (v : Int) : (numS v).length ≤ 3 := by
  unfold numS
  rw [List.length_append, List.length_append]
  split <;> split <;> simp
theorem spW_len (L : List (Int × Int)) : ∀ c : List Int32, c.length ≤ 1 → (spW c L).length ≤ 8 * L.length := by
  induction L with
  | nil => intro c _; exact Nat.le_refl _
  | cons q r ih =>
    intro c hc
    have h1 := numS_len q.1
    have h2 := numS_len q.2
    have h3 := ih [oI 44] (by simp)
    rw [spW, List.length_append, List.length_append, List.length_append, List.length_cons, List.length_cons]
    omega
theorem sgL_len (rp : Int → Int → Bool) (L : List (Int × Int)) : (sgL rp L).length ≤ 1000 * L.length := by
  induction L with
  | nil => exact Nat.le_refl _
  | cons q r ih =>
    have h1 := numS_len q.1
    have h2 := numS_len q.2
    have h3 := spW_len (spX (rp q.1) (-60)) [] (by simp)
    have h4 := spX_len (p := rp q.1) 121 (-60) (by decide)
    have ih : (List.flatMap (fun q => bandW q.1 q.2 (spX (rp q.1) (-60))) r).length ≤ 1000 * r.length := ih
    rw [sgL, List.flatMap_cons, List.length_append, bandW, List.length_append, List.length_append, List.length_append, List.length_cons, List.length_append, List.length_cons]
    simp only [List.length_cons, List.length_nil]
    omega
/-- THE WRITING of a set of cells -/
def wrC (S : Cl) : List Int32 := sgL (rpC S) (bandsC S)
theorem wrC_len (S : Cl) : (wrC S).length ≤ 120000 := by
  have h1 := sgL_len (rpC S) (bandsC S)
  have h2 := nbC_le S
  unfold nbC at h2
  unfold wrC
  omega
theorem form_sg {s : Nat → Int64} {a : Nat} {S : Cl} (h : AR s a S) (I : Nat → Int32) (k wh : Int) {w : Int} (hw : Rg w) : formI I s a k wh w 13 = oI ((wrC S).length : Int) ∧ formI I s a k wh w 16 = hsL (oI 0) (wrC S) ∧ formI I s a k wh w 15 = kth (wrC S) w (oI (-201)) := by
  have e := pj_fm (upd (upd I 11 (oI k)) 14 (oI w)) wh (rpC S) (bandsC S) phi0 phi0 rfl
  rw [← AR_fm h] at e
  have e1 := congrArg (fun q => q.1) e
  have e2 := congrArg (fun q => q.2.1) e
  have e3 := congrArg (fun q => q.2.2) e
  have hn := wcL_n (oI w) (wrC S) phi0
  have hl := wrC_len S
  have hg := wcL_g hw (wrC S) phi0 0 rfl (by omega) (by omega)
  refine ⟨?_, ?_, ?_⟩
  · refine (show formI I s a k wh w 13 = (fmS (upd (upd I 11 (oI k)) 14 (oI w)) wh (rpM s a) phi0 (bandsM s a)).1 from rfl).trans ?_
    refine e1.trans (hn.1.trans ?_)
    show oI 0 + _ = _
    rw [oI_add, Int.zero_add]
  · refine (show formI I s a k wh w 16 = (fmS (upd (upd I 11 (oI k)) 14 (oI w)) wh (rpM s a) phi0 (bandsM s a)).2.1 from rfl).trans ?_
    exact e2.trans hn.2
  · refine (show formI I s a k wh w 15 = (fmS (upd (upd I 11 (oI k)) 14 (oI w)) wh (rpM s a) phi0 (bandsM s a)).2.2.1 from rfl).trans ?_
    refine e3.trans (hg.trans ?_)
    rw [Int.sub_zero]; rfl
/-! the k-th span -/
def fdL (wh : Int) (rp : Int → Int → Bool) (L : List (Int × Int)) : List Int32 := L.flatMap (fun q => (spX (rp q.1) (-60)).map (fun u => oI (fOf wh u.1 u.2 q.1 q.2)))
theorem kth_app (L M : List Int32) : ∀ (k : Int) (d : Int32), kth (L ++ M) k d = if k < L.length then kth L k d else kth M (k - L.length) d := by
  induction L with
  | nil =>
    intro k d
    rw [List.nil_append, kth_nil]
    simp only [List.length_nil]
    by_cases h : k < ((0 : Nat) : Int)
    · rw [if_pos h, kth_neg (by omega)]
    · rw [if_neg h]; congr 1; omega
  | cons c L ih =>
    intro k d
    rw [List.cons_append, kth_cons, ih, kth_cons, List.length_cons]
    by_cases h : k = 0
    · rw [if_pos h, if_pos (by omega), if_pos h]
    · rw [if_neg h, if_neg h]
      by_cases h2 : k - 1 < (L.length : Int)
      · rw [if_pos h2, if_pos (by omega)]
      · rw [if_neg h2, if_neg (by omega)]; congr 1; omega
theorem spansS_fd (I : Nat → Int32) (wh y z : Int) {k : Int} (hk : Rg k) (hI : I 11 = oI k) (L : List (Int × Int)) : ∀ (φ : Ph) (c : List Int32) (m : Int), φ.2.2.2.1 = oI m → 0 ≤ m → m + L.length < 2147483648 → (spansS I wh y z φ c L).2.2.2.2.2 = kth (L.map (fun u => oI (fOf wh u.1 u.2 y z))) (k - m) φ.2.2.2.2.2 := by
  induction L with
  | nil => intro φ c m h1 h2 h3; rw [List.map_nil, kth_nil]; rfl
  | cons q r ih =>
    intro φ c m h1 h2 h3
    rw [List.length_cons] at h3
    have ht := wcL_tail (I 14) φ (c ++ (numS q.1 ++ (oI 46 :: numS q.2)))
    have e1 : (spanS I wh y z φ c q).2.2.2.1 = oI (m + 1) := by
      show (wcL (I 14) φ (c ++ (numS q.1 ++ (oI 46 :: numS q.2)))).2.2.2.1 + oI 1 = _
      rw [ht, h1, oI_add]
    have e2 : (spanS I wh y z φ c q).2.2.2.2.2 = if m = k then oI (fOf wh q.1 q.2 y z) else φ.2.2.2.2.2 := by
      show (if (wcL (I 14) φ (c ++ (numS q.1 ++ (oI 46 :: numS q.2)))).2.2.2.1 = I 11 then _ else (wcL (I 14) φ (c ++ (numS q.1 ++ (oI 46 :: numS q.2)))).2.2.2.2.2) = _
      rw [ht, h1, hI]
      by_cases e : m = k
      · rw [if_pos (by rw [e]), if_pos e]
      · rw [if_neg (by rw [oI_inj (by omega) hk]; exact e), if_neg e]
    show (spansS I wh y z (spanS I wh y z φ c q) [oI 44] r).2.2.2.2.2 = _
    rw [ih _ _ (m + 1) e1 (by omega) (by omega), e2, List.map_cons, kth_cons]
    by_cases e : m = k
    · rw [if_pos e, if_pos (by omega), kth_neg (by omega)]
    · rw [if_neg e, if_neg (by omega), show k - (m + 1) = k - m - 1 by omega]
theorem bandS_fd (I : Nat → Int32) (wh y z : Int) {k : Int} (hk : Rg k) (hI : I 11 = oI k) (L : List (Int × Int)) (φ : Ph) (m : Int) (h1 : φ.2.2.2.1 = oI m) (h2 : 0 ≤ m) (h3 : m + L.length < 2147483648) : (bandS I wh y z φ L).2.2.2.2.2 = kth (L.map (fun u => oI (fOf wh u.1 u.2 y z))) (k - m) φ.2.2.2.2.2 := by
  have t1 := wcL_tail (I 14) (spansS I wh y z (wcL (I 14) φ (numS y ++ (oI 46 :: (numS z ++ [oI 58])))) [] L) [oI 59]
  have t2 := wcL_tail (I 14) φ (numS y ++ (oI 46 :: (numS z ++ [oI 58])))
  show (wcL (I 14) (spansS I wh y z (wcL (I 14) φ (numS y ++ (oI 46 :: (numS z ++ [oI 58])))) [] L) [oI 59]).2.2.2.2.2 = _
  rw [t1, spansS_fd I wh y z hk hI L _ _ m (by rw [t2]; exact h1) h2 h3, t2]
theorem fmS_fd (I : Nat → Int32) (wh : Int) (rp : Int → Int → Bool) {k : Int} (hk : Rg k) (hI : I 11 = oI k) (L : List (Int × Int)) : ∀ (φ : Ph) (m : Int), φ.2.2.2.1 = oI m → 0 ≤ m → m + ((L.map (fun q => (spX (rp q.1) (-60)).length)).sum : Nat) < 2147483648 → (fmS I wh rp φ L).2.2.2.2.2 = kth (fdL wh rp L) (k - m) φ.2.2.2.2.2 := by
  induction L with
  | nil => intro φ m _ _ _; rw [fdL, List.flatMap_nil, kth_nil]; rfl
  | cons q r ih =>
    intro φ m h1 h2 h3
    rw [List.map_cons, List.sum_cons] at h3
    have hb := bandS_n I wh q.1 q.2 φ (spX (rp q.1) (-60))
    have hf := bandS_fd I wh q.1 q.2 hk hI (spX (rp q.1) (-60)) φ m h1 h2 (by omega)
    show (fmS I wh rp (bandS I wh q.1 q.2 φ (spX (rp q.1) (-60))) r).2.2.2.2.2 = _
    rw [ih _ (m + ((spX (rp q.1) (-60)).length : Nat)) (by rw [hb.1, h1, oI_add]) (by omega) (by omega), hf, show fdL wh rp (q :: r) = (spX (rp q.1) (-60)).map (fun u => oI (fOf wh u.1 u.2 q.1 q.2)) ++ fdL wh rp r from rfl, kth_app, List.length_map]
    by_cases e : k - m < ((spX (rp q.1) (-60)).length : Nat)
    · rw [if_pos e, kth_neg (by omega)]
    · rw [if_neg e]
      have e2 : kth ((spX (rp q.1) (-60)).map (fun u => oI (fOf wh u.1 u.2 q.1 q.2))) (k - m) φ.2.2.2.2.2 = φ.2.2.2.2.2 := if_neg (by rw [List.length_map]; omega)
      rw [e2]
      congr 1
      omega
theorem form_fd {s : Nat → Int64} {a : Nat} {S : Cl} (h : AR s a S) (I : Nat → Int32) {k : Int} (hk : Rg k) (wh w : Int) : formI I s a k wh w 12 = kth (fdL wh (rpC S) (bandsC S)) k (oI (-201)) := by
  have hl := nsC_le S
  have e := fmS_fd (upd (upd I 11 (oI k)) 14 (oI w)) wh (rpC S) hk rfl (bandsC S) phi0 0 rfl (by omega) (by unfold nsC at hl; omega)
  rw [← AR_fm h, Int.sub_zero] at e
  exact e
