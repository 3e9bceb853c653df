/-! THE CLASS: its areas. West and east longs of a row read as the reference's two longs of a row. -/
def wv (w e : Nat → Int64) : Nat → Int64 := fun k => if k % 2 = 0 then w (k / 2) else e (k / 2)
theorem wv_w (w e : Nat → Int64) (j : Nat) : wv w e (2 * j) = w j := by
  rw [wv, if_pos (by omega), show 2 * j / 2 = j by omega]
theorem wv_e (w e : Nat → Int64) (j : Nat) : wv w e (2 * j + 1) = e j := by
  rw [wv, if_neg (by omega), show (2 * j + 1) / 2 = j by omega]
def AC (D : Dt) (z : Fin 11) (S : Cl) : Prop := AR (wv (D.2.1 2 z) (D.2.1 3 z)) 0 S
/-- only the area z of the class has changed -/
def Az (z : Fin 11) (D D' : Dt) : Prop := D'.1 = D.1 ∧ D'.2.2 = D.2.2 ∧ ∀ t y, ¬ ((t = 2 ∨ t = 3) ∧ y = z) → D'.2.1 t y = D.2.1 t y
theorem Az.rf (z : Fin 11) (D : Dt) : Az z D D := ⟨rfl, rfl, fun _ _ _ => rfl⟩
theorem Az.tr {z : Fin 11} {D D1 D2 : Dt} (h : Az z D D1) (k : Az z D1 D2) : Az z D D2 := ⟨k.1.trans h.1, k.2.1.trans h.2.1, fun t y q => (k.2.2 t y q).trans (h.2.2 t y q)⟩
theorem Az_2 (z : Fin 11) (D : Dt) (f : Nat → Int64) : Az z D (lU D 2 z f) := ⟨rfl, rfl, fun t y q => lU_ne D f (fun e => q ⟨Or.inl e.1, e.2⟩)⟩
theorem Az_3 (z : Fin 11) (D : Dt) (f : Nat → Int64) : Az z D (lU D 3 z f) := ⟨rfl, rfl, fun t y q => lU_ne D f (fun e => q ⟨Or.inr e.1, e.2⟩)⟩
theorem Az.ac {z y : Fin 11} {D D' : Dt} {S : Cl} (h : Az z D D') (hy : y ≠ z) (k : AC D y S) : AC D' y S := by
  unfold AC
  rw [h.2.2 2 y (fun q => hy q.2), h.2.2 3 y (fun q => hy q.2)]
  exact k
theorem updL_at (f : Nat → Int64) (k : Nat) (v : Int64) (j : Nat) : vp_updL f k v j = if j = k then v else f j := rfl
/-- both longs of each row given: what the area holds -/
theorem AC_rows {D : Dt} {z : Fin 11} {S : Cl} {s : Nat → Int64} {a : Nat} (h : AR s a S) (hw : ∀ j, j < 120 → D.2.1 2 z j = s (240 * a + 2 * j)) (he : ∀ j, j < 120 → D.2.1 3 z j = s (240 * a + (2 * j + 1))) : AC D z S := by
  refine AR.same h (fun k hk => ?_)
  rw [Nat.mul_zero, Nat.zero_add]
  rcases Nat.mod_two_eq_zero_or_one k with q | q
  · rw [show k = 2 * (k / 2) by omega, wv_w, hw _ (by omega)]
  · rw [show k = 2 * (k / 2) + 1 by omega, wv_e, he _ (by omega)]
theorem AR_mix2 {s s' t : Nat → Int64} {a b c : Nat} {A B : Cl} (so : Int) (hA : AR s a A) (hB : AR s' b B) (h : ∀ k, k < 240 → t (240 * c + k) = opL so (s (240 * a + k)) (s' (240 * b + k))) : AR t c (mixC so A B) := by
  refine ⟨fun k hk => by rw [h k hk]; exact opL_60 so (hA.1 k hk) (hB.1 k hk), fun i hi j hj => ?_⟩
  rw [cM, Nat.add_assoc, h _ (by omega), opL_tb so _ _ (by omega), mixC, ← hA.2 i hi j hj, ← hB.2 i hi j hj, cM, cM, Nat.add_assoc, Nat.add_assoc]
theorem AC_mix {D D' : Dt} {z y x : Fin 11} {A B : Cl} (so : Int) (hA : AC D y A) (hB : AC D x B) (h2 : ∀ j, j < 120 → D'.2.1 2 z j = opL so (D.2.1 2 y j) (D.2.1 2 x j)) (h3 : ∀ j, j < 120 → D'.2.1 3 z j = opL so (D.2.1 3 y j) (D.2.1 3 x j)) : AC D' z (mixC so A B) := by
  refine AR_mix2 so hA hB (fun k hk => ?_)
  rw [Nat.mul_zero, Nat.zero_add]
  rcases Nat.mod_two_eq_zero_or_one k with q | q
  · rw [show k = 2 * (k / 2) by omega, wv_w, wv_w, wv_w, h2 _ (by omega)]
  · rw [show k = 2 * (k / 2) + 1 by omega, wv_e, wv_e, wv_e, h3 _ (by omega)]
theorem c_X0_combined {E : Le} {l : Launch} {D : Dt} {so : Int} {u v : Int64} (hs : Rg so) : ConL E l yX0_combined cX0_combined 5 (some .long) 1 [.int (oI so), .long u, .long v] D (opL so u v) D := by
  refine Con_of (by decide) (Nat.le_of_ble_eq_true rfl) ?_
  intro X hX hR hl; subst hl
  refine V_iload_n (pc := 0) (j := 0) hX 0 rfl rfl dX0_combined_0 ?_
  by_cases h1_0 : so = 0
  · refine Z_tableIn (pc := 1) (tgt := 28) hX 0 h1_0 (by decide) (by decide) (by decide) dX0_combined_1 rfl (by decide) ?_
    refine V_lload_n (pc := 28) (j := 1) hX 1 rfl rfl dX0_combined_28 ?_
    refine V_lload_n (pc := 29) (j := 3) hX 3 rfl rfl dX0_combined_29 ?_
    refine V_lor (pc := 30) hX dX0_combined_30 ?_
    refine V_lret (pc := 31) hX hR dX0_combined_31 ?_
    exact ⟨congrArg (fun q => some (Value.long q)) (by rw [opL, if_pos (by omega)]), rfl⟩
  by_cases h1_1 : so = 1
  · refine Z_tableIn (pc := 1) (tgt := 32) hX 1 h1_1 (by decide) (by decide) (by decide) dX0_combined_1 rfl (by decide) ?_
    refine V_lload_n (pc := 32) (j := 1) hX 1 rfl rfl dX0_combined_32 ?_
    refine V_lload_n (pc := 33) (j := 3) hX 3 rfl rfl dX0_combined_33 ?_
    refine V_land (pc := 34) hX dX0_combined_34 ?_
    refine V_lret (pc := 35) hX hR dX0_combined_35 ?_
    exact ⟨congrArg (fun q => some (Value.long q)) (by rw [opL, if_neg (by omega), if_pos (by omega)]), rfl⟩
  by_cases h1_2 : so = 2
  · refine Z_tableIn (pc := 1) (tgt := 36) hX 2 h1_2 (by decide) (by decide) (by decide) dX0_combined_1 rfl (by decide) ?_
    refine V_lload_n (pc := 36) (j := 1) hX 1 rfl rfl dX0_combined_36 ?_
    refine V_lload_n (pc := 37) (j := 3) hX 3 rfl rfl dX0_combined_37 ?_
    refine V_ldc2 (pc := 38) hX (-1) w_325 dX0_combined_38 ?_
    refine V_lxor (pc := 41) hX dX0_combined_41 ?_
    refine V_land (pc := 42) hX dX0_combined_42 ?_
    refine V_lret (pc := 43) hX hR dX0_combined_43 ?_
    exact ⟨congrArg (fun q => some (Value.long q)) (by rw [opL, if_neg (by omega), if_neg (by omega), if_pos (by omega)]), rfl⟩
  refine Z_tableOut (pc := 1) (tgt := 44) hX (by omega) (by omega) dX0_combined_1 (by decide) ?_
  refine V_lload_n (pc := 44) (j := 1) hX 1 rfl rfl dX0_combined_44 ?_
  refine V_lload_n (pc := 45) (j := 3) hX 3 rfl rfl dX0_combined_45 ?_
  refine V_lxor (pc := 46) hX dX0_combined_46 ?_
  refine V_lret (pc := 47) hX hR dX0_combined_47 ?_
  exact ⟨congrArg (fun q => some (Value.long q)) (by rw [opL, if_neg (by omega), if_neg (by omega), if_neg (by omega)]), rfl⟩
theorem c_X0_combine {E : Le} {l : Launch} {D : Dt} {so : Int} {z y x : Fin 11} {A B : Cl} (hs : Rg so) (hy : y ≠ z) (hx : x ≠ z) (hA : AC D y A) (hB : AC D x B) : ConVp E l yX0_combine cX0_combine 5 none 2 [.ref (E.1 (1, z)), .int (oI so), .ref (E.1 (1, y)), .ref (E.1 (1, x))] D (fun D' => Az z D D' ∧ AC D' z (mixC so A B)) := by
  refine Con_of (by decide) (Nat.le_of_ble_eq_true rfl) ?_
  intro X hX hR hl; subst hl
  have loop : ∀ (m : Nat) (k : Nat) (D1 : Dt), k ≤ 120 → Az z D D1 → (∀ j, j < k → D1.2.1 2 z j = opL so (D.2.1 2 y j) (D.2.1 2 x j) ∧ D1.2.1 3 z j = opL so (D.2.1 3 y j) (D.2.1 3 x j)) → 120 - k < m → Vw E X 5 D1 3 [(0, some (.ref (E.1 (1, z)))), (1, some (.int (oI so))), (2, some (.ref (E.1 (1, y)))), (3, some (.ref (E.1 (1, x)))), (4, some (.int (oI (k : Int))))] [] := by
    intro m
    induction m with
    | zero => intro k D1 g1 g2 g3 g4; omega
    | succ m ih =>
      intro k D1 g1 g2 g3 g4
      refine V_iload (pc := 3) hX rfl dX0_combine_3 ?_
      refine V_bipush (pc := 5) (z := 120) hX (oI 120) (by decide) dX0_combine_5 ?_
      refine Z_icmp_ge (pc := 7) (tgt := 66) hX (by omega) (by omega) dX0_combine_7 (by decide) (fun h7 => ?_) (fun h7 => ?_)
      · refine V_vret (pc := 66) hX hR dX0_combine_66 ?_
        have e : k = 120 := by omega
        subst e
        exact ⟨rfl, g2, AC_mix so hA hB (fun j hj => (g3 j hj).1) (fun j hj => (g3 j hj).2)⟩
      · refine V_aload_n (pc := 10) (j := 0) hX 0 rfl rfl dX0_combine_10 ?_
        refine gf_X0_9 (pc := 11) hX dX0_combine_11 ?_
        refine V_iload (pc := 14) hX rfl dX0_combine_14 ?_
        refine V_iload_n (pc := 16) (j := 1) hX 1 rfl rfl dX0_combine_16 ?_
        refine V_aload_n (pc := 17) (j := 2) hX 2 rfl rfl dX0_combine_17 ?_
        refine gf_X0_9 (pc := 18) hX dX0_combine_18 ?_
        refine V_iload (pc := 21) hX rfl dX0_combine_21 ?_
        refine zl_2 (pc := 23) hX (k) (by omega) (by omega) dX0_combine_23 ?_
        refine V_aload_n (pc := 24) (j := 3) hX 3 rfl rfl dX0_combine_24 ?_
        refine gf_X0_9 (pc := 25) hX dX0_combine_25 ?_
        refine V_iload (pc := 28) hX rfl dX0_combine_28 ?_
        refine zl_2 (pc := 30) hX (k) (by omega) (by omega) dX0_combine_30 ?_
        refine cSL3 (pc := 31) hX (c_X0_combined hs) (by decide) st_X0_45 (Nat.le_of_ble_eq_true rfl) dX0_combine_31 ?_
        refine zs_2 (pc := 34) hX (k) (by omega) (by omega) dX0_combine_34 ?_
        refine V_aload_n (pc := 35) (j := 0) hX 0 rfl rfl dX0_combine_35 ?_
        refine gf_X0_15 (pc := 36) hX dX0_combine_36 ?_
        refine V_iload (pc := 39) hX rfl dX0_combine_39 ?_
        refine V_iload_n (pc := 41) (j := 1) hX 1 rfl rfl dX0_combine_41 ?_
        refine V_aload_n (pc := 42) (j := 2) hX 2 rfl rfl dX0_combine_42 ?_
        refine gf_X0_15 (pc := 43) hX dX0_combine_43 ?_
        refine V_iload (pc := 46) hX rfl dX0_combine_46 ?_
        refine zl_3 (pc := 48) hX (k) (by omega) (by omega) dX0_combine_48 ?_
        refine V_aload_n (pc := 49) (j := 3) hX 3 rfl rfl dX0_combine_49 ?_
        refine gf_X0_15 (pc := 50) hX dX0_combine_50 ?_
        refine V_iload (pc := 53) hX rfl dX0_combine_53 ?_
        refine zl_3 (pc := 55) hX (k) (by omega) (by omega) dX0_combine_55 ?_
        refine cSL3 (pc := 56) hX (c_X0_combined hs) (by decide) st_X0_45 (Nat.le_of_ble_eq_true rfl) dX0_combine_56 ?_
        refine zs_3 (pc := 59) hX (k) (by omega) (by omega) dX0_combine_59 ?_
        refine Z_iinc (pc := 60) hX 1 rfl rfl dX0_combine_60 ?_
        refine V_goto (pc := 63) (off := (-60)) (tgt := 3) hX (by decide) dX0_combine_63 ?_
        refine V_cut [(0, some (.ref (E.1 (1, z)))), (1, some (.int (oI so))), (2, some (.ref (E.1 (1, y)))), (3, some (.ref (E.1 (1, x)))), (4, some (.int (oI ((k + 1 : Nat) : Int))))] ⟨rfl, rfl, rfl, rfl, rfl, trivial⟩ ?_
        refine ih (k + 1) _ (by omega) ((g2.tr (Az_2 z _ _)).tr (Az_3 z _ _)) (fun j hj => ?_) (by omega)
        rw [lU_get, lU_ne _ _ (by simp), lU_get, updL_at, updL_at]
        by_cases q : j = k
        · subst q
          rw [if_pos rfl, if_pos rfl, lU_ne _ _ (by simp), lU_ne _ _ (by simp), g2.2.2 2 y (fun q => hy q.2), g2.2.2 2 x (fun q => hx q.2), g2.2.2 3 y (fun q => hy q.2), g2.2.2 3 x (fun q => hx q.2)]
          exact ⟨rfl, rfl⟩
        · rw [if_neg q, if_neg q, lU_ne _ _ (by simp)]
          exact g3 j (by omega)
  refine V_iconst (pc := 0) (z := 0) hX (oI 0) rfl dX0_combine_0 ?_
  refine V_istore (pc := 1) hX (by decide) rfl dX0_combine_1 ?_
  refine V_cut [(0, some (.ref (E.1 (1, z)))), (1, some (.int (oI so))), (2, some (.ref (E.1 (1, y)))), (3, some (.ref (E.1 (1, x)))), (4, some (.int (oI ((0 : Nat) : Int))))] ⟨rfl, rfl, rfl, rfl, rfl, trivial⟩ ?_
  exact loop 121 0 D (by omega) (Az.rf z D) (fun j hj => absurd hj (Nat.not_lt_zero j)) (by omega)
theorem AC_rest {D D' : Dt} {z : Fin 11} {A : Cl} (hA : AC D z A) (h2 : ∀ j, j < 120 → D'.2.1 2 z j = ALc &&& (D.2.1 2 z j ^^^ -1)) (h3 : ∀ j, j < 120 → D'.2.1 3 z j = ALc &&& (D.2.1 3 z j ^^^ -1)) : AC D' z (restC A) := by
  refine AR_rest hA (fun k hk => ?_)
  rw [Nat.mul_zero, Nat.zero_add]
  rcases Nat.mod_two_eq_zero_or_one k with q | q
  · rw [show k = 2 * (k / 2) by omega, wv_w, wv_w, h2 _ (by omega)]
  · rw [show k = 2 * (k / 2) + 1 by omega, wv_e, wv_e, h3 _ (by omega)]
theorem c_X0_invert {E : Le} {l : Launch} {D : Dt} {z : Fin 11} {A : Cl} (hA : AC D z A) : ConVp E l yX0_invert cX0_invert 2 none 1 [.ref (E.1 (1, z))] D (fun D' => Az z D D' ∧ AC D' z (restC A)) := by
  refine Con_of (by decide) (Nat.le_of_ble_eq_true rfl) ?_
  intro X hX hR hl; subst hl
  have loop : ∀ (m : Nat) (k : Nat) (D1 : Dt), k ≤ 120 → Az z D D1 → (∀ j, (j < k → D1.2.1 2 z j = ALc &&& (D.2.1 2 z j ^^^ -1) ∧ D1.2.1 3 z j = ALc &&& (D.2.1 3 z j ^^^ -1)) ∧ (k ≤ j → D1.2.1 2 z j = D.2.1 2 z j) ∧ (k ≤ j → D1.2.1 3 z j = D.2.1 3 z j)) → 120 - k < m → Vw E X 2 D1 2 [(0, some (.ref (E.1 (1, z)))), (1, some (.int (oI (k : Int))))] [] := by
    intro m
    induction m with
    | zero => intro k D1 g1 g2 g3 g4; omega
    | succ m ih =>
      intro k D1 g1 g2 g3 g4
      refine V_iload_n (pc := 2) (j := 1) hX 1 rfl rfl dX0_invert_2 ?_
      refine V_bipush (pc := 3) (z := 120) hX (oI 120) (by decide) dX0_invert_3 ?_
      refine Z_icmp_ge (pc := 5) (tgt := 54) hX (by omega) (by omega) dX0_invert_5 (by decide) (fun h5 => ?_) (fun h5 => ?_)
      · refine V_vret (pc := 54) hX hR dX0_invert_54 ?_
        have e : k = 120 := by omega
        subst e
        exact ⟨rfl, g2, AC_rest hA (fun j hj => ((g3 j).1 hj).1) (fun j hj => ((g3 j).1 hj).2)⟩
      · refine V_aload_n (pc := 8) (j := 0) hX 0 rfl rfl dX0_invert_8 ?_
        refine gf_X0_9 (pc := 9) hX dX0_invert_9 ?_
        refine V_iload_n (pc := 12) (j := 1) hX 1 rfl rfl dX0_invert_12 ?_
        refine V_aload_n (pc := 13) (j := 0) hX 0 rfl rfl dX0_invert_13 ?_
        refine gf_X0_9 (pc := 14) hX dX0_invert_14 ?_
        refine V_iload_n (pc := 17) (j := 1) hX 1 rfl rfl dX0_invert_17 ?_
        refine zl_2 (pc := 18) hX (k) (by omega) (by omega) dX0_invert_18 ?_
        refine V_ldc2 (pc := 19) hX (-1) w_325 dX0_invert_19 ?_
        refine V_lxor (pc := 22) hX dX0_invert_22 ?_
        refine V_ldc2 (pc := 23) hX (1152921504606846975) w_279 dX0_invert_23 ?_
        refine V_land (pc := 26) hX dX0_invert_26 ?_
        refine zs_2 (pc := 27) hX (k) (by omega) (by omega) dX0_invert_27 ?_
        refine V_aload_n (pc := 28) (j := 0) hX 0 rfl rfl dX0_invert_28 ?_
        refine gf_X0_15 (pc := 29) hX dX0_invert_29 ?_
        refine V_iload_n (pc := 32) (j := 1) hX 1 rfl rfl dX0_invert_32 ?_
        refine V_aload_n (pc := 33) (j := 0) hX 0 rfl rfl dX0_invert_33 ?_
        refine gf_X0_15 (pc := 34) hX dX0_invert_34 ?_
        refine V_iload_n (pc := 37) (j := 1) hX 1 rfl rfl dX0_invert_37 ?_
        refine zl_3 (pc := 38) hX (k) (by omega) (by omega) dX0_invert_38 ?_
        refine V_ldc2 (pc := 39) hX (-1) w_325 dX0_invert_39 ?_
        refine V_lxor (pc := 42) hX dX0_invert_42 ?_
        refine V_ldc2 (pc := 43) hX (1152921504606846975) w_279 dX0_invert_43 ?_
        refine V_land (pc := 46) hX dX0_invert_46 ?_
        refine zs_3 (pc := 47) hX (k) (by omega) (by omega) dX0_invert_47 ?_
        refine Z_iinc (pc := 48) hX 1 rfl rfl dX0_invert_48 ?_
        refine V_goto (pc := 51) (off := (-49)) (tgt := 2) hX (by decide) dX0_invert_51 ?_
        refine V_cut [(0, some (.ref (E.1 (1, z)))), (1, some (.int (oI ((k + 1 : Nat) : Int))))] ⟨rfl, rfl, trivial⟩ ?_
        refine ih (k + 1) _ (by omega) ((g2.tr (Az_2 z _ _)).tr (Az_3 z _ _)) (fun j => ?_) (by omega)
        rw [lU_get, lU_ne _ _ (by simp), lU_get, updL_at, updL_at]
        by_cases q : j = k
        · subst q
          rw [if_pos rfl, if_pos rfl, lU_ne _ _ (by simp), Int64.and_comm _ ALc, Int64.and_comm _ ALc, (g3 j).2.1 (by omega), (g3 j).2.2 (by omega)]
          exact ⟨fun _ => ⟨rfl, rfl⟩, fun h => absurd h (by omega), fun h => absurd h (by omega)⟩
        · rw [if_neg q, if_neg q, lU_ne _ _ (by simp)]
          exact ⟨fun h => (g3 j).1 (by omega), fun h => (g3 j).2.1 (by omega), fun h => (g3 j).2.2 (by omega)⟩
  refine V_iconst (pc := 0) (z := 0) hX (oI 0) rfl dX0_invert_0 ?_
  refine V_istore_n (pc := 1) (j := 1) hX 1 rfl (by decide) rfl dX0_invert_1 ?_
  refine V_cut [(0, some (.ref (E.1 (1, z)))), (1, some (.int (oI ((0 : Nat) : Int))))] ⟨rfl, rfl, trivial⟩ ?_
  exact loop 121 0 D (by omega) (Az.rf z D) (fun j => ⟨fun hj => absurd hj (Nat.not_lt_zero j), fun _ => rfl, fun _ => rfl⟩) (by omega)
theorem AC_copy {D : Dt} {z y : Fin 11} {A : Cl} (hy : y ≠ z) (hA : AC D y A) : AC (lU (lU D 2 z (fun j => if j < 120 then D.2.1 2 y j else D.2.1 2 z j)) 3 z (fun j => if j < 120 then D.2.1 3 y j else D.2.1 3 z j)) z A := by
  refine AC_rows hA (fun j hj => ?_) (fun j hj => ?_)
  · rw [lU_ne _ _ (by simp), lU_get, if_pos hj, Nat.mul_zero, Nat.zero_add, wv_w]
  · rw [lU_get, if_pos hj, Nat.mul_zero, Nat.zero_add, wv_e]
theorem c_X0_copy {E : Le} {l : Launch} {D : Dt} {z y : Fin 11} {A : Cl} (hy : y ≠ z) (hA : AC D y A) : ConVp E l yX0_copy cX0_copy 2 none 1 [.ref (E.1 (1, z)), .ref (E.1 (1, y))] D (fun D' => Az z D D' ∧ AC D' z A) := by
  refine Con_of (by decide) (Nat.le_of_ble_eq_true rfl) ?_
  intro X hX hR hl; subst hl
  refine V_aload_n (pc := 0) (j := 1) hX 1 rfl rfl dX0_copy_0 ?_
  refine gf_X0_9 (pc := 1) hX dX0_copy_1 ?_
  refine V_iconst (pc := 4) (z := 0) hX (oI 0) rfl dX0_copy_4 ?_
  refine V_aload_n (pc := 5) (j := 0) hX 0 rfl rfl dX0_copy_5 ?_
  refine gf_X0_9 (pc := 6) hX dX0_copy_6 ?_
  refine V_iconst (pc := 9) (z := 0) hX (oI 0) rfl dX0_copy_9 ?_
  refine V_bipush (pc := 10) (z := 120) hX (oI 120) (by decide) dX0_copy_10 ?_
  refine V_copyl (pc := 12) hX (by decide) wm_X0_24 wm_copy.1 wm_copy.2.1 wm_copy.2.2 (ix_2 _) (ix_2 _) rfl (fun _ => rfl) 120 (oI_nI rfl) (by decide) (by decide) (by decide) (ho_lU 2 _ (by decide) _) (Nat.le_of_ble_eq_true rfl) dX0_copy_12 ?_
  refine V_aload_n (pc := 15) (j := 1) hX 1 rfl rfl dX0_copy_15 ?_
  refine gf_X0_15 (pc := 16) hX dX0_copy_16 ?_
  refine V_iconst (pc := 19) (z := 0) hX (oI 0) rfl dX0_copy_19 ?_
  refine V_aload_n (pc := 20) (j := 0) hX 0 rfl rfl dX0_copy_20 ?_
  refine gf_X0_15 (pc := 21) hX dX0_copy_21 ?_
  refine V_iconst (pc := 24) (z := 0) hX (oI 0) rfl dX0_copy_24 ?_
  refine V_bipush (pc := 25) (z := 120) hX (oI 120) (by decide) dX0_copy_25 ?_
  refine V_copyl (pc := 27) hX (by decide) wm_X0_24 wm_copy.1 wm_copy.2.1 wm_copy.2.2 (ix_3 _) (ix_3 _) rfl (fun _ => rfl) 120 (oI_nI rfl) (by decide) (by decide) (by decide) (ho_lU 3 _ (by decide) _) (Nat.le_of_ble_eq_true rfl) dX0_copy_27 ?_
  refine V_vret (pc := 30) hX hR dX0_copy_30 ?_
  exact ⟨rfl, (Az_2 z D _).tr (Az_3 z _ _), AC_copy hy hA⟩
theorem ushr_bit0 (v : Int64) {k : Nat} (h : k < 64) : (v.toUInt64 >>> ((oI (k : Int)).toInt64.toUInt64 &&& Int64.toUInt64 63)).toInt64 &&& 1 = 0 ↔ tb v k = false := by
  rw [and1, tb_ushr v h, Nat.add_zero]
  cases tb v k <;> simp
theorem AC_w {D : Dt} {z : Fin 11} {S : Cl} (h : AC D z S) {i j : Nat} (hi : i < 60) (hj : j < 120) : tb (D.2.1 2 z j) i = S i j := by
  rw [← h.2 i (by omega) j hj, cM, show 240 * 0 + 2 * j + i / 60 = 2 * j by omega, wv_w, show i % 60 = i by omega]
theorem AC_e {D : Dt} {z : Fin 11} {S : Cl} (h : AC D z S) {i j : Nat} (hi : i < 60) (hj : j < 120) : tb (D.2.1 3 z j) i = S (60 + i) j := by
  rw [← h.2 (60 + i) (by omega) j hj, cM, show 240 * 0 + 2 * j + (60 + i) / 60 = 2 * j + 1 by omega, wv_e, show (60 + i) % 60 = i by omega]
theorem c_X0_holds {E : Le} {l : Launch} {D : Dt} {z : Fin 11} {S : Cl} {x y : Int} (hx : -60 ≤ x ∧ x ≤ 59) (hy : -60 ≤ y ∧ y ≤ 59) (hA : AC D z S) : ConI E l yX0_holds cX0_holds 7 (some .boolean) 1 [.ref (E.1 (1, z)), .int (oI x), .int (oI y)] D (bI (rpC S y x)) D := by
  refine Con_of (by decide) (Nat.le_of_ble_eq_true rfl) ?_
  intro X hX hR hl; subst hl
  refine V_iload_n (pc := 0) (j := 2) hX 2 rfl rfl dX0_holds_0 ?_
  refine V_bipush (pc := 1) (z := 60) hX (oI 60) (by decide) dX0_holds_1 ?_
  refine Z_iadd (pc := 3) hX dX0_holds_3 ?_
  refine V_istore_n (pc := 4) (j := 3) hX 3 rfl (by decide) rfl dX0_holds_4 ?_
  refine V_iload_n (pc := 5) (j := 1) hX 1 rfl rfl dX0_holds_5 ?_
  refine Z_if_ge (pc := 6) (tgt := 18) hX (by omega) dX0_holds_6 (by decide) (fun h6 => ?_) (fun h6 => ?_)
  · refine V_aload_n (pc := 18) (j := 0) hX 0 rfl rfl dX0_holds_18 ?_
    refine gf_X0_15 (pc := 19) hX dX0_holds_19 ?_
    refine V_iload_n (pc := 22) (j := 3) hX 3 rfl rfl dX0_holds_22 ?_
    refine zl_3 (pc := 23) hX ((y + 60).toNat) (by omega) (by omega) dX0_holds_23 ?_
    refine V_lstore (pc := 24) hX (by decide) rfl dX0_holds_24 ?_
    refine V_iload_n (pc := 26) (j := 1) hX 1 rfl rfl dX0_holds_26 ?_
    refine Z_if_ge (pc := 27) (tgt := 37) hX (by omega) dX0_holds_27 (by decide) (fun h27 => ?_) (fun h27 => ?_)
    · refine V_iload_n (pc := 37) (j := 1) hX 1 rfl rfl dX0_holds_37 ?_
      refine V_istore (pc := 38) hX (by decide) rfl dX0_holds_38 ?_
      refine V_lload (pc := 40) hX rfl dX0_holds_40 ?_
      refine V_iload (pc := 42) hX rfl dX0_holds_42 ?_
      refine V_oI ((x.toNat : Nat) : Int) (congrArg oI (by omega)) ?_
      refine V_lushr (pc := 44) hX dX0_holds_44 ?_
      refine V_lconst (pc := 45) (z := 1) hX 1 (by decide) dX0_holds_45 ?_
      refine V_land (pc := 46) hX dX0_holds_46 ?_
      refine V_lconst (pc := 47) (z := 0) hX 0 (by decide) dX0_holds_47 ?_
      refine V_lcmp (pc := 48) hX dX0_holds_48 ?_
      refine L_if_eq (pc := 49) (tgt := 56) hX dX0_holds_49 (by decide) (fun h49 => ?_) (fun h49 => ?_)
      · refine V_iconst (pc := 56) (z := 0) hX (oI 0) rfl dX0_holds_56 ?_
        refine V_zret (pc := 57) hX hR (by decide) dX0_holds_57 ?_
        have ht := AC_e hA (i := x.toNat) (j := (y + 60).toNat) (by omega) (by omega)
        rw [show 60 + x.toNat = (x + 60).toNat by omega] at ht
        exact ⟨some_int (bI_0 (by rw [rpC_in hx hy, ← ht]; exact (ushr_bit0 _ (k := x.toNat) (by omega)).mp h49)), rfl⟩
      · refine V_iconst (pc := 52) (z := 1) hX (oI 1) rfl dX0_holds_52 ?_
        refine V_goto (pc := 53) (off := 4) (tgt := 57) hX (by decide) dX0_holds_53 ?_
        refine V_zret (pc := 57) hX hR (by decide) dX0_holds_57 ?_
        have ht := AC_e hA (i := x.toNat) (j := (y + 60).toNat) (by omega) (by omega)
        rw [show 60 + x.toNat = (x + 60).toNat by omega] at ht
        exact ⟨some_int (bI_1 (by rw [rpC_in hx hy, ← ht]; exact eq_true_of_ne_false (fun q => h49 ((ushr_bit0 _ (k := x.toNat) (by omega)).mpr q)))), rfl⟩
    · exfalso; omega
  · refine V_aload_n (pc := 9) (j := 0) hX 0 rfl rfl dX0_holds_9 ?_
    refine gf_X0_9 (pc := 10) hX dX0_holds_10 ?_
    refine V_iload_n (pc := 13) (j := 3) hX 3 rfl rfl dX0_holds_13 ?_
    refine zl_2 (pc := 14) hX ((y + 60).toNat) (by omega) (by omega) dX0_holds_14 ?_
    refine V_goto (pc := 15) (off := 9) (tgt := 24) hX (by decide) dX0_holds_15 ?_
    refine V_lstore (pc := 24) hX (by decide) rfl dX0_holds_24 ?_
    refine V_iload_n (pc := 26) (j := 1) hX 1 rfl rfl dX0_holds_26 ?_
    refine Z_if_ge (pc := 27) (tgt := 37) hX (by omega) dX0_holds_27 (by decide) (fun h27 => ?_) (fun h27 => ?_)
    · exfalso; omega
    · refine V_iload_n (pc := 30) (j := 1) hX 1 rfl rfl dX0_holds_30 ?_
      refine V_bipush (pc := 31) (z := 60) hX (oI 60) (by decide) dX0_holds_31 ?_
      refine Z_iadd (pc := 33) hX dX0_holds_33 ?_
      refine V_goto (pc := 34) (off := 4) (tgt := 38) hX (by decide) dX0_holds_34 ?_
      refine V_istore (pc := 38) hX (by decide) rfl dX0_holds_38 ?_
      refine V_lload (pc := 40) hX rfl dX0_holds_40 ?_
      refine V_iload (pc := 42) hX rfl dX0_holds_42 ?_
      refine V_oI (((x + 60).toNat : Nat) : Int) (congrArg oI (by omega)) ?_
      refine V_lushr (pc := 44) hX dX0_holds_44 ?_
      refine V_lconst (pc := 45) (z := 1) hX 1 (by decide) dX0_holds_45 ?_
      refine V_land (pc := 46) hX dX0_holds_46 ?_
      refine V_lconst (pc := 47) (z := 0) hX 0 (by decide) dX0_holds_47 ?_
      refine V_lcmp (pc := 48) hX dX0_holds_48 ?_
      refine L_if_eq (pc := 49) (tgt := 56) hX dX0_holds_49 (by decide) (fun h49 => ?_) (fun h49 => ?_)
      · refine V_iconst (pc := 56) (z := 0) hX (oI 0) rfl dX0_holds_56 ?_
        refine V_zret (pc := 57) hX hR (by decide) dX0_holds_57 ?_
        have ht := AC_w hA (i := (x + 60).toNat) (j := (y + 60).toNat) (by omega) (by omega)
        exact ⟨some_int (bI_0 (by rw [rpC_in hx hy, ← ht]; exact (ushr_bit0 _ (k := (x + 60).toNat) (by omega)).mp h49)), rfl⟩
      · refine V_iconst (pc := 52) (z := 1) hX (oI 1) rfl dX0_holds_52 ?_
        refine V_goto (pc := 53) (off := 4) (tgt := 57) hX (by decide) dX0_holds_53 ?_
        refine V_zret (pc := 57) hX hR (by decide) dX0_holds_57 ?_
        have ht := AC_w hA (i := (x + 60).toNat) (j := (y + 60).toNat) (by omega) (by omega)
        exact ⟨some_int (bI_1 (by rw [rpC_in hx hy, ← ht]; exact eq_true_of_ne_false (fun q => h49 ((ushr_bit0 _ (k := (x + 60).toNat) (by omega)).mpr q)))), rfl⟩
theorem or0 {u v : Int64} : u ||| v = 0 ↔ u = 0 ∧ v = 0 := by
  constructor
  · intro h
    have hb : ∀ i, (tb u i || tb v i) = false := fun i => by rw [← tb_or, h, tb_0]
    exact ⟨tb_ext (fun i _ => by have := hb i; rw [Bool.or_eq_false_iff] at this; rw [this.1, tb_0]), tb_ext (fun i _ => by have := hb i; rw [Bool.or_eq_false_iff] at this; rw [this.2, tb_0])⟩
  · rintro ⟨rfl, rfl⟩; rfl
/-- some row of the op'ed areas has a cell -/
theorem AC_nz {D : Dt} {y x : Fin 11} {A B : Cl} (so : Int) (hA : AC D y A) (hB : AC D x B) (j : Nat) (hj : j < 120) : (opL so (D.2.1 2 y j) (D.2.1 2 x j) ||| opL so (D.2.1 3 y j) (D.2.1 3 x j) = 0) ↔ ∀ i, i < 120 → mixC so A B i j = false := by
  have h : AR (wv (fun j => opL so (D.2.1 2 y j) (D.2.1 2 x j)) (fun j => opL so (D.2.1 3 y j) (D.2.1 3 x j))) 0 (mixC so A B) := by
    refine AR_mix2 so hA hB (fun k hk => ?_)
    rw [Nat.mul_zero, Nat.zero_add]
    rcases Nat.mod_two_eq_zero_or_one k with q | q
    · rw [show k = 2 * (k / 2) by omega, wv_w, wv_w, wv_w]
    · rw [show k = 2 * (k / 2) + 1 by omega, wv_e, wv_e, wv_e]
  have bw := h.1 (2 * j) (by omega)
  have be := h.1 (2 * j + 1) (by omega)
  rw [Nat.mul_zero, Nat.zero_add] at bw be
  rw [wv_w] at bw
  rw [wv_e] at be
  have cw : ∀ i, i < 60 → tb (opL so (D.2.1 2 y j) (D.2.1 2 x j)) i = mixC so A B i j := fun i hi => by
    rw [← h.2 i (by omega) j hj, cM, show 240 * 0 + 2 * j + i / 60 = 2 * j by omega, wv_w, show i % 60 = i by omega]
  have ce : ∀ i, i < 60 → tb (opL so (D.2.1 3 y j) (D.2.1 3 x j)) i = mixC so A B (60 + i) j := fun i hi => by
    rw [← h.2 (60 + i) (by omega) j hj, cM, show 240 * 0 + 2 * j + (60 + i) / 60 = 2 * j + 1 by omega, wv_e, show (60 + i) % 60 = i by omega]
  rw [or0]
  constructor
  · rintro ⟨e1, e2⟩ i hi
    by_cases q : i < 60
    · rw [← cw i q, e1, tb_0]
    · have := ce (i - 60) (by omega)
      rw [show 60 + (i - 60) = i by omega] at this
      rw [← this, e2, tb_0]
  · intro hz
    exact ⟨b60_ext bw b60_0 (fun i hi => by rw [cw i hi, hz i (by omega), tb_0]), b60_ext be b60_0 (fun i hi => by rw [ce i hi, hz (60 + i) (by omega), tb_0])⟩
theorem cntC_z {S : Cl} (h : ∀ j, j < 120 → ∀ i, i < 120 → S i j = false) : cntC S = 0 := by
  rw [show cntC S = cntC (fun _ _ => false) from cntC_congr (fun i hi j hj => h j hj i hi)]
  decide +kernel
theorem cntC_p {S : Cl} {j : Nat} (hj : j < 120) (h : ¬ ∀ i, i < 120 → S i j = false) : 0 < cntC S := by
  by_cases c : ∃ i, i < 120 ∧ S i j = true
  · obtain ⟨i, hi, hS⟩ := c
    have := cntC_lt (S := fun _ _ => false) (T := S) (fun _ _ _ _ q => by cases q) ⟨i, hi, j, hj, rfl, hS⟩
    omega
  · exact absurd (fun i hi => Bool.eq_false_iff.mpr (fun q => c ⟨i, hi, q⟩)) h
theorem c_X0_meets {E : Le} {l : Launch} {D : Dt} {z y : Fin 11} {A B : Cl} (hA : AC D z A) (hB : AC D y B) : ConI E l yX0_meets cX0_meets 3 (some .boolean) 1 [.ref (E.1 (1, z)), .ref (E.1 (1, y))] D (bI (decide (0 < cntC (mixC 1 A B)))) D := by
  refine Con_of (by decide) (Nat.le_of_ble_eq_true rfl) ?_
  intro X hX hR hl; subst hl
  have loop : ∀ (m : Nat) (k : Nat), k ≤ 120 → (∀ j, j < k → ∀ i, i < 120 → mixC 1 A B i j = false) → 120 - k < m → Vw E X 3 D 2 [(0, some (.ref (E.1 (1, z)))), (1, some (.ref (E.1 (1, y)))), (2, some (.int (oI (k : Int))))] [] := by
    intro m
    induction m with
    | zero => intro k g1 g2 g3; omega
    | succ m ih =>
      intro k g1 g2 g3
      refine V_iload_n (pc := 2) (j := 2) hX 2 rfl rfl dX0_meets_2 ?_
      refine V_bipush (pc := 3) (z := 120) hX (oI 120) (by decide) dX0_meets_3 ?_
      refine Z_icmp_ge (pc := 5) (tgt := 48) hX (by omega) (by omega) dX0_meets_5 (by decide) (fun h5 => ?_) (fun h5 => ?_)
      · refine V_iconst (pc := 48) (z := 0) hX (oI 0) rfl dX0_meets_48 ?_
        refine V_zret (pc := 49) hX hR (by decide) dX0_meets_49 ?_
        have e : k = 120 := by omega
        subst e
        exact ⟨some_int (bI_0 (decide_eq_false (by rw [cntC_z g2]; omega))), rfl⟩
      · refine V_aload_n (pc := 8) (j := 0) hX 0 rfl rfl dX0_meets_8 ?_
        refine gf_X0_9 (pc := 9) hX dX0_meets_9 ?_
        refine V_iload_n (pc := 12) (j := 2) hX 2 rfl rfl dX0_meets_12 ?_
        refine zl_2 (pc := 13) hX (k) (by omega) (by omega) dX0_meets_13 ?_
        refine V_aload_n (pc := 14) (j := 1) hX 1 rfl rfl dX0_meets_14 ?_
        refine gf_X0_9 (pc := 15) hX dX0_meets_15 ?_
        refine V_iload_n (pc := 18) (j := 2) hX 2 rfl rfl dX0_meets_18 ?_
        refine zl_2 (pc := 19) hX (k) (by omega) (by omega) dX0_meets_19 ?_
        refine V_land (pc := 20) hX dX0_meets_20 ?_
        refine V_aload_n (pc := 21) (j := 0) hX 0 rfl rfl dX0_meets_21 ?_
        refine gf_X0_15 (pc := 22) hX dX0_meets_22 ?_
        refine V_iload_n (pc := 25) (j := 2) hX 2 rfl rfl dX0_meets_25 ?_
        refine zl_3 (pc := 26) hX (k) (by omega) (by omega) dX0_meets_26 ?_
        refine V_aload_n (pc := 27) (j := 1) hX 1 rfl rfl dX0_meets_27 ?_
        refine gf_X0_15 (pc := 28) hX dX0_meets_28 ?_
        refine V_iload_n (pc := 31) (j := 2) hX 2 rfl rfl dX0_meets_31 ?_
        refine zl_3 (pc := 32) hX (k) (by omega) (by omega) dX0_meets_32 ?_
        refine V_land (pc := 33) hX dX0_meets_33 ?_
        refine V_lor (pc := 34) hX dX0_meets_34 ?_
        refine V_lconst (pc := 35) (z := 0) hX 0 (by decide) dX0_meets_35 ?_
        refine V_lcmp (pc := 36) hX dX0_meets_36 ?_
        refine L_if_eq (pc := 37) (tgt := 42) hX dX0_meets_37 (by decide) (fun h37 => ?_) (fun h37 => ?_)
        · refine Z_iinc (pc := 42) hX 1 rfl rfl dX0_meets_42 ?_
          refine V_goto (pc := 45) (off := (-43)) (tgt := 2) hX (by decide) dX0_meets_45 ?_
          have h37 := (AC_nz 1 hA hB k (by omega)).mp h37
          refine V_cut [(0, some (.ref (E.1 (1, z)))), (1, some (.ref (E.1 (1, y)))), (2, some (.int (oI ((k + 1 : Nat) : Int))))] ⟨rfl, rfl, rfl, trivial⟩ ?_
          refine ih (k + 1) (by omega) (fun j hj => ?_) (by omega)
          by_cases q : j = k
          · rw [q]; exact h37
          · exact g2 j (by omega)
        · refine V_iconst (pc := 40) (z := 1) hX (oI 1) rfl dX0_meets_40 ?_
          refine V_zret (pc := 41) hX hR (by decide) dX0_meets_41 ?_
          exact ⟨some_int (bI_1 (decide_eq_true (cntC_p (j := k) (by omega) (fun q => h37 ((AC_nz 1 hA hB k (by omega)).mpr q))))), rfl⟩
  refine V_iconst (pc := 0) (z := 0) hX (oI 0) rfl dX0_meets_0 ?_
  refine V_istore_n (pc := 1) (j := 2) hX 2 rfl (by decide) rfl dX0_meets_1 ?_
  refine V_cut [(0, some (.ref (E.1 (1, z)))), (1, some (.ref (E.1 (1, y)))), (2, some (.int (oI ((0 : Nat) : Int))))] ⟨rfl, rfl, rfl, trivial⟩ ?_
  exact loop 121 0 (by omega) (fun j hj => absurd hj (Nat.not_lt_zero j)) (by omega)
theorem c_X0_isIn {E : Le} {l : Launch} {D : Dt} {z y : Fin 11} {A B : Cl} (hA : AC D z A) (hB : AC D y B) : ConI E l yX0_isIn cX0_isIn 3 (some .boolean) 1 [.ref (E.1 (1, z)), .ref (E.1 (1, y))] D (bI (decide (cntC (mixC 2 A B) = 0))) D := by
  refine Con_of (by decide) (Nat.le_of_ble_eq_true rfl) ?_
  intro X hX hR hl; subst hl
  have loop : ∀ (m : Nat) (k : Nat), k ≤ 120 → (∀ j, j < k → ∀ i, i < 120 → mixC 2 A B i j = false) → 120 - k < m → Vw E X 3 D 2 [(0, some (.ref (E.1 (1, z)))), (1, some (.ref (E.1 (1, y)))), (2, some (.int (oI (k : Int))))] [] := by
    intro m
    induction m with
    | zero => intro k g1 g2 g3; omega
    | succ m ih =>
      intro k g1 g2 g3
      refine V_iload_n (pc := 2) (j := 2) hX 2 rfl rfl dX0_isIn_2 ?_
      refine V_bipush (pc := 3) (z := 120) hX (oI 120) (by decide) dX0_isIn_3 ?_
      refine Z_icmp_ge (pc := 5) (tgt := 56) hX (by omega) (by omega) dX0_isIn_5 (by decide) (fun h5 => ?_) (fun h5 => ?_)
      · refine V_iconst (pc := 56) (z := 1) hX (oI 1) rfl dX0_isIn_56 ?_
        refine V_zret (pc := 57) hX hR (by decide) dX0_isIn_57 ?_
        have e : k = 120 := by omega
        subst e
        exact ⟨some_int (bI_1 (decide_eq_true (cntC_z g2))), rfl⟩
      · refine V_aload_n (pc := 8) (j := 0) hX 0 rfl rfl dX0_isIn_8 ?_
        refine gf_X0_9 (pc := 9) hX dX0_isIn_9 ?_
        refine V_iload_n (pc := 12) (j := 2) hX 2 rfl rfl dX0_isIn_12 ?_
        refine zl_2 (pc := 13) hX (k) (by omega) (by omega) dX0_isIn_13 ?_
        refine V_aload_n (pc := 14) (j := 1) hX 1 rfl rfl dX0_isIn_14 ?_
        refine gf_X0_9 (pc := 15) hX dX0_isIn_15 ?_
        refine V_iload_n (pc := 18) (j := 2) hX 2 rfl rfl dX0_isIn_18 ?_
        refine zl_2 (pc := 19) hX (k) (by omega) (by omega) dX0_isIn_19 ?_
        refine V_ldc2 (pc := 20) hX (-1) w_325 dX0_isIn_20 ?_
        refine V_lxor (pc := 23) hX dX0_isIn_23 ?_
        refine V_land (pc := 24) hX dX0_isIn_24 ?_
        refine V_aload_n (pc := 25) (j := 0) hX 0 rfl rfl dX0_isIn_25 ?_
        refine gf_X0_15 (pc := 26) hX dX0_isIn_26 ?_
        refine V_iload_n (pc := 29) (j := 2) hX 2 rfl rfl dX0_isIn_29 ?_
        refine zl_3 (pc := 30) hX (k) (by omega) (by omega) dX0_isIn_30 ?_
        refine V_aload_n (pc := 31) (j := 1) hX 1 rfl rfl dX0_isIn_31 ?_
        refine gf_X0_15 (pc := 32) hX dX0_isIn_32 ?_
        refine V_iload_n (pc := 35) (j := 2) hX 2 rfl rfl dX0_isIn_35 ?_
        refine zl_3 (pc := 36) hX (k) (by omega) (by omega) dX0_isIn_36 ?_
        refine V_ldc2 (pc := 37) hX (-1) w_325 dX0_isIn_37 ?_
        refine V_lxor (pc := 40) hX dX0_isIn_40 ?_
        refine V_land (pc := 41) hX dX0_isIn_41 ?_
        refine V_lor (pc := 42) hX dX0_isIn_42 ?_
        refine V_lconst (pc := 43) (z := 0) hX 0 (by decide) dX0_isIn_43 ?_
        refine V_lcmp (pc := 44) hX dX0_isIn_44 ?_
        refine L_if_eq (pc := 45) (tgt := 50) hX dX0_isIn_45 (by decide) (fun h45 => ?_) (fun h45 => ?_)
        · refine Z_iinc (pc := 50) hX 1 rfl rfl dX0_isIn_50 ?_
          refine V_goto (pc := 53) (off := (-51)) (tgt := 2) hX (by decide) dX0_isIn_53 ?_
          have h45 := (AC_nz 2 hA hB k (by omega)).mp h45
          refine V_cut [(0, some (.ref (E.1 (1, z)))), (1, some (.ref (E.1 (1, y)))), (2, some (.int (oI ((k + 1 : Nat) : Int))))] ⟨rfl, rfl, rfl, trivial⟩ ?_
          refine ih (k + 1) (by omega) (fun j hj => ?_) (by omega)
          by_cases q : j = k
          · rw [q]; exact h45
          · exact g2 j (by omega)
        · refine V_iconst (pc := 48) (z := 0) hX (oI 0) rfl dX0_isIn_48 ?_
          refine V_zret (pc := 49) hX hR (by decide) dX0_isIn_49 ?_
          have hp := cntC_p (S := mixC 2 A B) (j := k) (by omega) (fun q => h45 ((AC_nz 2 hA hB k (by omega)).mpr q))
          exact ⟨some_int (bI_0 (decide_eq_false (by omega))), rfl⟩
  refine V_iconst (pc := 0) (z := 0) hX (oI 0) rfl dX0_isIn_0 ?_
  refine V_istore_n (pc := 1) (j := 2) hX 2 rfl (by decide) rfl dX0_isIn_1 ?_
  refine V_cut [(0, some (.ref (E.1 (1, z)))), (1, some (.ref (E.1 (1, y)))), (2, some (.int (oI ((0 : Nat) : Int))))] ⟨rfl, rfl, rfl, trivial⟩ ?_
  exact loop 121 0 (by omega) (fun j hj => absurd hj (Nat.not_lt_zero j)) (by omega)
theorem c_X0_cellsInColumn {E : Le} {l : Launch} {D : Dt} {z : Fin 11} {S : Cl} {x : Int} (hx : -60 ≤ x ∧ x ≤ 59) (hA : AC D z S) : ConI E l yX0_cellsInColumn cX0_cellsInColumn 4 (some .int) 2 [.ref (E.1 (1, z)), .int (oI x)] D (oI ((fb_ct (fun j => S (x + 60).toNat j) 120 : Nat) : Int)) D := by
  refine Con_of (by decide) (Nat.le_of_ble_eq_true rfl) ?_
  intro X hX hR hl; subst hl
  have loop : ∀ (m : Nat) (k : Nat), k ≤ 120 → 120 - k < m → Vw E X 4 D 5 [(0, some (.ref (E.1 (1, z)))), (1, some (.int (oI x))), (2, some (.int (oI ((fb_ct (fun j => S (x + 60).toNat j) k : Nat) : Int)))), (3, some (.int (oI ((k : Int) - 60))))] [] := by
    intro m
    induction m with
    | zero => intro k g1 g2; omega
    | succ m ih =>
      intro k g1 g2
      refine V_iload_n (pc := 5) (j := 3) hX 3 rfl rfl dX0_cellsInColumn_5 ?_
      refine V_bipush (pc := 6) (z := 60) hX (oI 60) (by decide) dX0_cellsInColumn_6 ?_
      refine Z_icmp_ge (pc := 8) (tgt := 34) hX (by omega) (by omega) dX0_cellsInColumn_8 (by decide) (fun h8 => ?_) (fun h8 => ?_)
      · refine V_iload_n (pc := 34) (j := 2) hX 2 rfl rfl dX0_cellsInColumn_34 ?_
        refine V_iret (pc := 35) hX hR dX0_cellsInColumn_35 ?_
        have e : k = 120 := by omega
        subst e
        exact ⟨rfl, rfl⟩
      · refine V_iload_n (pc := 11) (j := 2) hX 2 rfl rfl dX0_cellsInColumn_11 ?_
        refine V_aload_n (pc := 12) (j := 0) hX 0 rfl rfl dX0_cellsInColumn_12 ?_
        refine V_iload_n (pc := 13) (j := 1) hX 1 rfl rfl dX0_cellsInColumn_13 ?_
        refine V_iload_n (pc := 14) (j := 3) hX 3 rfl rfl dX0_cellsInColumn_14 ?_
        refine cVI2 (pc := 15) hX (c_X0_holds (S := S) hx (by omega) hA) (by decide) st_X0_64 (ix_1 _) rfl rfl rfl (Nat.le_of_ble_eq_true rfl) dX0_cellsInColumn_15 ?_
        refine B_if_eq (pc := 18) (tgt := 25) hX dX0_cellsInColumn_18 (by decide) (fun h18 => ?_) (fun h18 => ?_)
        · refine V_iconst (pc := 25) (z := 0) hX (oI 0) rfl dX0_cellsInColumn_25 ?_
          refine Z_iadd (pc := 26) hX dX0_cellsInColumn_26 ?_
          refine V_istore_n (pc := 27) (j := 2) hX 2 rfl (by decide) rfl dX0_cellsInColumn_27 ?_
          refine Z_iinc (pc := 28) hX 1 rfl rfl dX0_cellsInColumn_28 ?_
          refine V_goto (pc := 31) (off := (-26)) (tgt := 5) hX (by decide) dX0_cellsInColumn_31 ?_
          rw [rpC_in hx (by omega), show ((k : Int) - 60 + 60).toNat = k by omega] at h18
          refine V_cut [(0, some (.ref (E.1 (1, z)))), (1, some (.int (oI x))), (2, some (.int (oI ((fb_ct (fun j => S (x + 60).toNat j) (k + 1) : Nat) : Int)))), (3, some (.int (oI (((k + 1 : Nat) : Int) - 60))))] ⟨rfl, rfl, congrArg (fun q => some (Value.int (oI q))) (by rw [fb_ct_succ, h18]; simp), congrArg (fun q => some (Value.int (oI q))) (by omega), trivial⟩ ?_
          exact ih (k + 1) (by omega) (by omega)
        · refine V_iconst (pc := 21) (z := 1) hX (oI 1) rfl dX0_cellsInColumn_21 ?_
          refine V_goto (pc := 22) (off := 4) (tgt := 26) hX (by decide) dX0_cellsInColumn_22 ?_
          refine Z_iadd (pc := 26) hX dX0_cellsInColumn_26 ?_
          refine V_istore_n (pc := 27) (j := 2) hX 2 rfl (by decide) rfl dX0_cellsInColumn_27 ?_
          refine Z_iinc (pc := 28) hX 1 rfl rfl dX0_cellsInColumn_28 ?_
          refine V_goto (pc := 31) (off := (-26)) (tgt := 5) hX (by decide) dX0_cellsInColumn_31 ?_
          rw [rpC_in hx (by omega), show ((k : Int) - 60 + 60).toNat = k by omega] at h18
          refine V_cut [(0, some (.ref (E.1 (1, z)))), (1, some (.int (oI x))), (2, some (.int (oI ((fb_ct (fun j => S (x + 60).toNat j) (k + 1) : Nat) : Int)))), (3, some (.int (oI (((k + 1 : Nat) : Int) - 60))))] ⟨rfl, rfl, congrArg (fun q => some (Value.int (oI q))) (by rw [fb_ct_succ, h18]; simp), congrArg (fun q => some (Value.int (oI q))) (by omega), trivial⟩ ?_
          exact ih (k + 1) (by omega) (by omega)
  refine V_iconst (pc := 0) (z := 0) hX (oI 0) rfl dX0_cellsInColumn_0 ?_
  refine V_istore_n (pc := 1) (j := 2) hX 2 rfl (by decide) rfl dX0_cellsInColumn_1 ?_
  refine V_bipush (pc := 2) (z := (-60)) hX (oI (-60)) (by decide) dX0_cellsInColumn_2 ?_
  refine V_istore_n (pc := 4) (j := 3) hX 3 rfl (by decide) rfl dX0_cellsInColumn_4 ?_
  refine V_cut [(0, some (.ref (E.1 (1, z)))), (1, some (.int (oI x))), (2, some (.int (oI ((0 : Nat) : Int)))), (3, some (.int (oI (((0 : Nat) : Int) - 60))))] ⟨rfl, rfl, rfl, rfl, trivial⟩ ?_
  exact loop 121 0 (by omega) (by omega)
def bitsV (f b : Int) : Int64 := if 0 < min b 60 - max f 0 then ((1152921504606846975 : Int64).toUInt64 >>> ((oI (60 - (min b 60 - max f 0))).toInt64.toUInt64 &&& Int64.toUInt64 63)).toInt64 <<< ((oI (max f 0)).toInt64 &&& 63) else 0
theorem bitsV_tb (f b : Int) (i : Nat) : tb (bitsV f b) i = decide (i < 60 ∧ f ≤ (i : Int) ∧ (i : Int) < b) := by
  unfold bitsV
  by_cases c : 0 < min b 60 - max f 0
  · rw [if_pos c]
    obtain ⟨p, hp⟩ : ∃ p : Nat, max f 0 = (p : Int) := ⟨(max f 0).toNat, by omega⟩
    obtain ⟨q, hq⟩ : ∃ q : Nat, 60 - (min b 60 - max f 0) = (q : Int) := ⟨(60 - (min b 60 - max f 0)).toNat, by omega⟩
    rw [hq, hp, tb_shl _ (by omega), tb_ushr _ (by omega), tb_all, Bool.eq_iff_iff]
    simp only [Bool.and_eq_true, decide_eq_true_eq]
    omega
  · rw [if_neg c, tb_0, Eq.comm]
    exact decide_eq_false (by omega)
theorem c_X0_bits {E : Le} {l : Launch} {D : Dt} {f b : Int} (hf : -1000 ≤ f ∧ f ≤ 1000) (hb : -1000 ≤ b ∧ b ≤ 1000) : ConL E l yX0_bits cX0_bits 4 (some .long) 1 [.int (oI f), .int (oI b)] D (bitsV f b) D := by
  refine Con_of (by decide) (Nat.le_of_ble_eq_true rfl) ?_
  intro X hX hR hl; subst hl
  refine V_iload_n (pc := 0) (j := 0) hX 0 rfl rfl dX0_bits_0 ?_
  refine V_iconst (pc := 1) (z := 0) hX (oI 0) rfl dX0_bits_1 ?_
  refine Z_mmax (pc := 2) hX (by omega) (by omega) (by decide) wm_X0_40 (Nat.le_of_ble_eq_true rfl) dX0_bits_2 ?_
  refine V_istore_n (pc := 5) (j := 2) hX 2 rfl (by decide) rfl dX0_bits_5 ?_
  refine V_iload_n (pc := 6) (j := 1) hX 1 rfl rfl dX0_bits_6 ?_
  refine V_bipush (pc := 7) (z := 60) hX (oI 60) (by decide) dX0_bits_7 ?_
  refine Z_mmin (pc := 9) hX (by omega) (by omega) (by decide) wm_X0_34 (Nat.le_of_ble_eq_true rfl) dX0_bits_9 ?_
  refine V_iload_n (pc := 12) (j := 2) hX 2 rfl rfl dX0_bits_12 ?_
  refine Z_isub (pc := 13) hX dX0_bits_13 ?_
  refine V_istore_n (pc := 14) (j := 3) hX 3 rfl (by decide) rfl dX0_bits_14 ?_
  refine V_iload_n (pc := 15) (j := 3) hX 3 rfl rfl dX0_bits_15 ?_
  refine Z_if_gt (pc := 16) (tgt := 23) hX (by omega) dX0_bits_16 (by decide) (fun h16 => ?_) (fun h16 => ?_)
  · refine V_ldc2 (pc := 23) hX (1152921504606846975) w_279 dX0_bits_23 ?_
    refine V_bipush (pc := 26) (z := 60) hX (oI 60) (by decide) dX0_bits_26 ?_
    refine V_iload_n (pc := 28) (j := 3) hX 3 rfl rfl dX0_bits_28 ?_
    refine Z_isub (pc := 29) hX dX0_bits_29 ?_
    refine V_lushr (pc := 30) hX dX0_bits_30 ?_
    refine V_iload_n (pc := 31) (j := 2) hX 2 rfl rfl dX0_bits_31 ?_
    refine V_lshl (pc := 32) hX dX0_bits_32 ?_
    refine V_lret (pc := 33) hX hR dX0_bits_33 ?_
    exact ⟨congrArg (fun q => some (Value.long q)) (by rw [bitsV, if_pos (by omega)]), rfl⟩
  · refine V_lconst (pc := 19) (z := 0) hX 0 (by decide) dX0_bits_19 ?_
    refine V_goto (pc := 20) (off := 13) (tgt := 33) hX (by decide) dX0_bits_20 ?_
    refine V_lret (pc := 33) hX hR dX0_bits_33 ?_
    exact ⟨congrArg (fun q => some (Value.long q)) (by rw [bitsV, if_neg (by omega)]), rfl⟩
def tolC (S : Cl) (y b : Int) : Cl := fun i j => if (j : Int) - 60 = y ∧ (i : Int) - 60 < b then !S i j else S i j
theorem bitsV_60 (f b : Int) : b60 (bitsV f b) := fun i h => by rw [bitsV_tb]; exact decide_eq_false (by omega)
theorem xor_60 {u v : Int64} (h : b60 u) (k : b60 v) : b60 (u ^^^ v) := fun i hi => by rw [tb_xor, h i hi, k i hi]; rfl
theorem AC_60w {D : Dt} {z : Fin 11} {S : Cl} (h : AC D z S) {j : Nat} (hj : j < 120) : b60 (D.2.1 2 z j) := by
  have := h.1 (2 * j) (by omega)
  rw [Nat.mul_zero, Nat.zero_add, wv_w] at this
  exact this
theorem AC_60e {D : Dt} {z : Fin 11} {S : Cl} (h : AC D z S) {j : Nat} (hj : j < 120) : b60 (D.2.1 3 z j) := by
  have := h.1 (2 * j + 1) (by omega)
  rw [Nat.mul_zero, Nat.zero_add, wv_e] at this
  exact this
/-- an area given by its bits -/
theorem AC_mk {D : Dt} {z : Fin 11} {S : Cl} (h2 : ∀ j, j < 120 → b60 (D.2.1 2 z j) ∧ ∀ i, i < 60 → tb (D.2.1 2 z j) i = S i j) (h3 : ∀ j, j < 120 → b60 (D.2.1 3 z j) ∧ ∀ i, i < 60 → tb (D.2.1 3 z j) i = S (60 + i) j) : AC D z S := by
  refine ⟨fun k hk => ?_, fun i hi j hj => ?_⟩
  · rw [Nat.mul_zero, Nat.zero_add]
    rcases Nat.mod_two_eq_zero_or_one k with q | q
    · rw [show k = 2 * (k / 2) by omega, wv_w]; exact (h2 _ (by omega)).1
    · rw [show k = 2 * (k / 2) + 1 by omega, wv_e]; exact (h3 _ (by omega)).1
  · rw [cM]
    by_cases q : i < 60
    · rw [show 240 * 0 + 2 * j + i / 60 = 2 * j by omega, wv_w, show i % 60 = i by omega]; exact (h2 j hj).2 i q
    · rw [show 240 * 0 + 2 * j + i / 60 = 2 * j + 1 by omega, wv_e, show i % 60 = i - 60 by omega, (h3 j hj).2 (i - 60) (by omega), show 60 + (i - 60) = i by omega]
theorem AC_tol {D : Dt} {z : Fin 11} {S : Cl} {y b : Int} (hy : -60 ≤ y ∧ y ≤ 59) (hA : AC D z S) : AC (lU (lU D 2 z (vp_updL (D.2.1 2 z) (y + 60).toNat (D.2.1 2 z (y + 60).toNat ^^^ bitsV 0 (b + 60)))) 3 z (vp_updL (D.2.1 3 z) (y + 60).toNat (D.2.1 3 z (y + 60).toNat ^^^ bitsV 0 b))) z (tolC S y b) := by
  refine AC_mk (fun j hj => ?_) (fun j hj => ?_)
  · rw [lU_ne _ _ (by simp), lU_get, updL_at]
    by_cases q : j = (y + 60).toNat
    · rw [if_pos q, ← q]
      refine ⟨xor_60 (AC_60w hA hj) (bitsV_60 _ _), fun i hi => ?_⟩
      rw [tb_xor, AC_w hA hi hj, bitsV_tb, tolC]
      by_cases c : (i : Int) - 60 < b
      · rw [if_pos (by omega), decide_eq_true (by omega)]; cases S i j <;> rfl
      · rw [if_neg (by omega), decide_eq_false (by omega)]; cases S i j <;> rfl
    · rw [if_neg q]
      exact ⟨AC_60w hA hj, fun i hi => by rw [AC_w hA hi hj, tolC, if_neg (by omega)]⟩
  · rw [lU_get, updL_at]
    by_cases q : j = (y + 60).toNat
    · rw [if_pos q, ← q]
      refine ⟨xor_60 (AC_60e hA hj) (bitsV_60 _ _), fun i hi => ?_⟩
      rw [tb_xor, AC_e hA hi hj, bitsV_tb, tolC]
      by_cases c : (i : Int) < b
      · rw [if_pos (by omega), decide_eq_true (by omega)]; cases S (60 + i) j <;> rfl
      · rw [if_neg (by omega), decide_eq_false (by omega)]; cases S (60 + i) j <;> rfl
    · rw [if_neg q]
      exact ⟨AC_60e hA hj, fun i hi => by rw [AC_e hA hi hj, tolC, if_neg (by omega)]⟩
theorem c_X0_turnOverLeft {E : Le} {l : Launch} {D : Dt} {z : Fin 11} {S : Cl} {y b : Int} (hy : -900 ≤ y ∧ y ≤ 900) (hb : -900 ≤ b ∧ b ≤ 900) (hA : AC D z S) : ConVp E l yX0_turnOverLeft cX0_turnOverLeft 4 none 2 [.ref (E.1 (1, z)), .int (oI y), .int (oI b)] D (fun D' => Az z D D' ∧ AC D' z (tolC S y b)) := by
  refine Con_of (by decide) (Nat.le_of_ble_eq_true rfl) ?_
  intro X hX hR hl; subst hl
  refine V_iload_n (pc := 0) (j := 1) hX 1 rfl rfl dX0_turnOverLeft_0 ?_
  refine V_bipush (pc := 1) (z := 60) hX (oI 60) (by decide) dX0_turnOverLeft_1 ?_
  refine Z_iadd (pc := 3) hX dX0_turnOverLeft_3 ?_
  refine V_istore_n (pc := 4) (j := 3) hX 3 rfl (by decide) rfl dX0_turnOverLeft_4 ?_
  refine V_iload_n (pc := 5) (j := 3) hX 3 rfl rfl dX0_turnOverLeft_5 ?_
  refine Z_if_lt (pc := 6) (tgt := 46) hX (by omega) dX0_turnOverLeft_6 (by decide) (fun h6 => ?_) (fun h6 => ?_)
  · refine V_vret (pc := 46) hX hR dX0_turnOverLeft_46 ?_
    exact ⟨rfl, Az.rf z D, hA.congr (fun i hi j hj => by rw [tolC, if_neg (by omega)])⟩
  · refine V_iload_n (pc := 9) (j := 3) hX 3 rfl rfl dX0_turnOverLeft_9 ?_
    refine V_bipush (pc := 10) (z := 120) hX (oI 120) (by decide) dX0_turnOverLeft_10 ?_
    refine Z_icmp_ge (pc := 12) (tgt := 46) hX (by omega) (by omega) dX0_turnOverLeft_12 (by decide) (fun h12 => ?_) (fun h12 => ?_)
    · refine V_vret (pc := 46) hX hR dX0_turnOverLeft_46 ?_
      exact ⟨rfl, Az.rf z D, hA.congr (fun i hi j hj => by rw [tolC, if_neg (by omega)])⟩
    · refine V_aload_n (pc := 15) (j := 0) hX 0 rfl rfl dX0_turnOverLeft_15 ?_
      refine gf_X0_9 (pc := 16) hX dX0_turnOverLeft_16 ?_
      refine V_iload_n (pc := 19) (j := 3) hX 3 rfl rfl dX0_turnOverLeft_19 ?_
      refine V_dup2_11 (pc := 20) hX rfl rfl dX0_turnOverLeft_20 ?_
      refine zl_2 (pc := 21) hX ((y + 60).toNat) (by omega) (by omega) dX0_turnOverLeft_21 ?_
      refine V_iconst (pc := 22) (z := 0) hX (oI 0) rfl dX0_turnOverLeft_22 ?_
      refine V_iload_n (pc := 23) (j := 2) hX 2 rfl rfl dX0_turnOverLeft_23 ?_
      refine V_bipush (pc := 24) (z := 60) hX (oI 60) (by decide) dX0_turnOverLeft_24 ?_
      refine Z_iadd (pc := 26) hX dX0_turnOverLeft_26 ?_
      refine cSL2 (pc := 27) hX (c_X0_bits (by omega) (by omega)) (by decide) st_X0_30 (Nat.le_of_ble_eq_true rfl) dX0_turnOverLeft_27 ?_
      refine V_lxor (pc := 30) hX dX0_turnOverLeft_30 ?_
      refine zs_2 (pc := 31) hX ((y + 60).toNat) (by omega) (by omega) dX0_turnOverLeft_31 ?_
      refine V_aload_n (pc := 32) (j := 0) hX 0 rfl rfl dX0_turnOverLeft_32 ?_
      refine gf_X0_15 (pc := 33) hX dX0_turnOverLeft_33 ?_
      refine V_iload_n (pc := 36) (j := 3) hX 3 rfl rfl dX0_turnOverLeft_36 ?_
      refine V_dup2_11 (pc := 37) hX rfl rfl dX0_turnOverLeft_37 ?_
      refine zl_3 (pc := 38) hX ((y + 60).toNat) (by omega) (by omega) dX0_turnOverLeft_38 ?_
      refine V_iconst (pc := 39) (z := 0) hX (oI 0) rfl dX0_turnOverLeft_39 ?_
      refine V_iload_n (pc := 40) (j := 2) hX 2 rfl rfl dX0_turnOverLeft_40 ?_
      refine cSL2 (pc := 41) hX (c_X0_bits (by omega) (by omega)) (by decide) st_X0_30 (Nat.le_of_ble_eq_true rfl) dX0_turnOverLeft_41 ?_
      refine V_lxor (pc := 44) hX dX0_turnOverLeft_44 ?_
      refine zs_3 (pc := 45) hX ((y + 60).toNat) (by omega) (by omega) dX0_turnOverLeft_45 ?_
      refine V_vret (pc := 46) hX hR dX0_turnOverLeft_46 ?_
      exact ⟨rfl, (Az_2 z D _).tr (Az_3 z _ _), AC_tol (by omega) hA⟩
