/-! a contract for a method of a class of which some methods are run by the machine itself, but not this one -/
theorem Con_ofF {E : Le} {l : Launch} {y : MethodName} {cc : ByteArray} {mL : Nat} {ret : Option FieldType} {n : Nat} {as : List Value} {D : Dt} {Φ : Option Value → Dt → Prop} (hy : plainFor y = true) (hm : (lg_sl as).length ≤ mL)
    (h : ∀ X : Cx, Amb E X cc y.cls mL n → Ret E X ret Φ → Xl X = l → Vw E X mL D 0 (lvE (lv_args 0 as)) []) : Con E l y cc mL ret n as D Φ := by
  unfold Con Met
  refine MetFree.of_bodySF (code := cc) (maxLocals := mL) (ret := ret) hy ?_ ?_
  · intro args s m h hn
    obtain ⟨meth, c, h1, h2, h3, h4, h5, h6, -, -⟩ := Cond.code_spec hn (atoms_spec (ws := .code y cc mL ret :: tblG) h _ List.mem_cons_self)
    exact ⟨meth, c, h1, h2, h3, h4, h5, h6⟩
  · intro p e s m args below meth c s₁ B hml hv _
    have hh0 : s₁.heap = s.heap := by rw [B.state]; rfl
    have hWW : W p l e (headSpec (.code y cc mL ret :: tblG) (rmB n)).room s m args below meth c s.heap [] 0 0 (MQ below (QcB E Φ) args s 0 0 (inW E)) (entryFrame m args mL) := by
      obtain ⟨rfl, hP, hK, hW, hT⟩ := hv
      have hl := lv_entry as (n := mL) hm
      rw [lg_entry_eq]
      refine h (p, l, e, rmB n, s, m, as.toArray, below, meth, c, 0, 0, _, inW E) ⟨B.exec, B.bytes, hml, findClass_of_methodNamed B.named, fun w hw => atoms_spec (ws := .code y cc mL ret :: tblG) B.pre w (List.mem_cons_of_mem _ hw), hK, hW, fun q hq => ⟨q, hq, rfl⟩, ⟨Nat.le_refl _, Nat.le_refl _, Nat.zero_le _, Nat.zero_le _⟩, hT⟩ ⟨B.returns, B.notSynchronized, rfl, rfl⟩ rfl s.heap [] _ hP va_S.rf (lvOK_of hl)
    obtain ⟨t, a1, o, b1, b2, b3⟩ := hWW s₁ hh0 (Stand.of_body B)
    exact ⟨t, o, a1, b1, b2, ⟨b3.1, b3.2⟩⟩
/-! Math.floorDiv by a number above 0 -/
theorem oI_td {x y : Int} (hx : Rg x) (hy : Rg y) : oI x / oI y = oI (x.tdiv y) := by
  rw [← Int32.toInt_inj, Int32.toInt_div, oI_toInt hx, oI_toInt hy]
  exact Int32.toInt_ofInt.symm
theorem xor_ge {x y : Int} (hx : Rg x) (hy : 0 ≤ y ∧ y < 2147483648) : 0 ≤ oI x ^^^ oI y ↔ 0 ≤ x := by
  have e : ∀ v : Int32, 0 ≤ v ↔ v.toBitVec.msb = false := fun v => by
    rw [Int32.le_iff_toInt_le, BitVec.msb_eq_toInt, decide_eq_false_iff_not]
    show (0 : Int) ≤ v.toInt ↔ ¬ v.toInt < 0
    omega
  have m : ∀ {z : Int}, Rg z → (oI z).toBitVec.msb = decide (z < 0) := fun {z} hz => by
    rw [BitVec.msb_eq_toInt]
    show decide ((oI z).toInt < 0) = _
    rw [oI_toInt hz]
  rw [e, Int32.toBitVec_xor, BitVec.msb_xor, m hx, m (by omega), decide_eq_false (p := y < 0) (by omega)]
  by_cases c : x < 0
  · rw [decide_eq_true c]; simp; omega
  · rw [decide_eq_false c]; simp; omega
theorem fd_facts {x y : Int} (hy : 0 < y) : (0 ≤ x → x.tdiv y = x / y ∧ 0 ≤ x / y ∧ x / y ≤ x) ∧ (x < 0 → x ≤ x / y ∧ x / y < 0) ∧ (x < 0 → (x.tdiv y * y = x ∧ x.tdiv y = x / y) ∨ (x.tdiv y = x / y + 1 ∧ x < x.tdiv y * y ∧ x.tdiv y * y < x + y)) := by
  have h1 := Int.mul_ediv_add_emod x y
  have h2 := Int.emod_nonneg x (show y ≠ 0 by omega)
  have h3 := Int.emod_lt_of_pos x hy
  have hc := Int.mul_comm y (x / y)
  refine ⟨fun h => ⟨Int.tdiv_eq_ediv_of_nonneg h, Int.ediv_nonneg h (by omega), Int.ediv_le_self y h⟩, fun h => ⟨?_, ?_⟩, fun h => ?_⟩
  · rw [Int.le_ediv_iff_mul_le hy]
    have := Int.mul_le_mul_of_nonneg_left (show 1 ≤ y by omega) (show 0 ≤ -x by omega)
    rw [Int.neg_mul, Int.neg_mul, Int.mul_one] at this
    omega
  · rw [Int.ediv_lt_iff_lt_mul hy]; omega
  · by_cases d : y ∣ x
    · left
      have e : x.tdiv y = x / y := by rw [Int.tdiv_eq_ediv, if_pos (Or.inr d), Int.add_zero]
      have h4 := Int.emod_eq_zero_of_dvd d
      exact ⟨by rw [e]; omega, e⟩
    · right
      have e : x.tdiv y = x / y + 1 := by rw [Int.tdiv_eq_ediv, if_neg (by intro q; rcases q with q | q; omega; exact d q), Int.sign_eq_one_of_pos hy]
      have h4 : x % y ≠ 0 := fun q => d (Int.dvd_of_emod_eq_zero q)
      have h5 : x.tdiv y * y = x / y * y + y := by rw [e, Int.add_mul, Int.one_mul]
      exact ⟨e, by omega, by omega⟩
theorem c_J9_floorDiv_7cf53 {E : Le} {l : Launch} {D : Dt} {x y : Int} (hx : -2147483648 ≤ x ∧ x < 2147483648) (hy : 0 < y ∧ y < 2147483648) : ConI E l yJ9_floorDiv_7cf53 cJ9_floorDiv_7cf53 3 (some .int) 1 [.int (oI x), .int (oI y)] D (oI (x / y)) D := by
  obtain ⟨f1, f2, f3⟩ := fd_facts (x := x) hy.1
  refine Con_ofF (by decide +kernel) (Nat.le_of_ble_eq_true rfl) ?_
  intro X hX hR hl; subst hl
  refine V_iload_n (pc := 0) (j := 0) hX 0 rfl rfl dJ9_floorDiv_7cf53_0 ?_
  refine V_iload_n (pc := 1) (j := 1) hX 1 rfl rfl dJ9_floorDiv_7cf53_1 ?_
  refine V_idiv (pc := 2) hX (fun q => by rw [← oI_0, oI_inj (by omega) (by omega)] at q; omega) dJ9_floorDiv_7cf53_2 ?_
  refine V_oI (x.tdiv y) (oI_td (by omega) (by omega)) ?_
  refine V_istore_n (pc := 3) (j := 2) hX 2 rfl (by decide) rfl dJ9_floorDiv_7cf53_3 ?_
  refine V_iload_n (pc := 4) (j := 0) hX 0 rfl rfl dJ9_floorDiv_7cf53_4 ?_
  refine V_iload_n (pc := 5) (j := 1) hX 1 rfl rfl dJ9_floorDiv_7cf53_5 ?_
  refine V_ixor (pc := 6) hX dJ9_floorDiv_7cf53_6 ?_
  refine V_if_ge (pc := 7) (tgt := 21) hX dJ9_floorDiv_7cf53_7 (by decide) (fun h7 => ?_) (fun h7 => ?_)
  · have hx0 := (xor_ge (by omega) (by omega)).mp h7
    have f5 := f1 hx0
    refine V_iload_n (pc := 21) (j := 2) hX 2 rfl rfl dJ9_floorDiv_7cf53_21 ?_
    refine V_iret (pc := 22) hX hR dJ9_floorDiv_7cf53_22 ?_
    exact ⟨congrArg (fun q => some (Value.int (oI q))) f5.1, rfl⟩
  · have hx0 : x < 0 := Int.not_le.mp (fun q => h7 ((xor_ge (x := x) (y := y) (by omega) (by omega)).mpr q))
    have f5 := f2 hx0
    have f6 := f3 hx0
    refine V_iload_n (pc := 10) (j := 2) hX 2 rfl rfl dJ9_floorDiv_7cf53_10 ?_
    refine V_iload_n (pc := 11) (j := 1) hX 1 rfl rfl dJ9_floorDiv_7cf53_11 ?_
    refine Z_imul (pc := 12) hX dJ9_floorDiv_7cf53_12 ?_
    refine V_iload_n (pc := 13) (j := 0) hX 0 rfl rfl dJ9_floorDiv_7cf53_13 ?_
    refine Z_icmp_eq (pc := 14) (tgt := 21) hX (by omega) (by omega) dJ9_floorDiv_7cf53_14 (by decide) (fun h14 => ?_) (fun h14 => ?_)
    · refine V_iload_n (pc := 21) (j := 2) hX 2 rfl rfl dJ9_floorDiv_7cf53_21 ?_
      refine V_iret (pc := 22) hX hR dJ9_floorDiv_7cf53_22 ?_
      exact ⟨congrArg (fun q => some (Value.int (oI q))) (by omega), rfl⟩
    · refine V_iload_n (pc := 17) (j := 2) hX 2 rfl rfl dJ9_floorDiv_7cf53_17 ?_
      refine V_iconst (pc := 18) (z := 1) hX (oI 1) rfl dJ9_floorDiv_7cf53_18 ?_
      refine Z_isub (pc := 19) hX dJ9_floorDiv_7cf53_19 ?_
      refine V_iret (pc := 20) hX hR dJ9_floorDiv_7cf53_20 ?_
      exact ⟨congrArg (fun q => some (Value.int (oI q))) (by omega), rfl⟩
/-! a side of the corners -/
def crX (xu yu xl yl : Int) (t : Nat) : Int := 2 * (yl - yu) * xu + (2 * (t : Int) + 1) * (xl - xu)
def bX (xu yu xl yl : Int) (t : Nat) : Int := -((yl - yu - crX xu yu xl yl t) / (2 * (yl - yu)))
theorem far_cr (xu yu xl yl x : Int) (t : Nat) : farC xu yu xl yl x (yu + (t : Int)) = crX xu yu xl yl t - (2 * x + 1) * (yl - yu) := by
  rw [farC, crX, show 2 * (yu + (t : Int)) + 1 - 2 * yu = 2 * (t : Int) + 1 by omega, show 2 * xu - 2 * x - 1 = 2 * xu - (2 * x + 1) by omega, Int.sub_mul, Int.mul_assoc 2 (yl - yu) xu, Int.mul_comm (yl - yu) xu, ← Int.mul_assoc]
  omega
theorem bX_lt {xu yu xl yl : Int} (h : yu < yl) (t : Nat) (x : Int) : x < bX xu yu xl yl t ↔ 0 < farC xu yu xl yl x (yu + (t : Int)) := by
  rw [far_cr, bX]
  have q := Int.ediv_lt_iff_lt_mul (a := yl - yu - crX xu yu xl yl t) (b := -x) (show 0 < 2 * (yl - yu) by omega)
  have e : -x * (2 * (yl - yu)) = -(2 * x) * (yl - yu) := by rw [← Int.mul_assoc, Int.neg_mul, Int.mul_comm x 2]
  have e2 : (2 * x + 1) * (yl - yu) = 2 * x * (yl - yu) + (yl - yu) := by rw [Int.add_mul, Int.one_mul]
  rw [e, Int.neg_mul] at q
  rw [e2]
  constructor
  · intro w
    have := q.mp (by omega)
    omega
  · intro w
    have := q.mpr (by omega)
    omega
theorem cr_rg {xu yu xl yl : Int} (hu : -60 ≤ xu ∧ xu ≤ 60) (hl : -60 ≤ xl ∧ xl ≤ 60) (h : 0 < yl - yu ∧ yl - yu ≤ 120) {t : Nat} (ht : (t : Int) < yl - yu) : -(360 * (yl - yu)) ≤ crX xu yu xl yl t ∧ crX xu yu xl yl t ≤ 360 * (yl - yu) := by
  have a1 := Int.mul_le_mul_of_nonneg_left hu.2 (show 0 ≤ 2 * (yl - yu) by omega)
  have a2 := Int.mul_le_mul_of_nonneg_left hu.1 (show 0 ≤ 2 * (yl - yu) by omega)
  have b1 := Int.mul_le_mul_of_nonneg_left (show xl - xu ≤ 120 by omega) (show 0 ≤ 2 * (t : Int) + 1 by omega)
  have b2 := Int.mul_le_mul_of_nonneg_left (show -120 ≤ xl - xu by omega) (show 0 ≤ 2 * (t : Int) + 1 by omega)
  unfold crX
  omega
theorem bX_rg {xu yu xl yl : Int} (hu : -60 ≤ xu ∧ xu ≤ 60) (hl : -60 ≤ xl ∧ xl ≤ 60) (h : 0 < yl - yu ∧ yl - yu ≤ 120) {t : Nat} (ht : (t : Int) < yl - yu) : -900 ≤ bX xu yu xl yl t ∧ bX xu yu xl yl t ≤ 900 := by
  have hc := cr_rg hu hl h ht
  unfold bX
  have q1 := Int.le_ediv_iff_mul_le (a := -200) (b := yl - yu - crX xu yu xl yl t) (show 0 < 2 * (yl - yu) by omega)
  have q2 := Int.ediv_lt_iff_lt_mul (a := yl - yu - crX xu yu xl yl t) (b := 200) (show 0 < 2 * (yl - yu) by omega)
  have w1 := q1.mpr (by omega)
  have w2 := q2.mpr (by omega)
  omega
def laT (S : Cl) (xu yu xl yl : Int) (t : Int) : Cl := fun i j => S i j ^^ decide ((yu ≤ (j : Int) - 60 ∧ (j : Int) - 60 < yu + t) ∧ 0 < farC xu yu xl yl ((i : Int) - 60) ((j : Int) - 60))
theorem laT_nx {S : Cl} {xu yu xl yl : Int} (h : yu < yl) (t : Nat) : ∀ i, i < 120 → ∀ j, j < 120 → tolC (laT S xu yu xl yl (t : Int)) (yu + (t : Int)) (bX xu yu xl yl t) i j = laT S xu yu xl yl ((t + 1 : Nat) : Int) i j := by
  intro i hi j hj
  have hb := bX_lt (xu := xu) (xl := xl) h t ((i : Int) - 60)
  rw [tolC]
  by_cases c : (j : Int) - 60 = yu + (t : Int)
  · by_cases d : (i : Int) - 60 < bX xu yu xl yl t
    · rw [if_pos ⟨c, d⟩, laT, laT, decide_eq_false (by omega), decide_eq_true (by rw [c]; exact ⟨by omega, hb.mp d⟩)]
      cases S i j <;> rfl
    · rw [if_neg (fun q => d q.2), laT, laT, decide_eq_false (by omega), decide_eq_false (by rw [c]; exact fun q => d (hb.mpr q.2))]
  · rw [if_neg (fun q => c q.1), laT, laT]
    congr 1
    rw [decide_eq_decide]
    omega
theorem c_X2_laySide {E : Le} {l : Launch} {D : Dt} {z : Fin 11} {S : Cl} {u l2 : Nat} {xu yu xl yl : Int} (hu : u < 10) (hl2 : l2 < 10) (hxu : D.1 13 u = oI xu) (hyu : D.1 14 u = oI yu) (hxl : D.1 13 l2 = oI xl) (hyl : D.1 14 l2 = oI yl) (hxr : -60 ≤ xu ∧ xu ≤ 60) (hxr2 : -60 ≤ xl ∧ xl ≤ 60) (hyr : 0 < yl - yu ∧ yl - yu ≤ 120) (hy0 : -60 ≤ yu ∧ yu ≤ 60) (hA : AC D z S) : ConVp E l yX2_laySide cX2_laySide 8 none 3 [.ref (E.1 (12, 0)), .ref (E.1 (1, z)), .int (oI (u : Int)), .int (oI (l2 : Int))] D (fun D' => Az z D D' ∧ AC D' z (laT S xu yu xl yl (yl - yu))) := by
  refine Con_of (by decide) (Nat.le_of_ble_eq_true rfl) ?_
  intro X hX hR hl; subst hl
  have loop : ∀ (m : Nat) (t : Nat) (D1 : Dt), ((t : Nat) : Int) ≤ yl - yu → Az z D D1 → AC D1 z (laT S xu yu xl yl (t : Int)) → (yl - yu).toNat - t < m → Vw E X 8 D1 38 [(0, some (.ref (E.1 (12, 0)))), (1, some (.ref (E.1 (1, z)))), (2, some (.int (oI (u : Int)))), (3, some (.int (oI (l2 : Int)))), (4, some (.int (oI (yl - yu)))), (5, some (.int (oI (xl - xu)))), (6, some (.int (oI (yu + ((t : Nat) : Int)))))] [] := by
    intro m
    induction m with
    | zero => intro t D1 g1 g2 g3 g4; omega
    | succ m ih =>
      intro t D1 g1 g2 g3 g4
      refine V_iload (pc := 38) hX rfl dX2_laySide_38 ?_
      refine V_aload_n (pc := 40) (j := 0) hX 0 rfl rfl dX2_laySide_40 ?_
      refine gf_X2_15 (pc := 41) hX dX2_laySide_41 ?_
      refine V_iload_n (pc := 44) (j := 3) hX 3 rfl rfl dX2_laySide_44 ?_
      refine zl_14 (pc := 45) hX (l2) (rfl) (by omega) dX2_laySide_45 ?_
      refine V_oI yl (show D1.1 14 l2 = oI _ by rw [g2.1]; exact hyl) ?_
      refine Z_icmp_ge (pc := 46) (tgt := 104) hX (by omega) (by omega) dX2_laySide_46 (by decide) (fun h46 => ?_) (fun h46 => ?_)
      · refine V_vret (pc := 104) hX hR dX2_laySide_104 ?_
        have e : ((t : Nat) : Int) = yl - yu := by omega
        rw [e] at g3
        exact ⟨rfl, g2, g3⟩
      · refine V_iconst (pc := 49) (z := 2) hX (oI 2) rfl dX2_laySide_49 ?_
        refine V_iload (pc := 50) hX rfl dX2_laySide_50 ?_
        refine Z_imul (pc := 52) hX dX2_laySide_52 ?_
        refine V_aload_n (pc := 53) (j := 0) hX 0 rfl rfl dX2_laySide_53 ?_
        refine gf_X2_9 (pc := 54) hX dX2_laySide_54 ?_
        refine V_iload_n (pc := 57) (j := 2) hX 2 rfl rfl dX2_laySide_57 ?_
        refine zl_13 (pc := 58) hX (u) (rfl) (by omega) dX2_laySide_58 ?_
        refine V_oI xu (show D1.1 13 u = oI _ by rw [g2.1]; exact hxu) ?_
        refine Z_imul (pc := 59) hX dX2_laySide_59 ?_
        refine V_iconst (pc := 60) (z := 2) hX (oI 2) rfl dX2_laySide_60 ?_
        refine V_iload (pc := 61) hX rfl dX2_laySide_61 ?_
        refine V_aload_n (pc := 63) (j := 0) hX 0 rfl rfl dX2_laySide_63 ?_
        refine gf_X2_15 (pc := 64) hX dX2_laySide_64 ?_
        refine V_iload_n (pc := 67) (j := 2) hX 2 rfl rfl dX2_laySide_67 ?_
        refine zl_14 (pc := 68) hX (u) (rfl) (by omega) dX2_laySide_68 ?_
        refine V_oI yu (show D1.1 14 u = oI _ by rw [g2.1]; exact hyu) ?_
        refine Z_isub (pc := 69) hX dX2_laySide_69 ?_
        refine Z_imul (pc := 70) hX dX2_laySide_70 ?_
        refine V_iconst (pc := 71) (z := 1) hX (oI 1) rfl dX2_laySide_71 ?_
        refine Z_iadd (pc := 72) hX dX2_laySide_72 ?_
        refine V_iload (pc := 73) hX rfl dX2_laySide_73 ?_
        refine Z_imul (pc := 75) hX dX2_laySide_75 ?_
        refine Z_iadd (pc := 76) hX dX2_laySide_76 ?_
        refine V_oI (crX xu yu xl yl t) (congrArg oI (by rw [crX, show yu + ((t : Nat) : Int) - yu = (t : Int) by omega])) ?_
        have hcr := cr_rg hxr hxr2 hyr (t := t) (by omega)
        have hbr := bX_rg hxr hxr2 hyr (t := t) (by omega)
        refine V_istore (pc := 77) hX (by decide) rfl dX2_laySide_77 ?_
        refine V_aload_n (pc := 79) (j := 1) hX 1 rfl rfl dX2_laySide_79 ?_
        refine V_iload (pc := 80) hX rfl dX2_laySide_80 ?_
        refine V_iload (pc := 82) hX rfl dX2_laySide_82 ?_
        refine V_iload (pc := 84) hX rfl dX2_laySide_84 ?_
        refine Z_isub (pc := 86) hX dX2_laySide_86 ?_
        refine V_iconst (pc := 87) (z := 2) hX (oI 2) rfl dX2_laySide_87 ?_
        refine V_iload (pc := 88) hX rfl dX2_laySide_88 ?_
        refine Z_imul (pc := 90) hX dX2_laySide_90 ?_
        refine cSI2 (pc := 91) hX (c_J9_floorDiv_7cf53 (by omega) (by omega)) (by decide) st_X2_31 (Nat.le_of_ble_eq_true rfl) dX2_laySide_91 ?_
        refine Z_ineg (pc := 94) hX dX2_laySide_94 ?_
        refine cVVp2 (pc := 95) hX (c_X0_turnOverLeft (S := laT S xu yu xl yl (t : Int)) (b := bX xu yu xl yl t) (by omega) hbr g3) (by decide) st_X2_37 (ix_1 _) rfl rfl rfl (Nat.le_of_ble_eq_true rfl) dX2_laySide_95 (fun D95 h95 => ?_)
        refine Z_iinc (pc := 98) hX 1 rfl rfl dX2_laySide_98 ?_
        refine V_goto (pc := 101) (off := (-63)) (tgt := 38) hX (by decide) dX2_laySide_101 ?_
        refine V_cut [(0, some (.ref (E.1 (12, 0)))), (1, some (.ref (E.1 (1, z)))), (2, some (.int (oI (u : Int)))), (3, some (.int (oI (l2 : Int)))), (4, some (.int (oI (yl - yu)))), (5, some (.int (oI (xl - xu)))), (6, some (.int (oI (yu + ((t + 1 : Nat) : Int)))))] ⟨rfl, rfl, rfl, rfl, rfl, rfl, congrArg (fun q => some (Value.int (oI q))) (by omega), trivial⟩ ?_
        exact ih (t + 1) _ (by omega) (g2.tr h95.1) (AR.congr h95.2 (laT_nx (by omega) t)) (by omega)
  refine V_aload_n (pc := 0) (j := 0) hX 0 rfl rfl dX2_laySide_0 ?_
  refine gf_X2_15 (pc := 1) hX dX2_laySide_1 ?_
  refine V_iload_n (pc := 4) (j := 3) hX 3 rfl rfl dX2_laySide_4 ?_
  refine zl_14 (pc := 5) hX (l2) (rfl) (by omega) dX2_laySide_5 ?_
  refine V_oI yl hyl ?_
  refine V_aload_n (pc := 6) (j := 0) hX 0 rfl rfl dX2_laySide_6 ?_
  refine gf_X2_15 (pc := 7) hX dX2_laySide_7 ?_
  refine V_iload_n (pc := 10) (j := 2) hX 2 rfl rfl dX2_laySide_10 ?_
  refine zl_14 (pc := 11) hX (u) (rfl) (by omega) dX2_laySide_11 ?_
  refine V_oI yu hyu ?_
  refine Z_isub (pc := 12) hX dX2_laySide_12 ?_
  refine V_istore (pc := 13) hX (by decide) rfl dX2_laySide_13 ?_
  refine V_aload_n (pc := 15) (j := 0) hX 0 rfl rfl dX2_laySide_15 ?_
  refine gf_X2_9 (pc := 16) hX dX2_laySide_16 ?_
  refine V_iload_n (pc := 19) (j := 3) hX 3 rfl rfl dX2_laySide_19 ?_
  refine zl_13 (pc := 20) hX (l2) (rfl) (by omega) dX2_laySide_20 ?_
  refine V_oI xl hxl ?_
  refine V_aload_n (pc := 21) (j := 0) hX 0 rfl rfl dX2_laySide_21 ?_
  refine gf_X2_9 (pc := 22) hX dX2_laySide_22 ?_
  refine V_iload_n (pc := 25) (j := 2) hX 2 rfl rfl dX2_laySide_25 ?_
  refine zl_13 (pc := 26) hX (u) (rfl) (by omega) dX2_laySide_26 ?_
  refine V_oI xu hxu ?_
  refine Z_isub (pc := 27) hX dX2_laySide_27 ?_
  refine V_istore (pc := 28) hX (by decide) rfl dX2_laySide_28 ?_
  refine V_aload_n (pc := 30) (j := 0) hX 0 rfl rfl dX2_laySide_30 ?_
  refine gf_X2_15 (pc := 31) hX dX2_laySide_31 ?_
  refine V_iload_n (pc := 34) (j := 2) hX 2 rfl rfl dX2_laySide_34 ?_
  refine zl_14 (pc := 35) hX (u) (rfl) (by omega) dX2_laySide_35 ?_
  refine V_oI yu hyu ?_
  refine V_istore (pc := 36) hX (by decide) rfl dX2_laySide_36 ?_
  refine V_cut [(0, some (.ref (E.1 (12, 0)))), (1, some (.ref (E.1 (1, z)))), (2, some (.int (oI (u : Int)))), (3, some (.int (oI (l2 : Int)))), (4, some (.int (oI (yl - yu)))), (5, some (.int (oI (xl - xu)))), (6, some (.int (oI (yu + ((0 : Nat) : Int)))))] ⟨rfl, rfl, rfl, rfl, rfl, rfl, congrArg (fun q => some (Value.int (oI q))) (by omega), trivial⟩ ?_
  refine loop ((yl - yu).toNat + 1) 0 D (by omega) (Az.rf z D) (AR.congr hA (fun i hi j hj => ?_)) (by omega)
  rw [laT, decide_eq_false (by omega), Bool.xor_false]
