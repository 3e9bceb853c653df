/-! whole numbers: oI z is the int of z; sums and products go through, comparisons by their range -/
def oI (z : Int) : Int32 := Int32.ofInt z
def bI (b : Bool) : Int32 := if b then 1 else 0
abbrev Rg (z : Int) : Prop := -2147483648 ≤ z ∧ z < 2147483648
theorem oI_toInt {z : Int} (h : Rg z) : (oI z).toInt = z := by
  rw [oI, Int32.toInt_ofInt]
  show z.bmod (2 ^ 32) = z
  apply Int.bmod_eq_of_le <;> simp <;> omega
theorem oI_of (x : Int32) : oI x.toInt = x := Int32.ofInt_toInt x
theorem oI_rg (x : Int32) : Rg x.toInt := ⟨Int32.le_toInt x, Int32.toInt_lt x⟩
theorem oI_add (x y : Int) : oI x + oI y = oI (x + y) := (Int32.ofInt_add x y).symm
theorem oI_sub (x y : Int) : oI x - oI y = oI (x - y) := (Int32.ofInt_sub x y).symm
theorem oI_mul (x y : Int) : oI x * oI y = oI (x * y) := (Int32.ofInt_mul x y).symm
theorem oI_neg (x : Int) : - oI x = oI (-x) := (Int32.ofInt_neg x).symm
theorem oI_inj {x y : Int} (hx : Rg x) (hy : Rg y) : oI x = oI y ↔ x = y := by
  rw [← Int32.toInt_inj, oI_toInt hx, oI_toInt hy]
theorem oI_lt {x y : Int} (hx : Rg x) (hy : Rg y) : oI x < oI y ↔ x < y := by
  rw [Int32.lt_iff_toInt_lt, oI_toInt hx, oI_toInt hy]
theorem oI_le {x y : Int} (hx : Rg x) (hy : Rg y) : oI x ≤ oI y ↔ x ≤ y := by
  rw [Int32.le_iff_toInt_le, oI_toInt hx, oI_toInt hy]
theorem oI_0 : oI 0 = 0 := by decide
theorem oI_nat (n : Nat) : oI (n : Int) = nI n := by
  rw [oI, nI]; rfl
theorem oI_nI {z : Int} {i : Nat} (h : z = (i : Int)) : oI z = nI i := by rw [h]; exact oI_nat i
theorem oI_toNat {z : Int} (h : 0 ≤ z) : oI z = nI z.toNat := oI_nI (by omega)
theorem bI_t {b : Bool} (h : b = true) : bI b = 1 := by rw [h]; rfl
theorem bI_f {b : Bool} (h : b = false) : bI b = 0 := by rw [h]; rfl
theorem bI_1 {b : Bool} (h : b = true) : oI 1 = bI b := by rw [h]; decide
theorem bI_0 {b : Bool} (h : b = false) : oI 0 = bI b := by rw [h]; decide
theorem bI_nar (b : Bool) : narrow .boolean (.int (bI b)) = .int (bI b) := by cases b <;> decide
section ZR
variable {E : Le} {X : Cx} {cc : ByteArray} {own : String} {nL n : Nat} {D : Dt} {pc : Nat} {lv : Lv} {st : List Value} {x y : Int}
theorem Z_iadd (hX : Amb E X cc own nL n) (d : decode cc pc = .ok (.iadd, 1)) (k : Vw E X nL D (pc + 1) lv (.int (oI (x + y)) :: st)) : Vw E X nL D pc lv (.int (oI y) :: .int (oI x) :: st) := V_iadd hX d (by rw [oI_add]; exact k)
theorem Z_isub (hX : Amb E X cc own nL n) (d : decode cc pc = .ok (.isub, 1)) (k : Vw E X nL D (pc + 1) lv (.int (oI (x - y)) :: st)) : Vw E X nL D pc lv (.int (oI y) :: .int (oI x) :: st) := V_isub hX d (by rw [oI_sub]; exact k)
theorem Z_imul (hX : Amb E X cc own nL n) (d : decode cc pc = .ok (.imul, 1)) (k : Vw E X nL D (pc + 1) lv (.int (oI (x * y)) :: st)) : Vw E X nL D pc lv (.int (oI y) :: .int (oI x) :: st) := V_imul hX d (by rw [oI_mul]; exact k)
theorem Z_ineg (hX : Amb E X cc own nL n) (d : decode cc pc = .ok (.ineg, 1)) (k : Vw E X nL D (pc + 1) lv (.int (oI (-x)) :: st)) : Vw E X nL D pc lv (.int (oI x) :: st) := V_ineg hX d (by rw [oI_neg]; exact k)
theorem Z_iinc (hX : Amb E X cc own nL n) {i : Nat} (c : Int) (hl0 : lk lv i = some (.int (oI x))) (hn : noL lv i = true) (d : decode cc pc = .ok (.iinc i c, 3)) (k : Vw E X nL D (pc + 3) ((i, some (.int (oI (x + c)))) :: lv) st) : Vw E X nL D pc lv st := V_iinc hX (oI c) rfl hl0 hn d (by rw [oI_add]; exact k)
theorem oI_div {x y : Int} (hx : 0 ≤ x) (hx2 : x < 2147483648) (hy : 0 < y) (hy2 : y < 2147483648) : oI x / oI y = oI (x / y) := by
  rw [oI_toNat hx, oI_toNat (Int.le_of_lt hy), pk_div (by omega) (by omega) (by omega), oI_nI]
  rw [Int.natCast_ediv, Int.toNat_of_nonneg hx, Int.toNat_of_nonneg (Int.le_of_lt hy)]
theorem oI_rem {x y : Int} (hx : 0 ≤ x) (hx2 : x < 2147483648) (hy : 0 < y) (hy2 : y < 2147483648) : oI x - oI x / oI y * oI y = oI (x % y) := by
  rw [oI_div hx hx2 hy hy2, oI_mul, oI_sub, Int.emod_def, Int.mul_comm]
theorem Z_idiv (hX : Amb E X cc own nL n) (hx : 0 ≤ x) (hx2 : x < 2147483648) (hy : 0 < y) (hy2 : y < 2147483648) (d : decode cc pc = .ok (.idiv, 1)) (k : Vw E X nL D (pc + 1) lv (.int (oI (x / y)) :: st)) : Vw E X nL D pc lv (.int (oI y) :: .int (oI x) :: st) := V_idiv hX (fun h => by rw [← oI_0, oI_inj (by omega) (by omega)] at h; omega) d (by rw [oI_div hx hx2 hy hy2]; exact k)
theorem Z_irem (hX : Amb E X cc own nL n) (hx : 0 ≤ x) (hx2 : x < 2147483648) (hy : 0 < y) (hy2 : y < 2147483648) (d : decode cc pc = .ok (.irem, 1)) (k : Vw E X nL D (pc + 1) lv (.int (oI (x % y)) :: st)) : Vw E X nL D pc lv (.int (oI y) :: .int (oI x) :: st) := V_irem hX (fun h => by rw [← oI_0, oI_inj (by omega) (by omega)] at h; omega) d (by rw [oI_rem hx hx2 hy hy2]; exact k)
theorem Z_if_eq (hX : Amb E X cc own nL n) {off : Int} {tgt : Nat} (hx : Rg x) (d : decode cc pc = .ok (.ifCond .eq off, 3)) (ht : (pc : Int) + off = (tgt : Int)) (k1 : x = 0 → Vw E X nL D tgt lv st) (k2 : ¬ x = 0 → Vw E X nL D (pc + 3) lv st) : Vw E X nL D pc lv (.int (oI x) :: st) := V_if_eq hX d ht (fun h => k1 ((oI_inj hx (show Rg 0 by decide)).mp (by rw [oI_0]; exact h))) (fun h => k2 (fun w => h (by rw [← oI_0]; exact (oI_inj hx (show Rg 0 by decide)).mpr w)))
theorem Z_icmp_eq (hX : Amb E X cc own nL n) {off : Int} {tgt : Nat} (hx : Rg x) (hy : Rg y) (d : decode cc pc = .ok (.if_icmp .eq off, 3)) (ht : (pc : Int) + off = (tgt : Int)) (k1 : x = y → Vw E X nL D tgt lv st) (k2 : ¬ x = y → Vw E X nL D (pc + 3) lv st) : Vw E X nL D pc lv (.int (oI y) :: .int (oI x) :: st) := V_icmp_eq hX d ht (fun h => k1 ((oI_inj hx hy).mp (by exact h))) (fun h => k2 (fun w => h (by  exact (oI_inj hx hy).mpr w)))
theorem Z_if_lt (hX : Amb E X cc own nL n) {off : Int} {tgt : Nat} (hx : Rg x) (d : decode cc pc = .ok (.ifCond .lt off, 3)) (ht : (pc : Int) + off = (tgt : Int)) (k1 : x < 0 → Vw E X nL D tgt lv st) (k2 : ¬ x < 0 → Vw E X nL D (pc + 3) lv st) : Vw E X nL D pc lv (.int (oI x) :: st) := V_if_lt hX d ht (fun h => k1 ((oI_lt hx (show Rg 0 by decide)).mp (by rw [oI_0]; exact h))) (fun h => k2 (fun w => h (by rw [← oI_0]; exact (oI_lt hx (show Rg 0 by decide)).mpr w)))
theorem Z_icmp_lt (hX : Amb E X cc own nL n) {off : Int} {tgt : Nat} (hx : Rg x) (hy : Rg y) (d : decode cc pc = .ok (.if_icmp .lt off, 3)) (ht : (pc : Int) + off = (tgt : Int)) (k1 : x < y → Vw E X nL D tgt lv st) (k2 : ¬ x < y → Vw E X nL D (pc + 3) lv st) : Vw E X nL D pc lv (.int (oI y) :: .int (oI x) :: st) := V_icmp_lt hX d ht (fun h => k1 ((oI_lt hx hy).mp (by exact h))) (fun h => k2 (fun w => h (by  exact (oI_lt hx hy).mpr w)))
theorem Z_if_ge (hX : Amb E X cc own nL n) {off : Int} {tgt : Nat} (hx : Rg x) (d : decode cc pc = .ok (.ifCond .ge off, 3)) (ht : (pc : Int) + off = (tgt : Int)) (k1 : 0 ≤ x → Vw E X nL D tgt lv st) (k2 : ¬ 0 ≤ x → Vw E X nL D (pc + 3) lv st) : Vw E X nL D pc lv (.int (oI x) :: st) := V_if_ge hX d ht (fun h => k1 ((oI_le (show Rg 0 by decide) hx).mp (by rw [oI_0]; exact h))) (fun h => k2 (fun w => h (by rw [← oI_0]; exact (oI_le (show Rg 0 by decide) hx).mpr w)))
theorem Z_icmp_ge (hX : Amb E X cc own nL n) {off : Int} {tgt : Nat} (hx : Rg x) (hy : Rg y) (d : decode cc pc = .ok (.if_icmp .ge off, 3)) (ht : (pc : Int) + off = (tgt : Int)) (k1 : y ≤ x → Vw E X nL D tgt lv st) (k2 : ¬ y ≤ x → Vw E X nL D (pc + 3) lv st) : Vw E X nL D pc lv (.int (oI y) :: .int (oI x) :: st) := V_icmp_ge hX d ht (fun h => k1 ((oI_le hy hx).mp (by exact h))) (fun h => k2 (fun w => h (by  exact (oI_le hy hx).mpr w)))
theorem Z_if_gt (hX : Amb E X cc own nL n) {off : Int} {tgt : Nat} (hx : Rg x) (d : decode cc pc = .ok (.ifCond .gt off, 3)) (ht : (pc : Int) + off = (tgt : Int)) (k1 : 0 < x → Vw E X nL D tgt lv st) (k2 : ¬ 0 < x → Vw E X nL D (pc + 3) lv st) : Vw E X nL D pc lv (.int (oI x) :: st) := V_if_gt hX d ht (fun h => k1 ((oI_lt (show Rg 0 by decide) hx).mp (by rw [oI_0]; exact h))) (fun h => k2 (fun w => h (by rw [← oI_0]; exact (oI_lt (show Rg 0 by decide) hx).mpr w)))
theorem Z_icmp_gt (hX : Amb E X cc own nL n) {off : Int} {tgt : Nat} (hx : Rg x) (hy : Rg y) (d : decode cc pc = .ok (.if_icmp .gt off, 3)) (ht : (pc : Int) + off = (tgt : Int)) (k1 : y < x → Vw E X nL D tgt lv st) (k2 : ¬ y < x → Vw E X nL D (pc + 3) lv st) : Vw E X nL D pc lv (.int (oI y) :: .int (oI x) :: st) := V_icmp_gt hX d ht (fun h => k1 ((oI_lt hy hx).mp (by exact h))) (fun h => k2 (fun w => h (by  exact (oI_lt hy hx).mpr w)))
theorem Z_if_le (hX : Amb E X cc own nL n) {off : Int} {tgt : Nat} (hx : Rg x) (d : decode cc pc = .ok (.ifCond .le off, 3)) (ht : (pc : Int) + off = (tgt : Int)) (k1 : x ≤ 0 → Vw E X nL D tgt lv st) (k2 : ¬ x ≤ 0 → Vw E X nL D (pc + 3) lv st) : Vw E X nL D pc lv (.int (oI x) :: st) := V_if_le hX d ht (fun h => k1 ((oI_le hx (show Rg 0 by decide)).mp (by rw [oI_0]; exact h))) (fun h => k2 (fun w => h (by rw [← oI_0]; exact (oI_le hx (show Rg 0 by decide)).mpr w)))
theorem Z_icmp_le (hX : Amb E X cc own nL n) {off : Int} {tgt : Nat} (hx : Rg x) (hy : Rg y) (d : decode cc pc = .ok (.if_icmp .le off, 3)) (ht : (pc : Int) + off = (tgt : Int)) (k1 : x ≤ y → Vw E X nL D tgt lv st) (k2 : ¬ x ≤ y → Vw E X nL D (pc + 3) lv st) : Vw E X nL D pc lv (.int (oI y) :: .int (oI x) :: st) := V_icmp_le hX d ht (fun h => k1 ((oI_le hx hy).mp (by exact h))) (fun h => k2 (fun w => h (by  exact (oI_le hx hy).mpr w)))
theorem Z_if_ne (hX : Amb E X cc own nL n) {off : Int} {tgt : Nat} (hx : Rg x) (d : decode cc pc = .ok (.ifCond .ne off, 3)) (ht : (pc : Int) + off = (tgt : Int)) (k1 : ¬ x = 0 → Vw E X nL D tgt lv st) (k2 : x = 0 → Vw E X nL D (pc + 3) lv st) : Vw E X nL D pc lv (.int (oI x) :: st) := V_if_ne hX d ht (fun h => k1 (fun w => h (by rw [← oI_0]; exact (oI_inj hx (show Rg 0 by decide)).mpr w))) (fun h => k2 ((oI_inj hx (show Rg 0 by decide)).mp (by rw [oI_0]; exact h)))
theorem Z_icmp_ne (hX : Amb E X cc own nL n) {off : Int} {tgt : Nat} (hx : Rg x) (hy : Rg y) (d : decode cc pc = .ok (.if_icmp .ne off, 3)) (ht : (pc : Int) + off = (tgt : Int)) (k1 : ¬ x = y → Vw E X nL D tgt lv st) (k2 : x = y → Vw E X nL D (pc + 3) lv st) : Vw E X nL D pc lv (.int (oI y) :: .int (oI x) :: st) := V_icmp_ne hX d ht (fun h => k1 (fun w => h (by  exact (oI_inj hx hy).mpr w))) (fun h => k2 ((oI_inj hx hy).mp (by exact h)))
theorem B_if_eq (hX : Amb E X cc own nL n) {b : Bool} {off : Int} {tgt : Nat} (d : decode cc pc = .ok (.ifCond .eq off, 3)) (ht : (pc : Int) + off = (tgt : Int)) (k1 : b = false → Vw E X nL D tgt lv st) (k2 : b = true → Vw E X nL D (pc + 3) lv st) : Vw E X nL D pc lv (.int (bI b) :: st) := V_if_eq hX d ht (fun h => k1 (by cases b; rfl; exact absurd h (by decide))) (fun h => k2 (by cases b; exact absurd rfl h; rfl))
theorem B_if_ne (hX : Amb E X cc own nL n) {b : Bool} {off : Int} {tgt : Nat} (d : decode cc pc = .ok (.ifCond .ne off, 3)) (ht : (pc : Int) + off = (tgt : Int)) (k1 : b = true → Vw E X nL D tgt lv st) (k2 : b = false → Vw E X nL D (pc + 3) lv st) : Vw E X nL D pc lv (.int (bI b) :: st) := V_if_ne hX d ht (fun h => k1 (by cases b; exact absurd rfl h; rfl)) (fun h => k2 (by cases b; rfl; exact absurd h (by decide)))
theorem lg_cmp_0 {u v : Int64} : lg_cmp u v = 0 ↔ u = v := by
  unfold lg_cmp
  constructor
  · intro h
    split at h
    · exact absurd h (by decide)
    · split at h
      · assumption
      · exact absurd h (by decide)
  · intro h
    subst h
    simp
theorem L_if_eq (hX : Amb E X cc own nL n) {u v : Int64} {off : Int} {tgt : Nat} (d : decode cc pc = .ok (.ifCond .eq off, 3)) (ht : (pc : Int) + off = (tgt : Int)) (k1 : u = v → Vw E X nL D tgt lv st) (k2 : ¬ u = v → Vw E X nL D (pc + 3) lv st) : Vw E X nL D pc lv (.int (lg_cmp u v) :: st) := V_if_eq hX d ht (fun h => k1 (lg_cmp_0.mp h)) (fun h => k2 (fun w => h (lg_cmp_0.mpr w)))
theorem L_if_ne (hX : Amb E X cc own nL n) {u v : Int64} {off : Int} {tgt : Nat} (d : decode cc pc = .ok (.ifCond .ne off, 3)) (ht : (pc : Int) + off = (tgt : Int)) (k1 : ¬ u = v → Vw E X nL D tgt lv st) (k2 : u = v → Vw E X nL D (pc + 3) lv st) : Vw E X nL D pc lv (.int (lg_cmp u v) :: st) := V_if_ne hX d ht (fun h => k1 (fun w => h (lg_cmp_0.mpr w))) (fun h => k2 (lg_cmp_0.mp h))
theorem zl_2 {z : Fin 11} (hX : Amb E X cc own nL n) (i : Nat) (he : x = (i : Int)) (hi : i < 120) (d : decode cc pc = .ok (.laload, 1)) (k : Vw E X nL D (pc + 1) lv (.long (D.2.1 2 z i) :: st)) : Vw E X nL D pc lv (.int (oI x) :: .ref (E.1 (2, z)) :: st) := al_2 hX i (oI_nI he) hi d k
theorem zs_2 {z : Fin 11} {v : Int64} (hX : Amb E X cc own nL n) (i : Nat) (he : x = (i : Int)) (hi : i < 120) (d : decode cc pc = .ok (.lastore, 1)) (k : Vw E X nL (lU D 2 z (vp_updL (D.2.1 2 z) i v)) (pc + 1) lv st) : Vw E X nL D pc lv (.long v :: .int (oI x) :: .ref (E.1 (2, z)) :: st) := as_2 hX i (oI_nI he) hi d k
theorem zl_3 {z : Fin 11} (hX : Amb E X cc own nL n) (i : Nat) (he : x = (i : Int)) (hi : i < 120) (d : decode cc pc = .ok (.laload, 1)) (k : Vw E X nL D (pc + 1) lv (.long (D.2.1 3 z i) :: st)) : Vw E X nL D pc lv (.int (oI x) :: .ref (E.1 (3, z)) :: st) := al_3 hX i (oI_nI he) hi d k
theorem zs_3 {z : Fin 11} {v : Int64} (hX : Amb E X cc own nL n) (i : Nat) (he : x = (i : Int)) (hi : i < 120) (d : decode cc pc = .ok (.lastore, 1)) (k : Vw E X nL (lU D 3 z (vp_updL (D.2.1 3 z) i v)) (pc + 1) lv st) : Vw E X nL D pc lv (.long v :: .int (oI x) :: .ref (E.1 (3, z)) :: st) := as_3 hX i (oI_nI he) hi d k
theorem zl_6 (hX : Amb E X cc own nL n) (i : Nat) (he : x = (i : Int)) (hi : i < 60) (d : decode cc pc = .ok (.iaload, 1)) (k : Vw E X nL D (pc + 1) lv (.int (D.1 6 i) :: st)) : Vw E X nL D pc lv (.int (oI x) :: .ref (E.1 (6, 0)) :: st) := al_6 hX i (oI_nI he) hi d k
theorem zs_6 {v : Int32} (hX : Amb E X cc own nL n) (i : Nat) (he : x = (i : Int)) (hi : i < 60) (d : decode cc pc = .ok (.iastore, 1)) (k : Vw E X nL (rU D 6 (upd (D.1 6) i v)) (pc + 1) lv st) : Vw E X nL D pc lv (.int v :: .int (oI x) :: .ref (E.1 (6, 0)) :: st) := as_6 hX i (oI_nI he) hi d k
theorem zl_7 (hX : Amb E X cc own nL n) (i : Nat) (he : x = (i : Int)) (hi : i < 60) (d : decode cc pc = .ok (.iaload, 1)) (k : Vw E X nL D (pc + 1) lv (.int (D.1 7 i) :: st)) : Vw E X nL D pc lv (.int (oI x) :: .ref (E.1 (7, 0)) :: st) := al_7 hX i (oI_nI he) hi d k
theorem zs_7 {v : Int32} (hX : Amb E X cc own nL n) (i : Nat) (he : x = (i : Int)) (hi : i < 60) (d : decode cc pc = .ok (.iastore, 1)) (k : Vw E X nL (rU D 7 (upd (D.1 7) i v)) (pc + 1) lv st) : Vw E X nL D pc lv (.int v :: .int (oI x) :: .ref (E.1 (7, 0)) :: st) := as_7 hX i (oI_nI he) hi d k
theorem zl_8 (hX : Amb E X cc own nL n) (i : Nat) (he : x = (i : Int)) (hi : i < 60) (d : decode cc pc = .ok (.iaload, 1)) (k : Vw E X nL D (pc + 1) lv (.int (D.1 8 i) :: st)) : Vw E X nL D pc lv (.int (oI x) :: .ref (E.1 (8, 0)) :: st) := al_8 hX i (oI_nI he) hi d k
theorem zs_8 {v : Int32} (hX : Amb E X cc own nL n) (i : Nat) (he : x = (i : Int)) (hi : i < 60) (d : decode cc pc = .ok (.iastore, 1)) (k : Vw E X nL (rU D 8 (upd (D.1 8) i v)) (pc + 1) lv st) : Vw E X nL D pc lv (.int v :: .int (oI x) :: .ref (E.1 (8, 0)) :: st) := as_8 hX i (oI_nI he) hi d k
theorem zl_9 (hX : Amb E X cc own nL n) (i : Nat) (he : x = (i : Int)) (hi : i < 300) (d : decode cc pc = .ok (.iaload, 1)) (k : Vw E X nL D (pc + 1) lv (.int (D.1 9 i) :: st)) : Vw E X nL D pc lv (.int (oI x) :: .ref (E.1 (9, 0)) :: st) := al_9 hX i (oI_nI he) hi d k
theorem zs_9 {v : Int32} (hX : Amb E X cc own nL n) (i : Nat) (he : x = (i : Int)) (hi : i < 300) (d : decode cc pc = .ok (.iastore, 1)) (k : Vw E X nL (rU D 9 (upd (D.1 9) i v)) (pc + 1) lv st) : Vw E X nL D pc lv (.int v :: .int (oI x) :: .ref (E.1 (9, 0)) :: st) := as_9 hX i (oI_nI he) hi d k
theorem zl_10 (hX : Amb E X cc own nL n) (i : Nat) (he : x = (i : Int)) (hi : i < 600) (d : decode cc pc = .ok (.iaload, 1)) (k : Vw E X nL D (pc + 1) lv (.int (D.1 10 i) :: st)) : Vw E X nL D pc lv (.int (oI x) :: .ref (E.1 (10, 0)) :: st) := al_10 hX i (oI_nI he) hi d k
theorem zs_10 {v : Int32} (hX : Amb E X cc own nL n) (i : Nat) (he : x = (i : Int)) (hi : i < 600) (d : decode cc pc = .ok (.iastore, 1)) (k : Vw E X nL (rU D 10 (upd (D.1 10) i v)) (pc + 1) lv st) : Vw E X nL D pc lv (.int v :: .int (oI x) :: .ref (E.1 (10, 0)) :: st) := as_10 hX i (oI_nI he) hi d k
theorem zl_11 (hX : Amb E X cc own nL n) (i : Nat) (he : x = (i : Int)) (hi : i < 300) (d : decode cc pc = .ok (.iaload, 1)) (k : Vw E X nL D (pc + 1) lv (.int (D.1 11 i) :: st)) : Vw E X nL D pc lv (.int (oI x) :: .ref (E.1 (11, 0)) :: st) := al_11 hX i (oI_nI he) hi d k
theorem zs_11 {v : Int32} (hX : Amb E X cc own nL n) (i : Nat) (he : x = (i : Int)) (hi : i < 300) (d : decode cc pc = .ok (.iastore, 1)) (k : Vw E X nL (rU D 11 (upd (D.1 11) i v)) (pc + 1) lv st) : Vw E X nL D pc lv (.int v :: .int (oI x) :: .ref (E.1 (11, 0)) :: st) := as_11 hX i (oI_nI he) hi d k
theorem zl_13 (hX : Amb E X cc own nL n) (i : Nat) (he : x = (i : Int)) (hi : i < 10) (d : decode cc pc = .ok (.iaload, 1)) (k : Vw E X nL D (pc + 1) lv (.int (D.1 13 i) :: st)) : Vw E X nL D pc lv (.int (oI x) :: .ref (E.1 (13, 0)) :: st) := al_13 hX i (oI_nI he) hi d k
theorem zs_13 {v : Int32} (hX : Amb E X cc own nL n) (i : Nat) (he : x = (i : Int)) (hi : i < 10) (d : decode cc pc = .ok (.iastore, 1)) (k : Vw E X nL (rU D 13 (upd (D.1 13) i v)) (pc + 1) lv st) : Vw E X nL D pc lv (.int v :: .int (oI x) :: .ref (E.1 (13, 0)) :: st) := as_13 hX i (oI_nI he) hi d k
theorem zl_14 (hX : Amb E X cc own nL n) (i : Nat) (he : x = (i : Int)) (hi : i < 10) (d : decode cc pc = .ok (.iaload, 1)) (k : Vw E X nL D (pc + 1) lv (.int (D.1 14 i) :: st)) : Vw E X nL D pc lv (.int (oI x) :: .ref (E.1 (14, 0)) :: st) := al_14 hX i (oI_nI he) hi d k
theorem zs_14 {v : Int32} (hX : Amb E X cc own nL n) (i : Nat) (he : x = (i : Int)) (hi : i < 10) (d : decode cc pc = .ok (.iastore, 1)) (k : Vw E X nL (rU D 14 (upd (D.1 14) i v)) (pc + 1) lv st) : Vw E X nL D pc lv (.int v :: .int (oI x) :: .ref (E.1 (14, 0)) :: st) := as_14 hX i (oI_nI he) hi d k
theorem zl_16 (hX : Amb E X cc own nL n) (i : Nat) (he : x = (i : Int)) (hi : i < 120) (d : decode cc pc = .ok (.baload, 1)) (k : Vw E X nL D (pc + 1) lv (.int (D.1 16 i) :: st)) : Vw E X nL D pc lv (.int (oI x) :: .ref (E.1 (16, 0)) :: st) := al_16 hX i (oI_nI he) hi d k
theorem zs_16 {v : Int32} (hX : Amb E X cc own nL n) (i : Nat) (he : x = (i : Int)) (hi : i < 120) (hy : vp_nar .byte v = v) (d : decode cc pc = .ok (.bastore, 1)) (k : Vw E X nL (rU D 16 (upd (D.1 16) i v)) (pc + 1) lv st) : Vw E X nL D pc lv (.int v :: .int (oI x) :: .ref (E.1 (16, 0)) :: st) := as_16 hX i (oI_nI he) hi hy d k
theorem zl_17 (hX : Amb E X cc own nL n) (i : Nat) (he : x = (i : Int)) (hi : i < 144) (d : decode cc pc = .ok (.iaload, 1)) (k : Vw E X nL D (pc + 1) lv (.int (D.1 17 i) :: st)) : Vw E X nL D pc lv (.int (oI x) :: .ref (E.1 (17, 0)) :: st) := al_17 hX i (oI_nI he) hi d k
theorem zs_17 {v : Int32} (hX : Amb E X cc own nL n) (i : Nat) (he : x = (i : Int)) (hi : i < 144) (d : decode cc pc = .ok (.iastore, 1)) (k : Vw E X nL (rU D 17 (upd (D.1 17) i v)) (pc + 1) lv st) : Vw E X nL D pc lv (.int v :: .int (oI x) :: .ref (E.1 (17, 0)) :: st) := as_17 hX i (oI_nI he) hi d k
theorem zl_19 (hX : Amb E X cc own nL n) (i : Nat) (he : x = (i : Int)) (hi : i < 3) (d : decode cc pc = .ok (.iaload, 1)) (k : Vw E X nL D (pc + 1) lv (.int (D.1 19 i) :: st)) : Vw E X nL D pc lv (.int (oI x) :: .ref (E.1 (19, 0)) :: st) := al_19 hX i (oI_nI he) hi d k
theorem zs_19 {v : Int32} (hX : Amb E X cc own nL n) (i : Nat) (he : x = (i : Int)) (hi : i < 3) (d : decode cc pc = .ok (.iastore, 1)) (k : Vw E X nL (rU D 19 (upd (D.1 19) i v)) (pc + 1) lv st) : Vw E X nL D pc lv (.int v :: .int (oI x) :: .ref (E.1 (19, 0)) :: st) := as_19 hX i (oI_nI he) hi d k
theorem zl_21 (hX : Amb E X cc own nL n) (i : Nat) (he : x = (i : Int)) (hi : i < 3120) (d : decode cc pc = .ok (.laload, 1)) (k : Vw E X nL D (pc + 1) lv (.long (D.2.1 21 0 i) :: st)) : Vw E X nL D pc lv (.int (oI x) :: .ref (E.1 (21, 0)) :: st) := al_21 hX i (oI_nI he) hi d k
theorem zs_21 {v : Int64} (hX : Amb E X cc own nL n) (i : Nat) (he : x = (i : Int)) (hi : i < 3120) (d : decode cc pc = .ok (.lastore, 1)) (k : Vw E X nL (lU D 21 0 (vp_updL (D.2.1 21 0) i v)) (pc + 1) lv st) : Vw E X nL D pc lv (.long v :: .int (oI x) :: .ref (E.1 (21, 0)) :: st) := as_21 hX i (oI_nI he) hi d k
theorem zl_22 (hX : Amb E X cc own nL n) (i : Nat) (he : x = (i : Int)) (hi : i < 3) (d : decode cc pc = .ok (.iaload, 1)) (k : Vw E X nL D (pc + 1) lv (.int (D.1 22 i) :: st)) : Vw E X nL D pc lv (.int (oI x) :: .ref (E.1 (22, 0)) :: st) := al_22 hX i (oI_nI he) hi d k
theorem zs_22 {v : Int32} (hX : Amb E X cc own nL n) (i : Nat) (he : x = (i : Int)) (hi : i < 3) (d : decode cc pc = .ok (.iastore, 1)) (k : Vw E X nL (rU D 22 (upd (D.1 22) i v)) (pc + 1) lv st) : Vw E X nL D pc lv (.int v :: .int (oI x) :: .ref (E.1 (22, 0)) :: st) := as_22 hX i (oI_nI he) hi d k
theorem zl_23 (hX : Amb E X cc own nL n) (i : Nat) (he : x = (i : Int)) (hi : i < 120) (d : decode cc pc = .ok (.iaload, 1)) (k : Vw E X nL D (pc + 1) lv (.int (D.1 23 i) :: st)) : Vw E X nL D pc lv (.int (oI x) :: .ref (E.1 (23, 0)) :: st) := al_23 hX i (oI_nI he) hi d k
theorem zs_23 {v : Int32} (hX : Amb E X cc own nL n) (i : Nat) (he : x = (i : Int)) (hi : i < 120) (d : decode cc pc = .ok (.iastore, 1)) (k : Vw E X nL (rU D 23 (upd (D.1 23) i v)) (pc + 1) lv st) : Vw E X nL D pc lv (.int v :: .int (oI x) :: .ref (E.1 (23, 0)) :: st) := as_23 hX i (oI_nI he) hi d k
theorem zl_24 (hX : Amb E X cc own nL n) (i : Nat) (he : x = (i : Int)) (hi : i < 10) (d : decode cc pc = .ok (.iaload, 1)) (k : Vw E X nL D (pc + 1) lv (.int (D.1 24 i) :: st)) : Vw E X nL D pc lv (.int (oI x) :: .ref (E.1 (24, 0)) :: st) := al_24 hX i (oI_nI he) hi d k
theorem zs_24 {v : Int32} (hX : Amb E X cc own nL n) (i : Nat) (he : x = (i : Int)) (hi : i < 10) (d : decode cc pc = .ok (.iastore, 1)) (k : Vw E X nL (rU D 24 (upd (D.1 24) i v)) (pc + 1) lv st) : Vw E X nL D pc lv (.int v :: .int (oI x) :: .ref (E.1 (24, 0)) :: st) := as_24 hX i (oI_nI he) hi d k
theorem zl_25 (hX : Amb E X cc own nL n) (i : Nat) (he : x = (i : Int)) (hi : i < 10) (d : decode cc pc = .ok (.iaload, 1)) (k : Vw E X nL D (pc + 1) lv (.int (D.1 25 i) :: st)) : Vw E X nL D pc lv (.int (oI x) :: .ref (E.1 (25, 0)) :: st) := al_25 hX i (oI_nI he) hi d k
theorem zs_25 {v : Int32} (hX : Amb E X cc own nL n) (i : Nat) (he : x = (i : Int)) (hi : i < 10) (d : decode cc pc = .ok (.iastore, 1)) (k : Vw E X nL (rU D 25 (upd (D.1 25) i v)) (pc + 1) lv st) : Vw E X nL D pc lv (.int v :: .int (oI x) :: .ref (E.1 (25, 0)) :: st) := as_25 hX i (oI_nI he) hi d k
theorem zl_26 (hX : Amb E X cc own nL n) (i : Nat) (he : x = (i : Int)) (hi : i < 4) (d : decode cc pc = .ok (.iaload, 1)) (k : Vw E X nL D (pc + 1) lv (.int (D.1 26 i) :: st)) : Vw E X nL D pc lv (.int (oI x) :: .ref (E.1 (26, 0)) :: st) := al_26 hX i (oI_nI he) hi d k
theorem zs_26 {v : Int32} (hX : Amb E X cc own nL n) (i : Nat) (he : x = (i : Int)) (hi : i < 4) (d : decode cc pc = .ok (.iastore, 1)) (k : Vw E X nL (rU D 26 (upd (D.1 26) i v)) (pc + 1) lv st) : Vw E X nL D pc lv (.int v :: .int (oI x) :: .ref (E.1 (26, 0)) :: st) := as_26 hX i (oI_nI he) hi d k
theorem zl_27 (hX : Amb E X cc own nL n) (i : Nat) (he : x = (i : Int)) (hi : i < 54) (d : decode cc pc = .ok (.caload, 1)) (k : Vw E X nL D (pc + 1) lv (.int (D.1 27 i) :: st)) : Vw E X nL D pc lv (.int (oI x) :: .ref (E.1 (27, 0)) :: st) := al_27 hX i (oI_nI he) hi d k
theorem zl_4 {z : Fin 11} (hX : Amb E X cc own nL n) (i : Nat) (he : x = (i : Int)) (hi : i < 5) (d : decode cc pc = .ok (.aaload, 1)) (k : Vw E X nL D (pc + 1) lv (.ref (E.1 (1, D.2.2 (1 + (b2 z).val) i)) :: st)) : Vw E X nL D pc lv (.int (oI x) :: .ref (E.1 (4, b2 z)) :: st) := V_aald hX i (oI_nI he) hi d k
theorem zs_4 {z w : Fin 11} (hX : Amb E X cc own nL n) (i : Nat) (he : x = (i : Int)) (hi : i < 5) (d : decode cc pc = .ok (.aastore, 1)) (k : Vw E X nL (pU D (1 + (b2 z).val) (pS (D.2.2 (1 + (b2 z).val)) i w)) (pc + 1) lv st) : Vw E X nL D pc lv (.ref (E.1 (1, w)) :: .int (oI x) :: .ref (E.1 (4, b2 z)) :: st) := V_aast hX i (oI_nI he) hi d k
theorem V_oI {v : Int32} (z : Int) (h : v = oI z) (k : Vw E X nL D pc lv (.int (oI z) :: st)) : Vw E X nL D pc lv (.int v :: st) := h ▸ k
theorem V_bI {v : Int32} (b : Bool) (h : v = bI b) (k : Vw E X nL D pc lv (.int (bI b) :: st)) : Vw E X nL D pc lv (.int v :: st) := h ▸ k
theorem Z_i2b (hX : Amb E X cc own nL n) (h0 : -128 ≤ x) (h1 : x < 128) (d : decode cc pc = .ok (.i2b, 1)) (k : Vw E X nL D (pc + 1) lv (.int (oI x) :: st)) : Vw E X nL D pc lv (.int (oI x) :: st) := V_i2b hX d (by
  have e : (oI x).toInt8.toInt32 = oI x := by
    rw [← Int32.toInt_inj]
    rw [Int8.toInt_toInt32, Int32.toInt_toInt8, oI_toInt (by omega)]
    apply Int.bmod_eq_of_le <;> simp <;> omega
  rw [e]; exact k)
theorem Z_i2c (hX : Amb E X cc own nL n) (h0 : 0 ≤ x) (h1 : x < 65536) (d : decode cc pc = .ok (.i2c, 1)) (k : Vw E X nL D (pc + 1) lv (.int (oI x) :: st)) : Vw E X nL D pc lv (.int (oI x) :: st) := V_i2c hX d (by
  have e : ((oI x).toUInt32 % 65536).toInt32 = oI x := by
    rw [oI_toNat h0, pk_char, pk_tn (by omega), Nat.mod_eq_of_lt (by omega)]
  rw [e]; exact k)
theorem Z_tableIn (hX : Amb E X cc own nL n) {dflt lo hi : Int} {offs : Array Int} {len : Nat} {off : Int} {tgt : Nat} (v : Int) (hv : x = v) (hr : Rg v) (h1 : lo ≤ v) (h2 : v ≤ hi) (d : decode cc pc = .ok (.tableswitch dflt lo hi offs, len)) (ho : offs[(v - lo).toNat]? = some off) (ht : (pc : Int) + off = (tgt : Int)) (k : Vw E X nL D tgt lv st) : Vw E X nL D pc lv (.int (oI x) :: st) := by
  subst hv
  exact V_tableIn hX d (by rw [oI_toInt hr]; omega) (by rw [oI_toInt hr]; omega) (by rw [oI_toInt hr]; exact ho) ht k
theorem Z_tableOut (hX : Amb E X cc own nL n) {dflt lo hi : Int} {offs : Array Int} {len : Nat} {tgt : Nat} (hr : Rg x) (h : x < lo ∨ hi < x) (d : decode cc pc = .ok (.tableswitch dflt lo hi offs, len)) (ht : (pc : Int) + dflt = (tgt : Int)) (k : Vw E X nL D tgt lv st) : Vw E X nL D pc lv (.int (oI x) :: st) := V_tableOut hX d (by rw [oI_toInt hr]; exact h) ht k
theorem Z_lookIn (hX : Amb E X cc own nL n) {dflt : Int} {ps : Array (Int × Int)} {len : Nat} {off : Int} {tgt : Nat} (v : Int) (hv : x = v) (hr : Rg v) (d : decode cc pc = .ok (.lookupswitch dflt ps, len)) (hp : (ps.toList.zip (ps.toList.drop 1)).all (fun (a, next) => a.1 < next.1) = true) (ho : Op.lookupswitch.offset ps.toList dflt v = off) (ht : (pc : Int) + off = (tgt : Int)) (k : Vw E X nL D tgt lv st) : Vw E X nL D pc lv (.int (oI x) :: st) := by
  subst hv
  exact V_lookup hX d hp (by rw [oI_toInt hr]; exact ho) ht k
theorem Z_look (hX : Amb E X cc own nL n) {dflt : Int} {ps : Array (Int × Int)} {len : Nat} {off : Int} {tgt : Nat} (hr : Rg x) (d : decode cc pc = .ok (.lookupswitch dflt ps, len)) (hp : (ps.toList.zip (ps.toList.drop 1)).all (fun (a, next) => a.1 < next.1) = true) (ho : Op.lookupswitch.offset ps.toList dflt x = off) (ht : (pc : Int) + off = (tgt : Int)) (k : Vw E X nL D tgt lv st) : Vw E X nL D pc lv (.int (oI x) :: st) := V_lookup hX d hp (by rw [oI_toInt hr]; exact ho) ht k
theorem Z_mmax (hX : Amb E X cc own nL n) {idx : Nat} (hx : Rg x) (hy : Rg y) (hn : 0 < n) (h1 : Cond.methodLink own idx Lib.Math.max.name ∈ tblG) (hsm : (st.map fun v => v.category).sum ≤ 8) (d : decode cc pc = .ok (.invokestatic idx, 3)) (k : Vw E X nL D (pc + 3) lv (.int (oI (max x y)) :: st)) : Vw E X nL D pc lv (.int (oI y) :: .int (oI x) :: st) := V_mmax hX hn h1 wm_max.1 wm_max.2.1 wm_max.2.2 hsm d (by
  have e : (if oI x < oI y then oI y else oI x) = oI (max x y) := by
    by_cases h : x < y
    · rw [if_pos ((oI_lt hx hy).mpr h), Int.max_eq_right (by omega)]
    · rw [if_neg (fun q => h ((oI_lt hx hy).mp q)), Int.max_eq_left (by omega)]
  rw [e]; exact k)
theorem Z_mmin (hX : Amb E X cc own nL n) {idx : Nat} (hx : Rg x) (hy : Rg y) (hn : 0 < n) (h1 : Cond.methodLink own idx Lib.Math.min.name ∈ tblG) (hsm : (st.map fun v => v.category).sum ≤ 8) (d : decode cc pc = .ok (.invokestatic idx, 3)) (k : Vw E X nL D (pc + 3) lv (.int (oI (min x y)) :: st)) : Vw E X nL D pc lv (.int (oI y) :: .int (oI x) :: st) := V_mmin hX hn h1 wm_min.1 wm_min.2.1 wm_min.2.2 hsm d (by
  have e : (if oI y < oI x then oI y else oI x) = oI (min x y) := by
    by_cases h : y < x
    · rw [if_pos ((oI_lt hy hx).mpr h), Int.min_eq_right (by omega)]
    · rw [if_neg (fun q => h ((oI_lt hy hx).mp q)), Int.min_eq_left (by omega)]
  rw [e]; exact k)
theorem Z_mabs (hX : Amb E X cc own nL n) {idx : Nat} (hx : Rg x) (hn : 0 < n) (h1 : Cond.methodLink own idx Lib.Math.abs.name ∈ tblG) (hsm : (st.map fun v => v.category).sum ≤ 8) (d : decode cc pc = .ok (.invokestatic idx, 3)) (k : Vw E X nL D (pc + 3) lv (.int (oI (if 0 ≤ x then x else -x)) :: st)) : Vw E X nL D pc lv (.int (oI x) :: st) := V_mabs hX hn h1 wm_abs.1 wm_abs.2.1 wm_abs.2.2 hsm d (by
  have e : (if 0 ≤ oI x then oI x else 0 - oI x) = oI (if 0 ≤ x then x else -x) := by
    rw [← oI_0]
    by_cases h : 0 ≤ x
    · rw [if_pos ((oI_le (by decide) hx).mpr h), if_pos h]
    · rw [if_neg (fun q => h ((oI_le (by decide) hx).mp q)), if_neg h, oI_sub]
      congr 1
      omega
  rw [e]; exact k)
end ZR
