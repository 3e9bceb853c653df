/-! THE CONSTRUCTORS: worlds as lists of cells, that grow -/
def tyZ (cA0 : Nat → ClassId) : List (ClassId × FieldType) := [(cA0 0, .byte), (cA0 1, .char), (cA0 2, .int), (cA0 3, .long), (cA0 4, .object "BandAreas$Area")]
def Vl (G : va_G) (X : Cx) (nL kc js : Nat) (ws : va_W) (pc : Nat) (lv : Lv) (st : List Value) : Prop := match X with
  | (p, l, e, R, s, m, args, below, meth, c, _, _, Q, A) => ∀ (H : Heap) (locs : List Loc) (ls : Array Slot), va_P G vwCl ws H → va_D A ws → va_S A s.heap H locs → lvOK ls nL lv → W p l e R s m args below meth c H locs kc js Q (F0 m pc ls st)
def Aml (G : va_G) (cA0 : Nat → ClassId) (X : Cx) (cc : ByteArray) (own : String) (nL fr lo ce sl : Nat) : Prop := match X with
  | (p, _, _, R, s, m, args, _, _, c, _, _, _, A) => p.tables.exec = Jvm.exec ∧ c.code = cc ∧ c.maxLocals = nL ∧ s.vm.findClass own = some m.cls ∧ (∀ w ∈ tblG, w.before args s = true) ∧ va_K G vwCl (tyZ cA0) s ∧ (∀ q, s.heap.size ≤ q → A q) ∧ (fr ≤ R.frames ∧ lo ≤ R.locals ∧ ce ≤ R.cells ∧ sl ≤ R.slots) ∧ va_AO RX0 s ∧ va_Nw (.methodLinkNest RX5 46 yX3_init RX5) s
def IniX (X : Cx) : Prop := match X with
  | (_, _, _, _, _, _, _, _, meth, _, _, _, _, _) => meth.name = "<init>"
section LRULES
variable {G : va_G} {cA0 : Nat → ClassId} {X : Cx} {cc : ByteArray} {own : String} {nL fr lo ce sl kc js : Nat} {ws : va_W} {pc : Nat} {lv : Lv} {st : List Value}
theorem L_ws {ws' : va_W} (h : ws = ws') (kk : Vl G X nL kc js ws' pc lv st) : Vl G X nL kc js ws pc lv st := h ▸ kk
theorem L_sub {ws' : va_W} (isq : List Nat) (hn : va_nd isq = true) (h1 : isq.filterMap (fun i => ws[i]?) = ws') (h2 : isq.map (fun i => ws[i]?) = ws'.map some) (kk : Vl G X nL kc js ws' pc lv st) : Vl G X nL kc js ws pc lv st := by
  obtain ⟨p, l, e, R, s, m, args, below, meth, c, cells, slots, Q, A⟩ := X
  exact fun H locs ls hP hD hS hl => kk H locs ls (hP.sub isq h1) (hD.sub isq hn h2) hS hl
theorem L_cut (lw : Lv) (h : lvs lw lv) (kk : Vl G X nL kc js ws pc lw st) : Vl G X nL kc js ws pc lv st := by
  obtain ⟨p, l', e, R, s, m, args, below, meth, c, cells, slots, Q, A⟩ := X
  exact fun H locs ls hP hD hS hl => kk H locs ls hP hD hS (lvOK_sub hl h)
theorem L_widen {k2 j2 : Nat} (h1 : kc ≤ k2) (h2 : js ≤ j2) (kk : Vl G X nL k2 j2 ws pc lv st) : Vl G X nL kc js ws pc lv st := by
  obtain ⟨p, l', e, R, s, m, args, below, meth, c, cells, slots, Q, A⟩ := X
  exact fun H locs ls hP hD hS hl => W.widen h1 h2 (kk H locs ls hP hD hS hl)
theorem L_iconst (hY : Aml G cA0 X cc own nL fr lo ce sl) {z : Int} (v : Int32) (hv : Int32.ofInt z = v) (d : decode cc pc = .ok (.iconst z, 1)) (kk : Vl G X nL kc js ws (pc + 1) lv (.int v :: st)) : Vl G X nL kc js ws pc lv st := by
  obtain ⟨p, l, e, R, s, m, args, below, meth, c, cells, slots, Q, A⟩ := X
  exact fun H locs ls hP hD hS hl => lv_iconst hY.1 hY.2.1 d hv (kk H locs ls hP hD hS hl)
theorem L_bipush (hY : Aml G cA0 X cc own nL fr lo ce sl) {z : Int} (v : Int32) (hv : (Int8.ofInt z).toInt32 = v) (d : decode cc pc = .ok (.bipush z, 2)) (kk : Vl G X nL kc js ws (pc + 2) lv (.int v :: st)) : Vl G X nL kc js ws pc lv st := by
  obtain ⟨p, l, e, R, s, m, args, below, meth, c, cells, slots, Q, A⟩ := X
  exact fun H locs ls hP hD hS hl => lv_bipush hY.1 hY.2.1 d hv (kk H locs ls hP hD hS hl)
theorem L_sipush (hY : Aml G cA0 X cc own nL fr lo ce sl) {z : Int} (v : Int32) (hv : (Int16.ofInt z).toInt32 = v) (d : decode cc pc = .ok (.sipush z, 3)) (kk : Vl G X nL kc js ws (pc + 3) lv (.int v :: st)) : Vl G X nL kc js ws pc lv st := by
  obtain ⟨p, l, e, R, s, m, args, below, meth, c, cells, slots, Q, A⟩ := X
  exact fun H locs ls hP hD hS hl => lv_sipush hY.1 hY.2.1 d hv (kk H locs ls hP hD hS hl)
theorem L_iload_n (hY : Aml G cA0 X cc own nL fr lo ce sl) {j : Fin 4} (i : Nat) (hi : (j : Nat) = i) {x : Int32} (hl0 : lk lv i = some (.int x)) (d : decode cc pc = .ok (.iload_n j, 1)) (kk : Vl G X nL kc js ws (pc + 1) lv (.int x :: st)) : Vl G X nL kc js ws pc lv st := by
  obtain ⟨p, l, e, R, s, m, args, below, meth, c, cells, slots, Q, A⟩ := X
  exact fun H locs ls hP hD hS hl => lv_iload_n hY.1 hY.2.1 d hi (hl.2.2 _ _ hl0) (kk H locs ls hP hD hS hl)
theorem L_istore_n (hY : Aml G cA0 X cc own nL fr lo ce sl) {j : Fin 4} (i : Nat) (hi : (j : Nat) = i) {x : Int32} (hb : i < nL) (hn : noL lv i = true) (d : decode cc pc = .ok (.istore_n j, 1)) (kk : Vl G X nL kc js ws (pc + 1) ((i, some (.int x)) :: lv) st) : Vl G X nL kc js ws pc lv (.int x :: st) := by
  obtain ⟨p, l, e, R, s, m, args, below, meth, c, cells, slots, Q, A⟩ := X
  exact fun H locs ls hP hD hS hl => lv_istore_n hY.1 hY.2.1 d hi (lvl_has hl) hb rfl (fun ls2 h2 => kk H locs ls2 hP hD hS (lvOK_st1 hl hn h2))
theorem L_aload_n (hY : Aml G cA0 X cc own nL fr lo ce sl) {j : Fin 4} (i : Nat) (hi : (j : Nat) = i) {x : Nat} (hl0 : lk lv i = some (.ref x)) (d : decode cc pc = .ok (.aload_n j, 1)) (kk : Vl G X nL kc js ws (pc + 1) lv (.ref x :: st)) : Vl G X nL kc js ws pc lv st := by
  obtain ⟨p, l, e, R, s, m, args, below, meth, c, cells, slots, Q, A⟩ := X
  exact fun H locs ls hP hD hS hl => lv_aload_n hY.1 hY.2.1 d hi (hl.2.2 _ _ hl0) (kk H locs ls hP hD hS hl)
theorem L_astore_n (hY : Aml G cA0 X cc own nL fr lo ce sl) {j : Fin 4} (i : Nat) (hi : (j : Nat) = i) {x : Nat} (hb : i < nL) (hn : noL lv i = true) (d : decode cc pc = .ok (.astore_n j, 1)) (kk : Vl G X nL kc js ws (pc + 1) ((i, some (.ref x)) :: lv) st) : Vl G X nL kc js ws pc lv (.ref x :: st) := by
  obtain ⟨p, l, e, R, s, m, args, below, meth, c, cells, slots, Q, A⟩ := X
  exact fun H locs ls hP hD hS hl => lv_astore_n hY.1 hY.2.1 d hi (lvl_has hl) hb rfl (fun ls2 h2 => kk H locs ls2 hP hD hS (lvOK_st1 hl hn h2))
theorem L_dup (hY : Aml G cA0 X cc own nL fr lo ce sl) {v : Value} (hv : v.category = 1) (d : decode cc pc = .ok (.dup, 1)) (kk : Vl G X nL kc js ws (pc + 1) lv (v :: v :: st)) : Vl G X nL kc js ws pc lv (v :: st) := by
  obtain ⟨p, l, e, R, s, m, args, below, meth, c, cells, slots, Q, A⟩ := X
  exact fun H locs ls hP hD hS hl => lv_dup hY.1 hY.2.1 d hv (kk H locs ls hP hD hS hl)
theorem L_goto (hY : Aml G cA0 X cc own nL fr lo ce sl) {off : Int} {tgt : Nat} (ht : (pc : Int) + off = (tgt : Int)) (d : decode cc pc = .ok (.goto off, 3)) (kk : Vl G X nL kc js ws tgt lv st) : Vl G X nL kc js ws pc lv st := by
  obtain ⟨p, l, e, R, s, m, args, below, meth, c, cells, slots, Q, A⟩ := X
  exact fun H locs ls hP hD hS hl => lv_goto hY.1 hY.2.1 d ht (kk H locs ls hP hD hS hl)
theorem L_icmp_ge (hY : Aml G cA0 X cc own nL fr lo ce sl) {x y : Int32} {off : Int} {tgt : Nat} (d : decode cc pc = .ok (.if_icmp .ge off, 3)) (ht : (pc : Int) + off = (tgt : Int)) (k1 : y ≤ x → Vl G X nL kc js ws tgt lv st) (k2 : ¬ y ≤ x → Vl G X nL kc js ws (pc + 3) lv st) : Vl G X nL kc js ws pc lv (.int y :: .int x :: st) := by
  obtain ⟨p, l, e, R, s, m, args, below, meth, c, cells, slots, Q, A⟩ := X
  exact fun H locs ls hP hD hS hl => lv_icmp_ge hY.1 hY.2.1 d ht (fun h => k1 h H locs ls hP hD hS hl) (fun h => k2 h H locs ls hP hD hS hl)
theorem L_iinc (hY : Aml G cA0 X cc own nL fr lo ce sl) {i : Nat} {z : Int} {x : Int32} (c : Int32) (hc : Int32.ofInt z = c) (hl0 : lk lv i = some (.int x)) (hn : noL lv i = true) (d : decode cc pc = .ok (.iinc i z, 3)) (kk : Vl G X nL kc js ws (pc + 3) ((i, some (.int (x + c))) :: lv) st) : Vl G X nL kc js ws pc lv st := by
  obtain ⟨p, l, e, R, s, m, args, below, meth, cd, cells, slots, Q, A⟩ := X
  refine fun H locs ls hP hD hS hl => ?_
  have hm : (i, Value.int x) ∈ lvl lv nL := lvl_mem.mpr ⟨lvOK_lt hl hl0, hl0⟩
  obtain ⟨q, hq⟩ := List.getElem?_of_mem hm
  exact lv_iinc hY.1 hY.2.1 d (lvl_has hl) hq (by rw [hc]) (lvOK_lt hl hl0) rfl (fun ls2 h2 => kk H locs ls2 hP hD hS (lvOK_st1 hl hn h2))
theorem wd_oi : Cond.instanceMethod Lib.objectInit ∈ tblG ∧ Cond.code Lib.objectInit ⟨#[0xb1]⟩ 1 none ∈ tblG := ⟨inG (List.mem_of_getElem? (i := 88) rfl) rfl, inG (List.mem_of_getElem? (i := 89) rfl) rfl⟩
theorem L_objInit (hY : Aml G cA0 X cc own nL fr lo ce sl) {ix0 : Nat} (hlk : Cond.methodLink own ix0 Lib.objectInit ∈ tblG) {q : Nat} (h1 : 1 ≤ fr) (h2 : 20 ≤ lo) (hsm : (st.map fun v => v.category).sum ≤ 8) (d : decode cc pc = .ok (.invokespecial ix0, 3)) (kk : Vl G X nL kc js ws (pc + 3) lv st) : Vl G X nL kc js ws pc lv (.ref q :: st) := by
  obtain ⟨p, l, e, R, s, m, args, below, meth, c, cells, slots, Q, A⟩ := X
  obtain ⟨hx, hb, hml, hown, hts, hK, hA, ⟨r1, r2, r3, r4⟩, -, -⟩ := hY
  refine fun H locs ls hP hD hS hl => W.objInit hx hb hown (hts _ hlk) (hts _ wd_oi.1) (hts _ wd_oi.2) rfl (by rw [hml]; exact hl.1) rfl d (Nat.le_trans h1 r1) (Nat.le_trans (Nat.add_le_add_right (lv_room hsm) 12) (Nat.le_trans h2 r2)) ?_
  exact kk H locs ls hP hD hS hl
theorem ra_prim {U : State} {cq : ClassId} (at0 : ArrayType) (h : va_RA U cq (newarray.typeOf at0)) : U.vm.findClass ("[" ++ (newarray.typeOf at0).toString) = some cq := by
  cases at0 <;> exact h
theorem L_newa (hY : Aml G cA0 X cc own nL fr lo ce sl) {at0 : ArrayType} (harr : Cond.arrayClass (newarray.typeOf at0) ∈ tblG) (t0 : Nat) {cq : ClassId} (ht : (tyZ cA0)[t0]? = some (cq, newarray.typeOf at0)) {v0 : Int32} {n0 : Nat} {a0 : vp_A} (ha : ∀ cA : ClassId, vp_cell cA a0 = arrV cA n0 (fun _ => defaultValue (newarray.typeOf at0))) (hn : ¬ v0 < 0) (hN : v0.toNatClampNeg = n0) (hbytes : n0 * componentBytes (newarray.typeOf at0) ≤ 536870912) (hce : kc + 1 ≤ ce) (hsl : js + n0 ≤ sl) (d : decode cc pc = .ok (.newarray at0, 2)) (kk : ∀ q : Nat, Vl G X nL (kc + 1) (js + n0) (ws ++ [(q, .inl (cq, a0))]) (pc + 2) lv (.ref q :: st)) : Vl G X nL kc js ws pc lv (.int v0 :: st) := by
  obtain ⟨p, l, e, R, s, m, args, below, meth, c, cells, slots, Q, A⟩ := X
  obtain ⟨hx, hb, hml, hown, hts, hK, hA, ⟨r1, r2, r3, r4⟩, -, -⟩ := hY
  refine fun H locs ls hP hD hS hl => va_newa hx hb (hts _ harr) rfl hK hP hD hS hA ha hn hN hbytes (Nat.le_trans hce r3) (Nat.le_trans hsl r4) d (fun q cA H1 hK1 hP1 hD1 hS1 => ?_)
  have e1 := ra_prim at0 (hK1.2 (tyZ cA0).length _ (by rw [List.getElem?_append_right (Nat.le_refl _), Nat.sub_self]; rfl)).2
  have e2 := ra_prim at0 (hK.2 t0 _ ht).2
  have e3 : cA = cq := Option.some.inj (e1.symm.trans e2)
  subst e3
  exact kk q H1 locs ls hP1 hD1 hS1 hl
theorem L_newq (hY : Aml G cA0 X cc own nL fr lo ce sl) {ix0 : Nat} (hlk : Cond.classLink own ix0 "BandAreas$Area" ∈ tblG) {v0 : Int32} {n0 : Nat} (hn : ¬ v0 < 0) (hN : v0.toNatClampNeg = n0) (hbytes : n0 * 4 ≤ 536870912) (hce : kc + 1 ≤ ce) (hsl : js + n0 ≤ sl) (d : decode cc pc = .ok (.anewarray ix0, 3)) (kk : ∀ q : Nat, Vl G X nL (kc + 1) (js + n0) (ws ++ [(q, .inl (cA0 4, n0, .inr (.inr (.inr (.inr (fun _ => none))))))]) (pc + 3) lv (.ref q :: st)) : Vl G X nL kc js ws pc lv (.int v0 :: st) := by
  obtain ⟨p, l, e, R, s, m, args, below, meth, c, cells, slots, Q, A⟩ := X
  obtain ⟨hx, hb, hml, hown, hts, hK, hA, ⟨r1, r2, r3, r4⟩, hAO, -⟩ := hY
  refine fun H locs ls hP hD hS hl => va_newq hx hb hown (hts _ hlk) hAO hK hP hD hS hA hn hN hbytes (Nat.le_trans hce r3) (Nat.le_trans hsl r4) d (fun q cA H1 hK1 hP1 hD1 hS1 => ?_)
  obtain ⟨-, -, -, -, -, e1⟩ := (hK1.2 (tyZ cA0).length _ (by rw [List.getElem?_append_right (Nat.le_refl _), Nat.sub_self]; rfl)).2
  obtain ⟨-, -, -, -, -, e2⟩ := (hK.2 4 _ (rfl : (tyZ cA0)[4]? = some (cA0 4, .object "BandAreas$Area"))).2
  have e3 : cA = cA0 4 := Option.some.inj (e1.symm.trans e2)
  subst e3
  exact kk q H1 locs ls hP1 hD1 hS1 hl
theorem L_get (hY : Aml G cA0 X cc own nL fr lo ce sl) {h0 ci : Nat} {fs : List Value} (ip : Nat) (he : ws[ip]? = some (h0, .inr (ci, fs))) {C : String} {T : u_T} {N : Nat} (hc : vwCl[ci]? = some (C, T, N)) (hin : ∀ w ∈ u_ws C T N, w ∈ tblG) (k0 : Nat) (hk : k0 < N) {ix0 : Nat} (hw : Cond.fieldLink own ix0 (T k0).1 (T k0).2.1 (T k0).2.2.1 ∈ tblG) {v : Value} (hv : fs[k0]? = some v) (d : decode cc pc = .ok (.getfield ix0, 3)) (kk : Vl G X nL kc js ws (pc + 3) lv (v :: st)) : Vl G X nL kc js ws pc lv (.ref h0 :: st) := by
  obtain ⟨p, l, e, R, s, m, args, below, meth, c, cells, slots, Q, A⟩ := X
  obtain ⟨hx, hb, hml, hown, hts, hK, hA, -, -, -⟩ := hY
  exact fun H locs ls hP hD hS hl => va_get hx hb hts hin hown hK hP ip he hc k0 hk (hts _ hw) (fun _ h => h) hv d (kk H locs ls hP hD hS hl)
theorem L_putF (hY : Aml G cA0 X cc own nL fr lo ce sl) (hI : IniX X) {h0 ci : Nat} {fs : List Value} {tl : va_W} {C : String} {T : u_T} {N : Nat} (hc : vwCl[ci]? = some (C, T, N)) (hin : ∀ w ∈ u_ws C T N, w ∈ tblG) (ty0 : Nat → FieldType) (hty : ∀ k, k < N → parseFieldDescriptor (T k).2.2.1 = some (ty0 k)) (hnm : ∀ a, a < N → ∀ b, b < N → a ≠ b → (T a).2.1 ≠ (T b).2.1) (k0 : Nat) (hk : k0 < N) {ix0 : Nat} (hw : Cond.fieldLink own ix0 (T k0).1 (T k0).2.1 (T k0).2.2.1 ∈ tblG) (hfin : (T k0).2.2.2 = true) (hdecl : (T k0).1 = own) {ty : FieldType} {v : Value} (hd : parseFieldDescriptor (T k0).2.2.1 = some ty) (hn : narrow ty v = v) (hfit : fits ty v = true) (hl0 : k0 < fs.length) (d : decode cc pc = .ok (.putfield ix0, 3)) (kk : Vl G X nL kc js ((h0, .inr (ci, fs.set k0 v)) :: tl) (pc + 3) lv st) : Vl G X nL kc js ((h0, .inr (ci, fs)) :: tl) pc lv (v :: .ref h0 :: st) := by
  obtain ⟨p, l, e, R, s, m, args, below, meth, c, cells, slots, Q, A⟩ := X
  obtain ⟨hx, hb, hml, hown, hts, hK, hA, -, -, -⟩ := hY
  exact fun H locs ls hP hD hS hl => va_putF hx hb hts hin ty0 hty hnm hown hK hP hD hS 0 rfl hc k0 hk (hts _ hw) (fun _ h => h) hfin hI hdecl hd hn hfit hl0 d (fun H1 locs1 hP1 hD1 hS1 => kk H1 locs1 ls hP1 hD1 hS1 hl)
theorem L_put (hY : Aml G cA0 X cc own nL fr lo ce sl) {h0 ci : Nat} {fs : List Value} {tl : va_W} {C : String} {T : u_T} {N : Nat} (hc : vwCl[ci]? = some (C, T, N)) (hin : ∀ w ∈ u_ws C T N, w ∈ tblG) (ty0 : Nat → FieldType) (hty : ∀ k, k < N → parseFieldDescriptor (T k).2.2.1 = some (ty0 k)) (hnm : ∀ a, a < N → ∀ b, b < N → a ≠ b → (T a).2.1 ≠ (T b).2.1) (k0 : Nat) (hk : k0 < N) {ix0 : Nat} (hw : Cond.fieldLink own ix0 (T k0).1 (T k0).2.1 (T k0).2.2.1 ∈ tblG) (hfin : (T k0).2.2.2 = false) {ty : FieldType} {v : Value} (hd : parseFieldDescriptor (T k0).2.2.1 = some ty) (hn : narrow ty v = v) (hfit : fits ty v = true) (hl0 : k0 < fs.length) (d : decode cc pc = .ok (.putfield ix0, 3)) (kk : Vl G X nL kc js ((h0, .inr (ci, fs.set k0 v)) :: tl) (pc + 3) lv st) : Vl G X nL kc js ((h0, .inr (ci, fs)) :: tl) pc lv (v :: .ref h0 :: st) := by
  obtain ⟨p, l, e, R, s, m, args, below, meth, c, cells, slots, Q, A⟩ := X
  obtain ⟨hx, hb, hml, hown, hts, hK, hA, -, -, -⟩ := hY
  exact fun H locs ls hP hD hS hl => va_put hx hb hts hin ty0 hty hnm hown hK hP hD hS 0 rfl hc k0 hk (hts _ hw) (fun _ h => h) hfin hd hn hfit hl0 d (fun H1 locs1 hP1 hD1 hS1 => kk H1 locs1 ls hP1 hD1 hS1 hl)
theorem L_new (hY : Aml G cA0 X cc own nL fr lo ce sl) {C : String} {T : u_T} {N ci ix0 : Nat} (hlk : Cond.classLink own ix0 C ∈ tblG) (hit : Cond.instantiable C N ∈ tblG) (hini : Cond.initialized C ∈ tblG) (hin : ∀ w ∈ u_ws C T N, w ∈ tblG) (ty0 : Nat → FieldType) (hty : ∀ k, k < N → parseFieldDescriptor (T k).2.2.1 = some (ty0 k)) (hc : vwCl[ci]? = some (C, T, N)) {fs : List Value} (hfs : ∀ j, j < N → defaultValue (ty0 j) = vp_V fs j) (hce : kc + 1 ≤ ce) (hsl : js + N ≤ sl) (d : decode cc pc = .ok (.new ix0, 3)) (kk : ∀ q : Nat, Vl G X nL (kc + 1) (js + N) (ws ++ [(q, .inr (ci, fs))]) (pc + 3) lv (.ref q :: st)) : Vl G X nL kc js ws pc lv st := by
  obtain ⟨p, l, e, R, s, m, args, below, meth, c, cells, slots, Q, A⟩ := X
  obtain ⟨hx, hb, hml, hown, hts, hK, hA, ⟨r1, r2, r3, r4⟩, -, -⟩ := hY
  exact fun H locs ls hP hD hS hl => va_new hx hb hts hin ty0 hty hown (hts _ hlk) (hts _ hit) (hts _ hini) hK hP hD hS hA hc hfs (Nat.le_trans hce r3) (Nat.le_trans hsl r4) d (fun q H1 hP1 hD1 hS1 => kk q H1 locs ls hP1 hD1 hS1 hl)
theorem L_aast (hY : Aml G cA0 X cc own nL fr lo ce sl) {qa qv n0 i : Nat} {vs : List Value} {f : Nat → Option Nat} (ip : Nat) (he : ws[ip]? = some (qa, .inl (cA0 4, n0, .inr (.inr (.inr (.inr f)))))) (hv : (qv, .inr (0, vs)) ∈ ws) {x : Int32} (hx0 : x = nI i) (hi : i < n0) (hN : n0 < 2 ^ 31) (d : decode cc pc = .ok (.aastore, 1)) (kk : Vl G X nL kc js (ws.set ip (qa, .inl (cA0 4, n0, .inr (.inr (.inr (.inr (va_up f i (some qv)))))))) (pc + 1) lv st) : Vl G X nL kc js ws pc lv (.ref qv :: .int x :: .ref qa :: st) := by
  obtain ⟨p, l, e, R, s, m, args, below, meth, c, cells, slots, Q, A⟩ := X
  obtain ⟨hx, hb, hml, hown, hts, hK, hA, -, -, -⟩ := hY
  subst hx0
  obtain ⟨qk, hqk⟩ := List.getElem?_of_mem hv
  refine fun H locs ls hP hD hS hl => va_astq hx hb hK hP hD hS ip 4 qk 0 (r := (RX0, TX0, 2)) (f := f) he rfl hqk rfl (vp_in_nI hi hN) d (fun H1 locs1 hP1 hD1 hS1 => ?_)
  rw [nI_clamp (Nat.lt_trans hi hN)] at hP1 hD1
  exact kk H1 locs1 ls hP1 hD1 hS1 hl
theorem L_cast (hY : Aml G cA0 X cc own nL fr lo ce sl) {qa n0 i : Nat} {f : Nat → Int32} (ip : Nat) (he : ws[ip]? = some (qa, .inl (cA0 1, n0, .inl f))) {x y : Int32} (hx0 : x = nI i) (hi : i < n0) (hN : n0 < 2 ^ 31) (hy : vp_nar .char y = y) (d : decode cc pc = .ok (.castore, 1)) (kk : Vl G X nL kc js (ws.set ip (qa, .inl (cA0 1, n0, .inl (upd f i y)))) (pc + 1) lv st) : Vl G X nL kc js ws pc lv (.int y :: .int x :: .ref qa :: st) := by
  obtain ⟨p, l, e, R, s, m, args, below, meth, c, cells, slots, Q, A⟩ := X
  obtain ⟨hx, hb, hml, hown, hts, hK, hA, -, -, -⟩ := hY
  subst hx0
  refine fun H locs ls hP hD hS hl => va_cast hx hb hK hP hD hS ip 1 (f := f) he rfl (vp_in_nI hi hN) d (fun H1 locs1 hP1 hD1 hS1 => ?_)
  rw [nI_clamp (Nat.lt_trans hi hN), hy] at hP1 hD1
  exact kk H1 locs1 ls hP1 hD1 hS1 hl
end LRULES
/-! contracts of constructors -/
def PcN (G : va_G) (cA0 : Nat → ClassId) (ci : Nat) (fs : List Value) (h0 sz : Nat) : State → Prop := fun U => U.heap.size = sz ∧ va_P G vwCl [(h0, .inr (ci, fs))] U.heap ∧ va_K G vwCl (tyZ cA0) U ∧ va_AO RX0 U ∧ va_Nw (.methodLinkNest RX5 46 yX3_init RX5) U
def QcN (G : va_G) (ci : Nat) (fs : List Value) (h0 sz : Nat) (Wo : Nat → va_W → Prop) : Array Value → State → Outcome → State → Prop := va_Qv (Wo h0) (fun w t => va_P G vwCl w t.heap ∧ va_D (va_A [(h0, .inr (ci, fs))] sz) w) (va_A [(h0, .inr (ci, fs))] sz)
def ConN (G : va_G) (cA0 : Nat → ClassId) (l : Launch) (y : MethodName) (cy : ByteArray) (mL f2 l2 mc ms ci : Nat) (fs : List Value) (Wo : Nat → va_W → Prop) : Prop := ∀ h0 sz : Nat, Met l y (.code y cy mL none :: tblG) { frames := f2, cells := mc, slots := ms, locals := l2 } (va_Pc [.ref h0] (PcN G cA0 ci fs h0 sz)) (QcN G ci fs h0 sz Wo) mc ms (va_A [(h0, .inr (ci, fs))] sz)
def RetN (G : va_G) (X : Cx) (ci : Nat) (fs : List Value) (h0 mc ms : Nat) (Wo : Nat → va_W → Prop) : Prop := match X with
  | (_, _, _, _, s, _, args, below, meth, _, _, _, Q, A) => meth.sig.returnType = none ∧ meth.locks = false ∧ Q = MQ below (QcN G ci fs h0 s.heap.size Wo) args s mc ms A ∧ A = va_A [(h0, .inr (ci, fs))] s.heap.size
theorem ConN_of {G : va_G} {cA0 : Nat → ClassId} {l : Launch} {y : MethodName} {cy : ByteArray} {mL f2 l2 mc ms ci : Nat} {fs : List Value} {Wo : Nat → va_W → Prop} (hy : plainName y.cls = true) (hy1 : y.name = "<init>") (hm : 1 ≤ mL)
    (h : ∀ (h0 : Nat) (X : Cx), Aml G cA0 X cy y.cls mL f2 l2 mc ms → IniX X → RetN G X ci fs h0 mc ms Wo → Xl X = l → Vl G X mL 0 0 [(h0, .inr (ci, fs))] 0 [(0, some (.ref h0))] []) : ConN G cA0 l y cy mL f2 l2 mc ms ci fs Wo := by
  intro h0 sz
  refine Met.ofW (cc := cy) (maxL := mL) (ret := none) hy rfl ?_
  intro p e s m args below meth c s₁ B hml hv
  obtain ⟨rfl, hsz, hP, hK, hAO, hNw⟩ := hv
  subst hsz
  have hl := lv_entry [.ref h0] (n := mL) hm
  rw [lg_entry_eq]
  have hD : va_D (va_A [(h0, .inr (ci, fs))] s.heap.size) [(h0, .inr (ci, fs))] := by
    refine ⟨fun i j pq rq hi hj _ => ?_, fun k q hk => va_A.in hk⟩
    have h1 : i < 1 := (List.getElem?_eq_some_iff.mp hi).1
    have h2 : j < 1 := (List.getElem?_eq_some_iff.mp hj).1
    omega
  have hin : meth.name = "<init>" := (name_of_methodNamed B.named B.method).1.trans hy1
  exact h h0 (p, l, e, { frames := f2, cells := mc, slots := ms, locals := l2 }, s, m, [Value.ref h0].toArray, below, meth, c, 0, 0, _, va_A [(h0, .inr (ci, fs))] s.heap.size) ⟨B.exec, B.bytes, hml, findClass_of_methodNamed B.named, fun w hw => atoms_spec (ws := .code y cy mL none :: tblG) B.pre w (List.mem_cons_of_mem _ hw), hK, fun q hq => Or.inr hq, ⟨Nat.le_refl _, Nat.le_refl _, Nat.le_refl _, Nat.le_refl _⟩, hAO, hNw⟩ hin ⟨B.returns, B.notSynchronized, rfl, rfl⟩ rfl s.heap [] _ hP hD va_S.rf (lvOK_of hl)
section LCALL
variable {G : va_G} {cA0 : Nat → ClassId} {X : Cx} {cc : ByteArray} {own : String} {nL fr lo ce sl kc js : Nat} {ws : va_W} {pc : Nat} {lv : Lv} {st : List Value}
theorem L_vret (hY : Aml G cA0 X cc own nL fr lo ce sl) {ci : Nat} {fs : List Value} {h0 : Nat} {Wo : Nat → va_W → Prop} (hR : RetN G X ci fs h0 kc js Wo) (hw : Wo h0 ws) (d : decode cc pc = .ok (.return_, 1)) : Vl G X nL kc js ws pc lv [] := by
  obtain ⟨p, l, e, R, s, m, args, below, meth, c, cells, slots, Q, A⟩ := X
  obtain ⟨hx, hb, hml, hown, hts, hK, hA, -, -, -⟩ := hY
  obtain ⟨h1, h2, rfl, rfl⟩ := hR
  exact fun H locs ls hP hD hS hl => W.vret hx hb h1 (fun t ht hW => ⟨⟨ws, rfl, hw, by rw [ht]; exact hP, hD⟩, hS.F ht⟩) hS.2.2 d h2
theorem grown {A : Nat → Prop} {q : Nat} {e : va_E} {H H1 : Heap} {w : va_W} (hP : va_P G vwCl (ws ++ [(q, e)]) H) (hD : va_D A (ws ++ [(q, e)])) (hF : ∀ z, va_A [(q, e)] H.size z → A z) (hk : ∀ z : Nat, z < H.size → ¬ va_A [(q, e)] H.size z → H1[z]? = H[z]?) (hP1 : va_P G vwCl w H1) (hD1 : va_D (va_A [(q, e)] H.size) w) : va_P G vwCl (ws ++ w) H1 ∧ va_D A (ws ++ w) := by
  have hlf : ∀ (k : Nat) (z : Nat × va_E), ws[k]? = some z → (ws ++ [(q, e)])[k]? = some z := fun k z hz => by
    rw [List.getElem?_append_left (List.getElem?_eq_some_iff.mp hz).1]; exact hz
  have hno : ∀ (k : Nat) (z : Nat × va_E), ws[k]? = some z → z.1 < H.size ∧ ¬ va_A [(q, e)] H.size z.1 := by
    intro k z hz
    have h1 : z.1 < H.size := (hP k z (hlf k z hz)).lt
    refine ⟨h1, fun h2 => ?_⟩
    rcases h2 with ⟨k2, e2, h3⟩ | h3
    · have h4 : k2 < 1 := (List.getElem?_eq_some_iff.mp h3).1
      have h5 : k2 = 0 := by omega
      subst h5
      have h6 : q = z.1 := by cases h3; rfl
      have h7 := hD.1 k ws.length z (q, e) (hlf k z hz) (by simp) h6.symm
      have h8 := (List.getElem?_eq_some_iff.mp hz).1
      omega
    · omega
  have hPl : va_P G vwCl ws H1 := va_P.kept (H := H) (fun k z hz => hP k z (hlf k z hz)) (fun k z hz => hk z.1 (hno k z hz).1 (hno k z hz).2)
  have hDl : va_D A ws := ⟨fun i j z r hi hj hzr => hD.1 i j z r (hlf i z hi) (hlf j r hj) hzr, fun k z hz => hD.2 k z (hlf k z hz)⟩
  refine ⟨hPl.app hP1, hDl.app (hD1.weaken (fun k z hz => hF z.1)) (fun i j z r hi hj hzr => ?_)⟩
  exact (hno i z hi).2 (hzr ▸ hD1.2 j r hj)
theorem pcn_blind {ci : Nat} {fs : List Value} {h0 sz : Nat} {asq : List Value} : FrameBlind (va_Pc asq (PcN G cA0 ci fs h0 sz)) := by
  intro a U g mk q
  obtain ⟨q0, q1, qP, qK, qA, qN⟩ := q
  exact ⟨q0, q1, qP, va_K.moved (u := U) (U := U.calling g mk a) (Vm.Alike.refl U.vm) qK, va_AO.moved (u := U) (U := U.calling g mk a) (Vm.Alike.refl U.vm) qA, va_Nw.same (u := U) rfl rfl qN⟩
theorem L_cI (hY : Aml G cA0 X cc own nL fr lo ce sl) {y : MethodName} {cy : ByteArray} {mL f2 l2 mc ms ci ix0 q : Nat} {fs : List Value} {Wo : Nat → va_W → Prop} (hM : ConN G cA0 (Xl X) y cy mL f2 l2 mc ms ci fs Wo) (hlk : Cond.methodLink own ix0 y ∈ tblG) (hit : Cond.instanceMethod y ∈ tblG) (hini : Cond.initialized y.cls ∈ tblG) (hcd : Cond.code y cy mL none ∈ tblG) (hy1 : y.name = "<init>") (hd : y.cls ≠ "java/lang/invoke/MethodHandle" ∧ y.cls ≠ "java/lang/invoke/VarHandle" ∧ (parseMethodDescriptor y.desc).map (fun d => d.parameters.length) = some 0) (hfr : f2 + 1 ≤ fr) (hlo : 8 + (mL + 11) + l2 ≤ lo) (hce : kc + mc ≤ ce) (hsl : js + ms ≤ sl) (hsm : (st.map fun v => v.category).sum ≤ 8) (d : decode cc pc = .ok (.invokespecial ix0, 3)) (kk : ∀ w : va_W, Wo q w → Vl G X nL (kc + mc) (js + ms) (ws ++ w) (pc + 3) lv st) : Vl G X nL kc js (ws ++ [(q, .inr (ci, fs))]) pc lv (.ref q :: st) := by
  obtain ⟨p, l, e, R, s, m, args, below, meth, c, cells, slots, Q, A⟩ := X
  obtain ⟨hx, hb, hml, hown, hts, hK, hA, ⟨r1, r2, r3, r4⟩, hAO, hNw⟩ := hY
  intro H locs ls hP hD hS hl
  have hPc : va_P G vwCl [(q, .inr (ci, fs))] H := hP.sub [ws.length] (by simp)
  have hFc : ∀ z, va_A [(q, .inr (ci, fs))] H.size z → A z := va_free hD hS hA [ws.length] (by simp)
  refine va_callv (va_runI (As := []) (rest := st) (Ts := tblG) ⟨hx, hb, hml, hown, hts⟩ (hM q H.size) (cwI 0 hts (goodTbl hcd) rfl rfl rfl (hts _ hini) (hts _ hlk) (hts _ hit) hy1 hd ⟨Nat.le_trans hfr r1, Nat.le_trans hlo r2⟩) ⟨pcn_blind, fun U hU hW => ⟨rfl, by rw [hU], by rw [hU]; exact hPc, va_K.moved hW.alike hK, va_AO.moved hW.alike hAO, va_Nw.warmM hW hNw⟩⟩ rfl rfl hl.1 rfl (lv_room hsm) d ⟨Nat.le_trans hce r3, Nat.le_trans hsl r4⟩) hS (fun z _ h => hFc z h) hFc (fun w t H1 locs1 ht hvm hw hB hz1 hk1 hS1 => ?_)
  obtain ⟨hP1, hD1⟩ := hB
  rw [ht] at hP1
  obtain ⟨hP2, hD2⟩ := grown hP hD hFc hk1 hP1 hD1
  exact kk w hw H1 locs1 ls hP2 hD2 hS1 hl
theorem L_cN (hY : Aml G cA0 X cc own nL fr lo ce sl) {mL f2 l2 mc ms ci q : Nat} {cy : ByteArray} {fs : List Value} {Wo : Nat → va_W → Prop} (hM : ConN G cA0 (Xl X) yX3_init cy mL f2 l2 mc ms ci fs Wo) (hown5 : own = RX5) (hit : Cond.instanceMethod yX3_init ∈ tblG) (hini : Cond.initialized yX3_init.cls ∈ tblG) (hcd : Cond.code yX3_init cy mL none ∈ tblG) (hfr : f2 + 1 ≤ fr) (hlo : 8 + (mL + 11) + l2 ≤ lo) (hce : kc + mc ≤ ce) (hsl : js + ms ≤ sl) (hsm : (st.map fun v => v.category).sum ≤ 8) (d : decode cc pc = .ok (.invokespecial 46, 3)) (kk : ∀ w : va_W, Wo q w → Vl G X nL (kc + mc) (js + ms) (ws ++ w) (pc + 3) lv st) : Vl G X nL kc js (ws ++ [(q, .inr (ci, fs))]) pc lv (.ref q :: st) := by
  obtain ⟨p, l, e, R, s, m, args, below, meth, c, cells, slots, Q, A⟩ := X
  obtain ⟨hx, hb, hml, hown, hts, hK, hA, ⟨r1, r2, r3, r4⟩, hAO, hNw⟩ := hY
  subst hown5
  intro H locs ls hP hD hS hl
  have hPc : va_P G vwCl [(q, .inr (ci, fs))] H := hP.sub [ws.length] (by simp)
  have hFc : ∀ z, va_A [(q, .inr (ci, fs))] H.size z → A z := va_free hD hS hA [ws.length] (by simp)
  refine va_callv (va_runIN (As := []) (rest := st) (Ts := tblG) ⟨hx, hb, hml, hown, hts⟩ (hM q H.size) ⟨va_cnB 0 hts (goodTbl hcd) rfl rfl rfl hNw (hts _ hini) (by decide +kernel) ⟨Nat.le_trans hfr r1, Nat.le_trans hlo r2⟩, rfl, hts _ hit⟩ ⟨pcn_blind, fun U hU hW => ⟨rfl, by rw [hU], by rw [hU]; exact hPc, va_K.moved hW.alike hK, va_AO.moved hW.alike hAO, va_Nw.warmM hW hNw⟩⟩ rfl rfl hl.1 rfl (lv_room hsm) d ⟨Nat.le_trans hce r3, Nat.le_trans hsl r4⟩) hS (fun z _ h => hFc z h) hFc (fun w t H1 locs1 ht hvm hw hB hz1 hk1 hS1 => ?_)
  obtain ⟨hP1, hD1⟩ := hB
  rw [ht] at hP1
  obtain ⟨hP2, hD2⟩ := grown hP hD hFc hk1 hP1 hD1
  exact kk w hw H1 locs1 ls hP2 hD2 hS1 hl
end LCALL
