/-! THE CLAIM OUT OF ONE WALK OF THE LAW'S BODY. Your part is whole_start (and what it stands on); all else here is the same for every law, but numbers. -/
def R_law : String := "BandAreasLaw"
def lw_P (b : Addr) (xs : List Int32) (args : Array Value) (s : State) : Prop := args = #[.ref b] ∧ s.IntsAt b xs ∧ xs.length ≤ 3072 ∧ (Jvm.Cond.and given_1 narrow_1).before args s = true
def lw_Q (_ : Array Value) (s : State) (o : Outcome) (t : State) : Prop := o = .returned (some (.int 1)) ∧ Framed s o t [] 600000 7302250
def lw_Z (below : List Frame) (a : Array Value) (s : State) : State → Prop := fun t => ∃ o, t.status = .running ∧ Ended t below o ∧ lw_Q a s o t
/-- the law's own end, with 1 on the stack, nothing written that was there before, its room as the claim has it -/
theorem lw_ret {p : Program} {l : Launch} {e : Env} {s : State} {m : MethodId} {below : List Frame} {meth : Method} {c : Code} {b : Nat} (hx : p.tables.exec = Jvm.exec) (hb : c.code = code) (hr : meth.sig.returnType = ret) (hlocks : meth.locks = false) {pc : Nat} {H : Heap} {ls : Array Slot} (hdg : decode code pc = .ok (.ireturn, 1)) : W p l e room_1 s m #[Value.ref b] below meth c H [] 600000 7302250 (lw_Z below #[Value.ref b] s) (F0 m pc ls [.int 1]) := by
  intro T hT X
  obtain ⟨fs, hret, hrun, hended, hW, hframe⟩ := X.leave (v := some (.int 1)) (hlocks := hlocks) (fun h => by rw [hr] at h; cases h)
  have hmeth' : T.vm.method? m = some meth := X.method'
  refine ⟨T.setFrames fs, ?_, .returned (some (.int 1)), hrun, hended, rfl, ⟨_, rfl⟩, hW, hframe⟩
  jvm_step X.here [X.here.top, hx, hb, hdg, hmeth', hr, ret, narrow_b1]
  (try refine ⟨rfl, ?_⟩); (try refine ⟨rfl, ?_⟩)
  first | (intro acts; rw [hret _ acts rfl rfl rfl]) | rw [hret _ _ rfl rfl rfl]
  exact Steps.refl _
/-- what holds at the law's entry: the machine, the code, the tables' words (any of lw_tbl by 'hts w (by decide +kernel)'), the script of L ints xs at the cell b, what the Statement gives of the start (any of its parts by flat_of_before) -/
def lw_At (p : Program) (s : State) (m : MethodId) (meth : Method) (c : Code) (b L : Nat) (xs : Nat → Int32) : Prop :=
  p.tables.exec = Jvm.exec ∧ c.code = code ∧ meth.sig.returnType = ret ∧ c.maxLocals = 4 ∧ s.vm.findClass R_law = some m.cls ∧ (∀ w ∈ lw_tbl, w.before #[Value.ref b] s = true) ∧ va_X b L xs s s.heap ∧ b < s.heap.size ∧ meth.locks = false ∧ (Jvm.Cond.and given_1 narrow_1).before #[Value.ref b] s = true
theorem arr_K {args : Array Value} {s : State} (at0 : ArrayType) (h : (Cond.arrayClass (newarray.typeOf at0)).before args s = true) : ∃ cq : ClassId, ArrOfT s cq (newarray.typeOf at0) ∧ va_RA s cq (newarray.typeOf at0) := by
  obtain ⟨cq, kq, comp, h1, h2, h3⟩ := Cond.arrayClass_spec h
  exact ⟨cq, fun n z => ⟨fun k h => (by cases h), kq, h2, comp, h3⟩, by cases at0 <;> exact h1⟩
theorem arr_O {s : State} {C : String} (h : va_AO C s) : ∃ cq : ClassId, ArrOfT s cq (.object C) ∧ va_RA s cq (.object C) := by
  obtain ⟨comp, cq, kq, h1, h2, h3, h4, h5⟩ := Cond.arrayOver_spec h
  exact ⟨cq, fun n z => ⟨fun k h => (by cases h), kq, h3, comp, h4⟩, kq, comp, h3, h4, h1, h5⟩
def tStr : Term := .string "BandAreas$Script" 79
def tVal : Term := .field tStr "java/lang/String" "value" "[B"
theorem fl_0 : (Cond.exactly tStr "java/lang/String") ∈ flatC (Jvm.Cond.and given_1 narrow_1) ∧ (Cond.eq (.field tStr "java/lang/String" "coder" "B") (.int 0)) ∈ flatC (Jvm.Cond.and given_1 narrow_1) ∧ (Cond.arrayOf tVal .byte) ∈ flatC (Jvm.Cond.and given_1 narrow_1) ∧ (Cond.eq (.length tVal) (.int 72)) ∈ flatC (Jvm.Cond.and given_1 narrow_1) := by decide +kernel
theorem fl_1 : ∀ j : Nat, j < 72 → (Cond.eq (.elem tVal (.int (Int32.ofNat j))) (.int (wby.getD j 0))) ∈ flatC (Jvm.Cond.and given_1 narrow_1) := by decide +kernel
theorem fl_2 : (Cond.eq (.static "java/lang/String" "COMPACT_STRINGS" "Z") (.int 1)) ∈ flatC (Jvm.Cond.and given_1 narrow_1) ∧ (Cond.isRef (.static "jdk/internal/util/Preconditions" "SIOOBE_FORMATTER" "Ljava/util/function/BiFunction;")) ∈ flatC (Jvm.Cond.and given_1 narrow_1) := by decide +kernel
theorem wq_434 : Cond.methodLinkNest RX1 108 yX5_within RX5 ∈ lw_tbl := by decide +kernel
theorem wq_570 : Cond.methodLinkNest RX4 60 yX5_within RX5 ∈ lw_tbl := by decide +kernel
theorem wq_193 : Cond.methodLinkNest RX5 46 yX3_init RX5 ∈ lw_tbl := by decide +kernel
theorem wq_579 : Cond.stringRef RX4 79 wtx ∈ lw_tbl := by decide +kernel
theorem wq_589 : Cond.laysStatic "java/lang/String" "COMPACT_STRINGS" "Z" ∈ lw_tbl ∧ Cond.initialized "java/lang/String" ∈ lw_tbl := by decide +kernel
theorem wq_597 : Cond.laysStatic "jdk/internal/util/Preconditions" "SIOOBE_FORMATTER" "Ljava/util/function/BiFunction;" ∈ lw_tbl ∧ Cond.initialized "jdk/internal/util/Preconditions" ∈ lw_tbl := by decide +kernel
theorem wq_91 : Cond.arrayOver (.object RX0) ∈ lw_tbl := by decide +kernel
/-- what the start says of the String constant and the JDK's statics -/
theorem stc_0 {s : State} {b : Nat} {A : Nat → Prop} (hts : ∀ w ∈ lw_tbl, w.before #[Value.ref b] s = true) (hgv : (Jvm.Cond.and given_1 narrow_1).before #[Value.ref b] s = true) (hA : ∀ z : Nat, z < s.heap.size → ¬ A z) : ∃ sK sV : Nat, ∀ (ax : (Nat × Fin 11) → Nat) (G : va_G) (cA0 : Nat → ClassId), Stc (ax, G, cA0, sK, sV) A s s.heap := by
  have hfl := flat_of_before _ hgv
  obtain ⟨adK, adV, hS, hEv⟩ := vk_Sof (args := #[Value.ref b]) (s := s) (N := 1) (tm := fun _ => tStr) (len := [72]) (byt := [wby]) (A := A) (fun i hi => by rw [show i = 0 by omega]; decide) (fun i hi => hfl _ fl_0.1) (fun i hi => hfl _ fl_0.2.1) (fun i hi => hfl _ fl_0.2.2.1) (fun i hi => by rw [show i = 0 by omega]; exact hfl _ fl_0.2.2.2) (fun i hi j hj => by
    rw [show i = 0 by omega] at hj ⊢
    exact hfl _ (fl_1 j hj)) (fun i j hi hj hne => absurd (show i = j by omega) hne) hA
  refine ⟨adK 0, adV 0, fun ax G cA0 => ⟨va_Nw.of rfl (hts _ wq_434), va_Nw.of rfl (hts _ wq_570), vk_R.of (hts _ wq_579) (hEv 0 (by decide)), ⟨fun i hi => ?_, fun i j hi hj _ => by omega⟩, va_Zof (hts _ wq_589.1) (hts _ wq_589.2) (va_eqt (hfl _ fl_2.1)) hA, va_Zqof (hts _ wq_597.1) (hts _ wq_597.2) (hfl _ fl_2.2) hA⟩⟩
  have h3 := hS.1 0 (by decide)
  rw [show i = 0 by omega]
  exact h3
def adrQ (h0 ra rt m0 q1 q2 q3 q4 q5 q6 q7 : Nat) (ar aw ae ad : Nat → Nat) : Nat × Fin 11 → Nat := fun q => match q.1 with
  | 0 => h0
  | 1 => ar q.2.val
  | 2 => aw q.2.val
  | 3 => ae q.2.val
  | 4 => if q.2.val = 0 then ra else rt
  | 20 => m0
  | 21 => q1
  | 22 => q2
  | 23 => q3
  | 24 => q4
  | 25 => q5
  | 26 => q6
  | 27 => q7
  | 5 => ad 5
  | 6 => ad 6
  | 7 => ad 7
  | 8 => ad 8
  | 9 => ad 9
  | 10 => ad 10
  | 11 => ad 11
  | 12 => ad 12
  | 13 => ad 13
  | 14 => ad 14
  | 15 => ad 15
  | 16 => ad 16
  | 17 => ad 17
  | 18 => ad 18
  | 19 => ad 19
  | t => ad t
def D00 : Dt := (fun t => if t = 27 then wdF 54 else fun _ => 0, fun _ _ _ => 0, pl0)
set_option maxRecDepth 100000 in
set_option maxHeartbeats 4000000 in
theorem ws_00 {G : va_G} {cA0 : Nat → ClassId} {sK sV h0 ra rt m0 q1 q2 q3 q4 q5 q6 q7 : Nat} {ar aw ae ad : Nat → Nat} : wX5 cA0 h0 ra rt ar aw ae ad ++ wX6 cA0 m0 q1 q2 q3 q4 q5 q6 q7 = wsD (adrQ h0 ra rt m0 q1 q2 q3 q4 q5 q6 q7 ar aw ae ad, G, cA0, sK, sV) D00 := rfl
theorem B_00 : Bth D00 sg0 := Bth0 (pl0_W rfl) (fun _ _ => rfl) (fun _ _ => rfl) (fun _ _ => rfl) rfl rfl (fun _ => rfl) (fun _ _ => rfl) rfl rfl (fun k hk => if_pos hk)
theorem wf_00 {E : Le} {D : Dt} {A : Nat → Prop} (hD : va_D A (wsD E D)) : Wf E ∧ ∀ q ∈ ids, A (E.1 q) := by
  refine ⟨fun i j q r hi hj hqr => hD.1 i j _ _ (wsD_get hi) (wsD_get hj) hqr, fun q hq => ?_⟩
  obtain ⟨k, hk⟩ := List.getElem?_of_mem hq
  exact hD.2 k _ (wsD_get hk)
