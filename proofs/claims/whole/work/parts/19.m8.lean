theorem tb_shl1 (v : Int64) (i : Nat) : tb (v <<< ((oI 1).toInt64 &&& 63)) i = (decide (i < 64) && decide (1 ≤ i) && tb v (i - 1)) := tb_shl v (k := 1) (by decide) i
theorem tb_shl59 (v : Int64) (i : Nat) : tb (v <<< ((oI 59).toInt64 &&& 63)) i = (decide (i < 64) && decide (59 ≤ i) && tb v (i - 59)) := tb_shl v (k := 59) (by decide) i
theorem tb_sshr1 (v : Int64) {i : Nat} (h : i < 63) : tb (v >>> ((oI 1).toInt64 &&& 63)) i = tb v (1 + i) := tb_sshr v (k := 1) (by decide) (by omega)
theorem tb_sshr59 (v : Int64) {i : Nat} (h : i < 5) : tb (v >>> ((oI 59).toInt64 &&& 63)) i = tb v (59 + i) := tb_sshr v (k := 59) (by decide) (by omega)
theorem tb_ushr1 (v : Int64) (i : Nat) : tb (v.toUInt64 >>> ((oI 1).toInt64.toUInt64 &&& Int64.toUInt64 63)).toInt64 i = tb v (1 + i) := tb_ushr v (k := 1) (by decide) i
theorem tb_ushr59 (v : Int64) (i : Nat) : tb (v.toUInt64 >>> ((oI 59).toInt64.toUInt64 &&& Int64.toUInt64 63)).toInt64 i = tb v (59 + i) := tb_ushr v (k := 59) (by decide) i
/-- an arithmetic shift of a number of sixty bits -/
theorem tb_sshr60 {v : Int64} (hv : b60 v) {k : Nat} (hk : k < 60) (i : Nat) : tb (v >>> ((oI (k : Int)).toInt64 &&& 63)) i = tb v (k + i) := by
  by_cases h : k + i < 64
  · exact tb_sshr v (by omega) h
  · rw [hv (k + i) (by omega)]
    unfold tb
    rw [shr_bv v (by omega), BitVec.getLsbD_sshiftRight]
    by_cases h2 : i < 64
    · have hm : v.toBitVec.msb = false := by
        rw [BitVec.msb_eq_getLsbD_last]
        exact hv 63 (by decide)
      rw [hm]
      simp
      omega
    · simp; omega
abbrev ALc : Int64 := 1152921504606846975
def upA (u : Int64) : Int64 := (u <<< ((oI 1).toInt64 &&& 63)) &&& ALc
def upB (u v : Int64) : Int64 := ((v <<< ((oI 1).toInt64 &&& 63)) ||| (u >>> ((oI 59).toInt64 &&& 63))) &&& ALc
def dnA (u v : Int64) : Int64 := (u >>> ((oI 1).toInt64 &&& 63)) ||| ((v &&& 1) <<< ((oI 59).toInt64 &&& 63))
def dnB (v : Int64) : Int64 := v >>> ((oI 1).toInt64 &&& 63)
/-- a row as cells: i from -1 to 120 -/
def rwC (u v : Int64) (i : Nat) : Bool := if i < 60 then tb u i else if i < 120 then tb v (i - 60) else false
theorem upA_tb (u : Int64) {k : Nat} (hk : k < 60) : tb (upA u) k = (decide (1 ≤ k) && tb u (k - 1)) := by
  rw [upA, tb_and, tb_all, tb_shl1, decide_eq_true hk, decide_eq_true (by omega : k < 64), Bool.and_true, Bool.true_and]
theorem upB_tb {u v : Int64} (hu : b60 u) {k : Nat} (hk : k < 60) : tb (upB u v) k = if k = 0 then tb u 59 else tb v (k - 1) := by
  rw [upB, tb_and, tb_all, tb_or, tb_shl1, decide_eq_true hk, decide_eq_true (by omega : k < 64), Bool.and_true, Bool.true_and]
  have e : tb (u >>> ((oI 59).toInt64 &&& 63)) k = tb u (59 + k) := tb_sshr60 hu (k := 59) (by decide) k
  rw [e]
  by_cases h : k = 0
  · subst h; rfl
  · rw [if_neg h, hu (59 + k) (by omega), Bool.or_false, decide_eq_true (by omega), Bool.true_and]
theorem dnA_tb {u v : Int64} (hu : b60 u) {k : Nat} (hk : k < 60) : tb (dnA u v) k = if k = 59 then tb v 0 else tb u (k + 1) := by
  rw [dnA, tb_or, tb_shl59, tb_sshr1 u (by omega), tb_and, tb_1]
  by_cases h : k = 59
  · subst h
    rw [hu 60 (by omega), if_pos rfl]
    simp
  · rw [if_neg h, decide_eq_false (by omega : ¬ 59 ≤ k), Bool.and_false, Bool.false_and, Bool.or_false, Nat.add_comm]
theorem dnB_tb (v : Int64) {k : Nat} (hk : k < 60) : tb (dnB v) k = tb v (k + 1) := by
  rw [dnB, tb_sshr1 v (by omega), Nat.add_comm]
theorem upA_60 (u : Int64) : b60 (upA u) := b60_all _
theorem upB_60 (u v : Int64) : b60 (upB u v) := b60_all _
theorem dnA_60 {u v : Int64} (hu : b60 u) : b60 (dnA u v) := by
  intro k hk
  rw [dnA, tb_or, tb_shl59, tb_and, tb_1]
  have e : tb (u >>> ((oI 1).toInt64 &&& 63)) k = tb u (1 + k) := tb_sshr60 hu (k := 1) (by decide) k
  rw [e, hu (1 + k) (by omega), decide_eq_false (by omega : ¬ k - 59 = 0), Bool.and_false, Bool.and_false, Bool.or_false]
theorem dnB_60 {v : Int64} (hv : b60 v) : b60 (dnB v) := by
  intro k hk
  have e : tb (v >>> ((oI 1).toInt64 &&& 63)) k = tb v (1 + k) := tb_sshr60 hv (k := 1) (by decide) k
  rw [dnB, e, hv (1 + k) (by omega)]
def accL (m : Bool) (f g : Nat → Int64) : Nat → Int64
  | 0 => if m then 0 else ALc
  | n + 1 => if m then ((accL m f g n ||| f n) ||| upA (f n)) ||| dnA (f n) (g n) else ((accL m f g n &&& f n) &&& upA (f n)) &&& dnA (f n) (g n)
def accR (m : Bool) (f g : Nat → Int64) : Nat → Int64
  | 0 => if m then 0 else ALc
  | n + 1 => if m then ((accR m f g n ||| g n) ||| upB (f n) (g n)) ||| dnB (g n) else ((accR m f g n &&& g n) &&& upB (f n) (g n)) &&& dnB (g n)
/-- rows y - 1, y, y + 1 of area 6 (beyond: none) -/
def rA (s : Nat → Int64) (v n : Nat) : Int64 := if inB ((v : Int) - 61 + n) (-60) 59 then s (1440 + 2 * (v + n - 1)) else 0
def rB (s : Nat → Int64) (v n : Nat) : Int64 := if inB ((v : Int) - 61 + n) (-60) 59 then s (1440 + 2 * (v + n - 1) + 1) else 0
def stpL (m : Bool) (s : Nat → Int64) (k : Nat) : Int64 := if k % 2 = 0 then accL m (rA s (k / 2)) (rB s (k / 2)) 3 else accR m (rA s (k / 2)) (rB s (k / 2)) 3
theorem c_X6_step {E : Le} {l : Launch} {D : Dt} {m : Bool} : ConV E l yX6_step cX6_step 20 none 2 [.ref (E.1 (20, 0)), .int (bI m)] D (lU D 21 0 (blk (blk (D.2.1 21 0) 6 (fun i => D.2.1 21 0 (240 * 5 + i)) 240) 5 (stpL m (blk (D.2.1 21 0) 6 (fun i => D.2.1 21 0 (240 * 5 + i)) 240)) (2 * 120))) := by
  refine Con_of (by decide) (Nat.le_of_ble_eq_true rfl) ?_
  intro X hX hR hl; subst hl
  obtain ⟨s6, hs6⟩ : ∃ q, q = (blk (D.2.1 21 0) 6 (fun i => D.2.1 21 0 (240 * 5 + i)) 240) := ⟨_, rfl⟩
  have outer : ∀ (k v : Nat) (D1 : Dt), v ≤ 120 → D1 = lU D 21 0 (blk s6 5 (stpL m s6) (2 * v)) → 120 - v < k → Vw E X 20 D1 10 [(0, some (.ref (E.1 (20, 0)))), (1, some (.int (bI m))), (2, some (.int (oI ((v : Int) - 60))))] [] := by
    intro k
    induction k with
    | zero => intro v D1 g1 e1 g4; omega
    | succ k ihO =>
      intro v D1 g1 e1 g4
      have inner : v < 120 → ∀ (k n : Nat), n ≤ 3 → 3 - n < k → Vw E X 20 D1 36 [(0, some (.ref (E.1 (20, 0)))), (1, some (.int (bI m))), (2, some (.int (oI ((v : Int) - 60)))), (3, some (.long (accL m (rA s6 v) (rB s6 v) n))), (5, some (.long (accR m (rA s6 v) (rB s6 v) n))), (7, some (.int (oI ((v : Int) - 61 + (n : Int)))))] [] := by
        intro hv k
        induction k with
        | zero => intro n g1 g4; omega
        | succ k ih =>
          intro n g1 g4
          refine V_iload (pc := 36) hX rfl dX6_step_36 ?_
          refine V_iload_n (pc := 38) (j := 2) hX 2 rfl rfl dX6_step_38 ?_
          refine V_iconst (pc := 39) (z := 1) hX (oI 1) rfl dX6_step_39 ?_
          refine Z_iadd (pc := 40) hX dX6_step_40 ?_
          refine Z_icmp_gt (pc := 41) (tgt := 225) hX (by omega) (by omega) dX6_step_41 (by decide) (fun h41 => ?_) (fun h41 => ?_)
          · have e : n = 3 := by omega
            subst e
            refine V_aload_n (pc := 225) (j := 0) hX 0 rfl rfl dX6_step_225 ?_
            refine gf_X6_7 (pc := 226) hX dX6_step_226 ?_
            refine V_sipush (pc := 229) (z := 1200) hX (oI 1200) (by decide) dX6_step_229 ?_
            refine V_iconst (pc := 232) (z := 2) hX (oI 2) rfl dX6_step_232 ?_
            refine V_iload_n (pc := 233) (j := 2) hX 2 rfl rfl dX6_step_233 ?_
            refine V_bipush (pc := 234) (z := (-60)) hX (oI (-60)) (by decide) dX6_step_234 ?_
            refine Z_isub (pc := 236) hX dX6_step_236 ?_
            refine Z_imul (pc := 237) hX dX6_step_237 ?_
            refine Z_iadd (pc := 238) hX dX6_step_238 ?_
            refine V_lload_n (pc := 239) (j := 3) hX 3 rfl rfl dX6_step_239 ?_
            refine zs_21 (pc := 240) hX (240 * 5 + 2 * v) (by omega) (by omega) dX6_step_240 ?_
            refine V_aload_n (pc := 241) (j := 0) hX 0 rfl rfl dX6_step_241 ?_
            refine gf_X6_7 (pc := 242) hX dX6_step_242 ?_
            refine V_sipush (pc := 245) (z := 1200) hX (oI 1200) (by decide) dX6_step_245 ?_
            refine V_iconst (pc := 248) (z := 2) hX (oI 2) rfl dX6_step_248 ?_
            refine V_iload_n (pc := 249) (j := 2) hX 2 rfl rfl dX6_step_249 ?_
            refine V_bipush (pc := 250) (z := (-60)) hX (oI (-60)) (by decide) dX6_step_250 ?_
            refine Z_isub (pc := 252) hX dX6_step_252 ?_
            refine Z_imul (pc := 253) hX dX6_step_253 ?_
            refine Z_iadd (pc := 254) hX dX6_step_254 ?_
            refine V_iconst (pc := 255) (z := 1) hX (oI 1) rfl dX6_step_255 ?_
            refine Z_iadd (pc := 256) hX dX6_step_256 ?_
            refine V_lload (pc := 257) hX rfl dX6_step_257 ?_
            refine zs_21 (pc := 259) hX (240 * 5 + (2 * v + 1)) (by omega) (by omega) dX6_step_259 ?_
            refine Z_iinc (pc := 260) hX 1 rfl rfl dX6_step_260 ?_
            refine V_goto (pc := 263) (off := (-253)) (tgt := 10) hX (by decide) dX6_step_263 ?_
            refine V_cut [(0, some (.ref (E.1 (20, 0)))), (1, some (.int (bI m))), (2, some (.int (oI (((v + 1 : Nat) : Int) - 60))))] ⟨rfl, rfl, congrArg (fun q => some (Value.int (oI q))) (by omega), trivial⟩ ?_
            refine ihO (v + 1) _ (by omega) ?_ (by omega)
            have x1 : accL m (rA s6 v) (rB s6 v) 3 = stpL m s6 (2 * v) := by rw [stpL, if_pos (by omega), show 2 * v / 2 = v by omega]
            have x2 : accR m (rA s6 v) (rB s6 v) 3 = stpL m s6 (2 * v + 1) := by rw [stpL, if_neg (by omega), show (2 * v + 1) / 2 = v by omega]
            rw [e1, lU_get, lU_lU, lU_get, lU_lU, show 2 * (v + 1) = 2 * v + 1 + 1 by omega, ← blk_s, ← blk_s, x1, x2]
          · refine V_iload (pc := 44) hX rfl dX6_step_44 ?_
            refine V_bipush (pc := 46) (z := (-60)) hX (oI (-60)) (by decide) dX6_step_46 ?_
            refine V_bipush (pc := 48) (z := 59) hX (oI 59) (by decide) dX6_step_48 ?_
            refine cSI3 (pc := 50) hX (c_X6_in (by omega) (by omega) (by omega)) (by decide) st_X6_33 (Nat.le_of_ble_eq_true rfl) dX6_step_50 ?_
            refine B_if_eq (pc := 53) (tgt := 75) hX dX6_step_53 (by decide) (fun h53 => ?_) (fun h53 => ?_)
            · refine V_lconst (pc := 75) (z := 0) hX 0 (by decide) dX6_step_75 ?_
              refine V_lstore (pc := 76) hX (by decide) rfl dX6_step_76 ?_
              refine V_iload (pc := 78) hX rfl dX6_step_78 ?_
              refine V_bipush (pc := 80) (z := (-60)) hX (oI (-60)) (by decide) dX6_step_80 ?_
              refine V_bipush (pc := 82) (z := 59) hX (oI 59) (by decide) dX6_step_82 ?_
              refine cSI3 (pc := 84) hX (c_X6_in (by omega) (by omega) (by omega)) (by decide) st_X6_33 (Nat.le_of_ble_eq_true rfl) dX6_step_84 ?_
              refine B_if_eq (pc := 87) (tgt := 111) hX dX6_step_87 (by decide) (fun h87 => ?_) (fun h87 => ?_)
              · refine V_lconst (pc := 111) (z := 0) hX 0 (by decide) dX6_step_111 ?_
                refine V_lstore (pc := 112) hX (by decide) rfl dX6_step_112 ?_
                refine V_lload (pc := 114) hX rfl dX6_step_114 ?_
                refine V_iconst (pc := 116) (z := 1) hX (oI 1) rfl dX6_step_116 ?_
                refine V_lshl (pc := 117) hX dX6_step_117 ?_
                refine V_ldc2 (pc := 118) hX (1152921504606846975) w_888 dX6_step_118 ?_
                refine V_land (pc := 121) hX dX6_step_121 ?_
                refine V_lstore (pc := 122) hX (by decide) rfl dX6_step_122 ?_
                refine V_lload (pc := 124) hX rfl dX6_step_124 ?_
                refine V_iconst (pc := 126) (z := 1) hX (oI 1) rfl dX6_step_126 ?_
                refine V_lshl (pc := 127) hX dX6_step_127 ?_
                refine V_lload (pc := 128) hX rfl dX6_step_128 ?_
                refine V_bipush (pc := 130) (z := 59) hX (oI 59) (by decide) dX6_step_130 ?_
                refine V_lshr (pc := 132) hX dX6_step_132 ?_
                refine V_lor (pc := 133) hX dX6_step_133 ?_
                refine V_ldc2 (pc := 134) hX (1152921504606846975) w_888 dX6_step_134 ?_
                refine V_land (pc := 137) hX dX6_step_137 ?_
                refine V_lstore (pc := 138) hX (by decide) rfl dX6_step_138 ?_
                refine V_lload (pc := 140) hX rfl dX6_step_140 ?_
                refine V_iconst (pc := 142) (z := 1) hX (oI 1) rfl dX6_step_142 ?_
                refine V_lshr (pc := 143) hX dX6_step_143 ?_
                refine V_lload (pc := 144) hX rfl dX6_step_144 ?_
                refine V_lconst (pc := 146) (z := 1) hX 1 (by decide) dX6_step_146 ?_
                refine V_land (pc := 147) hX dX6_step_147 ?_
                refine V_bipush (pc := 148) (z := 59) hX (oI 59) (by decide) dX6_step_148 ?_
                refine V_lshl (pc := 150) hX dX6_step_150 ?_
                refine V_lor (pc := 151) hX dX6_step_151 ?_
                refine V_lstore (pc := 152) hX (by decide) rfl dX6_step_152 ?_
                refine V_lload (pc := 154) hX rfl dX6_step_154 ?_
                refine V_iconst (pc := 156) (z := 1) hX (oI 1) rfl dX6_step_156 ?_
                refine V_lshr (pc := 157) hX dX6_step_157 ?_
                refine V_lstore (pc := 158) hX (by decide) rfl dX6_step_158 ?_
                refine V_iload_n (pc := 160) (j := 1) hX 1 rfl rfl dX6_step_160 ?_
                refine B_if_eq (pc := 161) (tgt := 177) hX dX6_step_161 (by decide) (fun h161 => ?_) (fun h161 => ?_)
                · refine V_lload_n (pc := 177) (j := 3) hX 3 rfl rfl dX6_step_177 ?_
                  refine V_lload (pc := 178) hX rfl dX6_step_178 ?_
                  refine V_land (pc := 180) hX dX6_step_180 ?_
                  refine V_lload (pc := 181) hX rfl dX6_step_181 ?_
                  refine V_land (pc := 183) hX dX6_step_183 ?_
                  refine V_lload (pc := 184) hX rfl dX6_step_184 ?_
                  refine V_land (pc := 186) hX dX6_step_186 ?_
                  refine V_lstore_n (pc := 187) (j := 3) hX 3 rfl (by decide) rfl dX6_step_187 ?_
                  refine V_iload_n (pc := 188) (j := 1) hX 1 rfl rfl dX6_step_188 ?_
                  refine B_if_eq (pc := 189) (tgt := 206) hX dX6_step_189 (by decide) (fun h189 => ?_) (fun h189 => ?_)
                  · refine V_lload (pc := 206) hX rfl dX6_step_206 ?_
                    refine V_lload (pc := 208) hX rfl dX6_step_208 ?_
                    refine V_land (pc := 210) hX dX6_step_210 ?_
                    refine V_lload (pc := 211) hX rfl dX6_step_211 ?_
                    refine V_land (pc := 213) hX dX6_step_213 ?_
                    refine V_lload (pc := 214) hX rfl dX6_step_214 ?_
                    refine V_land (pc := 216) hX dX6_step_216 ?_
                    refine V_lstore (pc := 217) hX (by decide) rfl dX6_step_217 ?_
                    refine Z_iinc (pc := 219) hX 1 rfl rfl dX6_step_219 ?_
                    refine V_goto (pc := 222) (off := (-186)) (tgt := 36) hX (by decide) dX6_step_222 ?_
                    have ea : rA s6 v n = 0 := by rw [rA, if_neg (by rw [h53]; decide)]
                    have eb : rB s6 v n = 0 := by rw [rB, if_neg (by rw [h53]; decide)]
                    refine V_cut [(0, some (.ref (E.1 (20, 0)))), (1, some (.int (bI m))), (2, some (.int (oI ((v : Int) - 60)))), (3, some (.long (accL m (rA s6 v) (rB s6 v) (n + 1)))), (5, some (.long (accR m (rA s6 v) (rB s6 v) (n + 1)))), (7, some (.int (oI ((v : Int) - 61 + ((n + 1 : Nat) : Int)))))] ⟨rfl, rfl, rfl, congrArg (fun q => some (Value.long q)) (by rw [accL, if_neg (by rw [h161]; decide), ea, eb]; first | rfl | (rw [hD1a, hD1b]; rfl)), congrArg (fun q => some (Value.long q)) (by rw [accR, if_neg (by rw [h161]; decide), ea, eb]; first | rfl | (rw [hD1a, hD1b]; rfl)), congrArg (fun q => some (Value.int (oI q))) (by omega), trivial⟩ ?_
                    exact ih (n + 1) (by omega) (by omega)
                  · exact absurd (h161.symm.trans h189) (by decide)
                · refine V_lload_n (pc := 164) (j := 3) hX 3 rfl rfl dX6_step_164 ?_
                  refine V_lload (pc := 165) hX rfl dX6_step_165 ?_
                  refine V_lor (pc := 167) hX dX6_step_167 ?_
                  refine V_lload (pc := 168) hX rfl dX6_step_168 ?_
                  refine V_lor (pc := 170) hX dX6_step_170 ?_
                  refine V_lload (pc := 171) hX rfl dX6_step_171 ?_
                  refine V_lor (pc := 173) hX dX6_step_173 ?_
                  refine V_goto (pc := 174) (off := 13) (tgt := 187) hX (by decide) dX6_step_174 ?_
                  refine V_lstore_n (pc := 187) (j := 3) hX 3 rfl (by decide) rfl dX6_step_187 ?_
                  refine V_iload_n (pc := 188) (j := 1) hX 1 rfl rfl dX6_step_188 ?_
                  refine B_if_eq (pc := 189) (tgt := 206) hX dX6_step_189 (by decide) (fun h189 => ?_) (fun h189 => ?_)
                  · exact absurd (h161.symm.trans h189) (by decide)
                  · refine V_lload (pc := 192) hX rfl dX6_step_192 ?_
                    refine V_lload (pc := 194) hX rfl dX6_step_194 ?_
                    refine V_lor (pc := 196) hX dX6_step_196 ?_
                    refine V_lload (pc := 197) hX rfl dX6_step_197 ?_
                    refine V_lor (pc := 199) hX dX6_step_199 ?_
                    refine V_lload (pc := 200) hX rfl dX6_step_200 ?_
                    refine V_lor (pc := 202) hX dX6_step_202 ?_
                    refine V_goto (pc := 203) (off := 14) (tgt := 217) hX (by decide) dX6_step_203 ?_
                    refine V_lstore (pc := 217) hX (by decide) rfl dX6_step_217 ?_
                    refine Z_iinc (pc := 219) hX 1 rfl rfl dX6_step_219 ?_
                    refine V_goto (pc := 222) (off := (-186)) (tgt := 36) hX (by decide) dX6_step_222 ?_
                    have ea : rA s6 v n = 0 := by rw [rA, if_neg (by rw [h53]; decide)]
                    have eb : rB s6 v n = 0 := by rw [rB, if_neg (by rw [h53]; decide)]
                    refine V_cut [(0, some (.ref (E.1 (20, 0)))), (1, some (.int (bI m))), (2, some (.int (oI ((v : Int) - 60)))), (3, some (.long (accL m (rA s6 v) (rB s6 v) (n + 1)))), (5, some (.long (accR m (rA s6 v) (rB s6 v) (n + 1)))), (7, some (.int (oI ((v : Int) - 61 + ((n + 1 : Nat) : Int)))))] ⟨rfl, rfl, rfl, congrArg (fun q => some (Value.long q)) (by rw [accL, if_pos h161, ea, eb]; first | rfl | (rw [hD1a, hD1b]; rfl)), congrArg (fun q => some (Value.long q)) (by rw [accR, if_pos h161, ea, eb]; first | rfl | (rw [hD1a, hD1b]; rfl)), congrArg (fun q => some (Value.int (oI q))) (by omega), trivial⟩ ?_
                    exact ih (n + 1) (by omega) (by omega)
              · exact absurd (h53.symm.trans h87) (by decide)
            · have hz := inB_t.mp h53
              refine V_aload_n (pc := 56) (j := 0) hX 0 rfl rfl dX6_step_56 ?_
              refine gf_X6_7 (pc := 57) hX dX6_step_57 ?_
              refine V_sipush (pc := 60) (z := 1440) hX (oI 1440) (by decide) dX6_step_60 ?_
              refine V_iconst (pc := 63) (z := 2) hX (oI 2) rfl dX6_step_63 ?_
              refine V_iload (pc := 64) hX rfl dX6_step_64 ?_
              refine V_bipush (pc := 66) (z := (-60)) hX (oI (-60)) (by decide) dX6_step_66 ?_
              refine Z_isub (pc := 68) hX dX6_step_68 ?_
              refine Z_imul (pc := 69) hX dX6_step_69 ?_
              refine Z_iadd (pc := 70) hX dX6_step_70 ?_
              refine zl_21 (pc := 71) hX (1440 + 2 * (v + n - 1)) (by omega) (by omega) dX6_step_71 ?_
              refine V_goto (pc := 72) (off := 4) (tgt := 76) hX (by decide) dX6_step_72 ?_
              refine V_lstore (pc := 76) hX (by decide) rfl dX6_step_76 ?_
              refine V_iload (pc := 78) hX rfl dX6_step_78 ?_
              refine V_bipush (pc := 80) (z := (-60)) hX (oI (-60)) (by decide) dX6_step_80 ?_
              refine V_bipush (pc := 82) (z := 59) hX (oI 59) (by decide) dX6_step_82 ?_
              refine cSI3 (pc := 84) hX (c_X6_in (by omega) (by omega) (by omega)) (by decide) st_X6_33 (Nat.le_of_ble_eq_true rfl) dX6_step_84 ?_
              refine B_if_eq (pc := 87) (tgt := 111) hX dX6_step_87 (by decide) (fun h87 => ?_) (fun h87 => ?_)
              · exact absurd (h53.symm.trans h87) (by decide)
              · refine V_aload_n (pc := 90) (j := 0) hX 0 rfl rfl dX6_step_90 ?_
                refine gf_X6_7 (pc := 91) hX dX6_step_91 ?_
                refine V_sipush (pc := 94) (z := 1440) hX (oI 1440) (by decide) dX6_step_94 ?_
                refine V_iconst (pc := 97) (z := 2) hX (oI 2) rfl dX6_step_97 ?_
                refine V_iload (pc := 98) hX rfl dX6_step_98 ?_
                refine V_bipush (pc := 100) (z := (-60)) hX (oI (-60)) (by decide) dX6_step_100 ?_
                refine Z_isub (pc := 102) hX dX6_step_102 ?_
                refine Z_imul (pc := 103) hX dX6_step_103 ?_
                refine Z_iadd (pc := 104) hX dX6_step_104 ?_
                refine V_iconst (pc := 105) (z := 1) hX (oI 1) rfl dX6_step_105 ?_
                refine Z_iadd (pc := 106) hX dX6_step_106 ?_
                refine zl_21 (pc := 107) hX (1440 + 2 * (v + n - 1) + 1) (by omega) (by omega) dX6_step_107 ?_
                refine V_goto (pc := 108) (off := 4) (tgt := 112) hX (by decide) dX6_step_108 ?_
                refine V_lstore (pc := 112) hX (by decide) rfl dX6_step_112 ?_
                refine V_lload (pc := 114) hX rfl dX6_step_114 ?_
                refine V_iconst (pc := 116) (z := 1) hX (oI 1) rfl dX6_step_116 ?_
                refine V_lshl (pc := 117) hX dX6_step_117 ?_
                refine V_ldc2 (pc := 118) hX (1152921504606846975) w_888 dX6_step_118 ?_
                refine V_land (pc := 121) hX dX6_step_121 ?_
                refine V_lstore (pc := 122) hX (by decide) rfl dX6_step_122 ?_
                refine V_lload (pc := 124) hX rfl dX6_step_124 ?_
                refine V_iconst (pc := 126) (z := 1) hX (oI 1) rfl dX6_step_126 ?_
                refine V_lshl (pc := 127) hX dX6_step_127 ?_
                refine V_lload (pc := 128) hX rfl dX6_step_128 ?_
                refine V_bipush (pc := 130) (z := 59) hX (oI 59) (by decide) dX6_step_130 ?_
                refine V_lshr (pc := 132) hX dX6_step_132 ?_
                refine V_lor (pc := 133) hX dX6_step_133 ?_
                refine V_ldc2 (pc := 134) hX (1152921504606846975) w_888 dX6_step_134 ?_
                refine V_land (pc := 137) hX dX6_step_137 ?_
                refine V_lstore (pc := 138) hX (by decide) rfl dX6_step_138 ?_
                refine V_lload (pc := 140) hX rfl dX6_step_140 ?_
                refine V_iconst (pc := 142) (z := 1) hX (oI 1) rfl dX6_step_142 ?_
                refine V_lshr (pc := 143) hX dX6_step_143 ?_
                refine V_lload (pc := 144) hX rfl dX6_step_144 ?_
                refine V_lconst (pc := 146) (z := 1) hX 1 (by decide) dX6_step_146 ?_
                refine V_land (pc := 147) hX dX6_step_147 ?_
                refine V_bipush (pc := 148) (z := 59) hX (oI 59) (by decide) dX6_step_148 ?_
                refine V_lshl (pc := 150) hX dX6_step_150 ?_
                refine V_lor (pc := 151) hX dX6_step_151 ?_
                refine V_lstore (pc := 152) hX (by decide) rfl dX6_step_152 ?_
                refine V_lload (pc := 154) hX rfl dX6_step_154 ?_
                refine V_iconst (pc := 156) (z := 1) hX (oI 1) rfl dX6_step_156 ?_
                refine V_lshr (pc := 157) hX dX6_step_157 ?_
                refine V_lstore (pc := 158) hX (by decide) rfl dX6_step_158 ?_
                refine V_iload_n (pc := 160) (j := 1) hX 1 rfl rfl dX6_step_160 ?_
                refine B_if_eq (pc := 161) (tgt := 177) hX dX6_step_161 (by decide) (fun h161 => ?_) (fun h161 => ?_)
                · refine V_lload_n (pc := 177) (j := 3) hX 3 rfl rfl dX6_step_177 ?_
                  refine V_lload (pc := 178) hX rfl dX6_step_178 ?_
                  refine V_land (pc := 180) hX dX6_step_180 ?_
                  refine V_lload (pc := 181) hX rfl dX6_step_181 ?_
                  refine V_land (pc := 183) hX dX6_step_183 ?_
                  refine V_lload (pc := 184) hX rfl dX6_step_184 ?_
                  refine V_land (pc := 186) hX dX6_step_186 ?_
                  refine V_lstore_n (pc := 187) (j := 3) hX 3 rfl (by decide) rfl dX6_step_187 ?_
                  refine V_iload_n (pc := 188) (j := 1) hX 1 rfl rfl dX6_step_188 ?_
                  refine B_if_eq (pc := 189) (tgt := 206) hX dX6_step_189 (by decide) (fun h189 => ?_) (fun h189 => ?_)
                  · refine V_lload (pc := 206) hX rfl dX6_step_206 ?_
                    refine V_lload (pc := 208) hX rfl dX6_step_208 ?_
                    refine V_land (pc := 210) hX dX6_step_210 ?_
                    refine V_lload (pc := 211) hX rfl dX6_step_211 ?_
                    refine V_land (pc := 213) hX dX6_step_213 ?_
                    refine V_lload (pc := 214) hX rfl dX6_step_214 ?_
                    refine V_land (pc := 216) hX dX6_step_216 ?_
                    refine V_lstore (pc := 217) hX (by decide) rfl dX6_step_217 ?_
                    refine Z_iinc (pc := 219) hX 1 rfl rfl dX6_step_219 ?_
                    refine V_goto (pc := 222) (off := (-186)) (tgt := 36) hX (by decide) dX6_step_222 ?_
                    have hz := inB_t.mp h53
                    have hD1a : D1.2.1 21 0 (1440 + 2 * (v + n - 1)) = s6 (1440 + 2 * (v + n - 1)) := by rw [e1, lU_get]; exact blk_out (by omega)
                    have hD1b : D1.2.1 21 0 (1440 + 2 * (v + n - 1) + 1) = s6 (1440 + 2 * (v + n - 1) + 1) := by rw [e1, lU_get]; exact blk_out (by omega)
                    have ea : rA s6 v n = s6 (1440 + 2 * (v + n - 1)) := by rw [rA, if_pos h53]
                    have eb : rB s6 v n = s6 (1440 + 2 * (v + n - 1) + 1) := by rw [rB, if_pos h53]
                    refine V_cut [(0, some (.ref (E.1 (20, 0)))), (1, some (.int (bI m))), (2, some (.int (oI ((v : Int) - 60)))), (3, some (.long (accL m (rA s6 v) (rB s6 v) (n + 1)))), (5, some (.long (accR m (rA s6 v) (rB s6 v) (n + 1)))), (7, some (.int (oI ((v : Int) - 61 + ((n + 1 : Nat) : Int)))))] ⟨rfl, rfl, rfl, congrArg (fun q => some (Value.long q)) (by rw [accL, if_neg (by rw [h161]; decide), ea, eb]; first | rfl | (rw [hD1a, hD1b]; rfl)), congrArg (fun q => some (Value.long q)) (by rw [accR, if_neg (by rw [h161]; decide), ea, eb]; first | rfl | (rw [hD1a, hD1b]; rfl)), congrArg (fun q => some (Value.int (oI q))) (by omega), trivial⟩ ?_
                    exact ih (n + 1) (by omega) (by omega)
                  · exact absurd (h161.symm.trans h189) (by decide)
                · refine V_lload_n (pc := 164) (j := 3) hX 3 rfl rfl dX6_step_164 ?_
                  refine V_lload (pc := 165) hX rfl dX6_step_165 ?_
                  refine V_lor (pc := 167) hX dX6_step_167 ?_
                  refine V_lload (pc := 168) hX rfl dX6_step_168 ?_
                  refine V_lor (pc := 170) hX dX6_step_170 ?_
                  refine V_lload (pc := 171) hX rfl dX6_step_171 ?_
                  refine V_lor (pc := 173) hX dX6_step_173 ?_
                  refine V_goto (pc := 174) (off := 13) (tgt := 187) hX (by decide) dX6_step_174 ?_
                  refine V_lstore_n (pc := 187) (j := 3) hX 3 rfl (by decide) rfl dX6_step_187 ?_
                  refine V_iload_n (pc := 188) (j := 1) hX 1 rfl rfl dX6_step_188 ?_
                  refine B_if_eq (pc := 189) (tgt := 206) hX dX6_step_189 (by decide) (fun h189 => ?_) (fun h189 => ?_)
                  · exact absurd (h161.symm.trans h189) (by decide)
                  · refine V_lload (pc := 192) hX rfl dX6_step_192 ?_
                    refine V_lload (pc := 194) hX rfl dX6_step_194 ?_
                    refine V_lor (pc := 196) hX dX6_step_196 ?_
                    refine V_lload (pc := 197) hX rfl dX6_step_197 ?_
                    refine V_lor (pc := 199) hX dX6_step_199 ?_
                    refine V_lload (pc := 200) hX rfl dX6_step_200 ?_
                    refine V_lor (pc := 202) hX dX6_step_202 ?_
                    refine V_goto (pc := 203) (off := 14) (tgt := 217) hX (by decide) dX6_step_203 ?_
                    refine V_lstore (pc := 217) hX (by decide) rfl dX6_step_217 ?_
                    refine Z_iinc (pc := 219) hX 1 rfl rfl dX6_step_219 ?_
                    refine V_goto (pc := 222) (off := (-186)) (tgt := 36) hX (by decide) dX6_step_222 ?_
                    have hz := inB_t.mp h53
                    have hD1a : D1.2.1 21 0 (1440 + 2 * (v + n - 1)) = s6 (1440 + 2 * (v + n - 1)) := by rw [e1, lU_get]; exact blk_out (by omega)
                    have hD1b : D1.2.1 21 0 (1440 + 2 * (v + n - 1) + 1) = s6 (1440 + 2 * (v + n - 1) + 1) := by rw [e1, lU_get]; exact blk_out (by omega)
                    have ea : rA s6 v n = s6 (1440 + 2 * (v + n - 1)) := by rw [rA, if_pos h53]
                    have eb : rB s6 v n = s6 (1440 + 2 * (v + n - 1) + 1) := by rw [rB, if_pos h53]
                    refine V_cut [(0, some (.ref (E.1 (20, 0)))), (1, some (.int (bI m))), (2, some (.int (oI ((v : Int) - 60)))), (3, some (.long (accL m (rA s6 v) (rB s6 v) (n + 1)))), (5, some (.long (accR m (rA s6 v) (rB s6 v) (n + 1)))), (7, some (.int (oI ((v : Int) - 61 + ((n + 1 : Nat) : Int)))))] ⟨rfl, rfl, rfl, congrArg (fun q => some (Value.long q)) (by rw [accL, if_pos h161, ea, eb]; first | rfl | (rw [hD1a, hD1b]; rfl)), congrArg (fun q => some (Value.long q)) (by rw [accR, if_pos h161, ea, eb]; first | rfl | (rw [hD1a, hD1b]; rfl)), congrArg (fun q => some (Value.int (oI q))) (by omega), trivial⟩ ?_
                    exact ih (n + 1) (by omega) (by omega)
      refine V_iload_n (pc := 10) (j := 2) hX 2 rfl rfl dX6_step_10 ?_
      refine V_bipush (pc := 11) (z := 59) hX (oI 59) (by decide) dX6_step_11 ?_
      refine Z_icmp_gt (pc := 13) (tgt := 266) hX (by omega) (by omega) dX6_step_13 (by decide) (fun h13 => ?_) (fun h13 => ?_)
      · refine V_vret (pc := 266) hX hR dX6_step_266 ?_
        have e : v = 120 := by omega
        subst e
        exact ⟨rfl, by rw [e1, hs6]⟩
      · refine V_iload_n (pc := 16) (j := 1) hX 1 rfl rfl dX6_step_16 ?_
        refine B_if_eq (pc := 17) (tgt := 24) hX dX6_step_17 (by decide) (fun h17 => ?_) (fun h17 => ?_)
        · refine V_ldc2 (pc := 24) hX (1152921504606846975) w_888 dX6_step_24 ?_
          refine V_lstore_n (pc := 27) (j := 3) hX 3 rfl (by decide) rfl dX6_step_27 ?_
          refine V_lload_n (pc := 28) (j := 3) hX 3 rfl rfl dX6_step_28 ?_
          refine V_lstore (pc := 29) hX (by decide) rfl dX6_step_29 ?_
          refine V_iload_n (pc := 31) (j := 2) hX 2 rfl rfl dX6_step_31 ?_
          refine V_iconst (pc := 32) (z := 1) hX (oI 1) rfl dX6_step_32 ?_
          refine Z_isub (pc := 33) hX dX6_step_33 ?_
          refine V_istore (pc := 34) hX (by decide) rfl dX6_step_34 ?_
          refine V_cut [(0, some (.ref (E.1 (20, 0)))), (1, some (.int (bI m))), (2, some (.int (oI ((v : Int) - 60)))), (3, some (.long (accL m (rA s6 v) (rB s6 v) 0))), (5, some (.long (accR m (rA s6 v) (rB s6 v) 0))), (7, some (.int (oI ((v : Int) - 61 + ((0 : Nat) : Int)))))] ⟨rfl, rfl, rfl, congrArg (fun q => some (Value.long q)) (by rw [accL, if_neg (by rw [h17]; decide)]), congrArg (fun q => some (Value.long q)) (by rw [accR, if_neg (by rw [h17]; decide)]), congrArg (fun q => some (Value.int (oI q))) (by omega), trivial⟩ ?_
          exact inner (by omega) 4 0 (by omega) (by omega)
        · refine V_lconst (pc := 20) (z := 0) hX 0 (by decide) dX6_step_20 ?_
          refine V_goto (pc := 21) (off := 6) (tgt := 27) hX (by decide) dX6_step_21 ?_
          refine V_lstore_n (pc := 27) (j := 3) hX 3 rfl (by decide) rfl dX6_step_27 ?_
          refine V_lload_n (pc := 28) (j := 3) hX 3 rfl rfl dX6_step_28 ?_
          refine V_lstore (pc := 29) hX (by decide) rfl dX6_step_29 ?_
          refine V_iload_n (pc := 31) (j := 2) hX 2 rfl rfl dX6_step_31 ?_
          refine V_iconst (pc := 32) (z := 1) hX (oI 1) rfl dX6_step_32 ?_
          refine Z_isub (pc := 33) hX dX6_step_33 ?_
          refine V_istore (pc := 34) hX (by decide) rfl dX6_step_34 ?_
          refine V_cut [(0, some (.ref (E.1 (20, 0)))), (1, some (.int (bI m))), (2, some (.int (oI ((v : Int) - 60)))), (3, some (.long (accL m (rA s6 v) (rB s6 v) 0))), (5, some (.long (accR m (rA s6 v) (rB s6 v) 0))), (7, some (.int (oI ((v : Int) - 61 + ((0 : Nat) : Int)))))] ⟨rfl, rfl, rfl, congrArg (fun q => some (Value.long q)) (by rw [accL, if_pos h17]), congrArg (fun q => some (Value.long q)) (by rw [accR, if_pos h17]), congrArg (fun q => some (Value.int (oI q))) (by omega), trivial⟩ ?_
          exact inner (by omega) 4 0 (by omega) (by omega)
  refine V_aload_n (pc := 0) (j := 0) hX 0 rfl rfl dX6_step_0 ?_
  refine V_iconst (pc := 1) (z := 5) hX (oI 5) rfl dX6_step_1 ?_
  refine V_bipush (pc := 2) (z := 6) hX (oI 6) (by decide) dX6_step_2 ?_
  refine cVV2 (pc := 4) hX (c_X6_copies (a := 5) (b := 6) (by omega) (by omega)) (by decide) st_X6_97 ix_20 rfl rfl rfl (Nat.le_of_ble_eq_true rfl) dX6_step_4 ?_
  refine V_bipush (pc := 7) (z := (-60)) hX (oI (-60)) (by decide) dX6_step_7 ?_
  refine V_istore_n (pc := 9) (j := 2) hX 2 rfl (by decide) rfl dX6_step_9 ?_
  refine V_cut [(0, some (.ref (E.1 (20, 0)))), (1, some (.int (bI m))), (2, some (.int (oI (((0 : Nat) : Int) - 60))))] ⟨rfl, rfl, rfl, trivial⟩ ?_
  exact outer 121 0 _ (by omega) (by rw [Nat.mul_zero, blk_0, hs6]) (by omega)
