/-! THE LAW: its loop -/
def Scr (X : Cx) (b L : Nat) (xs : Nat → Int32) : Prop := match X with
  | (_, _, _, _, s, _, _, _, _, _, _, _, _, A) => va_X b L xs s s.heap ∧ b < s.heap.size ∧ ¬ A b
theorem V_sld {E : Le} {X : Cx} {cc : ByteArray} {own : String} {nL n : Nat} {D : Dt} {pc : Nat} {lv : Lv} {st : List Value} (hX : Amb E X cc own nL n) {b L : Nat} {xs : Nat → Int32} (hSc : Scr X b L xs) {x : Int} (i : Nat) (hx : x = (i : Int)) (hi : i < L) (hL : L < 2 ^ 31) (hd : decode cc pc = .ok (.iaload, 1)) (hk : Vw E X nL D (pc + 1) lv (.int (xs i) :: st)) : Vw E X nL D pc lv (.int (oI x) :: .ref b :: st) := by
  obtain ⟨p, l, e, R, s, m, args, below, meth, c, cells, slots, Q, A⟩ := X
  subst hx
  rw [oI_nat]
  refine fun H locs ls hP hS hl => va_sld hX.1 hX.2.1 hSc.1 hSc.2.1 hSc.2.2 hS (vp_in_nI hi hL) hd ?_
  rw [nI_clamp (Nat.lt_trans hi hL)]
  exact hk H locs ls hP hS hl
theorem V_slen {E : Le} {X : Cx} {cc : ByteArray} {own : String} {nL n : Nat} {D : Dt} {pc : Nat} {lv : Lv} {st : List Value} (hX : Amb E X cc own nL n) {b L : Nat} {xs : Nat → Int32} (hSc : Scr X b L xs) (hd : decode cc pc = .ok (.arraylength, 1)) (hk : Vw E X nL D (pc + 1) lv (.int (oI (L : Int)) :: st)) : Vw E X nL D pc lv (.ref b :: st) := by
  obtain ⟨p, l, e, R, s, m, args, below, meth, c, cells, slots, Q, A⟩ := X
  rw [oI_nat] at hk
  exact fun H locs ls hP hS hl => va_slen hX.1 hX.2.1 hSc.1 hSc.2.1 hSc.2.2 hS hd (hk H locs ls hP hS hl)
theorem Rg_of (v : Int32) : Rg v.toInt := ⟨v.le_toInt, v.toInt_lt⟩
theorem law_c0 {E : Le} {X : Cx} {b L : Nat} {xs : Nat → Int32} (hX : Amb E X cL_law RL 4 12) (hSc : Scr X b L xs) (hL : L ≤ 3072) {kq : Nat} (hkq : kq + 6 ≤ L) {D : Dt} {σ : AS} (hB : Bth D σ) (hNx : ∀ (D2 : Dt) (σ2 : AS), Bth D2 σ2 → Vw E X 4 D2 997 [(0, some (.ref b)), (1, some (.ref (E.1 (0, 0)))), (2, some (.ref (E.1 (20, 0)))), (3, some (.int (oI (kq : Int))))] []) : Vw E X 4 D 144 [(0, some (.ref b)), (1, some (.ref (E.1 (0, 0)))), (2, some (.ref (E.1 (20, 0)))), (3, some (.int (oI (kq : Int))))] [] := by
  refine V_aload_n (pc := 144) (j := 1) hX 1 rfl rfl dL_law_144 ?_
  refine V_aload_n (pc := 145) (j := 0) hX 0 rfl rfl dL_law_145 ?_
  refine V_iload_n (pc := 146) (j := 3) hX 3 rfl rfl dL_law_146 ?_
  refine V_iconst (pc := 147) (z := 1) hX (oI 1) rfl dL_law_147 ?_
  refine Z_iadd (pc := 148) hX dL_law_148 ?_
  refine V_sld (pc := 149) hX hSc (kq + 1) (by omega) (by omega) (by omega) dL_law_149 ?_
  refine V_oI (xs (kq + 1)).toInt (oI_of _).symm ?_
  refine V_aload_n (pc := 150) (j := 0) hX 0 rfl rfl dL_law_150 ?_
  refine V_iload_n (pc := 151) (j := 3) hX 3 rfl rfl dL_law_151 ?_
  refine V_iconst (pc := 152) (z := 2) hX (oI 2) rfl dL_law_152 ?_
  refine Z_iadd (pc := 153) hX dL_law_153 ?_
  refine V_sld (pc := 154) hX hSc (kq + 2) (by omega) (by omega) (by omega) dL_law_154 ?_
  refine V_oI (xs (kq + 2)).toInt (oI_of _).symm ?_
  refine V_aload_n (pc := 155) (j := 0) hX 0 rfl rfl dL_law_155 ?_
  refine V_iload_n (pc := 156) (j := 3) hX 3 rfl rfl dL_law_156 ?_
  refine V_iconst (pc := 157) (z := 3) hX (oI 3) rfl dL_law_157 ?_
  refine Z_iadd (pc := 158) hX dL_law_158 ?_
  refine V_sld (pc := 159) hX hSc (kq + 3) (by omega) (by omega) (by omega) dL_law_159 ?_
  refine V_oI (xs (kq + 3)).toInt (oI_of _).symm ?_
  refine V_aload_n (pc := 160) (j := 0) hX 0 rfl rfl dL_law_160 ?_
  refine V_iload_n (pc := 161) (j := 3) hX 3 rfl rfl dL_law_161 ?_
  refine V_iconst (pc := 162) (z := 4) hX (oI 4) rfl dL_law_162 ?_
  refine Z_iadd (pc := 163) hX dL_law_163 ?_
  refine V_sld (pc := 164) hX hSc (kq + 4) (by omega) (by omega) (by omega) dL_law_164 ?_
  refine V_oI (xs (kq + 4)).toInt (oI_of _).symm ?_
  refine V_aload_n (pc := 165) (j := 0) hX 0 rfl rfl dL_law_165 ?_
  refine V_iload_n (pc := 166) (j := 3) hX 3 rfl rfl dL_law_166 ?_
  refine V_iconst (pc := 167) (z := 5) hX (oI 5) rfl dL_law_167 ?_
  refine Z_iadd (pc := 168) hX dL_law_168 ?_
  refine V_sld (pc := 169) hX hSc (kq + 5) (by omega) (by omega) (by omega) dL_law_169 ?_
  refine V_oI (xs (kq + 5)).toInt (oI_of _).symm ?_
  refine cVIp5 (pc := 170) hX (c_X5_box (σ := σ) (Rg_of _) (Rg_of _) (Rg_of _) (Rg_of _) (Rg_of _) hB.1) (by decide) st_L_13 ix_0 rfl rfl rfl (Nat.le_of_ble_eq_true rfl) dL_law_170 (fun r1 D1 h1 => ?_)
  refine V_aload_n (pc := 173) (j := 2) hX 2 rfl rfl dL_law_173 ?_
  refine V_aload_n (pc := 174) (j := 0) hX 0 rfl rfl dL_law_174 ?_
  refine V_iload_n (pc := 175) (j := 3) hX 3 rfl rfl dL_law_175 ?_
  refine V_iconst (pc := 176) (z := 1) hX (oI 1) rfl dL_law_176 ?_
  refine Z_iadd (pc := 177) hX dL_law_177 ?_
  refine V_sld (pc := 178) hX hSc (kq + 1) (by omega) (by omega) (by omega) dL_law_178 ?_
  refine V_oI (xs (kq + 1)).toInt (oI_of _).symm ?_
  refine V_aload_n (pc := 179) (j := 0) hX 0 rfl rfl dL_law_179 ?_
  refine V_iload_n (pc := 180) (j := 3) hX 3 rfl rfl dL_law_180 ?_
  refine V_iconst (pc := 181) (z := 2) hX (oI 2) rfl dL_law_181 ?_
  refine Z_iadd (pc := 182) hX dL_law_182 ?_
  refine V_sld (pc := 183) hX hSc (kq + 2) (by omega) (by omega) (by omega) dL_law_183 ?_
  refine V_oI (xs (kq + 2)).toInt (oI_of _).symm ?_
  refine V_aload_n (pc := 184) (j := 0) hX 0 rfl rfl dL_law_184 ?_
  refine V_iload_n (pc := 185) (j := 3) hX 3 rfl rfl dL_law_185 ?_
  refine V_iconst (pc := 186) (z := 3) hX (oI 3) rfl dL_law_186 ?_
  refine Z_iadd (pc := 187) hX dL_law_187 ?_
  refine V_sld (pc := 188) hX hSc (kq + 3) (by omega) (by omega) (by omega) dL_law_188 ?_
  refine V_oI (xs (kq + 3)).toInt (oI_of _).symm ?_
  refine V_aload_n (pc := 189) (j := 0) hX 0 rfl rfl dL_law_189 ?_
  refine V_iload_n (pc := 190) (j := 3) hX 3 rfl rfl dL_law_190 ?_
  refine V_iconst (pc := 191) (z := 4) hX (oI 4) rfl dL_law_191 ?_
  refine Z_iadd (pc := 192) hX dL_law_192 ?_
  refine V_sld (pc := 193) hX hSc (kq + 4) (by omega) (by omega) (by omega) dL_law_193 ?_
  refine V_oI (xs (kq + 4)).toInt (oI_of _).symm ?_
  refine V_aload_n (pc := 194) (j := 0) hX 0 rfl rfl dL_law_194 ?_
  refine V_iload_n (pc := 195) (j := 3) hX 3 rfl rfl dL_law_195 ?_
  refine V_iconst (pc := 196) (z := 5) hX (oI 5) rfl dL_law_196 ?_
  refine Z_iadd (pc := 197) hX dL_law_197 ?_
  refine V_sld (pc := 198) hX hSc (kq + 5) (by omega) (by omega) (by omega) dL_law_198 ?_
  refine V_oI (xs (kq + 5)).toInt (oI_of _).symm ?_
  refine cVIp5 (pc := 199) hX (c_X6_box (σ := σ) (Rg_of _) (Rg_of _) (Rg_of _) (Rg_of _) (Rg_of _) (hB.m1 h1)) (by decide) st_L_17 ix_20 rfl rfl rfl (Nat.le_of_ble_eq_true rfl) dL_law_199 (fun r2 D2 h2 => ?_)
  obtain ⟨hre, hB2⟩ := Bth.cm h1 h2
  exact V_icmp_eq (pc := 202) (tgt := 997) hX dL_law_202 (by decide) (fun _ => hNx D2 _ hB2) (fun hne => absurd hre hne)
theorem law_c1 {E : Le} {X : Cx} {b L : Nat} {xs : Nat → Int32} (hX : Amb E X cL_law RL 4 12) (hSc : Scr X b L xs) (hL : L ≤ 3072) {kq : Nat} (hkq : kq + 6 ≤ L) {D : Dt} {σ : AS} (hB : Bth D σ) (hNx : ∀ (D2 : Dt) (σ2 : AS), Bth D2 σ2 → Vw E X 4 D2 997 [(0, some (.ref b)), (1, some (.ref (E.1 (0, 0)))), (2, some (.ref (E.1 (20, 0)))), (3, some (.int (oI (kq : Int))))] []) : Vw E X 4 D 207 [(0, some (.ref b)), (1, some (.ref (E.1 (0, 0)))), (2, some (.ref (E.1 (20, 0)))), (3, some (.int (oI (kq : Int))))] [] := by
  refine V_aload_n (pc := 207) (j := 1) hX 1 rfl rfl dL_law_207 ?_
  refine V_aload_n (pc := 208) (j := 0) hX 0 rfl rfl dL_law_208 ?_
  refine V_iload_n (pc := 209) (j := 3) hX 3 rfl rfl dL_law_209 ?_
  refine V_iconst (pc := 210) (z := 1) hX (oI 1) rfl dL_law_210 ?_
  refine Z_iadd (pc := 211) hX dL_law_211 ?_
  refine V_sld (pc := 212) hX hSc (kq + 1) (by omega) (by omega) (by omega) dL_law_212 ?_
  refine V_oI (xs (kq + 1)).toInt (oI_of _).symm ?_
  refine V_aload_n (pc := 213) (j := 0) hX 0 rfl rfl dL_law_213 ?_
  refine V_iload_n (pc := 214) (j := 3) hX 3 rfl rfl dL_law_214 ?_
  refine V_iconst (pc := 215) (z := 2) hX (oI 2) rfl dL_law_215 ?_
  refine Z_iadd (pc := 216) hX dL_law_216 ?_
  refine V_sld (pc := 217) hX hSc (kq + 2) (by omega) (by omega) (by omega) dL_law_217 ?_
  refine V_oI (xs (kq + 2)).toInt (oI_of _).symm ?_
  refine V_aload_n (pc := 218) (j := 0) hX 0 rfl rfl dL_law_218 ?_
  refine V_iload_n (pc := 219) (j := 3) hX 3 rfl rfl dL_law_219 ?_
  refine V_iconst (pc := 220) (z := 3) hX (oI 3) rfl dL_law_220 ?_
  refine Z_iadd (pc := 221) hX dL_law_221 ?_
  refine V_sld (pc := 222) hX hSc (kq + 3) (by omega) (by omega) (by omega) dL_law_222 ?_
  refine V_oI (xs (kq + 3)).toInt (oI_of _).symm ?_
  refine V_aload_n (pc := 223) (j := 0) hX 0 rfl rfl dL_law_223 ?_
  refine V_iload_n (pc := 224) (j := 3) hX 3 rfl rfl dL_law_224 ?_
  refine V_iconst (pc := 225) (z := 4) hX (oI 4) rfl dL_law_225 ?_
  refine Z_iadd (pc := 226) hX dL_law_226 ?_
  refine V_sld (pc := 227) hX hSc (kq + 4) (by omega) (by omega) (by omega) dL_law_227 ?_
  refine V_oI (xs (kq + 4)).toInt (oI_of _).symm ?_
  refine cVIp4 (pc := 228) hX (c_X5_mix (σ := σ) (Rg_of _) (Rg_of _) (Rg_of _) (Rg_of _) hB.1) (by decide) st_L_18 ix_0 rfl rfl rfl (Nat.le_of_ble_eq_true rfl) dL_law_228 (fun r1 D1 h1 => ?_)
  refine V_aload_n (pc := 231) (j := 2) hX 2 rfl rfl dL_law_231 ?_
  refine V_aload_n (pc := 232) (j := 0) hX 0 rfl rfl dL_law_232 ?_
  refine V_iload_n (pc := 233) (j := 3) hX 3 rfl rfl dL_law_233 ?_
  refine V_iconst (pc := 234) (z := 1) hX (oI 1) rfl dL_law_234 ?_
  refine Z_iadd (pc := 235) hX dL_law_235 ?_
  refine V_sld (pc := 236) hX hSc (kq + 1) (by omega) (by omega) (by omega) dL_law_236 ?_
  refine V_oI (xs (kq + 1)).toInt (oI_of _).symm ?_
  refine V_aload_n (pc := 237) (j := 0) hX 0 rfl rfl dL_law_237 ?_
  refine V_iload_n (pc := 238) (j := 3) hX 3 rfl rfl dL_law_238 ?_
  refine V_iconst (pc := 239) (z := 2) hX (oI 2) rfl dL_law_239 ?_
  refine Z_iadd (pc := 240) hX dL_law_240 ?_
  refine V_sld (pc := 241) hX hSc (kq + 2) (by omega) (by omega) (by omega) dL_law_241 ?_
  refine V_oI (xs (kq + 2)).toInt (oI_of _).symm ?_
  refine V_aload_n (pc := 242) (j := 0) hX 0 rfl rfl dL_law_242 ?_
  refine V_iload_n (pc := 243) (j := 3) hX 3 rfl rfl dL_law_243 ?_
  refine V_iconst (pc := 244) (z := 3) hX (oI 3) rfl dL_law_244 ?_
  refine Z_iadd (pc := 245) hX dL_law_245 ?_
  refine V_sld (pc := 246) hX hSc (kq + 3) (by omega) (by omega) (by omega) dL_law_246 ?_
  refine V_oI (xs (kq + 3)).toInt (oI_of _).symm ?_
  refine V_aload_n (pc := 247) (j := 0) hX 0 rfl rfl dL_law_247 ?_
  refine V_iload_n (pc := 248) (j := 3) hX 3 rfl rfl dL_law_248 ?_
  refine V_iconst (pc := 249) (z := 4) hX (oI 4) rfl dL_law_249 ?_
  refine Z_iadd (pc := 250) hX dL_law_250 ?_
  refine V_sld (pc := 251) hX hSc (kq + 4) (by omega) (by omega) (by omega) dL_law_251 ?_
  refine V_oI (xs (kq + 4)).toInt (oI_of _).symm ?_
  refine cVIp4 (pc := 252) hX (c_X6_mix (σ := σ) (Rg_of _) (Rg_of _) (Rg_of _) (Rg_of _) (hB.m1 h1)) (by decide) st_L_22 ix_20 rfl rfl rfl (Nat.le_of_ble_eq_true rfl) dL_law_252 (fun r2 D2 h2 => ?_)
  obtain ⟨hre, hB2⟩ := Bth.cm h1 h2
  exact V_icmp_eq (pc := 255) (tgt := 997) hX dL_law_255 (by decide) (fun _ => hNx D2 _ hB2) (fun hne => absurd hre hne)
theorem law_c2 {E : Le} {X : Cx} {b L : Nat} {xs : Nat → Int32} (hX : Amb E X cL_law RL 4 12) (hSc : Scr X b L xs) (hL : L ≤ 3072) {kq : Nat} (hkq : kq + 6 ≤ L) {D : Dt} {σ : AS} (hB : Bth D σ) (hNx : ∀ (D2 : Dt) (σ2 : AS), Bth D2 σ2 → Vw E X 4 D2 997 [(0, some (.ref b)), (1, some (.ref (E.1 (0, 0)))), (2, some (.ref (E.1 (20, 0)))), (3, some (.int (oI (kq : Int))))] []) : Vw E X 4 D 260 [(0, some (.ref b)), (1, some (.ref (E.1 (0, 0)))), (2, some (.ref (E.1 (20, 0)))), (3, some (.int (oI (kq : Int))))] [] := by
  refine V_aload_n (pc := 260) (j := 1) hX 1 rfl rfl dL_law_260 ?_
  refine V_aload_n (pc := 261) (j := 0) hX 0 rfl rfl dL_law_261 ?_
  refine V_iload_n (pc := 262) (j := 3) hX 3 rfl rfl dL_law_262 ?_
  refine V_iconst (pc := 263) (z := 1) hX (oI 1) rfl dL_law_263 ?_
  refine Z_iadd (pc := 264) hX dL_law_264 ?_
  refine V_sld (pc := 265) hX hSc (kq + 1) (by omega) (by omega) (by omega) dL_law_265 ?_
  refine V_oI (xs (kq + 1)).toInt (oI_of _).symm ?_
  refine V_aload_n (pc := 266) (j := 0) hX 0 rfl rfl dL_law_266 ?_
  refine V_iload_n (pc := 267) (j := 3) hX 3 rfl rfl dL_law_267 ?_
  refine V_iconst (pc := 268) (z := 2) hX (oI 2) rfl dL_law_268 ?_
  refine Z_iadd (pc := 269) hX dL_law_269 ?_
  refine V_sld (pc := 270) hX hSc (kq + 2) (by omega) (by omega) (by omega) dL_law_270 ?_
  refine V_oI (xs (kq + 2)).toInt (oI_of _).symm ?_
  refine V_aload_n (pc := 271) (j := 0) hX 0 rfl rfl dL_law_271 ?_
  refine V_iload_n (pc := 272) (j := 3) hX 3 rfl rfl dL_law_272 ?_
  refine V_iconst (pc := 273) (z := 3) hX (oI 3) rfl dL_law_273 ?_
  refine Z_iadd (pc := 274) hX dL_law_274 ?_
  refine V_sld (pc := 275) hX hSc (kq + 3) (by omega) (by omega) (by omega) dL_law_275 ?_
  refine V_oI (xs (kq + 3)).toInt (oI_of _).symm ?_
  refine V_aload_n (pc := 276) (j := 0) hX 0 rfl rfl dL_law_276 ?_
  refine V_iload_n (pc := 277) (j := 3) hX 3 rfl rfl dL_law_277 ?_
  refine V_iconst (pc := 278) (z := 4) hX (oI 4) rfl dL_law_278 ?_
  refine Z_iadd (pc := 279) hX dL_law_279 ?_
  refine V_sld (pc := 280) hX hSc (kq + 4) (by omega) (by omega) (by omega) dL_law_280 ?_
  refine V_oI (xs (kq + 4)).toInt (oI_of _).symm ?_
  refine cVIp4 (pc := 281) hX (c_X5_move (σ := σ) (Rg_of _) (Rg_of _) (Rg_of _) (Rg_of _) hB.1) (by decide) st_L_23 ix_0 rfl rfl rfl (Nat.le_of_ble_eq_true rfl) dL_law_281 (fun r1 D1 h1 => ?_)
  refine V_aload_n (pc := 284) (j := 2) hX 2 rfl rfl dL_law_284 ?_
  refine V_aload_n (pc := 285) (j := 0) hX 0 rfl rfl dL_law_285 ?_
  refine V_iload_n (pc := 286) (j := 3) hX 3 rfl rfl dL_law_286 ?_
  refine V_iconst (pc := 287) (z := 1) hX (oI 1) rfl dL_law_287 ?_
  refine Z_iadd (pc := 288) hX dL_law_288 ?_
  refine V_sld (pc := 289) hX hSc (kq + 1) (by omega) (by omega) (by omega) dL_law_289 ?_
  refine V_oI (xs (kq + 1)).toInt (oI_of _).symm ?_
  refine V_aload_n (pc := 290) (j := 0) hX 0 rfl rfl dL_law_290 ?_
  refine V_iload_n (pc := 291) (j := 3) hX 3 rfl rfl dL_law_291 ?_
  refine V_iconst (pc := 292) (z := 2) hX (oI 2) rfl dL_law_292 ?_
  refine Z_iadd (pc := 293) hX dL_law_293 ?_
  refine V_sld (pc := 294) hX hSc (kq + 2) (by omega) (by omega) (by omega) dL_law_294 ?_
  refine V_oI (xs (kq + 2)).toInt (oI_of _).symm ?_
  refine V_aload_n (pc := 295) (j := 0) hX 0 rfl rfl dL_law_295 ?_
  refine V_iload_n (pc := 296) (j := 3) hX 3 rfl rfl dL_law_296 ?_
  refine V_iconst (pc := 297) (z := 3) hX (oI 3) rfl dL_law_297 ?_
  refine Z_iadd (pc := 298) hX dL_law_298 ?_
  refine V_sld (pc := 299) hX hSc (kq + 3) (by omega) (by omega) (by omega) dL_law_299 ?_
  refine V_oI (xs (kq + 3)).toInt (oI_of _).symm ?_
  refine V_aload_n (pc := 300) (j := 0) hX 0 rfl rfl dL_law_300 ?_
  refine V_iload_n (pc := 301) (j := 3) hX 3 rfl rfl dL_law_301 ?_
  refine V_iconst (pc := 302) (z := 4) hX (oI 4) rfl dL_law_302 ?_
  refine Z_iadd (pc := 303) hX dL_law_303 ?_
  refine V_sld (pc := 304) hX hSc (kq + 4) (by omega) (by omega) (by omega) dL_law_304 ?_
  refine V_oI (xs (kq + 4)).toInt (oI_of _).symm ?_
  refine cVIp4 (pc := 305) hX (c_X6_move (σ := σ) (Rg_of _) (Rg_of _) (Rg_of _) (Rg_of _) (hB.m1 h1)) (by decide) st_L_26 ix_20 rfl rfl rfl (Nat.le_of_ble_eq_true rfl) dL_law_305 (fun r2 D2 h2 => ?_)
  obtain ⟨hre, hB2⟩ := Bth.cm h1 h2
  exact V_icmp_eq (pc := 308) (tgt := 997) hX dL_law_308 (by decide) (fun _ => hNx D2 _ hB2) (fun hne => absurd hre hne)
theorem law_c3 {E : Le} {X : Cx} {b L : Nat} {xs : Nat → Int32} (hX : Amb E X cL_law RL 4 12) (hSc : Scr X b L xs) (hL : L ≤ 3072) {kq : Nat} (hkq : kq + 6 ≤ L) {D : Dt} {σ : AS} (hB : Bth D σ) (hNx : ∀ (D2 : Dt) (σ2 : AS), Bth D2 σ2 → Vw E X 4 D2 997 [(0, some (.ref b)), (1, some (.ref (E.1 (0, 0)))), (2, some (.ref (E.1 (20, 0)))), (3, some (.int (oI (kq : Int))))] []) : Vw E X 4 D 313 [(0, some (.ref b)), (1, some (.ref (E.1 (0, 0)))), (2, some (.ref (E.1 (20, 0)))), (3, some (.int (oI (kq : Int))))] [] := by
  refine V_aload_n (pc := 313) (j := 1) hX 1 rfl rfl dL_law_313 ?_
  refine V_aload_n (pc := 314) (j := 0) hX 0 rfl rfl dL_law_314 ?_
  refine V_iload_n (pc := 315) (j := 3) hX 3 rfl rfl dL_law_315 ?_
  refine V_iconst (pc := 316) (z := 1) hX (oI 1) rfl dL_law_316 ?_
  refine Z_iadd (pc := 317) hX dL_law_317 ?_
  refine V_sld (pc := 318) hX hSc (kq + 1) (by omega) (by omega) (by omega) dL_law_318 ?_
  refine V_oI (xs (kq + 1)).toInt (oI_of _).symm ?_
  refine V_aload_n (pc := 319) (j := 0) hX 0 rfl rfl dL_law_319 ?_
  refine V_iload_n (pc := 320) (j := 3) hX 3 rfl rfl dL_law_320 ?_
  refine V_iconst (pc := 321) (z := 2) hX (oI 2) rfl dL_law_321 ?_
  refine Z_iadd (pc := 322) hX dL_law_322 ?_
  refine V_sld (pc := 323) hX hSc (kq + 2) (by omega) (by omega) (by omega) dL_law_323 ?_
  refine V_oI (xs (kq + 2)).toInt (oI_of _).symm ?_
  refine V_aload_n (pc := 324) (j := 0) hX 0 rfl rfl dL_law_324 ?_
  refine V_iload_n (pc := 325) (j := 3) hX 3 rfl rfl dL_law_325 ?_
  refine V_iconst (pc := 326) (z := 3) hX (oI 3) rfl dL_law_326 ?_
  refine Z_iadd (pc := 327) hX dL_law_327 ?_
  refine V_sld (pc := 328) hX hSc (kq + 3) (by omega) (by omega) (by omega) dL_law_328 ?_
  refine V_oI (xs (kq + 3)).toInt (oI_of _).symm ?_
  refine cVIp3 (pc := 329) hX (c_X5_grow (σ := σ) (Rg_of _) (Rg_of _) (Rg_of _) hB.1) (by decide) st_L_27 ix_0 rfl rfl rfl (Nat.le_of_ble_eq_true rfl) dL_law_329 (fun r1 D1 h1 => ?_)
  refine V_aload_n (pc := 332) (j := 2) hX 2 rfl rfl dL_law_332 ?_
  refine V_aload_n (pc := 333) (j := 0) hX 0 rfl rfl dL_law_333 ?_
  refine V_iload_n (pc := 334) (j := 3) hX 3 rfl rfl dL_law_334 ?_
  refine V_iconst (pc := 335) (z := 1) hX (oI 1) rfl dL_law_335 ?_
  refine Z_iadd (pc := 336) hX dL_law_336 ?_
  refine V_sld (pc := 337) hX hSc (kq + 1) (by omega) (by omega) (by omega) dL_law_337 ?_
  refine V_oI (xs (kq + 1)).toInt (oI_of _).symm ?_
  refine V_aload_n (pc := 338) (j := 0) hX 0 rfl rfl dL_law_338 ?_
  refine V_iload_n (pc := 339) (j := 3) hX 3 rfl rfl dL_law_339 ?_
  refine V_iconst (pc := 340) (z := 2) hX (oI 2) rfl dL_law_340 ?_
  refine Z_iadd (pc := 341) hX dL_law_341 ?_
  refine V_sld (pc := 342) hX hSc (kq + 2) (by omega) (by omega) (by omega) dL_law_342 ?_
  refine V_oI (xs (kq + 2)).toInt (oI_of _).symm ?_
  refine V_aload_n (pc := 343) (j := 0) hX 0 rfl rfl dL_law_343 ?_
  refine V_iload_n (pc := 344) (j := 3) hX 3 rfl rfl dL_law_344 ?_
  refine V_iconst (pc := 345) (z := 3) hX (oI 3) rfl dL_law_345 ?_
  refine Z_iadd (pc := 346) hX dL_law_346 ?_
  refine V_sld (pc := 347) hX hSc (kq + 3) (by omega) (by omega) (by omega) dL_law_347 ?_
  refine V_oI (xs (kq + 3)).toInt (oI_of _).symm ?_
  refine cVIp3 (pc := 348) hX (c_X6_grow (σ := σ) (Rg_of _) (Rg_of _) (Rg_of _) (hB.m1 h1)) (by decide) st_L_31 ix_20 rfl rfl rfl (Nat.le_of_ble_eq_true rfl) dL_law_348 (fun r2 D2 h2 => ?_)
  obtain ⟨hre, hB2⟩ := Bth.cm h1 h2
  exact V_icmp_eq (pc := 351) (tgt := 997) hX dL_law_351 (by decide) (fun _ => hNx D2 _ hB2) (fun hne => absurd hre hne)
theorem law_c4 {E : Le} {X : Cx} {b L : Nat} {xs : Nat → Int32} (hX : Amb E X cL_law RL 4 12) (hSc : Scr X b L xs) (hL : L ≤ 3072) {kq : Nat} (hkq : kq + 6 ≤ L) {D : Dt} {σ : AS} (hB : Bth D σ) (hNx : ∀ (D2 : Dt) (σ2 : AS), Bth D2 σ2 → Vw E X 4 D2 997 [(0, some (.ref b)), (1, some (.ref (E.1 (0, 0)))), (2, some (.ref (E.1 (20, 0)))), (3, some (.int (oI (kq : Int))))] []) : Vw E X 4 D 356 [(0, some (.ref b)), (1, some (.ref (E.1 (0, 0)))), (2, some (.ref (E.1 (20, 0)))), (3, some (.int (oI (kq : Int))))] [] := by
  refine V_aload_n (pc := 356) (j := 1) hX 1 rfl rfl dL_law_356 ?_
  refine V_aload_n (pc := 357) (j := 0) hX 0 rfl rfl dL_law_357 ?_
  refine V_iload_n (pc := 358) (j := 3) hX 3 rfl rfl dL_law_358 ?_
  refine V_iconst (pc := 359) (z := 1) hX (oI 1) rfl dL_law_359 ?_
  refine Z_iadd (pc := 360) hX dL_law_360 ?_
  refine V_sld (pc := 361) hX hSc (kq + 1) (by omega) (by omega) (by omega) dL_law_361 ?_
  refine V_oI (xs (kq + 1)).toInt (oI_of _).symm ?_
  refine V_aload_n (pc := 362) (j := 0) hX 0 rfl rfl dL_law_362 ?_
  refine V_iload_n (pc := 363) (j := 3) hX 3 rfl rfl dL_law_363 ?_
  refine V_iconst (pc := 364) (z := 2) hX (oI 2) rfl dL_law_364 ?_
  refine Z_iadd (pc := 365) hX dL_law_365 ?_
  refine V_sld (pc := 366) hX hSc (kq + 2) (by omega) (by omega) (by omega) dL_law_366 ?_
  refine V_oI (xs (kq + 2)).toInt (oI_of _).symm ?_
  refine V_aload_n (pc := 367) (j := 0) hX 0 rfl rfl dL_law_367 ?_
  refine V_iload_n (pc := 368) (j := 3) hX 3 rfl rfl dL_law_368 ?_
  refine V_iconst (pc := 369) (z := 3) hX (oI 3) rfl dL_law_369 ?_
  refine Z_iadd (pc := 370) hX dL_law_370 ?_
  refine V_sld (pc := 371) hX hSc (kq + 3) (by omega) (by omega) (by omega) dL_law_371 ?_
  refine V_oI (xs (kq + 3)).toInt (oI_of _).symm ?_
  refine cVIp3 (pc := 372) hX (c_X5_flip (σ := σ) (Rg_of _) (Rg_of _) (Rg_of _) hB.1) (by decide) st_L_32 ix_0 rfl rfl rfl (Nat.le_of_ble_eq_true rfl) dL_law_372 (fun r1 D1 h1 => ?_)
  refine V_aload_n (pc := 375) (j := 2) hX 2 rfl rfl dL_law_375 ?_
  refine V_aload_n (pc := 376) (j := 0) hX 0 rfl rfl dL_law_376 ?_
  refine V_iload_n (pc := 377) (j := 3) hX 3 rfl rfl dL_law_377 ?_
  refine V_iconst (pc := 378) (z := 1) hX (oI 1) rfl dL_law_378 ?_
  refine Z_iadd (pc := 379) hX dL_law_379 ?_
  refine V_sld (pc := 380) hX hSc (kq + 1) (by omega) (by omega) (by omega) dL_law_380 ?_
  refine V_oI (xs (kq + 1)).toInt (oI_of _).symm ?_
  refine V_aload_n (pc := 381) (j := 0) hX 0 rfl rfl dL_law_381 ?_
  refine V_iload_n (pc := 382) (j := 3) hX 3 rfl rfl dL_law_382 ?_
  refine V_iconst (pc := 383) (z := 2) hX (oI 2) rfl dL_law_383 ?_
  refine Z_iadd (pc := 384) hX dL_law_384 ?_
  refine V_sld (pc := 385) hX hSc (kq + 2) (by omega) (by omega) (by omega) dL_law_385 ?_
  refine V_oI (xs (kq + 2)).toInt (oI_of _).symm ?_
  refine V_aload_n (pc := 386) (j := 0) hX 0 rfl rfl dL_law_386 ?_
  refine V_iload_n (pc := 387) (j := 3) hX 3 rfl rfl dL_law_387 ?_
  refine V_iconst (pc := 388) (z := 3) hX (oI 3) rfl dL_law_388 ?_
  refine Z_iadd (pc := 389) hX dL_law_389 ?_
  refine V_sld (pc := 390) hX hSc (kq + 3) (by omega) (by omega) (by omega) dL_law_390 ?_
  refine V_oI (xs (kq + 3)).toInt (oI_of _).symm ?_
  refine cVIp3 (pc := 391) hX (c_X6_flip (σ := σ) (Rg_of _) (Rg_of _) (Rg_of _) (hB.m1 h1)) (by decide) st_L_35 ix_20 rfl rfl rfl (Nat.le_of_ble_eq_true rfl) dL_law_391 (fun r2 D2 h2 => ?_)
  obtain ⟨hre, hB2⟩ := Bth.cm h1 h2
  exact V_icmp_eq (pc := 394) (tgt := 997) hX dL_law_394 (by decide) (fun _ => hNx D2 _ hB2) (fun hne => absurd hre hne)
theorem law_c5 {E : Le} {X : Cx} {b L : Nat} {xs : Nat → Int32} (hX : Amb E X cL_law RL 4 12) (hSc : Scr X b L xs) (hL : L ≤ 3072) {kq : Nat} (hkq : kq + 6 ≤ L) {D : Dt} {σ : AS} (hB : Bth D σ) (hNx : ∀ (D2 : Dt) (σ2 : AS), Bth D2 σ2 → Vw E X 4 D2 997 [(0, some (.ref b)), (1, some (.ref (E.1 (0, 0)))), (2, some (.ref (E.1 (20, 0)))), (3, some (.int (oI (kq : Int))))] []) : Vw E X 4 D 399 [(0, some (.ref b)), (1, some (.ref (E.1 (0, 0)))), (2, some (.ref (E.1 (20, 0)))), (3, some (.int (oI (kq : Int))))] [] := by
  refine V_aload_n (pc := 399) (j := 1) hX 1 rfl rfl dL_law_399 ?_
  refine V_aload_n (pc := 400) (j := 0) hX 0 rfl rfl dL_law_400 ?_
  refine V_iload_n (pc := 401) (j := 3) hX 3 rfl rfl dL_law_401 ?_
  refine V_iconst (pc := 402) (z := 1) hX (oI 1) rfl dL_law_402 ?_
  refine Z_iadd (pc := 403) hX dL_law_403 ?_
  refine V_sld (pc := 404) hX hSc (kq + 1) (by omega) (by omega) (by omega) dL_law_404 ?_
  refine V_oI (xs (kq + 1)).toInt (oI_of _).symm ?_
  refine V_aload_n (pc := 405) (j := 0) hX 0 rfl rfl dL_law_405 ?_
  refine V_iload_n (pc := 406) (j := 3) hX 3 rfl rfl dL_law_406 ?_
  refine V_iconst (pc := 407) (z := 2) hX (oI 2) rfl dL_law_407 ?_
  refine Z_iadd (pc := 408) hX dL_law_408 ?_
  refine V_sld (pc := 409) hX hSc (kq + 2) (by omega) (by omega) (by omega) dL_law_409 ?_
  refine V_oI (xs (kq + 2)).toInt (oI_of _).symm ?_
  refine cVIp2 (pc := 410) hX (c_X5_rest (σ := σ) (Rg_of _) (Rg_of _) hB.1) (by decide) st_L_36 ix_0 rfl rfl rfl (Nat.le_of_ble_eq_true rfl) dL_law_410 (fun r1 D1 h1 => ?_)
  refine V_aload_n (pc := 413) (j := 2) hX 2 rfl rfl dL_law_413 ?_
  refine V_aload_n (pc := 414) (j := 0) hX 0 rfl rfl dL_law_414 ?_
  refine V_iload_n (pc := 415) (j := 3) hX 3 rfl rfl dL_law_415 ?_
  refine V_iconst (pc := 416) (z := 1) hX (oI 1) rfl dL_law_416 ?_
  refine Z_iadd (pc := 417) hX dL_law_417 ?_
  refine V_sld (pc := 418) hX hSc (kq + 1) (by omega) (by omega) (by omega) dL_law_418 ?_
  refine V_oI (xs (kq + 1)).toInt (oI_of _).symm ?_
  refine V_aload_n (pc := 419) (j := 0) hX 0 rfl rfl dL_law_419 ?_
  refine V_iload_n (pc := 420) (j := 3) hX 3 rfl rfl dL_law_420 ?_
  refine V_iconst (pc := 421) (z := 2) hX (oI 2) rfl dL_law_421 ?_
  refine Z_iadd (pc := 422) hX dL_law_422 ?_
  refine V_sld (pc := 423) hX hSc (kq + 2) (by omega) (by omega) (by omega) dL_law_423 ?_
  refine V_oI (xs (kq + 2)).toInt (oI_of _).symm ?_
  refine cVIp2 (pc := 424) hX (c_X6_rest (σ := σ) (Rg_of _) (Rg_of _) (hB.m1 h1)) (by decide) st_L_40 ix_20 rfl rfl rfl (Nat.le_of_ble_eq_true rfl) dL_law_424 (fun r2 D2 h2 => ?_)
  obtain ⟨hre, hB2⟩ := Bth.cm h1 h2
  exact V_icmp_eq (pc := 427) (tgt := 997) hX dL_law_427 (by decide) (fun _ => hNx D2 _ hB2) (fun hne => absurd hre hne)
theorem law_c6 {E : Le} {X : Cx} {b L : Nat} {xs : Nat → Int32} (hX : Amb E X cL_law RL 4 12) (hSc : Scr X b L xs) (hL : L ≤ 3072) {kq : Nat} (hkq : kq + 6 ≤ L) {D : Dt} {σ : AS} (hB : Bth D σ) (hNx : ∀ (D2 : Dt) (σ2 : AS), Bth D2 σ2 → Vw E X 4 D2 997 [(0, some (.ref b)), (1, some (.ref (E.1 (0, 0)))), (2, some (.ref (E.1 (20, 0)))), (3, some (.int (oI (kq : Int))))] []) : Vw E X 4 D 432 [(0, some (.ref b)), (1, some (.ref (E.1 (0, 0)))), (2, some (.ref (E.1 (20, 0)))), (3, some (.int (oI (kq : Int))))] [] := by
  refine V_aload_n (pc := 432) (j := 1) hX 1 rfl rfl dL_law_432 ?_
  refine V_aload_n (pc := 433) (j := 0) hX 0 rfl rfl dL_law_433 ?_
  refine V_iload_n (pc := 434) (j := 3) hX 3 rfl rfl dL_law_434 ?_
  refine V_iconst (pc := 435) (z := 1) hX (oI 1) rfl dL_law_435 ?_
  refine Z_iadd (pc := 436) hX dL_law_436 ?_
  refine V_sld (pc := 437) hX hSc (kq + 1) (by omega) (by omega) (by omega) dL_law_437 ?_
  refine V_oI (xs (kq + 1)).toInt (oI_of _).symm ?_
  refine V_aload_n (pc := 438) (j := 0) hX 0 rfl rfl dL_law_438 ?_
  refine V_iload_n (pc := 439) (j := 3) hX 3 rfl rfl dL_law_439 ?_
  refine V_iconst (pc := 440) (z := 2) hX (oI 2) rfl dL_law_440 ?_
  refine Z_iadd (pc := 441) hX dL_law_441 ?_
  refine V_sld (pc := 442) hX hSc (kq + 2) (by omega) (by omega) (by omega) dL_law_442 ?_
  refine V_oI (xs (kq + 2)).toInt (oI_of _).symm ?_
  refine V_aload_n (pc := 443) (j := 0) hX 0 rfl rfl dL_law_443 ?_
  refine V_iload_n (pc := 444) (j := 3) hX 3 rfl rfl dL_law_444 ?_
  refine V_iconst (pc := 445) (z := 3) hX (oI 3) rfl dL_law_445 ?_
  refine Z_iadd (pc := 446) hX dL_law_446 ?_
  refine V_sld (pc := 447) hX hSc (kq + 3) (by omega) (by omega) (by omega) dL_law_447 ?_
  refine V_oI (xs (kq + 3)).toInt (oI_of _).symm ?_
  refine V_aload_n (pc := 448) (j := 0) hX 0 rfl rfl dL_law_448 ?_
  refine V_iload_n (pc := 449) (j := 3) hX 3 rfl rfl dL_law_449 ?_
  refine V_iconst (pc := 450) (z := 4) hX (oI 4) rfl dL_law_450 ?_
  refine Z_iadd (pc := 451) hX dL_law_451 ?_
  refine V_sld (pc := 452) hX hSc (kq + 4) (by omega) (by omega) (by omega) dL_law_452 ?_
  refine V_oI (xs (kq + 4)).toInt (oI_of _).symm ?_
  refine cVIp4 (pc := 453) hX (c_X5_part (σ := σ) (Rg_of _) (Rg_of _) (Rg_of _) (Rg_of _) hB.1) (by decide) st_L_41 ix_0 rfl rfl rfl (Nat.le_of_ble_eq_true rfl) dL_law_453 (fun r1 D1 h1 => ?_)
  refine V_aload_n (pc := 456) (j := 2) hX 2 rfl rfl dL_law_456 ?_
  refine V_aload_n (pc := 457) (j := 0) hX 0 rfl rfl dL_law_457 ?_
  refine V_iload_n (pc := 458) (j := 3) hX 3 rfl rfl dL_law_458 ?_
  refine V_iconst (pc := 459) (z := 1) hX (oI 1) rfl dL_law_459 ?_
  refine Z_iadd (pc := 460) hX dL_law_460 ?_
  refine V_sld (pc := 461) hX hSc (kq + 1) (by omega) (by omega) (by omega) dL_law_461 ?_
  refine V_oI (xs (kq + 1)).toInt (oI_of _).symm ?_
  refine V_aload_n (pc := 462) (j := 0) hX 0 rfl rfl dL_law_462 ?_
  refine V_iload_n (pc := 463) (j := 3) hX 3 rfl rfl dL_law_463 ?_
  refine V_iconst (pc := 464) (z := 2) hX (oI 2) rfl dL_law_464 ?_
  refine Z_iadd (pc := 465) hX dL_law_465 ?_
  refine V_sld (pc := 466) hX hSc (kq + 2) (by omega) (by omega) (by omega) dL_law_466 ?_
  refine V_oI (xs (kq + 2)).toInt (oI_of _).symm ?_
  refine V_aload_n (pc := 467) (j := 0) hX 0 rfl rfl dL_law_467 ?_
  refine V_iload_n (pc := 468) (j := 3) hX 3 rfl rfl dL_law_468 ?_
  refine V_iconst (pc := 469) (z := 3) hX (oI 3) rfl dL_law_469 ?_
  refine Z_iadd (pc := 470) hX dL_law_470 ?_
  refine V_sld (pc := 471) hX hSc (kq + 3) (by omega) (by omega) (by omega) dL_law_471 ?_
  refine V_oI (xs (kq + 3)).toInt (oI_of _).symm ?_
  refine V_aload_n (pc := 472) (j := 0) hX 0 rfl rfl dL_law_472 ?_
  refine V_iload_n (pc := 473) (j := 3) hX 3 rfl rfl dL_law_473 ?_
  refine V_iconst (pc := 474) (z := 4) hX (oI 4) rfl dL_law_474 ?_
  refine Z_iadd (pc := 475) hX dL_law_475 ?_
  refine V_sld (pc := 476) hX hSc (kq + 4) (by omega) (by omega) (by omega) dL_law_476 ?_
  refine V_oI (xs (kq + 4)).toInt (oI_of _).symm ?_
  refine cVIp4 (pc := 477) hX (c_X6_part (σ := σ) (Rg_of _) (Rg_of _) (Rg_of _) (Rg_of _) (hB.m1 h1)) (by decide) st_L_44 ix_20 rfl rfl rfl (Nat.le_of_ble_eq_true rfl) dL_law_477 (fun r2 D2 h2 => ?_)
  obtain ⟨hre, hB2⟩ := Bth.cm h1 h2
  exact V_icmp_eq (pc := 480) (tgt := 997) hX dL_law_480 (by decide) (fun _ => hNx D2 _ hB2) (fun hne => absurd hre hne)
theorem law_c7 {E : Le} {X : Cx} {b L : Nat} {xs : Nat → Int32} (hX : Amb E X cL_law RL 4 12) (hSc : Scr X b L xs) (hL : L ≤ 3072) {kq : Nat} (hkq : kq + 6 ≤ L) {D : Dt} {σ : AS} (hB : Bth D σ) (hNx : ∀ (D2 : Dt) (σ2 : AS), Bth D2 σ2 → Vw E X 4 D2 997 [(0, some (.ref b)), (1, some (.ref (E.1 (0, 0)))), (2, some (.ref (E.1 (20, 0)))), (3, some (.int (oI (kq : Int))))] []) : Vw E X 4 D 485 [(0, some (.ref b)), (1, some (.ref (E.1 (0, 0)))), (2, some (.ref (E.1 (20, 0)))), (3, some (.int (oI (kq : Int))))] [] := by
  refine V_aload_n (pc := 485) (j := 1) hX 1 rfl rfl dL_law_485 ?_
  refine V_aload_n (pc := 486) (j := 0) hX 0 rfl rfl dL_law_486 ?_
  refine V_iload_n (pc := 487) (j := 3) hX 3 rfl rfl dL_law_487 ?_
  refine V_iconst (pc := 488) (z := 1) hX (oI 1) rfl dL_law_488 ?_
  refine Z_iadd (pc := 489) hX dL_law_489 ?_
  refine V_sld (pc := 490) hX hSc (kq + 1) (by omega) (by omega) (by omega) dL_law_490 ?_
  refine V_oI (xs (kq + 1)).toInt (oI_of _).symm ?_
  refine V_aload_n (pc := 491) (j := 0) hX 0 rfl rfl dL_law_491 ?_
  refine V_iload_n (pc := 492) (j := 3) hX 3 rfl rfl dL_law_492 ?_
  refine V_iconst (pc := 493) (z := 2) hX (oI 2) rfl dL_law_493 ?_
  refine Z_iadd (pc := 494) hX dL_law_494 ?_
  refine V_sld (pc := 495) hX hSc (kq + 2) (by omega) (by omega) (by omega) dL_law_495 ?_
  refine V_oI (xs (kq + 2)).toInt (oI_of _).symm ?_
  refine cVIp2 (pc := 496) hX (c_X5_corner (σ := σ) (Rg_of _) (Rg_of _) hB.1) (by decide) st_L_45 ix_0 rfl rfl rfl (Nat.le_of_ble_eq_true rfl) dL_law_496 (fun r1 D1 h1 => ?_)
  refine V_aload_n (pc := 499) (j := 2) hX 2 rfl rfl dL_law_499 ?_
  refine V_aload_n (pc := 500) (j := 0) hX 0 rfl rfl dL_law_500 ?_
  refine V_iload_n (pc := 501) (j := 3) hX 3 rfl rfl dL_law_501 ?_
  refine V_iconst (pc := 502) (z := 1) hX (oI 1) rfl dL_law_502 ?_
  refine Z_iadd (pc := 503) hX dL_law_503 ?_
  refine V_sld (pc := 504) hX hSc (kq + 1) (by omega) (by omega) (by omega) dL_law_504 ?_
  refine V_oI (xs (kq + 1)).toInt (oI_of _).symm ?_
  refine V_aload_n (pc := 505) (j := 0) hX 0 rfl rfl dL_law_505 ?_
  refine V_iload_n (pc := 506) (j := 3) hX 3 rfl rfl dL_law_506 ?_
  refine V_iconst (pc := 507) (z := 2) hX (oI 2) rfl dL_law_507 ?_
  refine Z_iadd (pc := 508) hX dL_law_508 ?_
  refine V_sld (pc := 509) hX hSc (kq + 2) (by omega) (by omega) (by omega) dL_law_509 ?_
  refine V_oI (xs (kq + 2)).toInt (oI_of _).symm ?_
  refine cVIp2 (pc := 510) hX (c_X6_corner (σ := σ) (Rg_of _) (Rg_of _) (hB.m1 h1)) (by decide) st_L_48 ix_20 rfl rfl rfl (Nat.le_of_ble_eq_true rfl) dL_law_510 (fun r2 D2 h2 => ?_)
  obtain ⟨hre, hB2⟩ := Bth.cm h1 h2
  exact V_icmp_eq (pc := 513) (tgt := 997) hX dL_law_513 (by decide) (fun _ => hNx D2 _ hB2) (fun hne => absurd hre hne)
theorem law_c8 {E : Le} {X : Cx} {b L : Nat} {xs : Nat → Int32} (hX : Amb E X cL_law RL 4 12) (hSc : Scr X b L xs) (hL : L ≤ 3072) {kq : Nat} (hkq : kq + 6 ≤ L) {D : Dt} {σ : AS} (hB : Bth D σ) (hNx : ∀ (D2 : Dt) (σ2 : AS), Bth D2 σ2 → Vw E X 4 D2 997 [(0, some (.ref b)), (1, some (.ref (E.1 (0, 0)))), (2, some (.ref (E.1 (20, 0)))), (3, some (.int (oI (kq : Int))))] []) : Vw E X 4 D 518 [(0, some (.ref b)), (1, some (.ref (E.1 (0, 0)))), (2, some (.ref (E.1 (20, 0)))), (3, some (.int (oI (kq : Int))))] [] := by
  refine V_aload_n (pc := 518) (j := 1) hX 1 rfl rfl dL_law_518 ?_
  refine V_aload_n (pc := 519) (j := 0) hX 0 rfl rfl dL_law_519 ?_
  refine V_iload_n (pc := 520) (j := 3) hX 3 rfl rfl dL_law_520 ?_
  refine V_iconst (pc := 521) (z := 1) hX (oI 1) rfl dL_law_521 ?_
  refine Z_iadd (pc := 522) hX dL_law_522 ?_
  refine V_sld (pc := 523) hX hSc (kq + 1) (by omega) (by omega) (by omega) dL_law_523 ?_
  refine V_oI (xs (kq + 1)).toInt (oI_of _).symm ?_
  refine cVIp1 (pc := 524) hX (c_X5_round (σ := σ) (Rg_of _) hB.1) (by decide) st_L_49 ix_0 rfl rfl rfl (Nat.le_of_ble_eq_true rfl) dL_law_524 (fun r1 D1 h1 => ?_)
  refine V_aload_n (pc := 527) (j := 2) hX 2 rfl rfl dL_law_527 ?_
  refine V_aload_n (pc := 528) (j := 0) hX 0 rfl rfl dL_law_528 ?_
  refine V_iload_n (pc := 529) (j := 3) hX 3 rfl rfl dL_law_529 ?_
  refine V_iconst (pc := 530) (z := 1) hX (oI 1) rfl dL_law_530 ?_
  refine Z_iadd (pc := 531) hX dL_law_531 ?_
  refine V_sld (pc := 532) hX hSc (kq + 1) (by omega) (by omega) (by omega) dL_law_532 ?_
  refine V_oI (xs (kq + 1)).toInt (oI_of _).symm ?_
  refine cVIp1 (pc := 533) hX (c_X6_round (σ := σ) (Rg_of _) (hB.m1 h1)) (by decide) st_L_53 ix_20 rfl rfl rfl (Nat.le_of_ble_eq_true rfl) dL_law_533 (fun r2 D2 h2 => ?_)
  obtain ⟨hre, hB2⟩ := Bth.cm h1 h2
  exact V_icmp_eq (pc := 536) (tgt := 997) hX dL_law_536 (by decide) (fun _ => hNx D2 _ hB2) (fun hne => absurd hre hne)
theorem law_c9 {E : Le} {X : Cx} {b L : Nat} {xs : Nat → Int32} (hX : Amb E X cL_law RL 4 12) (hSc : Scr X b L xs) (hL : L ≤ 3072) {kq : Nat} (hkq : kq + 6 ≤ L) {D : Dt} {σ : AS} (hB : Bth D σ) (hNx : ∀ (D2 : Dt) (σ2 : AS), Bth D2 σ2 → Vw E X 4 D2 997 [(0, some (.ref b)), (1, some (.ref (E.1 (0, 0)))), (2, some (.ref (E.1 (20, 0)))), (3, some (.int (oI (kq : Int))))] []) : Vw E X 4 D 541 [(0, some (.ref b)), (1, some (.ref (E.1 (0, 0)))), (2, some (.ref (E.1 (20, 0)))), (3, some (.int (oI (kq : Int))))] [] := by
  refine V_aload_n (pc := 541) (j := 1) hX 1 rfl rfl dL_law_541 ?_
  refine V_aload_n (pc := 542) (j := 0) hX 0 rfl rfl dL_law_542 ?_
  refine V_iload_n (pc := 543) (j := 3) hX 3 rfl rfl dL_law_543 ?_
  refine V_iconst (pc := 544) (z := 1) hX (oI 1) rfl dL_law_544 ?_
  refine Z_iadd (pc := 545) hX dL_law_545 ?_
  refine V_sld (pc := 546) hX hSc (kq + 1) (by omega) (by omega) (by omega) dL_law_546 ?_
  refine V_oI (xs (kq + 1)).toInt (oI_of _).symm ?_
  refine V_aload_n (pc := 547) (j := 0) hX 0 rfl rfl dL_law_547 ?_
  refine V_iload_n (pc := 548) (j := 3) hX 3 rfl rfl dL_law_548 ?_
  refine V_iconst (pc := 549) (z := 2) hX (oI 2) rfl dL_law_549 ?_
  refine Z_iadd (pc := 550) hX dL_law_550 ?_
  refine V_sld (pc := 551) hX hSc (kq + 2) (by omega) (by omega) (by omega) dL_law_551 ?_
  refine V_oI (xs (kq + 2)).toInt (oI_of _).symm ?_
  refine V_aload_n (pc := 552) (j := 0) hX 0 rfl rfl dL_law_552 ?_
  refine V_iload_n (pc := 553) (j := 3) hX 3 rfl rfl dL_law_553 ?_
  refine V_iconst (pc := 554) (z := 3) hX (oI 3) rfl dL_law_554 ?_
  refine Z_iadd (pc := 555) hX dL_law_555 ?_
  refine V_sld (pc := 556) hX hSc (kq + 3) (by omega) (by omega) (by omega) dL_law_556 ?_
  refine V_oI (xs (kq + 3)).toInt (oI_of _).symm ?_
  refine cVIp3 (pc := 557) hX (c_X5_draw (σ := σ) (Rg_of _) (Rg_of _) (Rg_of _) hB.1) (by decide) st_L_54 ix_0 rfl rfl rfl (Nat.le_of_ble_eq_true rfl) dL_law_557 (fun r1 D1 h1 => ?_)
  refine V_aload_n (pc := 560) (j := 2) hX 2 rfl rfl dL_law_560 ?_
  refine V_aload_n (pc := 561) (j := 0) hX 0 rfl rfl dL_law_561 ?_
  refine V_iload_n (pc := 562) (j := 3) hX 3 rfl rfl dL_law_562 ?_
  refine V_iconst (pc := 563) (z := 1) hX (oI 1) rfl dL_law_563 ?_
  refine Z_iadd (pc := 564) hX dL_law_564 ?_
  refine V_sld (pc := 565) hX hSc (kq + 1) (by omega) (by omega) (by omega) dL_law_565 ?_
  refine V_oI (xs (kq + 1)).toInt (oI_of _).symm ?_
  refine V_aload_n (pc := 566) (j := 0) hX 0 rfl rfl dL_law_566 ?_
  refine V_iload_n (pc := 567) (j := 3) hX 3 rfl rfl dL_law_567 ?_
  refine V_iconst (pc := 568) (z := 2) hX (oI 2) rfl dL_law_568 ?_
  refine Z_iadd (pc := 569) hX dL_law_569 ?_
  refine V_sld (pc := 570) hX hSc (kq + 2) (by omega) (by omega) (by omega) dL_law_570 ?_
  refine V_oI (xs (kq + 2)).toInt (oI_of _).symm ?_
  refine V_aload_n (pc := 571) (j := 0) hX 0 rfl rfl dL_law_571 ?_
  refine V_iload_n (pc := 572) (j := 3) hX 3 rfl rfl dL_law_572 ?_
  refine V_iconst (pc := 573) (z := 3) hX (oI 3) rfl dL_law_573 ?_
  refine Z_iadd (pc := 574) hX dL_law_574 ?_
  refine V_sld (pc := 575) hX hSc (kq + 3) (by omega) (by omega) (by omega) dL_law_575 ?_
  refine V_oI (xs (kq + 3)).toInt (oI_of _).symm ?_
  refine cVIp3 (pc := 576) hX (c_X6_draw (σ := σ) (Rg_of _) (Rg_of _) (Rg_of _) (hB.m1 h1)) (by decide) st_L_57 ix_20 rfl rfl rfl (Nat.le_of_ble_eq_true rfl) dL_law_576 (fun r2 D2 h2 => ?_)
  obtain ⟨hre, hB2⟩ := Bth.cm h1 h2
  exact V_icmp_eq (pc := 579) (tgt := 997) hX dL_law_579 (by decide) (fun _ => hNx D2 _ hB2) (fun hne => absurd hre hne)
theorem law_c10 {E : Le} {X : Cx} {b L : Nat} {xs : Nat → Int32} (hX : Amb E X cL_law RL 4 12) (hSc : Scr X b L xs) (hL : L ≤ 3072) {kq : Nat} (hkq : kq + 6 ≤ L) {D : Dt} {σ : AS} (hB : Bth D σ) (hNx : ∀ (D2 : Dt) (σ2 : AS), Bth D2 σ2 → Vw E X 4 D2 997 [(0, some (.ref b)), (1, some (.ref (E.1 (0, 0)))), (2, some (.ref (E.1 (20, 0)))), (3, some (.int (oI (kq : Int))))] []) : Vw E X 4 D 584 [(0, some (.ref b)), (1, some (.ref (E.1 (0, 0)))), (2, some (.ref (E.1 (20, 0)))), (3, some (.int (oI (kq : Int))))] [] := by
  refine V_aload_n (pc := 584) (j := 1) hX 1 rfl rfl dL_law_584 ?_
  refine V_aload_n (pc := 585) (j := 0) hX 0 rfl rfl dL_law_585 ?_
  refine V_iload_n (pc := 586) (j := 3) hX 3 rfl rfl dL_law_586 ?_
  refine V_iconst (pc := 587) (z := 1) hX (oI 1) rfl dL_law_587 ?_
  refine Z_iadd (pc := 588) hX dL_law_588 ?_
  refine V_sld (pc := 589) hX hSc (kq + 1) (by omega) (by omega) (by omega) dL_law_589 ?_
  refine V_oI (xs (kq + 1)).toInt (oI_of _).symm ?_
  refine V_aload_n (pc := 590) (j := 0) hX 0 rfl rfl dL_law_590 ?_
  refine V_iload_n (pc := 591) (j := 3) hX 3 rfl rfl dL_law_591 ?_
  refine V_iconst (pc := 592) (z := 2) hX (oI 2) rfl dL_law_592 ?_
  refine Z_iadd (pc := 593) hX dL_law_593 ?_
  refine V_sld (pc := 594) hX hSc (kq + 2) (by omega) (by omega) (by omega) dL_law_594 ?_
  refine V_oI (xs (kq + 2)).toInt (oI_of _).symm ?_
  refine V_aload_n (pc := 595) (j := 0) hX 0 rfl rfl dL_law_595 ?_
  refine V_iload_n (pc := 596) (j := 3) hX 3 rfl rfl dL_law_596 ?_
  refine V_iconst (pc := 597) (z := 3) hX (oI 3) rfl dL_law_597 ?_
  refine Z_iadd (pc := 598) hX dL_law_598 ?_
  refine V_sld (pc := 599) hX hSc (kq + 3) (by omega) (by omega) (by omega) dL_law_599 ?_
  refine V_oI (xs (kq + 3)).toInt (oI_of _).symm ?_
  refine cVIp3 (pc := 600) hX (c_X5_hit (σ := σ) (Rg_of _) (Rg_of _) (Rg_of _) hB.1) (by decide) st_L_58 ix_0 rfl rfl rfl (Nat.le_of_ble_eq_true rfl) dL_law_600 (fun r1 D1 h1 => ?_)
  refine V_aload_n (pc := 603) (j := 2) hX 2 rfl rfl dL_law_603 ?_
  refine V_aload_n (pc := 604) (j := 0) hX 0 rfl rfl dL_law_604 ?_
  refine V_iload_n (pc := 605) (j := 3) hX 3 rfl rfl dL_law_605 ?_
  refine V_iconst (pc := 606) (z := 1) hX (oI 1) rfl dL_law_606 ?_
  refine Z_iadd (pc := 607) hX dL_law_607 ?_
  refine V_sld (pc := 608) hX hSc (kq + 1) (by omega) (by omega) (by omega) dL_law_608 ?_
  refine V_oI (xs (kq + 1)).toInt (oI_of _).symm ?_
  refine V_aload_n (pc := 609) (j := 0) hX 0 rfl rfl dL_law_609 ?_
  refine V_iload_n (pc := 610) (j := 3) hX 3 rfl rfl dL_law_610 ?_
  refine V_iconst (pc := 611) (z := 2) hX (oI 2) rfl dL_law_611 ?_
  refine Z_iadd (pc := 612) hX dL_law_612 ?_
  refine V_sld (pc := 613) hX hSc (kq + 2) (by omega) (by omega) (by omega) dL_law_613 ?_
  refine V_oI (xs (kq + 2)).toInt (oI_of _).symm ?_
  refine V_aload_n (pc := 614) (j := 0) hX 0 rfl rfl dL_law_614 ?_
  refine V_iload_n (pc := 615) (j := 3) hX 3 rfl rfl dL_law_615 ?_
  refine V_iconst (pc := 616) (z := 3) hX (oI 3) rfl dL_law_616 ?_
  refine Z_iadd (pc := 617) hX dL_law_617 ?_
  refine V_sld (pc := 618) hX hSc (kq + 3) (by omega) (by omega) (by omega) dL_law_618 ?_
  refine V_oI (xs (kq + 3)).toInt (oI_of _).symm ?_
  refine cVIp3 (pc := 619) hX (c_X6_hit (σ := σ) (Rg_of _) (Rg_of _) (Rg_of _) (hB.m1 h1)) (by decide) st_L_61 ix_20 rfl rfl rfl (Nat.le_of_ble_eq_true rfl) dL_law_619 (fun r2 D2 h2 => ?_)
  obtain ⟨hre, hB2⟩ := Bth.cm h1 h2
  exact V_icmp_eq (pc := 622) (tgt := 997) hX dL_law_622 (by decide) (fun _ => hNx D2 _ hB2) (fun hne => absurd hre hne)
theorem law_c11 {E : Le} {X : Cx} {b L : Nat} {xs : Nat → Int32} (hX : Amb E X cL_law RL 4 12) (hSc : Scr X b L xs) (hL : L ≤ 3072) {kq : Nat} (hkq : kq + 6 ≤ L) {D : Dt} {σ : AS} (hB : Bth D σ) (hNx : ∀ (D2 : Dt) (σ2 : AS), Bth D2 σ2 → Vw E X 4 D2 997 [(0, some (.ref b)), (1, some (.ref (E.1 (0, 0)))), (2, some (.ref (E.1 (20, 0)))), (3, some (.int (oI (kq : Int))))] []) : Vw E X 4 D 627 [(0, some (.ref b)), (1, some (.ref (E.1 (0, 0)))), (2, some (.ref (E.1 (20, 0)))), (3, some (.int (oI (kq : Int))))] [] := by
  refine V_aload_n (pc := 627) (j := 1) hX 1 rfl rfl dL_law_627 ?_
  refine V_aload_n (pc := 628) (j := 0) hX 0 rfl rfl dL_law_628 ?_
  refine V_iload_n (pc := 629) (j := 3) hX 3 rfl rfl dL_law_629 ?_
  refine V_iconst (pc := 630) (z := 1) hX (oI 1) rfl dL_law_630 ?_
  refine Z_iadd (pc := 631) hX dL_law_631 ?_
  refine V_sld (pc := 632) hX hSc (kq + 1) (by omega) (by omega) (by omega) dL_law_632 ?_
  refine V_oI (xs (kq + 1)).toInt (oI_of _).symm ?_
  refine V_aload_n (pc := 633) (j := 0) hX 0 rfl rfl dL_law_633 ?_
  refine V_iload_n (pc := 634) (j := 3) hX 3 rfl rfl dL_law_634 ?_
  refine V_iconst (pc := 635) (z := 2) hX (oI 2) rfl dL_law_635 ?_
  refine Z_iadd (pc := 636) hX dL_law_636 ?_
  refine V_sld (pc := 637) hX hSc (kq + 2) (by omega) (by omega) (by omega) dL_law_637 ?_
  refine V_oI (xs (kq + 2)).toInt (oI_of _).symm ?_
  refine cVIp2 (pc := 638) hX (c_X5_of (σ := σ) (Rg_of _) (Rg_of _) hB.1) (by decide) st_L_62 ix_0 rfl rfl rfl (Nat.le_of_ble_eq_true rfl) dL_law_638 (fun r1 D1 h1 => ?_)
  refine V_aload_n (pc := 641) (j := 2) hX 2 rfl rfl dL_law_641 ?_
  refine V_aload_n (pc := 642) (j := 0) hX 0 rfl rfl dL_law_642 ?_
  refine V_iload_n (pc := 643) (j := 3) hX 3 rfl rfl dL_law_643 ?_
  refine V_iconst (pc := 644) (z := 1) hX (oI 1) rfl dL_law_644 ?_
  refine Z_iadd (pc := 645) hX dL_law_645 ?_
  refine V_sld (pc := 646) hX hSc (kq + 1) (by omega) (by omega) (by omega) dL_law_646 ?_
  refine V_oI (xs (kq + 1)).toInt (oI_of _).symm ?_
  refine V_aload_n (pc := 647) (j := 0) hX 0 rfl rfl dL_law_647 ?_
  refine V_iload_n (pc := 648) (j := 3) hX 3 rfl rfl dL_law_648 ?_
  refine V_iconst (pc := 649) (z := 2) hX (oI 2) rfl dL_law_649 ?_
  refine Z_iadd (pc := 650) hX dL_law_650 ?_
  refine V_sld (pc := 651) hX hSc (kq + 2) (by omega) (by omega) (by omega) dL_law_651 ?_
  refine V_oI (xs (kq + 2)).toInt (oI_of _).symm ?_
  refine cVIp2 (pc := 652) hX (c_X6_of (σ := σ) (Rg_of _) (Rg_of _) (hB.m1 h1)) (by decide) st_L_65 ix_20 rfl rfl rfl (Nat.le_of_ble_eq_true rfl) dL_law_652 (fun r2 D2 h2 => ?_)
  obtain ⟨hre, hB2⟩ := Bth.cm h1 h2
  exact V_icmp_eq (pc := 655) (tgt := 997) hX dL_law_655 (by decide) (fun _ => hNx D2 _ hB2) (fun hne => absurd hre hne)
theorem law_c12 {E : Le} {X : Cx} {b L : Nat} {xs : Nat → Int32} (hX : Amb E X cL_law RL 4 12) (hSc : Scr X b L xs) (hL : L ≤ 3072) {kq : Nat} (hkq : kq + 6 ≤ L) {D : Dt} {σ : AS} (hB : Bth D σ) (hNx : ∀ (D2 : Dt) (σ2 : AS), Bth D2 σ2 → Vw E X 4 D2 997 [(0, some (.ref b)), (1, some (.ref (E.1 (0, 0)))), (2, some (.ref (E.1 (20, 0)))), (3, some (.int (oI (kq : Int))))] []) : Vw E X 4 D 660 [(0, some (.ref b)), (1, some (.ref (E.1 (0, 0)))), (2, some (.ref (E.1 (20, 0)))), (3, some (.int (oI (kq : Int))))] [] := by
  refine V_aload_n (pc := 660) (j := 1) hX 1 rfl rfl dL_law_660 ?_
  refine V_aload_n (pc := 661) (j := 0) hX 0 rfl rfl dL_law_661 ?_
  refine V_iload_n (pc := 662) (j := 3) hX 3 rfl rfl dL_law_662 ?_
  refine V_iconst (pc := 663) (z := 1) hX (oI 1) rfl dL_law_663 ?_
  refine Z_iadd (pc := 664) hX dL_law_664 ?_
  refine V_sld (pc := 665) hX hSc (kq + 1) (by omega) (by omega) (by omega) dL_law_665 ?_
  refine V_oI (xs (kq + 1)).toInt (oI_of _).symm ?_
  refine V_aload_n (pc := 666) (j := 0) hX 0 rfl rfl dL_law_666 ?_
  refine V_iload_n (pc := 667) (j := 3) hX 3 rfl rfl dL_law_667 ?_
  refine V_iconst (pc := 668) (z := 2) hX (oI 2) rfl dL_law_668 ?_
  refine Z_iadd (pc := 669) hX dL_law_669 ?_
  refine V_sld (pc := 670) hX hSc (kq + 2) (by omega) (by omega) (by omega) dL_law_670 ?_
  refine V_oI (xs (kq + 2)).toInt (oI_of _).symm ?_
  refine V_aload_n (pc := 671) (j := 0) hX 0 rfl rfl dL_law_671 ?_
  refine V_iload_n (pc := 672) (j := 3) hX 3 rfl rfl dL_law_672 ?_
  refine V_iconst (pc := 673) (z := 3) hX (oI 3) rfl dL_law_673 ?_
  refine Z_iadd (pc := 674) hX dL_law_674 ?_
  refine V_sld (pc := 675) hX hSc (kq + 3) (by omega) (by omega) (by omega) dL_law_675 ?_
  refine V_oI (xs (kq + 3)).toInt (oI_of _).symm ?_
  refine cVIp3 (pc := 676) hX (c_X5_span (σ := σ) (Rg_of _) (Rg_of _) (Rg_of _) hB.1) (by decide) st_L_66 ix_0 rfl rfl rfl (Nat.le_of_ble_eq_true rfl) dL_law_676 (fun r1 D1 h1 => ?_)
  refine V_aload_n (pc := 679) (j := 2) hX 2 rfl rfl dL_law_679 ?_
  refine V_aload_n (pc := 680) (j := 0) hX 0 rfl rfl dL_law_680 ?_
  refine V_iload_n (pc := 681) (j := 3) hX 3 rfl rfl dL_law_681 ?_
  refine V_iconst (pc := 682) (z := 1) hX (oI 1) rfl dL_law_682 ?_
  refine Z_iadd (pc := 683) hX dL_law_683 ?_
  refine V_sld (pc := 684) hX hSc (kq + 1) (by omega) (by omega) (by omega) dL_law_684 ?_
  refine V_oI (xs (kq + 1)).toInt (oI_of _).symm ?_
  refine V_aload_n (pc := 685) (j := 0) hX 0 rfl rfl dL_law_685 ?_
  refine V_iload_n (pc := 686) (j := 3) hX 3 rfl rfl dL_law_686 ?_
  refine V_iconst (pc := 687) (z := 2) hX (oI 2) rfl dL_law_687 ?_
  refine Z_iadd (pc := 688) hX dL_law_688 ?_
  refine V_sld (pc := 689) hX hSc (kq + 2) (by omega) (by omega) (by omega) dL_law_689 ?_
  refine V_oI (xs (kq + 2)).toInt (oI_of _).symm ?_
  refine V_aload_n (pc := 690) (j := 0) hX 0 rfl rfl dL_law_690 ?_
  refine V_iload_n (pc := 691) (j := 3) hX 3 rfl rfl dL_law_691 ?_
  refine V_iconst (pc := 692) (z := 3) hX (oI 3) rfl dL_law_692 ?_
  refine Z_iadd (pc := 693) hX dL_law_693 ?_
  refine V_sld (pc := 694) hX hSc (kq + 3) (by omega) (by omega) (by omega) dL_law_694 ?_
  refine V_oI (xs (kq + 3)).toInt (oI_of _).symm ?_
  refine cVIp3 (pc := 695) hX (c_X6_span (σ := σ) (Rg_of _) (Rg_of _) (Rg_of _) (hB.m1 h1)) (by decide) st_L_69 ix_20 rfl rfl rfl (Nat.le_of_ble_eq_true rfl) dL_law_695 (fun r2 D2 h2 => ?_)
  obtain ⟨hre, hB2⟩ := Bth.cm h1 h2
  exact V_icmp_eq (pc := 698) (tgt := 997) hX dL_law_698 (by decide) (fun _ => hNx D2 _ hB2) (fun hne => absurd hre hne)
theorem law_c13 {E : Le} {X : Cx} {b L : Nat} {xs : Nat → Int32} (hX : Amb E X cL_law RL 4 12) (hSc : Scr X b L xs) (hL : L ≤ 3072) {kq : Nat} (hkq : kq + 6 ≤ L) {D : Dt} {σ : AS} (hB : Bth D σ) (hNx : ∀ (D2 : Dt) (σ2 : AS), Bth D2 σ2 → Vw E X 4 D2 997 [(0, some (.ref b)), (1, some (.ref (E.1 (0, 0)))), (2, some (.ref (E.1 (20, 0)))), (3, some (.int (oI (kq : Int))))] []) : Vw E X 4 D 703 [(0, some (.ref b)), (1, some (.ref (E.1 (0, 0)))), (2, some (.ref (E.1 (20, 0)))), (3, some (.int (oI (kq : Int))))] [] := by
  refine V_aload_n (pc := 703) (j := 1) hX 1 rfl rfl dL_law_703 ?_
  refine V_aload_n (pc := 704) (j := 0) hX 0 rfl rfl dL_law_704 ?_
  refine V_iload_n (pc := 705) (j := 3) hX 3 rfl rfl dL_law_705 ?_
  refine V_iconst (pc := 706) (z := 1) hX (oI 1) rfl dL_law_706 ?_
  refine Z_iadd (pc := 707) hX dL_law_707 ?_
  refine V_sld (pc := 708) hX hSc (kq + 1) (by omega) (by omega) (by omega) dL_law_708 ?_
  refine V_oI (xs (kq + 1)).toInt (oI_of _).symm ?_
  refine V_aload_n (pc := 709) (j := 0) hX 0 rfl rfl dL_law_709 ?_
  refine V_iload_n (pc := 710) (j := 3) hX 3 rfl rfl dL_law_710 ?_
  refine V_iconst (pc := 711) (z := 2) hX (oI 2) rfl dL_law_711 ?_
  refine Z_iadd (pc := 712) hX dL_law_712 ?_
  refine V_sld (pc := 713) hX hSc (kq + 2) (by omega) (by omega) (by omega) dL_law_713 ?_
  refine V_oI (xs (kq + 2)).toInt (oI_of _).symm ?_
  refine V_aload_n (pc := 714) (j := 0) hX 0 rfl rfl dL_law_714 ?_
  refine V_iload_n (pc := 715) (j := 3) hX 3 rfl rfl dL_law_715 ?_
  refine V_iconst (pc := 716) (z := 3) hX (oI 3) rfl dL_law_716 ?_
  refine Z_iadd (pc := 717) hX dL_law_717 ?_
  refine V_sld (pc := 718) hX hSc (kq + 3) (by omega) (by omega) (by omega) dL_law_718 ?_
  refine V_oI (xs (kq + 3)).toInt (oI_of _).symm ?_
  refine cVIp3 (pc := 719) hX (c_X5_two (σ := σ) (Rg_of _) (Rg_of _) (Rg_of _) hB.1) (by decide) st_L_70 ix_0 rfl rfl rfl (Nat.le_of_ble_eq_true rfl) dL_law_719 (fun r1 D1 h1 => ?_)
  refine V_aload_n (pc := 722) (j := 2) hX 2 rfl rfl dL_law_722 ?_
  refine V_aload_n (pc := 723) (j := 0) hX 0 rfl rfl dL_law_723 ?_
  refine V_iload_n (pc := 724) (j := 3) hX 3 rfl rfl dL_law_724 ?_
  refine V_iconst (pc := 725) (z := 1) hX (oI 1) rfl dL_law_725 ?_
  refine Z_iadd (pc := 726) hX dL_law_726 ?_
  refine V_sld (pc := 727) hX hSc (kq + 1) (by omega) (by omega) (by omega) dL_law_727 ?_
  refine V_oI (xs (kq + 1)).toInt (oI_of _).symm ?_
  refine V_aload_n (pc := 728) (j := 0) hX 0 rfl rfl dL_law_728 ?_
  refine V_iload_n (pc := 729) (j := 3) hX 3 rfl rfl dL_law_729 ?_
  refine V_iconst (pc := 730) (z := 2) hX (oI 2) rfl dL_law_730 ?_
  refine Z_iadd (pc := 731) hX dL_law_731 ?_
  refine V_sld (pc := 732) hX hSc (kq + 2) (by omega) (by omega) (by omega) dL_law_732 ?_
  refine V_oI (xs (kq + 2)).toInt (oI_of _).symm ?_
  refine V_aload_n (pc := 733) (j := 0) hX 0 rfl rfl dL_law_733 ?_
  refine V_iload_n (pc := 734) (j := 3) hX 3 rfl rfl dL_law_734 ?_
  refine V_iconst (pc := 735) (z := 3) hX (oI 3) rfl dL_law_735 ?_
  refine Z_iadd (pc := 736) hX dL_law_736 ?_
  refine V_sld (pc := 737) hX hSc (kq + 3) (by omega) (by omega) (by omega) dL_law_737 ?_
  refine V_oI (xs (kq + 3)).toInt (oI_of _).symm ?_
  refine cVIp3 (pc := 738) hX (c_X6_two (σ := σ) (Rg_of _) (Rg_of _) (Rg_of _) (hB.m1 h1)) (by decide) st_L_73 ix_20 rfl rfl rfl (Nat.le_of_ble_eq_true rfl) dL_law_738 (fun r2 D2 h2 => ?_)
  obtain ⟨hre, hB2⟩ := Bth.cm h1 h2
  exact V_icmp_eq (pc := 741) (tgt := 997) hX dL_law_741 (by decide) (fun _ => hNx D2 _ hB2) (fun hne => absurd hre hne)
theorem law_c14 {E : Le} {X : Cx} {b L : Nat} {xs : Nat → Int32} (hX : Amb E X cL_law RL 4 12) (hSc : Scr X b L xs) (hL : L ≤ 3072) {kq : Nat} (hkq : kq + 6 ≤ L) {D : Dt} {σ : AS} (hB : Bth D σ) (hNx : ∀ (D2 : Dt) (σ2 : AS), Bth D2 σ2 → Vw E X 4 D2 997 [(0, some (.ref b)), (1, some (.ref (E.1 (0, 0)))), (2, some (.ref (E.1 (20, 0)))), (3, some (.int (oI (kq : Int))))] []) : Vw E X 4 D 746 [(0, some (.ref b)), (1, some (.ref (E.1 (0, 0)))), (2, some (.ref (E.1 (20, 0)))), (3, some (.int (oI (kq : Int))))] [] := by
  refine V_aload_n (pc := 746) (j := 1) hX 1 rfl rfl dL_law_746 ?_
  refine V_aload_n (pc := 747) (j := 0) hX 0 rfl rfl dL_law_747 ?_
  refine V_iload_n (pc := 748) (j := 3) hX 3 rfl rfl dL_law_748 ?_
  refine V_iconst (pc := 749) (z := 1) hX (oI 1) rfl dL_law_749 ?_
  refine Z_iadd (pc := 750) hX dL_law_750 ?_
  refine V_sld (pc := 751) hX hSc (kq + 1) (by omega) (by omega) (by omega) dL_law_751 ?_
  refine V_oI (xs (kq + 1)).toInt (oI_of _).symm ?_
  refine V_aload_n (pc := 752) (j := 0) hX 0 rfl rfl dL_law_752 ?_
  refine V_iload_n (pc := 753) (j := 3) hX 3 rfl rfl dL_law_753 ?_
  refine V_iconst (pc := 754) (z := 2) hX (oI 2) rfl dL_law_754 ?_
  refine Z_iadd (pc := 755) hX dL_law_755 ?_
  refine V_sld (pc := 756) hX hSc (kq + 2) (by omega) (by omega) (by omega) dL_law_756 ?_
  refine V_oI (xs (kq + 2)).toInt (oI_of _).symm ?_
  refine cVIp2 (pc := 757) hX (c_X5_common (σ := σ) (Rg_of _) (Rg_of _) hB.1) (by decide) st_L_74 ix_0 rfl rfl rfl (Nat.le_of_ble_eq_true rfl) dL_law_757 (fun r1 D1 h1 => ?_)
  refine V_aload_n (pc := 760) (j := 2) hX 2 rfl rfl dL_law_760 ?_
  refine V_aload_n (pc := 761) (j := 0) hX 0 rfl rfl dL_law_761 ?_
  refine V_iload_n (pc := 762) (j := 3) hX 3 rfl rfl dL_law_762 ?_
  refine V_iconst (pc := 763) (z := 1) hX (oI 1) rfl dL_law_763 ?_
  refine Z_iadd (pc := 764) hX dL_law_764 ?_
  refine V_sld (pc := 765) hX hSc (kq + 1) (by omega) (by omega) (by omega) dL_law_765 ?_
  refine V_oI (xs (kq + 1)).toInt (oI_of _).symm ?_
  refine V_aload_n (pc := 766) (j := 0) hX 0 rfl rfl dL_law_766 ?_
  refine V_iload_n (pc := 767) (j := 3) hX 3 rfl rfl dL_law_767 ?_
  refine V_iconst (pc := 768) (z := 2) hX (oI 2) rfl dL_law_768 ?_
  refine Z_iadd (pc := 769) hX dL_law_769 ?_
  refine V_sld (pc := 770) hX hSc (kq + 2) (by omega) (by omega) (by omega) dL_law_770 ?_
  refine V_oI (xs (kq + 2)).toInt (oI_of _).symm ?_
  refine cVIp2 (pc := 771) hX (c_X6_common (σ := σ) (Rg_of _) (Rg_of _) (hB.m1 h1)) (by decide) st_L_77 ix_20 rfl rfl rfl (Nat.le_of_ble_eq_true rfl) dL_law_771 (fun r2 D2 h2 => ?_)
  obtain ⟨hre, hB2⟩ := Bth.cm h1 h2
  exact V_icmp_eq (pc := 774) (tgt := 997) hX dL_law_774 (by decide) (fun _ => hNx D2 _ hB2) (fun hne => absurd hre hne)
theorem law_c15 {E : Le} {X : Cx} {b L : Nat} {xs : Nat → Int32} (hX : Amb E X cL_law RL 4 12) (hSc : Scr X b L xs) (hL : L ≤ 3072) {kq : Nat} (hkq : kq + 6 ≤ L) {D : Dt} {σ : AS} (hB : Bth D σ) (hNx : ∀ (D2 : Dt) (σ2 : AS), Bth D2 σ2 → Vw E X 4 D2 997 [(0, some (.ref b)), (1, some (.ref (E.1 (0, 0)))), (2, some (.ref (E.1 (20, 0)))), (3, some (.int (oI (kq : Int))))] []) : Vw E X 4 D 779 [(0, some (.ref b)), (1, some (.ref (E.1 (0, 0)))), (2, some (.ref (E.1 (20, 0)))), (3, some (.int (oI (kq : Int))))] [] := by
  refine V_aload_n (pc := 779) (j := 1) hX 1 rfl rfl dL_law_779 ?_
  refine V_aload_n (pc := 780) (j := 0) hX 0 rfl rfl dL_law_780 ?_
  refine V_iload_n (pc := 781) (j := 3) hX 3 rfl rfl dL_law_781 ?_
  refine V_iconst (pc := 782) (z := 1) hX (oI 1) rfl dL_law_782 ?_
  refine Z_iadd (pc := 783) hX dL_law_783 ?_
  refine V_sld (pc := 784) hX hSc (kq + 1) (by omega) (by omega) (by omega) dL_law_784 ?_
  refine V_oI (xs (kq + 1)).toInt (oI_of _).symm ?_
  refine V_aload_n (pc := 785) (j := 0) hX 0 rfl rfl dL_law_785 ?_
  refine V_iload_n (pc := 786) (j := 3) hX 3 rfl rfl dL_law_786 ?_
  refine V_iconst (pc := 787) (z := 2) hX (oI 2) rfl dL_law_787 ?_
  refine Z_iadd (pc := 788) hX dL_law_788 ?_
  refine V_sld (pc := 789) hX hSc (kq + 2) (by omega) (by omega) (by omega) dL_law_789 ?_
  refine V_oI (xs (kq + 2)).toInt (oI_of _).symm ?_
  refine V_aload_n (pc := 790) (j := 0) hX 0 rfl rfl dL_law_790 ?_
  refine V_iload_n (pc := 791) (j := 3) hX 3 rfl rfl dL_law_791 ?_
  refine V_iconst (pc := 792) (z := 3) hX (oI 3) rfl dL_law_792 ?_
  refine Z_iadd (pc := 793) hX dL_law_793 ?_
  refine V_sld (pc := 794) hX hSc (kq + 3) (by omega) (by omega) (by omega) dL_law_794 ?_
  refine V_oI (xs (kq + 3)).toInt (oI_of _).symm ?_
  refine cVIp3 (pc := 795) hX (c_X5_across (σ := σ) (Rg_of _) (Rg_of _) (Rg_of _) hB.1) (by decide) st_L_78 ix_0 rfl rfl rfl (Nat.le_of_ble_eq_true rfl) dL_law_795 (fun r1 D1 h1 => ?_)
  refine V_aload_n (pc := 798) (j := 2) hX 2 rfl rfl dL_law_798 ?_
  refine V_aload_n (pc := 799) (j := 0) hX 0 rfl rfl dL_law_799 ?_
  refine V_iload_n (pc := 800) (j := 3) hX 3 rfl rfl dL_law_800 ?_
  refine V_iconst (pc := 801) (z := 1) hX (oI 1) rfl dL_law_801 ?_
  refine Z_iadd (pc := 802) hX dL_law_802 ?_
  refine V_sld (pc := 803) hX hSc (kq + 1) (by omega) (by omega) (by omega) dL_law_803 ?_
  refine V_oI (xs (kq + 1)).toInt (oI_of _).symm ?_
  refine V_aload_n (pc := 804) (j := 0) hX 0 rfl rfl dL_law_804 ?_
  refine V_iload_n (pc := 805) (j := 3) hX 3 rfl rfl dL_law_805 ?_
  refine V_iconst (pc := 806) (z := 2) hX (oI 2) rfl dL_law_806 ?_
  refine Z_iadd (pc := 807) hX dL_law_807 ?_
  refine V_sld (pc := 808) hX hSc (kq + 2) (by omega) (by omega) (by omega) dL_law_808 ?_
  refine V_oI (xs (kq + 2)).toInt (oI_of _).symm ?_
  refine V_aload_n (pc := 809) (j := 0) hX 0 rfl rfl dL_law_809 ?_
  refine V_iload_n (pc := 810) (j := 3) hX 3 rfl rfl dL_law_810 ?_
  refine V_iconst (pc := 811) (z := 3) hX (oI 3) rfl dL_law_811 ?_
  refine Z_iadd (pc := 812) hX dL_law_812 ?_
  refine V_sld (pc := 813) hX hSc (kq + 3) (by omega) (by omega) (by omega) dL_law_813 ?_
  refine V_oI (xs (kq + 3)).toInt (oI_of _).symm ?_
  refine cVIp3 (pc := 814) hX (c_X6_across (σ := σ) (Rg_of _) (Rg_of _) (Rg_of _) (hB.m1 h1)) (by decide) st_L_81 ix_20 rfl rfl rfl (Nat.le_of_ble_eq_true rfl) dL_law_814 (fun r2 D2 h2 => ?_)
  obtain ⟨hre, hB2⟩ := Bth.cm h1 h2
  exact V_icmp_eq (pc := 817) (tgt := 997) hX dL_law_817 (by decide) (fun _ => hNx D2 _ hB2) (fun hne => absurd hre hne)
theorem law_c16 {E : Le} {X : Cx} {b L : Nat} {xs : Nat → Int32} (hX : Amb E X cL_law RL 4 12) (hSc : Scr X b L xs) (hL : L ≤ 3072) {kq : Nat} (hkq : kq + 6 ≤ L) {D : Dt} {σ : AS} (hB : Bth D σ) (hNx : ∀ (D2 : Dt) (σ2 : AS), Bth D2 σ2 → Vw E X 4 D2 997 [(0, some (.ref b)), (1, some (.ref (E.1 (0, 0)))), (2, some (.ref (E.1 (20, 0)))), (3, some (.int (oI (kq : Int))))] []) : Vw E X 4 D 822 [(0, some (.ref b)), (1, some (.ref (E.1 (0, 0)))), (2, some (.ref (E.1 (20, 0)))), (3, some (.int (oI (kq : Int))))] [] := by
  refine V_aload_n (pc := 822) (j := 1) hX 1 rfl rfl dL_law_822 ?_
  refine V_aload_n (pc := 823) (j := 0) hX 0 rfl rfl dL_law_823 ?_
  refine V_iload_n (pc := 824) (j := 3) hX 3 rfl rfl dL_law_824 ?_
  refine V_iconst (pc := 825) (z := 1) hX (oI 1) rfl dL_law_825 ?_
  refine Z_iadd (pc := 826) hX dL_law_826 ?_
  refine V_sld (pc := 827) hX hSc (kq + 1) (by omega) (by omega) (by omega) dL_law_827 ?_
  refine V_oI (xs (kq + 1)).toInt (oI_of _).symm ?_
  refine V_aload_n (pc := 828) (j := 0) hX 0 rfl rfl dL_law_828 ?_
  refine V_iload_n (pc := 829) (j := 3) hX 3 rfl rfl dL_law_829 ?_
  refine V_iconst (pc := 830) (z := 2) hX (oI 2) rfl dL_law_830 ?_
  refine Z_iadd (pc := 831) hX dL_law_831 ?_
  refine V_sld (pc := 832) hX hSc (kq + 2) (by omega) (by omega) (by omega) dL_law_832 ?_
  refine V_oI (xs (kq + 2)).toInt (oI_of _).symm ?_
  refine cVIp2 (pc := 833) hX (c_X5_apart (σ := σ) (Rg_of _) (Rg_of _) hB.1) (by decide) st_L_82 ix_0 rfl rfl rfl (Nat.le_of_ble_eq_true rfl) dL_law_833 (fun r1 D1 h1 => ?_)
  refine V_aload_n (pc := 836) (j := 2) hX 2 rfl rfl dL_law_836 ?_
  refine V_aload_n (pc := 837) (j := 0) hX 0 rfl rfl dL_law_837 ?_
  refine V_iload_n (pc := 838) (j := 3) hX 3 rfl rfl dL_law_838 ?_
  refine V_iconst (pc := 839) (z := 1) hX (oI 1) rfl dL_law_839 ?_
  refine Z_iadd (pc := 840) hX dL_law_840 ?_
  refine V_sld (pc := 841) hX hSc (kq + 1) (by omega) (by omega) (by omega) dL_law_841 ?_
  refine V_oI (xs (kq + 1)).toInt (oI_of _).symm ?_
  refine V_aload_n (pc := 842) (j := 0) hX 0 rfl rfl dL_law_842 ?_
  refine V_iload_n (pc := 843) (j := 3) hX 3 rfl rfl dL_law_843 ?_
  refine V_iconst (pc := 844) (z := 2) hX (oI 2) rfl dL_law_844 ?_
  refine Z_iadd (pc := 845) hX dL_law_845 ?_
  refine V_sld (pc := 846) hX hSc (kq + 2) (by omega) (by omega) (by omega) dL_law_846 ?_
  refine V_oI (xs (kq + 2)).toInt (oI_of _).symm ?_
  refine cVIp2 (pc := 847) hX (c_X6_apart (σ := σ) (Rg_of _) (Rg_of _) (hB.m1 h1)) (by decide) st_L_85 ix_20 rfl rfl rfl (Nat.le_of_ble_eq_true rfl) dL_law_847 (fun r2 D2 h2 => ?_)
  obtain ⟨hre, hB2⟩ := Bth.cm h1 h2
  exact V_icmp_eq (pc := 850) (tgt := 997) hX dL_law_850 (by decide) (fun _ => hNx D2 _ hB2) (fun hne => absurd hre hne)
theorem law_c17 {E : Le} {X : Cx} {b L : Nat} {xs : Nat → Int32} (hX : Amb E X cL_law RL 4 12) (hSc : Scr X b L xs) (hL : L ≤ 3072) {kq : Nat} (hkq : kq + 6 ≤ L) {D : Dt} {σ : AS} (hB : Bth D σ) (hNx : ∀ (D2 : Dt) (σ2 : AS), Bth D2 σ2 → Vw E X 4 D2 997 [(0, some (.ref b)), (1, some (.ref (E.1 (0, 0)))), (2, some (.ref (E.1 (20, 0)))), (3, some (.int (oI (kq : Int))))] []) : Vw E X 4 D 855 [(0, some (.ref b)), (1, some (.ref (E.1 (0, 0)))), (2, some (.ref (E.1 (20, 0)))), (3, some (.int (oI (kq : Int))))] [] := by
  refine V_aload_n (pc := 855) (j := 1) hX 1 rfl rfl dL_law_855 ?_
  refine V_aload_n (pc := 856) (j := 0) hX 0 rfl rfl dL_law_856 ?_
  refine V_iload_n (pc := 857) (j := 3) hX 3 rfl rfl dL_law_857 ?_
  refine V_iconst (pc := 858) (z := 1) hX (oI 1) rfl dL_law_858 ?_
  refine Z_iadd (pc := 859) hX dL_law_859 ?_
  refine V_sld (pc := 860) hX hSc (kq + 1) (by omega) (by omega) (by omega) dL_law_860 ?_
  refine V_oI (xs (kq + 1)).toInt (oI_of _).symm ?_
  refine cVIp1 (pc := 861) hX (c_X5_type (σ := σ) (Rg_of _) hB.1) (by decide) st_L_86 ix_0 rfl rfl rfl (Nat.le_of_ble_eq_true rfl) dL_law_861 (fun r1 D1 h1 => ?_)
  refine V_aload_n (pc := 864) (j := 2) hX 2 rfl rfl dL_law_864 ?_
  refine V_aload_n (pc := 865) (j := 0) hX 0 rfl rfl dL_law_865 ?_
  refine V_iload_n (pc := 866) (j := 3) hX 3 rfl rfl dL_law_866 ?_
  refine V_iconst (pc := 867) (z := 1) hX (oI 1) rfl dL_law_867 ?_
  refine Z_iadd (pc := 868) hX dL_law_868 ?_
  refine V_sld (pc := 869) hX hSc (kq + 1) (by omega) (by omega) (by omega) dL_law_869 ?_
  refine V_oI (xs (kq + 1)).toInt (oI_of _).symm ?_
  refine cVIp1 (pc := 870) hX (c_X6_type (σ := σ) (Rg_of _) (hB.m1 h1)) (by decide) st_L_89 ix_20 rfl rfl rfl (Nat.le_of_ble_eq_true rfl) dL_law_870 (fun r2 D2 h2 => ?_)
  obtain ⟨hre, hB2⟩ := Bth.cm h1 h2
  exact V_icmp_eq (pc := 873) (tgt := 997) hX dL_law_873 (by decide) (fun _ => hNx D2 _ hB2) (fun hne => absurd hre hne)
theorem law_c18 {E : Le} {X : Cx} {b L : Nat} {xs : Nat → Int32} (hX : Amb E X cL_law RL 4 12) (hSc : Scr X b L xs) (hL : L ≤ 3072) {kq : Nat} (hkq : kq + 6 ≤ L) {D : Dt} {σ : AS} (hB : Bth D σ) (hNx : ∀ (D2 : Dt) (σ2 : AS), Bth D2 σ2 → Vw E X 4 D2 997 [(0, some (.ref b)), (1, some (.ref (E.1 (0, 0)))), (2, some (.ref (E.1 (20, 0)))), (3, some (.int (oI (kq : Int))))] []) : Vw E X 4 D 878 [(0, some (.ref b)), (1, some (.ref (E.1 (0, 0)))), (2, some (.ref (E.1 (20, 0)))), (3, some (.int (oI (kq : Int))))] [] := by
  refine V_aload_n (pc := 878) (j := 1) hX 1 rfl rfl dL_law_878 ?_
  refine cVIp0 (pc := 879) hX (c_X5_clear (σ := σ) hB.1) (by decide) st_L_90 ix_0 rfl rfl rfl (Nat.le_of_ble_eq_true rfl) dL_law_879 (fun r1 D1 h1 => ?_)
  refine V_aload_n (pc := 882) (j := 2) hX 2 rfl rfl dL_law_882 ?_
  refine cVIp0 (pc := 883) hX (c_X6_clear (σ := σ) (hB.m1 h1)) (by decide) st_L_94 ix_20 rfl rfl rfl (Nat.le_of_ble_eq_true rfl) dL_law_883 (fun r2 D2 h2 => ?_)
  obtain ⟨hre, hB2⟩ := Bth.cm h1 h2
  exact V_icmp_eq (pc := 886) (tgt := 997) hX dL_law_886 (by decide) (fun _ => hNx D2 _ hB2) (fun hne => absurd hre hne)
theorem law_c19 {E : Le} {X : Cx} {b L : Nat} {xs : Nat → Int32} (hX : Amb E X cL_law RL 4 12) (hSc : Scr X b L xs) (hL : L ≤ 3072) {kq : Nat} (hkq : kq + 6 ≤ L) {D : Dt} {σ : AS} (hB : Bth D σ) (hNx : ∀ (D2 : Dt) (σ2 : AS), Bth D2 σ2 → Vw E X 4 D2 997 [(0, some (.ref b)), (1, some (.ref (E.1 (0, 0)))), (2, some (.ref (E.1 (20, 0)))), (3, some (.int (oI (kq : Int))))] []) : Vw E X 4 D 891 [(0, some (.ref b)), (1, some (.ref (E.1 (0, 0)))), (2, some (.ref (E.1 (20, 0)))), (3, some (.int (oI (kq : Int))))] [] := by
  refine V_aload_n (pc := 891) (j := 1) hX 1 rfl rfl dL_law_891 ?_
  refine cVIp0 (pc := 892) hX (c_X5_does (σ := σ) hB.1) (by decide) st_L_95 ix_0 rfl rfl rfl (Nat.le_of_ble_eq_true rfl) dL_law_892 (fun r1 D1 h1 => ?_)
  refine V_aload_n (pc := 895) (j := 2) hX 2 rfl rfl dL_law_895 ?_
  refine cVIp0 (pc := 896) hX (c_X6_does (σ := σ) (hB.m1 h1)) (by decide) st_L_98 ix_20 rfl rfl rfl (Nat.le_of_ble_eq_true rfl) dL_law_896 (fun r2 D2 h2 => ?_)
  obtain ⟨hre, hB2⟩ := Bth.cm h1 h2
  exact V_icmp_eq (pc := 899) (tgt := 997) hX dL_law_899 (by decide) (fun _ => hNx D2 _ hB2) (fun hne => absurd hre hne)
theorem law_c20 {E : Le} {X : Cx} {b L : Nat} {xs : Nat → Int32} (hX : Amb E X cL_law RL 4 12) (hSc : Scr X b L xs) (hL : L ≤ 3072) {kq : Nat} (hkq : kq + 6 ≤ L) {D : Dt} {σ : AS} (hB : Bth D σ) (hNx : ∀ (D2 : Dt) (σ2 : AS), Bth D2 σ2 → Vw E X 4 D2 997 [(0, some (.ref b)), (1, some (.ref (E.1 (0, 0)))), (2, some (.ref (E.1 (20, 0)))), (3, some (.int (oI (kq : Int))))] []) : Vw E X 4 D 904 [(0, some (.ref b)), (1, some (.ref (E.1 (0, 0)))), (2, some (.ref (E.1 (20, 0)))), (3, some (.int (oI (kq : Int))))] [] := by
  refine V_aload_n (pc := 904) (j := 1) hX 1 rfl rfl dL_law_904 ?_
  refine V_aload_n (pc := 905) (j := 0) hX 0 rfl rfl dL_law_905 ?_
  refine V_iload_n (pc := 906) (j := 3) hX 3 rfl rfl dL_law_906 ?_
  refine V_iconst (pc := 907) (z := 1) hX (oI 1) rfl dL_law_907 ?_
  refine Z_iadd (pc := 908) hX dL_law_908 ?_
  refine V_sld (pc := 909) hX hSc (kq + 1) (by omega) (by omega) (by omega) dL_law_909 ?_
  refine V_oI (xs (kq + 1)).toInt (oI_of _).symm ?_
  refine V_aload_n (pc := 910) (j := 0) hX 0 rfl rfl dL_law_910 ?_
  refine V_iload_n (pc := 911) (j := 3) hX 3 rfl rfl dL_law_911 ?_
  refine V_iconst (pc := 912) (z := 2) hX (oI 2) rfl dL_law_912 ?_
  refine Z_iadd (pc := 913) hX dL_law_913 ?_
  refine V_sld (pc := 914) hX hSc (kq + 2) (by omega) (by omega) (by omega) dL_law_914 ?_
  refine V_oI (xs (kq + 2)).toInt (oI_of _).symm ?_
  refine cVIp2 (pc := 915) hX (c_X5_writing (σ := σ) (Rg_of _) (Rg_of _) hB.1) (by decide) st_L_99 ix_0 rfl rfl rfl (Nat.le_of_ble_eq_true rfl) dL_law_915 (fun r1 D1 h1 => ?_)
  refine V_aload_n (pc := 918) (j := 2) hX 2 rfl rfl dL_law_918 ?_
  refine V_aload_n (pc := 919) (j := 0) hX 0 rfl rfl dL_law_919 ?_
  refine V_iload_n (pc := 920) (j := 3) hX 3 rfl rfl dL_law_920 ?_
  refine V_iconst (pc := 921) (z := 1) hX (oI 1) rfl dL_law_921 ?_
  refine Z_iadd (pc := 922) hX dL_law_922 ?_
  refine V_sld (pc := 923) hX hSc (kq + 1) (by omega) (by omega) (by omega) dL_law_923 ?_
  refine V_oI (xs (kq + 1)).toInt (oI_of _).symm ?_
  refine V_aload_n (pc := 924) (j := 0) hX 0 rfl rfl dL_law_924 ?_
  refine V_iload_n (pc := 925) (j := 3) hX 3 rfl rfl dL_law_925 ?_
  refine V_iconst (pc := 926) (z := 2) hX (oI 2) rfl dL_law_926 ?_
  refine Z_iadd (pc := 927) hX dL_law_927 ?_
  refine V_sld (pc := 928) hX hSc (kq + 2) (by omega) (by omega) (by omega) dL_law_928 ?_
  refine V_oI (xs (kq + 2)).toInt (oI_of _).symm ?_
  refine cVIp2 (pc := 929) hX (c_X6_writing (σ := σ) (Rg_of _) (Rg_of _) (hB.m1 h1)) (by decide) st_L_102 ix_20 rfl rfl rfl (Nat.le_of_ble_eq_true rfl) dL_law_929 (fun r2 D2 h2 => ?_)
  obtain ⟨hre, hB2⟩ := Bth.cm h1 h2
  exact V_icmp_eq (pc := 932) (tgt := 997) hX dL_law_932 (by decide) (fun _ => hNx D2 _ hB2) (fun hne => absurd hre hne)
theorem law_c21 {E : Le} {X : Cx} {b L : Nat} {xs : Nat → Int32} (hX : Amb E X cL_law RL 4 12) (hSc : Scr X b L xs) (hL : L ≤ 3072) {kq : Nat} (hkq : kq + 6 ≤ L) {D : Dt} {σ : AS} (hB : Bth D σ) (hNx : ∀ (D2 : Dt) (σ2 : AS), Bth D2 σ2 → Vw E X 4 D2 997 [(0, some (.ref b)), (1, some (.ref (E.1 (0, 0)))), (2, some (.ref (E.1 (20, 0)))), (3, some (.int (oI (kq : Int))))] []) : Vw E X 4 D 937 [(0, some (.ref b)), (1, some (.ref (E.1 (0, 0)))), (2, some (.ref (E.1 (20, 0)))), (3, some (.int (oI (kq : Int))))] [] := by
  refine V_aload_n (pc := 937) (j := 1) hX 1 rfl rfl dL_law_937 ?_
  refine V_aload_n (pc := 938) (j := 0) hX 0 rfl rfl dL_law_938 ?_
  refine V_iload_n (pc := 939) (j := 3) hX 3 rfl rfl dL_law_939 ?_
  refine V_iconst (pc := 940) (z := 1) hX (oI 1) rfl dL_law_940 ?_
  refine Z_iadd (pc := 941) hX dL_law_941 ?_
  refine V_sld (pc := 942) hX hSc (kq + 1) (by omega) (by omega) (by omega) dL_law_942 ?_
  refine V_oI (xs (kq + 1)).toInt (oI_of _).symm ?_
  refine cVIp1 (pc := 943) hX (c_X5_mark (σ := σ) (Rg_of _) hB.1) (by decide) st_L_103 ix_0 rfl rfl rfl (Nat.le_of_ble_eq_true rfl) dL_law_943 (fun r1 D1 h1 => ?_)
  refine V_aload_n (pc := 946) (j := 2) hX 2 rfl rfl dL_law_946 ?_
  refine V_aload_n (pc := 947) (j := 0) hX 0 rfl rfl dL_law_947 ?_
  refine V_iload_n (pc := 948) (j := 3) hX 3 rfl rfl dL_law_948 ?_
  refine V_iconst (pc := 949) (z := 1) hX (oI 1) rfl dL_law_949 ?_
  refine Z_iadd (pc := 950) hX dL_law_950 ?_
  refine V_sld (pc := 951) hX hSc (kq + 1) (by omega) (by omega) (by omega) dL_law_951 ?_
  refine V_oI (xs (kq + 1)).toInt (oI_of _).symm ?_
  refine cVIp1 (pc := 952) hX (c_X6_mark (σ := σ) (Rg_of _) (hB.m1 h1)) (by decide) st_L_106 ix_20 rfl rfl rfl (Nat.le_of_ble_eq_true rfl) dL_law_952 (fun r2 D2 h2 => ?_)
  obtain ⟨hre, hB2⟩ := Bth.cm h1 h2
  exact V_icmp_eq (pc := 955) (tgt := 997) hX dL_law_955 (by decide) (fun _ => hNx D2 _ hB2) (fun hne => absurd hre hne)
theorem law_c22 {E : Le} {X : Cx} {b L : Nat} {xs : Nat → Int32} (hX : Amb E X cL_law RL 4 12) (hSc : Scr X b L xs) (hL : L ≤ 3072) {kq : Nat} (hkq : kq + 6 ≤ L) {D : Dt} {σ : AS} (hB : Bth D σ) (hNx : ∀ (D2 : Dt) (σ2 : AS), Bth D2 σ2 → Vw E X 4 D2 997 [(0, some (.ref b)), (1, some (.ref (E.1 (0, 0)))), (2, some (.ref (E.1 (20, 0)))), (3, some (.int (oI (kq : Int))))] []) : Vw E X 4 D 960 [(0, some (.ref b)), (1, some (.ref (E.1 (0, 0)))), (2, some (.ref (E.1 (20, 0)))), (3, some (.int (oI (kq : Int))))] [] := by
  refine V_aload_n (pc := 960) (j := 1) hX 1 rfl rfl dL_law_960 ?_
  refine V_aload_n (pc := 961) (j := 0) hX 0 rfl rfl dL_law_961 ?_
  refine V_iload_n (pc := 962) (j := 3) hX 3 rfl rfl dL_law_962 ?_
  refine V_iconst (pc := 963) (z := 1) hX (oI 1) rfl dL_law_963 ?_
  refine Z_iadd (pc := 964) hX dL_law_964 ?_
  refine V_sld (pc := 965) hX hSc (kq + 1) (by omega) (by omega) (by omega) dL_law_965 ?_
  refine V_oI (xs (kq + 1)).toInt (oI_of _).symm ?_
  refine cVIp1 (pc := 966) hX (c_X5_told (σ := σ) (Rg_of _) hB.1) (by decide) st_L_107 ix_0 rfl rfl rfl (Nat.le_of_ble_eq_true rfl) dL_law_966 (fun r1 D1 h1 => ?_)
  refine V_aload_n (pc := 969) (j := 2) hX 2 rfl rfl dL_law_969 ?_
  refine V_aload_n (pc := 970) (j := 0) hX 0 rfl rfl dL_law_970 ?_
  refine V_iload_n (pc := 971) (j := 3) hX 3 rfl rfl dL_law_971 ?_
  refine V_iconst (pc := 972) (z := 1) hX (oI 1) rfl dL_law_972 ?_
  refine Z_iadd (pc := 973) hX dL_law_973 ?_
  refine V_sld (pc := 974) hX hSc (kq + 1) (by omega) (by omega) (by omega) dL_law_974 ?_
  refine V_oI (xs (kq + 1)).toInt (oI_of _).symm ?_
  refine cVIp1 (pc := 975) hX (c_X6_told (σ := σ) (Rg_of _) (hB.m1 h1)) (by decide) st_L_110 ix_20 rfl rfl rfl (Nat.le_of_ble_eq_true rfl) dL_law_975 (fun r2 D2 h2 => ?_)
  obtain ⟨hre, hB2⟩ := Bth.cm h1 h2
  exact V_icmp_eq (pc := 978) (tgt := 997) hX dL_law_978 (by decide) (fun _ => hNx D2 _ hB2) (fun hne => absurd hre hne)
theorem law_c23 {E : Le} {X : Cx} {b L : Nat} {xs : Nat → Int32} (hX : Amb E X cL_law RL 4 12) (hSc : Scr X b L xs) (hL : L ≤ 3072) {kq : Nat} (hkq : kq + 6 ≤ L) {D : Dt} {σ : AS} (hB : Bth D σ) (hNx : ∀ (D2 : Dt) (σ2 : AS), Bth D2 σ2 → Vw E X 4 D2 997 [(0, some (.ref b)), (1, some (.ref (E.1 (0, 0)))), (2, some (.ref (E.1 (20, 0)))), (3, some (.int (oI (kq : Int))))] []) : Vw E X 4 D 983 [(0, some (.ref b)), (1, some (.ref (E.1 (0, 0)))), (2, some (.ref (E.1 (20, 0)))), (3, some (.int (oI (kq : Int))))] [] := by
  refine V_aload_n (pc := 983) (j := 1) hX 1 rfl rfl dL_law_983 ?_
  refine cVLp0 (pc := 984) hX (c_X5_digest (σ := σ) hB.1) (by decide) st_L_111 ix_0 rfl rfl rfl (Nat.le_of_ble_eq_true rfl) dL_law_984 (fun r1 D1 h1 => ?_)
  refine V_aload_n (pc := 987) (j := 2) hX 2 rfl rfl dL_law_987 ?_
  refine cVLp0 (pc := 988) hX (c_X6_digest (σ := σ) (hB.dgm h1)) (by decide) st_L_115 ix_20 rfl rfl rfl (Nat.le_of_ble_eq_true rfl) dL_law_988 (fun r2 D2 h2 => ?_)
  obtain ⟨hre, hB2⟩ := Bth.dg h1 h2
  refine V_lcmp (pc := 991) hX dL_law_991 ?_
  exact L_if_eq (pc := 992) (tgt := 997) hX dL_law_992 (by decide) (fun _ => hNx D2 _ hB2) (fun hne => absurd hre hne)
theorem law_loop {E : Le} {X : Cx} {b L : Nat} {xs : Nat → Int32} (hX : Amb E X cL_law RL 4 12) (hSc : Scr X b L xs) (hL : L ≤ 3072) (hEnd : ∀ (kq : Nat) (D2 : Dt), Vw E X 4 D2 1003 [(0, some (.ref b)), (1, some (.ref (E.1 (0, 0)))), (2, some (.ref (E.1 (20, 0)))), (3, some (.int (oI (kq : Int))))] []) : ∀ (mq kq : Nat) (D : Dt) (σ : AS), Bth D σ → kq ≤ L + 6 → L + 6 - kq < mq → Vw E X 4 D 18 [(0, some (.ref b)), (1, some (.ref (E.1 (0, 0)))), (2, some (.ref (E.1 (20, 0)))), (3, some (.int (oI (kq : Int))))] [] := by
  intro mq
  induction mq with
  | zero => intro kq D σ hB hle hlt; omega
  | succ mq ih =>
    intro kq D σ hB hle hlt
    refine V_iload_n (pc := 18) (j := 3) hX 3 rfl rfl dL_law_18 ?_
    refine V_aload_n (pc := 19) (j := 0) hX 0 rfl rfl dL_law_19 ?_
    refine V_slen (pc := 20) hX hSc dL_law_20 ?_
    refine V_bipush (pc := 21) (z := 6) hX (oI 6) (by decide) dL_law_21 ?_
    refine Z_isub (pc := 23) hX dL_law_23 ?_
    refine Z_icmp_gt (pc := 24) (tgt := 1003) hX (by omega) (by omega) dL_law_24 (by decide) (fun h24 => hEnd kq D) (fun h24 => ?_)
    have hkq : kq + 6 ≤ L := by omega
    have hNx : ∀ (D2 : Dt) (σ2 : AS), Bth D2 σ2 → Vw E X 4 D2 997 [(0, some (.ref b)), (1, some (.ref (E.1 (0, 0)))), (2, some (.ref (E.1 (20, 0)))), (3, some (.int (oI (kq : Int))))] [] := by
      intro D2 σ2 hB2
      refine Z_iinc (pc := 997) hX 6 rfl rfl dL_law_997 ?_
      refine V_goto (pc := 1000) (off := (-982)) (tgt := 18) hX (by decide) dL_law_1000 ?_
      refine V_cut [(0, some (.ref b)), (1, some (.ref (E.1 (0, 0)))), (2, some (.ref (E.1 (20, 0)))), (3, some (.int (oI ((kq + 6 : Nat) : Int))))] ⟨rfl, rfl, rfl, congrArg (fun q => some (Value.int (oI q))) (by omega), trivial⟩ ?_
      exact ih (kq + 6) D2 σ2 hB2 (by omega) (by omega)
    refine V_aload_n (pc := 27) (j := 0) hX 0 rfl rfl dL_law_27 ?_
    refine V_iload_n (pc := 28) (j := 3) hX 3 rfl rfl dL_law_28 ?_
    refine V_sld (pc := 29) hX hSc kq rfl (by omega) (by omega) dL_law_29 ?_
    refine V_bipush (pc := 30) (z := 31) hX (oI 31) (by decide) dL_law_30 ?_
    refine V_iand (pc := 32) hX dL_law_32 ?_
    refine V_oI (xs kq &&& oI 31).toInt (oI_of _).symm ?_
    have hsr := Rg_of (xs kq &&& oI 31)
    generalize (xs kq &&& oI 31).toInt = swv at hsr ⊢
    by_cases hw0 : swv = 0
    · refine Z_tableIn (pc := 33) (tgt := 144) hX 0 hw0 (by decide) (by decide) (by decide) dL_law_33 rfl (by decide) ?_
      exact law_c0 hX hSc hL hkq hB hNx
    by_cases hw1 : swv = 1
    · refine Z_tableIn (pc := 33) (tgt := 207) hX 1 hw1 (by decide) (by decide) (by decide) dL_law_33 rfl (by decide) ?_
      exact law_c1 hX hSc hL hkq hB hNx
    by_cases hw2 : swv = 2
    · refine Z_tableIn (pc := 33) (tgt := 260) hX 2 hw2 (by decide) (by decide) (by decide) dL_law_33 rfl (by decide) ?_
      exact law_c2 hX hSc hL hkq hB hNx
    by_cases hw3 : swv = 3
    · refine Z_tableIn (pc := 33) (tgt := 313) hX 3 hw3 (by decide) (by decide) (by decide) dL_law_33 rfl (by decide) ?_
      exact law_c3 hX hSc hL hkq hB hNx
    by_cases hw4 : swv = 4
    · refine Z_tableIn (pc := 33) (tgt := 356) hX 4 hw4 (by decide) (by decide) (by decide) dL_law_33 rfl (by decide) ?_
      exact law_c4 hX hSc hL hkq hB hNx
    by_cases hw5 : swv = 5
    · refine Z_tableIn (pc := 33) (tgt := 399) hX 5 hw5 (by decide) (by decide) (by decide) dL_law_33 rfl (by decide) ?_
      exact law_c5 hX hSc hL hkq hB hNx
    by_cases hw6 : swv = 6
    · refine Z_tableIn (pc := 33) (tgt := 432) hX 6 hw6 (by decide) (by decide) (by decide) dL_law_33 rfl (by decide) ?_
      exact law_c6 hX hSc hL hkq hB hNx
    by_cases hw7 : swv = 7
    · refine Z_tableIn (pc := 33) (tgt := 485) hX 7 hw7 (by decide) (by decide) (by decide) dL_law_33 rfl (by decide) ?_
      exact law_c7 hX hSc hL hkq hB hNx
    by_cases hw8 : swv = 8
    · refine Z_tableIn (pc := 33) (tgt := 518) hX 8 hw8 (by decide) (by decide) (by decide) dL_law_33 rfl (by decide) ?_
      exact law_c8 hX hSc hL hkq hB hNx
    by_cases hw9 : swv = 9
    · refine Z_tableIn (pc := 33) (tgt := 541) hX 9 hw9 (by decide) (by decide) (by decide) dL_law_33 rfl (by decide) ?_
      exact law_c9 hX hSc hL hkq hB hNx
    by_cases hw10 : swv = 10
    · refine Z_tableIn (pc := 33) (tgt := 584) hX 10 hw10 (by decide) (by decide) (by decide) dL_law_33 rfl (by decide) ?_
      exact law_c10 hX hSc hL hkq hB hNx
    by_cases hw11 : swv = 11
    · refine Z_tableIn (pc := 33) (tgt := 627) hX 11 hw11 (by decide) (by decide) (by decide) dL_law_33 rfl (by decide) ?_
      exact law_c11 hX hSc hL hkq hB hNx
    by_cases hw12 : swv = 12
    · refine Z_tableIn (pc := 33) (tgt := 660) hX 12 hw12 (by decide) (by decide) (by decide) dL_law_33 rfl (by decide) ?_
      exact law_c12 hX hSc hL hkq hB hNx
    by_cases hw13 : swv = 13
    · refine Z_tableIn (pc := 33) (tgt := 703) hX 13 hw13 (by decide) (by decide) (by decide) dL_law_33 rfl (by decide) ?_
      exact law_c13 hX hSc hL hkq hB hNx
    by_cases hw14 : swv = 14
    · refine Z_tableIn (pc := 33) (tgt := 746) hX 14 hw14 (by decide) (by decide) (by decide) dL_law_33 rfl (by decide) ?_
      exact law_c14 hX hSc hL hkq hB hNx
    by_cases hw15 : swv = 15
    · refine Z_tableIn (pc := 33) (tgt := 779) hX 15 hw15 (by decide) (by decide) (by decide) dL_law_33 rfl (by decide) ?_
      exact law_c15 hX hSc hL hkq hB hNx
    by_cases hw16 : swv = 16
    · refine Z_tableIn (pc := 33) (tgt := 822) hX 16 hw16 (by decide) (by decide) (by decide) dL_law_33 rfl (by decide) ?_
      exact law_c16 hX hSc hL hkq hB hNx
    by_cases hw17 : swv = 17
    · refine Z_tableIn (pc := 33) (tgt := 855) hX 17 hw17 (by decide) (by decide) (by decide) dL_law_33 rfl (by decide) ?_
      exact law_c17 hX hSc hL hkq hB hNx
    by_cases hw18 : swv = 18
    · refine Z_tableIn (pc := 33) (tgt := 878) hX 18 hw18 (by decide) (by decide) (by decide) dL_law_33 rfl (by decide) ?_
      exact law_c18 hX hSc hL hkq hB hNx
    by_cases hw19 : swv = 19
    · refine Z_tableIn (pc := 33) (tgt := 891) hX 19 hw19 (by decide) (by decide) (by decide) dL_law_33 rfl (by decide) ?_
      exact law_c19 hX hSc hL hkq hB hNx
    by_cases hw20 : swv = 20
    · refine Z_tableIn (pc := 33) (tgt := 904) hX 20 hw20 (by decide) (by decide) (by decide) dL_law_33 rfl (by decide) ?_
      exact law_c20 hX hSc hL hkq hB hNx
    by_cases hw21 : swv = 21
    · refine Z_tableIn (pc := 33) (tgt := 937) hX 21 hw21 (by decide) (by decide) (by decide) dL_law_33 rfl (by decide) ?_
      exact law_c21 hX hSc hL hkq hB hNx
    by_cases hw22 : swv = 22
    · refine Z_tableIn (pc := 33) (tgt := 960) hX 22 hw22 (by decide) (by decide) (by decide) dL_law_33 rfl (by decide) ?_
      exact law_c22 hX hSc hL hkq hB hNx
    by_cases hw23 : swv = 23
    · refine Z_tableIn (pc := 33) (tgt := 983) hX 23 hw23 (by decide) (by decide) (by decide) dL_law_33 rfl (by decide) ?_
      exact law_c23 hX hSc hL hkq hB hNx
    refine Z_tableOut (pc := 33) (tgt := 997) hX (by omega) (by omega) dL_law_33 (by decide) ?_
    exact hNx D σ hB
