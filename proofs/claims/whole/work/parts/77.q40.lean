theorem known_0 {s : State} {b : Nat} (hts : ∀ w ∈ lw_tbl, w.before #[Value.ref b] s = true) : ∃ (G : va_G) (cA0 : Nat → ClassId), va_K G vwCl (tyZ cA0) s := by
  have htg : ∀ w ∈ tblG, w.before #[Value.ref b] s = true := fun w hw => hts w (List.mem_filter.mp hw).1
  obtain ⟨k0, s0, hK0⟩ := u_known (C := RX0) (T := TX0) (N := 2) (n := 2) htg in_X0 (htg _ wd_i0)
  obtain ⟨k1, s1, hK1⟩ := u_known (C := RX1) (T := TX1) (N := 8) (n := 8) htg in_X1 (htg _ wd_i1)
  obtain ⟨k2, s2, hK2⟩ := u_known (C := RX2) (T := TX2) (N := 3) (n := 3) htg in_X2 (htg _ wd_i2)
  obtain ⟨k3, s3, hK3⟩ := u_known (C := RX3) (T := TX3) (N := 4) (n := 4) htg in_X3 (htg _ wd_i3)
  obtain ⟨k4, s4, hK4⟩ := u_known (C := RX4) (T := TX4) (N := 8) (n := 8) htg in_X4 (htg _ wd_i4)
  obtain ⟨k5, s5, hK5⟩ := u_known (C := RX5) (T := TX5) (N := 8) (n := 8) htg in_X5 (htg _ wd_i5)
  obtain ⟨k6, s6, hK6⟩ := u_known (C := RX6) (T := TX6) (N := 19) (n := 19) htg in_X6 (htg _ wd_i6)
  obtain ⟨y0, hy0⟩ := arr_K .byte (htg _ wd_a_byte)
  obtain ⟨y1, hy1⟩ := arr_K .char (htg _ wd_a_char)
  obtain ⟨y2, hy2⟩ := arr_K .int (htg _ wd_a_int)
  obtain ⟨y3, hy3⟩ := arr_K .long (htg _ wd_a_long)
  obtain ⟨y4, hy4⟩ := arr_O (va_AO.of (hts _ wq_91))
  refine ⟨(fun k => [k0, k1, k2, k3, k4, k5, k6].getD k k0, fun k => [s0, s1, s2, s3, s4, s5, s6].getD k s0), fun k => [y0, y1, y2, y3, y4].getD k y0, fun k q hq => ?_, fun k q hq => ?_⟩
  · match k, hq with
    | 0, hq => cases hq; exact hK0
    | 1, hq => cases hq; exact hK1
    | 2, hq => cases hq; exact hK2
    | 3, hq => cases hq; exact hK3
    | 4, hq => cases hq; exact hK4
    | 5, hq => cases hq; exact hK5
    | 6, hq => cases hq; exact hK6
    | k + 7, hq => simp [vwCl] at hq
  · match k, hq with
    | 0, hq => cases hq; exact hy0
    | 1, hq => cases hq; exact hy1
    | 2, hq => cases hq; exact hy2
    | 3, hq => cases hq; exact hy3
    | 4, hq => cases hq; exact hy4
    | k + 5, hq => simp [tyZ] at hq
set_option maxHeartbeats 4000000 in
set_option maxRecDepth 100000 in
theorem whole_start {p : Program} {e : Env} {s : State} {m : MethodId} {below : List Frame} {meth : Method} {c : Code} (l : Launch) {b L : Nat} {xs : Nat → Int32} (hL : L ≤ 3072) (C0 : lw_At p s m meth c b L xs) : W p l e room_1 s m #[Value.ref b] below meth c s.heap [] 0 0 (lw_Z below #[Value.ref b] s) (entryFrame m ([Value.ref b] : List Value).toArray 4) := by
  obtain ⟨hx, hb, hr, hml, hown, hts, hX, hbl, hlocks, hgv⟩ := id C0
  obtain ⟨sK, sV, hStc⟩ := stc_0 (A := fun q : Nat => s.heap.size ≤ q) hts hgv (fun z hz => Nat.not_le.mpr hz)
  obtain ⟨G, cA0, hK⟩ := known_0 hts
  have htg : ∀ w ∈ tblG, w.before #[Value.ref b] s = true := fun w hw => hts w (List.mem_filter.mp hw).1
  have hl := lv_entry ([.ref b]) (n := 4) (Nat.le_of_ble_eq_true rfl)
  rw [lg_entry_eq]
  have hY : Aml G cA0 (p, l, e, room_1, s, m, #[Value.ref b], below, meth, c, 600000, 7302250, lw_Z below #[Value.ref b] s, fun q : Nat => s.heap.size ≤ q) cL_law RL 4 13 478 600000 7302250 := ⟨hx, hb, hml, hown, htg, hK, fun q hq => hq, ⟨Nat.le_refl _, Nat.le_refl _, Nat.le_refl _, Nat.le_refl _⟩, va_AO.of (hts _ wq_91), va_Nw.of rfl (hts _ wq_193)⟩
  have hSc : Scr (p, l, e, room_1, s, m, #[Value.ref b], below, meth, c, 600000, 7302250, lw_Z below #[Value.ref b] s, fun q : Nat => s.heap.size ≤ q) b L xs := ⟨hX, hbl, Nat.not_le.mpr hbl⟩
  suffices hGo : Vl G (p, l, e, room_1, s, m, #[Value.ref b], below, meth, c, 600000, 7302250, lw_Z below #[Value.ref b] s, fun q : Nat => s.heap.size ≤ q) 4 0 0 [] 0 [(0, some (.ref b))] [] from hGo s.heap [] _ (fun k q h => by simp at h) ⟨fun i j p q h => by simp at h, fun k q h => by simp at h⟩ va_S.rf (lvOK_of hl)
  refine L_new (pc := 0) (C := RX5) (T := TX5) (N := 8) (ci := 5) (fs := [.null, .null, .null, .null, .null, .null, .null, .null]) hY wd_k5 wd_i5 wd_z5 in_X5 tyX5 tyX5_ok rfl (fun j hj => match j, hj with | 0, _ => rfl | 1, _ => rfl | 2, _ => rfl | 3, _ => rfl | 4, _ => rfl | 5, _ => rfl | 6, _ => rfl | 7, _ => rfl | n9 + 8, h9 => absurd h9 (by omega)) (by decide) (by decide) dL_law_0 (fun h0 => ?_)
  refine L_dup (pc := 3) hY rfl dL_law_3 ?_
  refine L_cI (pc := 4) hY (n_X5 G cA0 _) wd_l5 wd_m5 wd_z5 wd_c5 rfl (by decide +kernel) (by decide) (by decide) (by decide) (by decide) (Nat.le_of_ble_eq_true rfl) dL_law_4 (fun wq hwq => ?_)
  obtain ⟨ra, rt, ar, aw, ae, ad, rfl⟩ := hwq
  refine L_ws (ws' := wX5 cA0 h0 ra rt ar aw ae ad) rfl ?_
  refine L_astore_n (pc := 7) (j := 1) hY 1 rfl (by decide) rfl dL_law_7 ?_
  refine L_new (pc := 8) (C := RX6) (T := TX6) (N := 19) (ci := 6) (fs := [.null, .null, .null, .int 0, .null, .null, .int 0, .int 0, .null, .int 0, .int 0, .int 0, .int 0, .int 0, .int 0, .int 0, .int 0, .null, .int 0]) hY wd_k6 wd_i6 wd_z6 in_X6 tyX6 tyX6_ok rfl (fun j hj => match j, hj with | 0, _ => rfl | 1, _ => rfl | 2, _ => rfl | 3, _ => rfl | 4, _ => rfl | 5, _ => rfl | 6, _ => rfl | 7, _ => rfl | 8, _ => rfl | 9, _ => rfl | 10, _ => rfl | 11, _ => rfl | 12, _ => rfl | 13, _ => rfl | 14, _ => rfl | 15, _ => rfl | 16, _ => rfl | 17, _ => rfl | 18, _ => rfl | n9 + 19, h9 => absurd h9 (by omega)) (by decide) (by decide) dL_law_8 (fun m0 => ?_)
  refine L_dup (pc := 11) hY rfl dL_law_11 ?_
  refine L_cI (pc := 12) hY (n_X6 G cA0 _) wd_l6 wd_m6 wd_z6 wd_c6 rfl (by decide +kernel) (by decide) (by decide) (by decide) (by decide) (Nat.le_of_ble_eq_true rfl) dL_law_12 (fun wq hwq => ?_)
  obtain ⟨q1, q2, q3, q4, q5, q6, q7, rfl⟩ := hwq
  refine L_astore_n (pc := 15) (j := 2) hY 2 rfl (by decide) rfl dL_law_15 ?_
  refine L_iconst (pc := 16) hY (oI 0) (by decide) dL_law_16 ?_
  refine L_istore_n (pc := 17) (j := 3) hY 3 rfl (by decide) rfl dL_law_17 ?_
  refine L_cut [(0, some (.ref b)), (1, some (.ref h0)), (2, some (.ref m0)), (3, some (.int (oI 0)))] ⟨rfl, rfl, rfl, rfl, trivial⟩ ?_
  refine L_widen (k2 := 600000) (j2 := 7302250) (by decide) (by decide) ?_
  refine L_ws (ws_00 (G := G) (sK := sK) (sV := sV)) ?_
  intro H locs ls hP hD hS hl2
  obtain ⟨hWf, hIn⟩ := wf_00 hD
  have hAm : Amb (adrQ h0 ra rt m0 q1 q2 q3 q4 q5 q6 q7 ar aw ae ad, G, cA0, sK, sV) (p, l, e, room_1, s, m, #[Value.ref b], below, meth, c, 600000, 7302250, lw_Z below #[Value.ref b] s, fun q : Nat => s.heap.size ≤ q) cL_law RL 4 12 := ⟨hx, hb, hml, hown, htg, hK, hWf, hIn, ⟨by decide, by decide, Nat.le_refl _, Nat.le_refl _⟩, hStc _ _ _⟩
  refine law_loop hAm hSc hL (fun kq D2 => ?_) (L + 7) 0 D00 sg0 B_00 (by omega) (by omega) H locs ls hP hS hl2
  refine V_iconst (pc := 1003) hAm 1 (by decide) dL_law_1003 ?_
  intro H3 locs3 ls3 hP3 hS3 hl3
  exact va_forget (fun q hq => hS3.2.2 q hq) (lw_ret hx hb hr hlocks dL_law_1004)
