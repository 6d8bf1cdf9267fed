set_option maxHeartbeats 1000000 in
set_option maxRecDepth 100000 in
theorem lc_reset {p : Program} {l : Launch} {e : Env} {s : State} {m : MethodId} {below : List Frame} {meth : Method} {c : Code} {b L : Nat} {xs : Nat → Int32} {D : va_G} {cI cM cJ : ClassId} {h er tr sv : Nat} {a : Nat → Nat} {h2 sa pa eb na i : Nat} {H : Heap} {locs : List Loc} {ls : Array Slot} {Q : State → Prop} (C0 : lw_At p s m meth c b L xs) (hL : L ≤ 2560) (hN : NX s) (hK : va_K D vwCl (tk_T cI cM cJ) s) (hi : i + 5 ≤ L) (hl : lv_has ls 4 [(0, .ref b), (1, .ref h), (2, .ref h2), (3, .int (nI i))]) (hW : LW D cI cM cJ s h er tr sv a h2 sa pa eb na H locs)
    (kk : ∀ (H : Heap) (locs : List Loc), LW D cI cM cJ s h er tr sv a h2 sa pa eb na H locs → W p l e room_1 s m #[Value.ref b] below meth c H locs 44 777 Q (F0 m 762 ls [])) : W p l e room_1 s m #[Value.ref b] below meth c H locs 44 777 Q (F0 m 164 ls []) := by
  have hts := k_law_tbl C0
  obtain ⟨hx, hb, hr, hml, hown, -, hX, hbl, hlocks, hgv⟩ := C0
  have hA : ∀ q : Nat, s.heap.size ≤ q → (fun q : Nat => s.heap.size ≤ q) q := fun _ h => h
  have hbA : ¬ (fun q : Nat => s.heap.size ≤ q) b := Nat.not_le.mpr hbl
  obtain ⟨X, Y, t, AD, f, hs, hR, hP, hD, hS⟩ := hW
  obtain ⟨y1, y2, y3, y4, y5, y6, y7, hE⟩ := hR.yh f
  have hv1 : vp_in (nI i + 1) L := by rw [show nI i + 1 = nI (i + 1) from nI_add i 1]; exact vp_in_nI (by omega) (by omega)
  have hv2 : vp_in (nI i + 2) L := by rw [show nI i + 2 = nI (i + 2) from nI_add i 2]; exact vp_in_nI (by omega) (by omega)
  have hv3 : vp_in (nI i + 3) L := by rw [show nI i + 3 = nI (i + 3) from nI_add i 3]; exact vp_in_nI (by omega) (by omega)
  have hv4 : vp_in (nI i + 4) L := by rw [show nI i + 4 = nI (i + 4) from nI_add i 4]; exact vp_in_nI (by omega) (by omega)
  refine lv_aload_n hx hb dL_law_164 rfl (lv_at hl 1 rfl) ?_
  refine lv_aload_n hx hb dL_law_165 rfl (lv_at hl 0 rfl) ?_
  refine lv_iload_n hx hb dL_law_166 rfl (lv_at hl 3 rfl) ?_
  refine lv_iconst (v := 1) hx hb dL_law_167 (by decide) ?_
  refine lv_iadd hx hb dL_law_168 ?_
  refine va_sld hx hb hX hbl hbA hS hv1 dL_law_169 ?_
  refine lv_aload_n hx hb dL_law_170 rfl (lv_at hl 0 rfl) ?_
  refine lv_iload_n hx hb dL_law_171 rfl (lv_at hl 3 rfl) ?_
  refine lv_iconst (v := 2) hx hb dL_law_172 (by decide) ?_
  refine lv_iadd hx hb dL_law_173 ?_
  refine va_sld hx hb hX hbl hbA hS hv2 dL_law_174 ?_
  refine lv_aload_n hx hb dL_law_175 rfl (lv_at hl 0 rfl) ?_
  refine lv_iload_n hx hb dL_law_176 rfl (lv_at hl 3 rfl) ?_
  refine lv_iconst (v := 3) hx hb dL_law_177 (by decide) ?_
  refine lv_iadd hx hb dL_law_178 ?_
  refine va_sld hx hb hX hbl hbA hS hv3 dL_law_179 ?_
  refine lv_aload_n hx hb dL_law_180 rfl (lv_at hl 0 rfl) ?_
  refine lv_iload_n hx hb dL_law_181 rfl (lv_at hl 3 rfl) ?_
  refine lv_iconst (v := 4) hx hb dL_law_182 (by decide) ?_
  refine lv_iadd hx hb dL_law_183 ?_
  refine va_sld hx hb hX hbl hbA hS hv4 dL_law_184 ?_
  refine kc_i (wc := (tk_xw cI cM h er tr sv a t AD X)) (wr := (tk_yw cI cJ h2 sa pa eb na f hs Y)) (va_runV (As := [.int (xs (nI i + 1).toNatClampNeg), .int (xs (nI i + 2).toNatClampNeg), .int (xs (nI i + 3).toNatClampNeg), .int (xs (nI i + 4).toNatClampNeg)]) (rest := []) ⟨hx, hb, hml, hown, hts⟩ (kx_reset l D cI cM cJ _ h er tr sv a t AD X (xs (nI i + 1).toNatClampNeg) (xs (nI i + 2).toNatClampNeg) (xs (nI i + 3).toNatClampNeg) (xs (nI i + 4).toNatClampNeg) hR.2.1) (cwV 4 hts gL_law_X3_reset rfl rfl rfl (by decide +kernel) ⟨Nat.le_of_ble_eq_true rfl, Nat.le_of_ble_eq_true rfl⟩) (kp_preV (q := (RX3, TX3, 5)) (wc := (tk_xw cI cM h er tr sv a t AD X)) (wr := (tk_yw cI cJ h2 sa pa eb na f hs Y)) hN hK hP hD 0 rfl rfl) rfl rfl hl.1 rfl (lv_room (Nat.le_of_ble_eq_true rfl)) dL_law_185 ⟨Nat.le_of_ble_eq_true rfl, Nat.le_of_ble_eq_true rfl⟩) hP hD hS hA (fun r u H locs pr hP hD hS => ?_)
  obtain ⟨X1, AD1, t1⟩ := u
  obtain ⟨pr, hX1⟩ := pr
  have hX1 : X1 = _ := hX1
  replace hP := va_swapP (v := (tk_xw cI cM h er tr sv a t1 AD1 X1)) (w := (tk_yw cI cJ h2 sa pa eb na f hs Y)) hP
  replace hD := va_swapD (v := (tk_xw cI cM h er tr sv a t1 AD1 X1)) (w := (tk_yw cI cJ h2 sa pa eb na f hs Y)) hD
  refine lv_aload_n hx hb dL_law_188 rfl (lv_at hl 2 rfl) ?_
  refine lv_aload_n hx hb dL_law_189 rfl (lv_at hl 0 rfl) ?_
  refine lv_iload_n hx hb dL_law_190 rfl (lv_at hl 3 rfl) ?_
  refine lv_iconst (v := 1) hx hb dL_law_191 (by decide) ?_
  refine lv_iadd hx hb dL_law_192 ?_
  refine va_sld hx hb hX hbl hbA hS hv1 dL_law_193 ?_
  refine lv_aload_n hx hb dL_law_194 rfl (lv_at hl 0 rfl) ?_
  refine lv_iload_n hx hb dL_law_195 rfl (lv_at hl 3 rfl) ?_
  refine lv_iconst (v := 2) hx hb dL_law_196 (by decide) ?_
  refine lv_iadd hx hb dL_law_197 ?_
  refine va_sld hx hb hX hbl hbA hS hv2 dL_law_198 ?_
  refine lv_aload_n hx hb dL_law_199 rfl (lv_at hl 0 rfl) ?_
  refine lv_iload_n hx hb dL_law_200 rfl (lv_at hl 3 rfl) ?_
  refine lv_iconst (v := 3) hx hb dL_law_201 (by decide) ?_
  refine lv_iadd hx hb dL_law_202 ?_
  refine va_sld hx hb hX hbl hbA hS hv3 dL_law_203 ?_
  refine lv_aload_n hx hb dL_law_204 rfl (lv_at hl 0 rfl) ?_
  refine lv_iload_n hx hb dL_law_205 rfl (lv_at hl 3 rfl) ?_
  refine lv_iconst (v := 4) hx hb dL_law_206 (by decide) ?_
  refine lv_iadd hx hb dL_law_207 ?_
  refine va_sld hx hb hX hbl hbA hS hv4 dL_law_208 ?_
  refine kc_i (wc := (tk_yw cI cJ h2 sa pa eb na f hs Y)) (wr := (tk_xw cI cM h er tr sv a t1 AD1 X1)) (va_runV (As := [.int (xs (nI i + 1).toNatClampNeg), .int (xs (nI i + 2).toNatClampNeg), .int (xs (nI i + 3).toNatClampNeg), .int (xs (nI i + 4).toNatClampNeg)]) (rest := [.int r]) ⟨hx, hb, hml, hown, hts⟩ (ky_reset l D cI cM cJ _ h2 sa pa eb na f hs Y (xs (nI i + 1).toNatClampNeg) (xs (nI i + 2).toNatClampNeg) (xs (nI i + 3).toNatClampNeg) (xs (nI i + 4).toNatClampNeg) y1) (cwV 4 hts gL_law_X4_reset rfl rfl rfl (by decide +kernel) ⟨Nat.le_of_ble_eq_true rfl, Nat.le_of_ble_eq_true rfl⟩) (kp_preV (q := (RX4, TX4, 9)) (wc := (tk_yw cI cJ h2 sa pa eb na f hs Y)) (wr := (tk_xw cI cM h er tr sv a t1 AD1 X1)) hN hK hP hD 0 rfl rfl) rfl rfl hl.1 rfl (lv_room (Nat.le_of_ble_eq_true rfl)) dL_law_209 ⟨Nat.le_of_ble_eq_true rfl, Nat.le_of_ble_eq_true rfl⟩) hP hD hS hA (fun r2 u2 H locs pr2 hP hD hS => ?_)
  obtain ⟨Y1, f1, hs1⟩ := u2
  obtain ⟨pr2, hY1⟩ := pr2
  have hY1 : Y1 = _ := hY1
  replace hP := va_swapP (v := (tk_yw cI cJ h2 sa pa eb na f1 hs1 Y1)) (w := (tk_xw cI cM h er tr sv a t1 AD1 X1)) hP
  replace hD := va_swapD (v := (tk_yw cI cJ h2 sa pa eb na f1 hs1 Y1)) (w := (tk_xw cI cM h er tr sv a t1 AD1 X1)) hD
  have hsim := sim_reset hR (xs (nI i + 1).toNatClampNeg) (xs (nI i + 2).toNatClampNeg) (xs (nI i + 3).toNatClampNeg) (xs (nI i + 4).toNatClampNeg)
  have he : r = r2 := by rw [pr, pr2]; exact hsim.1
  have hR1 : RX X1 Y1 := by rw [hX1, hY1]; exact hsim.2
  refine lv_icmp_eq (tgt := 762) hx hb dL_law_212 (by decide) (fun _ => kk _ _ ⟨X1, Y1, t1, AD1, f1, hs1, hR1, hP, hD, hS⟩) (fun c9 => absurd he c9)
set_option maxHeartbeats 1000000 in
set_option maxRecDepth 100000 in
theorem lc_setProcessNoise {p : Program} {l : Launch} {e : Env} {s : State} {m : MethodId} {below : List Frame} {meth : Method} {c : Code} {b L : Nat} {xs : Nat → Int32} {D : va_G} {cI cM cJ : ClassId} {h er tr sv : Nat} {a : Nat → Nat} {h2 sa pa eb na i : Nat} {H : Heap} {locs : List Loc} {ls : Array Slot} {Q : State → Prop} (C0 : lw_At p s m meth c b L xs) (hL : L ≤ 2560) (hN : NX s) (hK : va_K D vwCl (tk_T cI cM cJ) s) (hi : i + 5 ≤ L) (hl : lv_has ls 4 [(0, .ref b), (1, .ref h), (2, .ref h2), (3, .int (nI i))]) (hW : LW D cI cM cJ s h er tr sv a h2 sa pa eb na H locs)
    (kk : ∀ (H : Heap) (locs : List Loc), LW D cI cM cJ s h er tr sv a h2 sa pa eb na H locs → W p l e room_1 s m #[Value.ref b] below meth c H locs 44 777 Q (F0 m 762 ls [])) : W p l e room_1 s m #[Value.ref b] below meth c H locs 44 777 Q (F0 m 217 ls []) := by
  have hts := k_law_tbl C0
  obtain ⟨hx, hb, hr, hml, hown, -, hX, hbl, hlocks, hgv⟩ := C0
  have hA : ∀ q : Nat, s.heap.size ≤ q → (fun q : Nat => s.heap.size ≤ q) q := fun _ h => h
  have hbA : ¬ (fun q : Nat => s.heap.size ≤ q) b := Nat.not_le.mpr hbl
  obtain ⟨X, Y, t, AD, f, hs, hR, hP, hD, hS⟩ := hW
  obtain ⟨y1, y2, y3, y4, y5, y6, y7, hE⟩ := hR.yh f
  have hv1 : vp_in (nI i + 1) L := by rw [show nI i + 1 = nI (i + 1) from nI_add i 1]; exact vp_in_nI (by omega) (by omega)
  have hv2 : vp_in (nI i + 2) L := by rw [show nI i + 2 = nI (i + 2) from nI_add i 2]; exact vp_in_nI (by omega) (by omega)
  refine lv_aload_n hx hb dL_law_217 rfl (lv_at hl 1 rfl) ?_
  refine lv_aload_n hx hb dL_law_218 rfl (lv_at hl 0 rfl) ?_
  refine lv_iload_n hx hb dL_law_219 rfl (lv_at hl 3 rfl) ?_
  refine lv_iconst (v := 1) hx hb dL_law_220 (by decide) ?_
  refine lv_iadd hx hb dL_law_221 ?_
  refine va_sld hx hb hX hbl hbA hS hv1 dL_law_222 ?_
  refine lv_aload_n hx hb dL_law_223 rfl (lv_at hl 0 rfl) ?_
  refine lv_iload_n hx hb dL_law_224 rfl (lv_at hl 3 rfl) ?_
  refine lv_iconst (v := 2) hx hb dL_law_225 (by decide) ?_
  refine lv_iadd hx hb dL_law_226 ?_
  refine va_sld hx hb hX hbl hbA hS hv2 dL_law_227 ?_
  refine kc_i (wc := (tk_xw cI cM h er tr sv a t AD X)) (wr := (tk_yw cI cJ h2 sa pa eb na f hs Y)) (va_runV (As := [.int (xs (nI i + 1).toNatClampNeg), .int (xs (nI i + 2).toNatClampNeg)]) (rest := []) ⟨hx, hb, hml, hown, hts⟩ (kx_setProcessNoise l D cI cM cJ _ h er tr sv a t AD X (xs (nI i + 1).toNatClampNeg) (xs (nI i + 2).toNatClampNeg) hR.2.1) (cwV 2 hts gL_law_X3_setProcessNoise rfl rfl rfl (by decide +kernel) ⟨Nat.le_of_ble_eq_true rfl, Nat.le_of_ble_eq_true rfl⟩) (kp_preV (q := (RX3, TX3, 5)) (wc := (tk_xw cI cM h er tr sv a t AD X)) (wr := (tk_yw cI cJ h2 sa pa eb na f hs Y)) hN hK hP hD 0 rfl rfl) rfl rfl hl.1 rfl (lv_room (Nat.le_of_ble_eq_true rfl)) dL_law_228 ⟨Nat.le_of_ble_eq_true rfl, Nat.le_of_ble_eq_true rfl⟩) hP hD hS hA (fun r u H locs pr hP hD hS => ?_)
  obtain ⟨X1, AD1, t1⟩ := u
  obtain ⟨pr, hX1⟩ := pr
  have hX1 : X1 = _ := hX1
  replace hP := va_swapP (v := (tk_xw cI cM h er tr sv a t1 AD1 X1)) (w := (tk_yw cI cJ h2 sa pa eb na f hs Y)) hP
  replace hD := va_swapD (v := (tk_xw cI cM h er tr sv a t1 AD1 X1)) (w := (tk_yw cI cJ h2 sa pa eb na f hs Y)) hD
  refine lv_aload_n hx hb dL_law_231 rfl (lv_at hl 2 rfl) ?_
  refine lv_aload_n hx hb dL_law_232 rfl (lv_at hl 0 rfl) ?_
  refine lv_iload_n hx hb dL_law_233 rfl (lv_at hl 3 rfl) ?_
  refine lv_iconst (v := 1) hx hb dL_law_234 (by decide) ?_
  refine lv_iadd hx hb dL_law_235 ?_
  refine va_sld hx hb hX hbl hbA hS hv1 dL_law_236 ?_
  refine lv_aload_n hx hb dL_law_237 rfl (lv_at hl 0 rfl) ?_
  refine lv_iload_n hx hb dL_law_238 rfl (lv_at hl 3 rfl) ?_
  refine lv_iconst (v := 2) hx hb dL_law_239 (by decide) ?_
  refine lv_iadd hx hb dL_law_240 ?_
  refine va_sld hx hb hX hbl hbA hS hv2 dL_law_241 ?_
  refine kc_i (wc := (tk_yw cI cJ h2 sa pa eb na f hs Y)) (wr := (tk_xw cI cM h er tr sv a t1 AD1 X1)) (va_runV (As := [.int (xs (nI i + 1).toNatClampNeg), .int (xs (nI i + 2).toNatClampNeg)]) (rest := [.int r]) ⟨hx, hb, hml, hown, hts⟩ (ky_setProcessNoise l D cI cM cJ _ h2 sa pa eb na f hs Y (xs (nI i + 1).toNatClampNeg) (xs (nI i + 2).toNatClampNeg) y1) (cwV 2 hts gL_law_X4_setProcessNoise rfl rfl rfl (by decide +kernel) ⟨Nat.le_of_ble_eq_true rfl, Nat.le_of_ble_eq_true rfl⟩) (kp_preV (q := (RX4, TX4, 9)) (wc := (tk_yw cI cJ h2 sa pa eb na f hs Y)) (wr := (tk_xw cI cM h er tr sv a t1 AD1 X1)) hN hK hP hD 0 rfl rfl) rfl rfl hl.1 rfl (lv_room (Nat.le_of_ble_eq_true rfl)) dL_law_242 ⟨Nat.le_of_ble_eq_true rfl, Nat.le_of_ble_eq_true rfl⟩) hP hD hS hA (fun r2 u2 H locs pr2 hP hD hS => ?_)
  obtain ⟨Y1, f1, hs1⟩ := u2
  obtain ⟨pr2, hY1⟩ := pr2
  have hY1 : Y1 = _ := hY1
  replace hP := va_swapP (v := (tk_yw cI cJ h2 sa pa eb na f1 hs1 Y1)) (w := (tk_xw cI cM h er tr sv a t1 AD1 X1)) hP
  replace hD := va_swapD (v := (tk_yw cI cJ h2 sa pa eb na f1 hs1 Y1)) (w := (tk_xw cI cM h er tr sv a t1 AD1 X1)) hD
  have hsim := sim_setProcessNoise hR (xs (nI i + 1).toNatClampNeg) (xs (nI i + 2).toNatClampNeg)
  have he : r = r2 := by rw [pr, pr2]; exact hsim.1
  have hR1 : RX X1 Y1 := by rw [hX1, hY1]; exact hsim.2
  refine lv_icmp_eq (tgt := 762) hx hb dL_law_245 (by decide) (fun _ => kk _ _ ⟨X1, Y1, t1, AD1, f1, hs1, hR1, hP, hD, hS⟩) (fun c9 => absurd he c9)
set_option maxHeartbeats 1000000 in
set_option maxRecDepth 100000 in
theorem lc_setSensor {p : Program} {l : Launch} {e : Env} {s : State} {m : MethodId} {below : List Frame} {meth : Method} {c : Code} {b L : Nat} {xs : Nat → Int32} {D : va_G} {cI cM cJ : ClassId} {h er tr sv : Nat} {a : Nat → Nat} {h2 sa pa eb na i : Nat} {H : Heap} {locs : List Loc} {ls : Array Slot} {Q : State → Prop} (C0 : lw_At p s m meth c b L xs) (hL : L ≤ 2560) (hN : NX s) (hK : va_K D vwCl (tk_T cI cM cJ) s) (hi : i + 5 ≤ L) (hl : lv_has ls 4 [(0, .ref b), (1, .ref h), (2, .ref h2), (3, .int (nI i))]) (hW : LW D cI cM cJ s h er tr sv a h2 sa pa eb na H locs)
    (kk : ∀ (H : Heap) (locs : List Loc), LW D cI cM cJ s h er tr sv a h2 sa pa eb na H locs → W p l e room_1 s m #[Value.ref b] below meth c H locs 44 777 Q (F0 m 762 ls [])) : W p l e room_1 s m #[Value.ref b] below meth c H locs 44 777 Q (F0 m 250 ls []) := by
  have hts := k_law_tbl C0
  obtain ⟨hx, hb, hr, hml, hown, -, hX, hbl, hlocks, hgv⟩ := C0
  have hA : ∀ q : Nat, s.heap.size ≤ q → (fun q : Nat => s.heap.size ≤ q) q := fun _ h => h
  have hbA : ¬ (fun q : Nat => s.heap.size ≤ q) b := Nat.not_le.mpr hbl
  obtain ⟨X, Y, t, AD, f, hs, hR, hP, hD, hS⟩ := hW
  obtain ⟨y1, y2, y3, y4, y5, y6, y7, hE⟩ := hR.yh f
  have hv1 : vp_in (nI i + 1) L := by rw [show nI i + 1 = nI (i + 1) from nI_add i 1]; exact vp_in_nI (by omega) (by omega)
  have hv2 : vp_in (nI i + 2) L := by rw [show nI i + 2 = nI (i + 2) from nI_add i 2]; exact vp_in_nI (by omega) (by omega)
  have hv3 : vp_in (nI i + 3) L := by rw [show nI i + 3 = nI (i + 3) from nI_add i 3]; exact vp_in_nI (by omega) (by omega)
  refine lv_aload_n hx hb dL_law_250 rfl (lv_at hl 1 rfl) ?_
  refine lv_aload_n hx hb dL_law_251 rfl (lv_at hl 0 rfl) ?_
  refine lv_iload_n hx hb dL_law_252 rfl (lv_at hl 3 rfl) ?_
  refine lv_iconst (v := 1) hx hb dL_law_253 (by decide) ?_
  refine lv_iadd hx hb dL_law_254 ?_
  refine va_sld hx hb hX hbl hbA hS hv1 dL_law_255 ?_
  refine lv_aload_n hx hb dL_law_256 rfl (lv_at hl 0 rfl) ?_
  refine lv_iload_n hx hb dL_law_257 rfl (lv_at hl 3 rfl) ?_
  refine lv_iconst (v := 2) hx hb dL_law_258 (by decide) ?_
  refine lv_iadd hx hb dL_law_259 ?_
  refine va_sld hx hb hX hbl hbA hS hv2 dL_law_260 ?_
  refine lv_aload_n hx hb dL_law_261 rfl (lv_at hl 0 rfl) ?_
  refine lv_iload_n hx hb dL_law_262 rfl (lv_at hl 3 rfl) ?_
  refine lv_iconst (v := 3) hx hb dL_law_263 (by decide) ?_
  refine lv_iadd hx hb dL_law_264 ?_
  refine va_sld hx hb hX hbl hbA hS hv3 dL_law_265 ?_
  refine kc_i (wc := (tk_xw cI cM h er tr sv a t AD X)) (wr := (tk_yw cI cJ h2 sa pa eb na f hs Y)) (va_runV (As := [.int (xs (nI i + 1).toNatClampNeg), .int (xs (nI i + 2).toNatClampNeg), .int (xs (nI i + 3).toNatClampNeg)]) (rest := []) ⟨hx, hb, hml, hown, hts⟩ (kx_setSensor l D cI cM cJ _ h er tr sv a t AD X (xs (nI i + 1).toNatClampNeg) (xs (nI i + 2).toNatClampNeg) (xs (nI i + 3).toNatClampNeg) hR.2.1) (cwV 3 hts gL_law_X3_setSensor rfl rfl rfl (by decide +kernel) ⟨Nat.le_of_ble_eq_true rfl, Nat.le_of_ble_eq_true rfl⟩) (kp_preV (q := (RX3, TX3, 5)) (wc := (tk_xw cI cM h er tr sv a t AD X)) (wr := (tk_yw cI cJ h2 sa pa eb na f hs Y)) hN hK hP hD 0 rfl rfl) rfl rfl hl.1 rfl (lv_room (Nat.le_of_ble_eq_true rfl)) dL_law_266 ⟨Nat.le_of_ble_eq_true rfl, Nat.le_of_ble_eq_true rfl⟩) hP hD hS hA (fun r u H locs pr hP hD hS => ?_)
  obtain ⟨X1, AD1, t1⟩ := u
  obtain ⟨pr, hX1⟩ := pr
  have hX1 : X1 = _ := hX1
  replace hP := va_swapP (v := (tk_xw cI cM h er tr sv a t1 AD1 X1)) (w := (tk_yw cI cJ h2 sa pa eb na f hs Y)) hP
  replace hD := va_swapD (v := (tk_xw cI cM h er tr sv a t1 AD1 X1)) (w := (tk_yw cI cJ h2 sa pa eb na f hs Y)) hD
  refine lv_aload_n hx hb dL_law_269 rfl (lv_at hl 2 rfl) ?_
  refine lv_aload_n hx hb dL_law_270 rfl (lv_at hl 0 rfl) ?_
  refine lv_iload_n hx hb dL_law_271 rfl (lv_at hl 3 rfl) ?_
  refine lv_iconst (v := 1) hx hb dL_law_272 (by decide) ?_
  refine lv_iadd hx hb dL_law_273 ?_
  refine va_sld hx hb hX hbl hbA hS hv1 dL_law_274 ?_
  refine lv_aload_n hx hb dL_law_275 rfl (lv_at hl 0 rfl) ?_
  refine lv_iload_n hx hb dL_law_276 rfl (lv_at hl 3 rfl) ?_
  refine lv_iconst (v := 2) hx hb dL_law_277 (by decide) ?_
  refine lv_iadd hx hb dL_law_278 ?_
  refine va_sld hx hb hX hbl hbA hS hv2 dL_law_279 ?_
  refine lv_aload_n hx hb dL_law_280 rfl (lv_at hl 0 rfl) ?_
  refine lv_iload_n hx hb dL_law_281 rfl (lv_at hl 3 rfl) ?_
  refine lv_iconst (v := 3) hx hb dL_law_282 (by decide) ?_
  refine lv_iadd hx hb dL_law_283 ?_
  refine va_sld hx hb hX hbl hbA hS hv3 dL_law_284 ?_
  refine kc_i (wc := (tk_yw cI cJ h2 sa pa eb na f hs Y)) (wr := (tk_xw cI cM h er tr sv a t1 AD1 X1)) (va_runV (As := [.int (xs (nI i + 1).toNatClampNeg), .int (xs (nI i + 2).toNatClampNeg), .int (xs (nI i + 3).toNatClampNeg)]) (rest := [.int r]) ⟨hx, hb, hml, hown, hts⟩ (ky_setSensor l D cI cM cJ _ h2 sa pa eb na f hs Y (xs (nI i + 1).toNatClampNeg) (xs (nI i + 2).toNatClampNeg) (xs (nI i + 3).toNatClampNeg) y1) (cwV 3 hts gL_law_X4_setSensor rfl rfl rfl (by decide +kernel) ⟨Nat.le_of_ble_eq_true rfl, Nat.le_of_ble_eq_true rfl⟩) (kp_preV (q := (RX4, TX4, 9)) (wc := (tk_yw cI cJ h2 sa pa eb na f hs Y)) (wr := (tk_xw cI cM h er tr sv a t1 AD1 X1)) hN hK hP hD 0 rfl rfl) rfl rfl hl.1 rfl (lv_room (Nat.le_of_ble_eq_true rfl)) dL_law_285 ⟨Nat.le_of_ble_eq_true rfl, Nat.le_of_ble_eq_true rfl⟩) hP hD hS hA (fun r2 u2 H locs pr2 hP hD hS => ?_)
  obtain ⟨Y1, f1, hs1⟩ := u2
  obtain ⟨pr2, hY1⟩ := pr2
  have hY1 : Y1 = _ := hY1
  replace hP := va_swapP (v := (tk_yw cI cJ h2 sa pa eb na f1 hs1 Y1)) (w := (tk_xw cI cM h er tr sv a t1 AD1 X1)) hP
  replace hD := va_swapD (v := (tk_yw cI cJ h2 sa pa eb na f1 hs1 Y1)) (w := (tk_xw cI cM h er tr sv a t1 AD1 X1)) hD
  have hsim := sim_setSensor hR (xs (nI i + 1).toNatClampNeg) (xs (nI i + 2).toNatClampNeg) (xs (nI i + 3).toNatClampNeg)
  have he : r = r2 := by rw [pr, pr2]; exact hsim.1
  have hR1 : RX X1 Y1 := by rw [hX1, hY1]; exact hsim.2
  refine lv_icmp_eq (tgt := 762) hx hb dL_law_288 (by decide) (fun _ => kk _ _ ⟨X1, Y1, t1, AD1, f1, hs1, hR1, hP, hD, hS⟩) (fun c9 => absurd he c9)
set_option maxHeartbeats 1000000 in
set_option maxRecDepth 100000 in
theorem lc_setGate {p : Program} {l : Launch} {e : Env} {s : State} {m : MethodId} {below : List Frame} {meth : Method} {c : Code} {b L : Nat} {xs : Nat → Int32} {D : va_G} {cI cM cJ : ClassId} {h er tr sv : Nat} {a : Nat → Nat} {h2 sa pa eb na i : Nat} {H : Heap} {locs : List Loc} {ls : Array Slot} {Q : State → Prop} (C0 : lw_At p s m meth c b L xs) (hL : L ≤ 2560) (hN : NX s) (hK : va_K D vwCl (tk_T cI cM cJ) s) (hi : i + 5 ≤ L) (hl : lv_has ls 4 [(0, .ref b), (1, .ref h), (2, .ref h2), (3, .int (nI i))]) (hW : LW D cI cM cJ s h er tr sv a h2 sa pa eb na H locs)
    (kk : ∀ (H : Heap) (locs : List Loc), LW D cI cM cJ s h er tr sv a h2 sa pa eb na H locs → W p l e room_1 s m #[Value.ref b] below meth c H locs 44 777 Q (F0 m 762 ls [])) : W p l e room_1 s m #[Value.ref b] below meth c H locs 44 777 Q (F0 m 293 ls []) := by
  have hts := k_law_tbl C0
  obtain ⟨hx, hb, hr, hml, hown, -, hX, hbl, hlocks, hgv⟩ := C0
  have hA : ∀ q : Nat, s.heap.size ≤ q → (fun q : Nat => s.heap.size ≤ q) q := fun _ h => h
  have hbA : ¬ (fun q : Nat => s.heap.size ≤ q) b := Nat.not_le.mpr hbl
  obtain ⟨X, Y, t, AD, f, hs, hR, hP, hD, hS⟩ := hW
  obtain ⟨y1, y2, y3, y4, y5, y6, y7, hE⟩ := hR.yh f
  have hv1 : vp_in (nI i + 1) L := by rw [show nI i + 1 = nI (i + 1) from nI_add i 1]; exact vp_in_nI (by omega) (by omega)
  refine lv_aload_n hx hb dL_law_293 rfl (lv_at hl 1 rfl) ?_
  refine lv_aload_n hx hb dL_law_294 rfl (lv_at hl 0 rfl) ?_
  refine lv_iload_n hx hb dL_law_295 rfl (lv_at hl 3 rfl) ?_
  refine lv_iconst (v := 1) hx hb dL_law_296 (by decide) ?_
  refine lv_iadd hx hb dL_law_297 ?_
  refine va_sld hx hb hX hbl hbA hS hv1 dL_law_298 ?_
  refine kc_i (wc := (tk_xw cI cM h er tr sv a t AD X)) (wr := (tk_yw cI cJ h2 sa pa eb na f hs Y)) (va_runV (As := [.int (xs (nI i + 1).toNatClampNeg)]) (rest := []) ⟨hx, hb, hml, hown, hts⟩ (kx_setGate l D cI cM cJ _ h er tr sv a t AD X (xs (nI i + 1).toNatClampNeg) hR.2.1) (cwV 1 hts gL_law_X3_setGate rfl rfl rfl (by decide +kernel) ⟨Nat.le_of_ble_eq_true rfl, Nat.le_of_ble_eq_true rfl⟩) (kp_preV (q := (RX3, TX3, 5)) (wc := (tk_xw cI cM h er tr sv a t AD X)) (wr := (tk_yw cI cJ h2 sa pa eb na f hs Y)) hN hK hP hD 0 rfl rfl) rfl rfl hl.1 rfl (lv_room (Nat.le_of_ble_eq_true rfl)) dL_law_299 ⟨Nat.le_of_ble_eq_true rfl, Nat.le_of_ble_eq_true rfl⟩) hP hD hS hA (fun r u H locs pr hP hD hS => ?_)
  obtain ⟨X1, AD1, t1⟩ := u
  obtain ⟨pr, hX1⟩ := pr
  have hX1 : X1 = _ := hX1
  replace hP := va_swapP (v := (tk_xw cI cM h er tr sv a t1 AD1 X1)) (w := (tk_yw cI cJ h2 sa pa eb na f hs Y)) hP
  replace hD := va_swapD (v := (tk_xw cI cM h er tr sv a t1 AD1 X1)) (w := (tk_yw cI cJ h2 sa pa eb na f hs Y)) hD
  refine lv_aload_n hx hb dL_law_302 rfl (lv_at hl 2 rfl) ?_
  refine lv_aload_n hx hb dL_law_303 rfl (lv_at hl 0 rfl) ?_
  refine lv_iload_n hx hb dL_law_304 rfl (lv_at hl 3 rfl) ?_
  refine lv_iconst (v := 1) hx hb dL_law_305 (by decide) ?_
  refine lv_iadd hx hb dL_law_306 ?_
  refine va_sld hx hb hX hbl hbA hS hv1 dL_law_307 ?_
  refine kc_i (wc := (tk_yw cI cJ h2 sa pa eb na f hs Y)) (wr := (tk_xw cI cM h er tr sv a t1 AD1 X1)) (va_runV (As := [.int (xs (nI i + 1).toNatClampNeg)]) (rest := [.int r]) ⟨hx, hb, hml, hown, hts⟩ (ky_setGate l D cI cM cJ _ h2 sa pa eb na f hs Y (xs (nI i + 1).toNatClampNeg) y1) (cwV 1 hts gL_law_X4_setGate rfl rfl rfl (by decide +kernel) ⟨Nat.le_of_ble_eq_true rfl, Nat.le_of_ble_eq_true rfl⟩) (kp_preV (q := (RX4, TX4, 9)) (wc := (tk_yw cI cJ h2 sa pa eb na f hs Y)) (wr := (tk_xw cI cM h er tr sv a t1 AD1 X1)) hN hK hP hD 0 rfl rfl) rfl rfl hl.1 rfl (lv_room (Nat.le_of_ble_eq_true rfl)) dL_law_308 ⟨Nat.le_of_ble_eq_true rfl, Nat.le_of_ble_eq_true rfl⟩) hP hD hS hA (fun r2 u2 H locs pr2 hP hD hS => ?_)
  obtain ⟨Y1, f1, hs1⟩ := u2
  obtain ⟨pr2, hY1⟩ := pr2
  have hY1 : Y1 = _ := hY1
  replace hP := va_swapP (v := (tk_yw cI cJ h2 sa pa eb na f1 hs1 Y1)) (w := (tk_xw cI cM h er tr sv a t1 AD1 X1)) hP
  replace hD := va_swapD (v := (tk_yw cI cJ h2 sa pa eb na f1 hs1 Y1)) (w := (tk_xw cI cM h er tr sv a t1 AD1 X1)) hD
  have hsim := sim_setGate hR (xs (nI i + 1).toNatClampNeg)
  have he : r = r2 := by rw [pr, pr2]; exact hsim.1
  have hR1 : RX X1 Y1 := by rw [hX1, hY1]; exact hsim.2
  refine lv_icmp_eq (tgt := 762) hx hb dL_law_311 (by decide) (fun _ => kk _ _ ⟨X1, Y1, t1, AD1, f1, hs1, hR1, hP, hD, hS⟩) (fun c9 => absurd he c9)
set_option maxHeartbeats 1000000 in
set_option maxRecDepth 100000 in
theorem lc_predict {p : Program} {l : Launch} {e : Env} {s : State} {m : MethodId} {below : List Frame} {meth : Method} {c : Code} {b L : Nat} {xs : Nat → Int32} {D : va_G} {cI cM cJ : ClassId} {h er tr sv : Nat} {a : Nat → Nat} {h2 sa pa eb na i : Nat} {H : Heap} {locs : List Loc} {ls : Array Slot} {Q : State → Prop} (C0 : lw_At p s m meth c b L xs) (hL : L ≤ 2560) (hN : NX s) (hK : va_K D vwCl (tk_T cI cM cJ) s) (hi : i + 5 ≤ L) (hl : lv_has ls 4 [(0, .ref b), (1, .ref h), (2, .ref h2), (3, .int (nI i))]) (hW : LW D cI cM cJ s h er tr sv a h2 sa pa eb na H locs)
    (kk : ∀ (H : Heap) (locs : List Loc), LW D cI cM cJ s h er tr sv a h2 sa pa eb na H locs → W p l e room_1 s m #[Value.ref b] below meth c H locs 44 777 Q (F0 m 762 ls [])) : W p l e room_1 s m #[Value.ref b] below meth c H locs 44 777 Q (F0 m 316 ls []) := by
  have hts := k_law_tbl C0
  obtain ⟨hx, hb, hr, hml, hown, -, hX, hbl, hlocks, hgv⟩ := C0
  have hA : ∀ q : Nat, s.heap.size ≤ q → (fun q : Nat => s.heap.size ≤ q) q := fun _ h => h
  have hbA : ¬ (fun q : Nat => s.heap.size ≤ q) b := Nat.not_le.mpr hbl
  obtain ⟨X, Y, t, AD, f, hs, hR, hP, hD, hS⟩ := hW
  obtain ⟨y1, y2, y3, y4, y5, y6, y7, hE⟩ := hR.yh f
  have hv1 : vp_in (nI i + 1) L := by rw [show nI i + 1 = nI (i + 1) from nI_add i 1]; exact vp_in_nI (by omega) (by omega)
  refine lv_aload_n hx hb dL_law_316 rfl (lv_at hl 1 rfl) ?_
  refine lv_aload_n hx hb dL_law_317 rfl (lv_at hl 0 rfl) ?_
  refine lv_iload_n hx hb dL_law_318 rfl (lv_at hl 3 rfl) ?_
  refine lv_iconst (v := 1) hx hb dL_law_319 (by decide) ?_
  refine lv_iadd hx hb dL_law_320 ?_
  refine va_sld hx hb hX hbl hbA hS hv1 dL_law_321 ?_
  refine kc_i (wc := (tk_xw cI cM h er tr sv a t AD X)) (wr := (tk_yw cI cJ h2 sa pa eb na f hs Y)) (va_runV (As := [.int (xs (nI i + 1).toNatClampNeg)]) (rest := []) ⟨hx, hb, hml, hown, hts⟩ (kx_predict l D cI cM cJ _ h er tr sv a t AD X (xs (nI i + 1).toNatClampNeg) hR.2.1 hR.2.2.2.2.1.1) (cwV 1 hts gL_law_X3_predict rfl rfl rfl (by decide +kernel) ⟨Nat.le_of_ble_eq_true rfl, Nat.le_of_ble_eq_true rfl⟩) (kp_preV (q := (RX3, TX3, 5)) (wc := (tk_xw cI cM h er tr sv a t AD X)) (wr := (tk_yw cI cJ h2 sa pa eb na f hs Y)) hN hK hP hD 0 rfl rfl) rfl rfl hl.1 rfl (lv_room (Nat.le_of_ble_eq_true rfl)) dL_law_322 ⟨Nat.le_of_ble_eq_true rfl, Nat.le_of_ble_eq_true rfl⟩) hP hD hS hA (fun r u H locs pr hP hD hS => ?_)
  obtain ⟨X1, AD1, t1⟩ := u
  obtain ⟨pr, hX1⟩ := pr
  have hX1 : X1 = _ := hX1
  replace hP := va_swapP (v := (tk_xw cI cM h er tr sv a t1 AD1 X1)) (w := (tk_yw cI cJ h2 sa pa eb na f hs Y)) hP
  replace hD := va_swapD (v := (tk_xw cI cM h er tr sv a t1 AD1 X1)) (w := (tk_yw cI cJ h2 sa pa eb na f hs Y)) hD
  refine lv_aload_n hx hb dL_law_325 rfl (lv_at hl 2 rfl) ?_
  refine lv_aload_n hx hb dL_law_326 rfl (lv_at hl 0 rfl) ?_
  refine lv_iload_n hx hb dL_law_327 rfl (lv_at hl 3 rfl) ?_
  refine lv_iconst (v := 1) hx hb dL_law_328 (by decide) ?_
  refine lv_iadd hx hb dL_law_329 ?_
  refine va_sld hx hb hX hbl hbA hS hv1 dL_law_330 ?_
  refine kc_i (wc := (tk_yw cI cJ h2 sa pa eb na f hs Y)) (wr := (tk_xw cI cM h er tr sv a t1 AD1 X1)) (va_runV (As := [.int (xs (nI i + 1).toNatClampNeg)]) (rest := [.int r]) ⟨hx, hb, hml, hown, hts⟩ (ky_predict l D cI cM cJ _ h2 sa pa eb na f hs Y (xs (nI i + 1).toNatClampNeg) X.2.2.1.2.2.2.2.2.2.2.2.2.2.2 y1 y2 y3 y4 y5) (cwV 1 hts gL_law_X4_predict rfl rfl rfl (by decide +kernel) ⟨Nat.le_of_ble_eq_true rfl, Nat.le_of_ble_eq_true rfl⟩) (kp_preV (q := (RX4, TX4, 9)) (wc := (tk_yw cI cJ h2 sa pa eb na f hs Y)) (wr := (tk_xw cI cM h er tr sv a t1 AD1 X1)) hN hK hP hD 0 rfl rfl) rfl rfl hl.1 rfl (lv_room (Nat.le_of_ble_eq_true rfl)) dL_law_331 ⟨Nat.le_of_ble_eq_true rfl, Nat.le_of_ble_eq_true rfl⟩) hP hD hS hA (fun r2 u2 H locs pr2 hP hD hS => ?_)
  obtain ⟨Y1, f1, hs1⟩ := u2
  obtain ⟨pr2, hY1⟩ := pr2
  have hY1 : Y1 = _ := hY1
  replace hP := va_swapP (v := (tk_yw cI cJ h2 sa pa eb na f1 hs1 Y1)) (w := (tk_xw cI cM h er tr sv a t1 AD1 X1)) hP
  replace hD := va_swapD (v := (tk_yw cI cJ h2 sa pa eb na f1 hs1 Y1)) (w := (tk_xw cI cM h er tr sv a t1 AD1 X1)) hD
  have hsim := sim_predict hR hE (xs (nI i + 1).toNatClampNeg)
  have he : r = r2 := by rw [pr, pr2]; exact hsim.1
  have hR1 : RX X1 Y1 := by rw [hX1, hY1]; exact hsim.2
  refine lv_icmp_eq (tgt := 762) hx hb dL_law_334 (by decide) (fun _ => kk _ _ ⟨X1, Y1, t1, AD1, f1, hs1, hR1, hP, hD, hS⟩) (fun c9 => absurd he c9)
set_option maxHeartbeats 1000000 in
set_option maxRecDepth 100000 in
theorem lc_correct {p : Program} {l : Launch} {e : Env} {s : State} {m : MethodId} {below : List Frame} {meth : Method} {c : Code} {b L : Nat} {xs : Nat → Int32} {D : va_G} {cI cM cJ : ClassId} {h er tr sv : Nat} {a : Nat → Nat} {h2 sa pa eb na i : Nat} {H : Heap} {locs : List Loc} {ls : Array Slot} {Q : State → Prop} (C0 : lw_At p s m meth c b L xs) (hL : L ≤ 2560) (hN : NX s) (hK : va_K D vwCl (tk_T cI cM cJ) s) (hi : i + 5 ≤ L) (hl : lv_has ls 4 [(0, .ref b), (1, .ref h), (2, .ref h2), (3, .int (nI i))]) (hW : LW D cI cM cJ s h er tr sv a h2 sa pa eb na H locs)
    (kk : ∀ (H : Heap) (locs : List Loc), LW D cI cM cJ s h er tr sv a h2 sa pa eb na H locs → W p l e room_1 s m #[Value.ref b] below meth c H locs 44 777 Q (F0 m 762 ls [])) : W p l e room_1 s m #[Value.ref b] below meth c H locs 44 777 Q (F0 m 339 ls []) := by
  have hts := k_law_tbl C0
  obtain ⟨hx, hb, hr, hml, hown, -, hX, hbl, hlocks, hgv⟩ := C0
  have hA : ∀ q : Nat, s.heap.size ≤ q → (fun q : Nat => s.heap.size ≤ q) q := fun _ h => h
  have hbA : ¬ (fun q : Nat => s.heap.size ≤ q) b := Nat.not_le.mpr hbl
  obtain ⟨X, Y, t, AD, f, hs, hR, hP, hD, hS⟩ := hW
  obtain ⟨y1, y2, y3, y4, y5, y6, y7, hE⟩ := hR.yh f
  have hv1 : vp_in (nI i + 1) L := by rw [show nI i + 1 = nI (i + 1) from nI_add i 1]; exact vp_in_nI (by omega) (by omega)
  have hv2 : vp_in (nI i + 2) L := by rw [show nI i + 2 = nI (i + 2) from nI_add i 2]; exact vp_in_nI (by omega) (by omega)
  refine lv_aload_n hx hb dL_law_339 rfl (lv_at hl 1 rfl) ?_
  refine lv_aload_n hx hb dL_law_340 rfl (lv_at hl 0 rfl) ?_
  refine lv_iload_n hx hb dL_law_341 rfl (lv_at hl 3 rfl) ?_
  refine lv_iconst (v := 1) hx hb dL_law_342 (by decide) ?_
  refine lv_iadd hx hb dL_law_343 ?_
  refine va_sld hx hb hX hbl hbA hS hv1 dL_law_344 ?_
  refine lv_aload_n hx hb dL_law_345 rfl (lv_at hl 0 rfl) ?_
  refine lv_iload_n hx hb dL_law_346 rfl (lv_at hl 3 rfl) ?_
  refine lv_iconst (v := 2) hx hb dL_law_347 (by decide) ?_
  refine lv_iadd hx hb dL_law_348 ?_
  refine va_sld hx hb hX hbl hbA hS hv2 dL_law_349 ?_
  refine kc_i (wc := (tk_xw cI cM h er tr sv a t AD X)) (wr := (tk_yw cI cJ h2 sa pa eb na f hs Y)) (va_runV (As := [.int (xs (nI i + 1).toNatClampNeg), .int (xs (nI i + 2).toNatClampNeg)]) (rest := []) ⟨hx, hb, hml, hown, hts⟩ (kx_correct l D cI cM cJ _ h er tr sv a t AD X (xs (nI i + 1).toNatClampNeg) (xs (nI i + 2).toNatClampNeg) hR.2.1 hR.2.2.2.2.1.1 hR.2.2.2.2.1.2.2.1 hR.2.2.2.2.1.2.2.2.2.1) (cwV 2 hts gL_law_X3_correct rfl rfl rfl (by decide +kernel) ⟨Nat.le_of_ble_eq_true rfl, Nat.le_of_ble_eq_true rfl⟩) (kp_preV (q := (RX3, TX3, 5)) (wc := (tk_xw cI cM h er tr sv a t AD X)) (wr := (tk_yw cI cJ h2 sa pa eb na f hs Y)) hN hK hP hD 0 rfl rfl) rfl rfl hl.1 rfl (lv_room (Nat.le_of_ble_eq_true rfl)) dL_law_350 ⟨Nat.le_of_ble_eq_true rfl, Nat.le_of_ble_eq_true rfl⟩) hP hD hS hA (fun r u H locs pr hP hD hS => ?_)
  obtain ⟨X1, AD1, t1⟩ := u
  obtain ⟨pr, hX1⟩ := pr
  have hX1 : X1 = _ := hX1
  replace hP := va_swapP (v := (tk_xw cI cM h er tr sv a t1 AD1 X1)) (w := (tk_yw cI cJ h2 sa pa eb na f hs Y)) hP
  replace hD := va_swapD (v := (tk_xw cI cM h er tr sv a t1 AD1 X1)) (w := (tk_yw cI cJ h2 sa pa eb na f hs Y)) hD
  refine lv_aload_n hx hb dL_law_353 rfl (lv_at hl 2 rfl) ?_
  refine lv_aload_n hx hb dL_law_354 rfl (lv_at hl 0 rfl) ?_
  refine lv_iload_n hx hb dL_law_355 rfl (lv_at hl 3 rfl) ?_
  refine lv_iconst (v := 1) hx hb dL_law_356 (by decide) ?_
  refine lv_iadd hx hb dL_law_357 ?_
  refine va_sld hx hb hX hbl hbA hS hv1 dL_law_358 ?_
  refine lv_aload_n hx hb dL_law_359 rfl (lv_at hl 0 rfl) ?_
  refine lv_iload_n hx hb dL_law_360 rfl (lv_at hl 3 rfl) ?_
  refine lv_iconst (v := 2) hx hb dL_law_361 (by decide) ?_
  refine lv_iadd hx hb dL_law_362 ?_
  refine va_sld hx hb hX hbl hbA hS hv2 dL_law_363 ?_
  refine kc_i (wc := (tk_yw cI cJ h2 sa pa eb na f hs Y)) (wr := (tk_xw cI cM h er tr sv a t1 AD1 X1)) (va_runV (As := [.int (xs (nI i + 1).toNatClampNeg), .int (xs (nI i + 2).toNatClampNeg)]) (rest := [.int r]) ⟨hx, hb, hml, hown, hts⟩ (ky_correct l D cI cM cJ _ h2 sa pa eb na f hs Y (xs (nI i + 1).toNatClampNeg) (xs (nI i + 2).toNatClampNeg) X.2.2.1.2.2.2.2.2.2.2.2.2.2.2 y1 y2 y3 y4 y5 y6) (cwV 2 hts gL_law_X4_correct rfl rfl rfl (by decide +kernel) ⟨Nat.le_of_ble_eq_true rfl, Nat.le_of_ble_eq_true rfl⟩) (kp_preV (q := (RX4, TX4, 9)) (wc := (tk_yw cI cJ h2 sa pa eb na f hs Y)) (wr := (tk_xw cI cM h er tr sv a t1 AD1 X1)) hN hK hP hD 0 rfl rfl) rfl rfl hl.1 rfl (lv_room (Nat.le_of_ble_eq_true rfl)) dL_law_364 ⟨Nat.le_of_ble_eq_true rfl, Nat.le_of_ble_eq_true rfl⟩) hP hD hS hA (fun r2 u2 H locs pr2 hP hD hS => ?_)
  obtain ⟨Y1, f1, hs1⟩ := u2
  obtain ⟨pr2, hY1⟩ := pr2
  have hY1 : Y1 = _ := hY1
  replace hP := va_swapP (v := (tk_yw cI cJ h2 sa pa eb na f1 hs1 Y1)) (w := (tk_xw cI cM h er tr sv a t1 AD1 X1)) hP
  replace hD := va_swapD (v := (tk_yw cI cJ h2 sa pa eb na f1 hs1 Y1)) (w := (tk_xw cI cM h er tr sv a t1 AD1 X1)) hD
  have hsim := sim_correct hR hE (xs (nI i + 1).toNatClampNeg) (xs (nI i + 2).toNatClampNeg)
  have he : r = r2 := by rw [pr, pr2]; exact hsim.1
  have hR1 : RX X1 Y1 := by rw [hX1, hY1]; exact hsim.2
  refine lv_icmp_eq (tgt := 762) hx hb dL_law_367 (by decide) (fun _ => kk _ _ ⟨X1, Y1, t1, AD1, f1, hs1, hR1, hP, hD, hS⟩) (fun c9 => absurd he c9)
set_option maxHeartbeats 1000000 in
set_option maxRecDepth 100000 in
theorem lc_miss {p : Program} {l : Launch} {e : Env} {s : State} {m : MethodId} {below : List Frame} {meth : Method} {c : Code} {b L : Nat} {xs : Nat → Int32} {D : va_G} {cI cM cJ : ClassId} {h er tr sv : Nat} {a : Nat → Nat} {h2 sa pa eb na i : Nat} {H : Heap} {locs : List Loc} {ls : Array Slot} {Q : State → Prop} (C0 : lw_At p s m meth c b L xs) (hL : L ≤ 2560) (hN : NX s) (hK : va_K D vwCl (tk_T cI cM cJ) s) (hi : i + 5 ≤ L) (hl : lv_has ls 4 [(0, .ref b), (1, .ref h), (2, .ref h2), (3, .int (nI i))]) (hW : LW D cI cM cJ s h er tr sv a h2 sa pa eb na H locs)
    (kk : ∀ (H : Heap) (locs : List Loc), LW D cI cM cJ s h er tr sv a h2 sa pa eb na H locs → W p l e room_1 s m #[Value.ref b] below meth c H locs 44 777 Q (F0 m 762 ls [])) : W p l e room_1 s m #[Value.ref b] below meth c H locs 44 777 Q (F0 m 372 ls []) := by
  have hts := k_law_tbl C0
  obtain ⟨hx, hb, hr, hml, hown, -, hX, hbl, hlocks, hgv⟩ := C0
  have hA : ∀ q : Nat, s.heap.size ≤ q → (fun q : Nat => s.heap.size ≤ q) q := fun _ h => h
  have hbA : ¬ (fun q : Nat => s.heap.size ≤ q) b := Nat.not_le.mpr hbl
  obtain ⟨X, Y, t, AD, f, hs, hR, hP, hD, hS⟩ := hW
  obtain ⟨y1, y2, y3, y4, y5, y6, y7, hE⟩ := hR.yh f
  have hv1 : vp_in (nI i + 1) L := by rw [show nI i + 1 = nI (i + 1) from nI_add i 1]; exact vp_in_nI (by omega) (by omega)
  refine lv_aload_n hx hb dL_law_372 rfl (lv_at hl 1 rfl) ?_
  refine lv_aload_n hx hb dL_law_373 rfl (lv_at hl 0 rfl) ?_
  refine lv_iload_n hx hb dL_law_374 rfl (lv_at hl 3 rfl) ?_
  refine lv_iconst (v := 1) hx hb dL_law_375 (by decide) ?_
  refine lv_iadd hx hb dL_law_376 ?_
  refine va_sld hx hb hX hbl hbA hS hv1 dL_law_377 ?_
  refine kc_i (wc := (tk_xw cI cM h er tr sv a t AD X)) (wr := (tk_yw cI cJ h2 sa pa eb na f hs Y)) (va_runV (As := [.int (xs (nI i + 1).toNatClampNeg)]) (rest := []) ⟨hx, hb, hml, hown, hts⟩ (kx_miss l D cI cM cJ _ h er tr sv a t AD X (xs (nI i + 1).toNatClampNeg) hR.2.1) (cwV 1 hts gL_law_X3_miss rfl rfl rfl (by decide +kernel) ⟨Nat.le_of_ble_eq_true rfl, Nat.le_of_ble_eq_true rfl⟩) (kp_preV (q := (RX3, TX3, 5)) (wc := (tk_xw cI cM h er tr sv a t AD X)) (wr := (tk_yw cI cJ h2 sa pa eb na f hs Y)) hN hK hP hD 0 rfl rfl) rfl rfl hl.1 rfl (lv_room (Nat.le_of_ble_eq_true rfl)) dL_law_378 ⟨Nat.le_of_ble_eq_true rfl, Nat.le_of_ble_eq_true rfl⟩) hP hD hS hA (fun r u H locs pr hP hD hS => ?_)
  obtain ⟨X1, AD1, t1⟩ := u
  obtain ⟨pr, hX1⟩ := pr
  have hX1 : X1 = _ := hX1
  replace hP := va_swapP (v := (tk_xw cI cM h er tr sv a t1 AD1 X1)) (w := (tk_yw cI cJ h2 sa pa eb na f hs Y)) hP
  replace hD := va_swapD (v := (tk_xw cI cM h er tr sv a t1 AD1 X1)) (w := (tk_yw cI cJ h2 sa pa eb na f hs Y)) hD
  refine lv_aload_n hx hb dL_law_381 rfl (lv_at hl 2 rfl) ?_
  refine lv_aload_n hx hb dL_law_382 rfl (lv_at hl 0 rfl) ?_
  refine lv_iload_n hx hb dL_law_383 rfl (lv_at hl 3 rfl) ?_
  refine lv_iconst (v := 1) hx hb dL_law_384 (by decide) ?_
  refine lv_iadd hx hb dL_law_385 ?_
  refine va_sld hx hb hX hbl hbA hS hv1 dL_law_386 ?_
  refine kc_i (wc := (tk_yw cI cJ h2 sa pa eb na f hs Y)) (wr := (tk_xw cI cM h er tr sv a t1 AD1 X1)) (va_runV (As := [.int (xs (nI i + 1).toNatClampNeg)]) (rest := [.int r]) ⟨hx, hb, hml, hown, hts⟩ (ky_miss l D cI cM cJ _ h2 sa pa eb na f hs Y (xs (nI i + 1).toNatClampNeg) y1) (cwV 1 hts gL_law_X4_miss rfl rfl rfl (by decide +kernel) ⟨Nat.le_of_ble_eq_true rfl, Nat.le_of_ble_eq_true rfl⟩) (kp_preV (q := (RX4, TX4, 9)) (wc := (tk_yw cI cJ h2 sa pa eb na f hs Y)) (wr := (tk_xw cI cM h er tr sv a t1 AD1 X1)) hN hK hP hD 0 rfl rfl) rfl rfl hl.1 rfl (lv_room (Nat.le_of_ble_eq_true rfl)) dL_law_387 ⟨Nat.le_of_ble_eq_true rfl, Nat.le_of_ble_eq_true rfl⟩) hP hD hS hA (fun r2 u2 H locs pr2 hP hD hS => ?_)
  obtain ⟨Y1, f1, hs1⟩ := u2
  obtain ⟨pr2, hY1⟩ := pr2
  have hY1 : Y1 = _ := hY1
  replace hP := va_swapP (v := (tk_yw cI cJ h2 sa pa eb na f1 hs1 Y1)) (w := (tk_xw cI cM h er tr sv a t1 AD1 X1)) hP
  replace hD := va_swapD (v := (tk_yw cI cJ h2 sa pa eb na f1 hs1 Y1)) (w := (tk_xw cI cM h er tr sv a t1 AD1 X1)) hD
  have hsim := sim_miss hR (xs (nI i + 1).toNatClampNeg)
  have he : r = r2 := by rw [pr, pr2]; exact hsim.1
  have hR1 : RX X1 Y1 := by rw [hX1, hY1]; exact hsim.2
  refine lv_icmp_eq (tgt := 762) hx hb dL_law_390 (by decide) (fun _ => kk _ _ ⟨X1, Y1, t1, AD1, f1, hs1, hR1, hP, hD, hS⟩) (fun c9 => absurd he c9)
set_option maxHeartbeats 1000000 in
set_option maxRecDepth 100000 in
theorem lc_level {p : Program} {l : Launch} {e : Env} {s : State} {m : MethodId} {below : List Frame} {meth : Method} {c : Code} {b L : Nat} {xs : Nat → Int32} {D : va_G} {cI cM cJ : ClassId} {h er tr sv : Nat} {a : Nat → Nat} {h2 sa pa eb na i : Nat} {H : Heap} {locs : List Loc} {ls : Array Slot} {Q : State → Prop} (C0 : lw_At p s m meth c b L xs) (hL : L ≤ 2560) (hN : NX s) (hK : va_K D vwCl (tk_T cI cM cJ) s) (hi : i + 5 ≤ L) (hl : lv_has ls 4 [(0, .ref b), (1, .ref h), (2, .ref h2), (3, .int (nI i))]) (hW : LW D cI cM cJ s h er tr sv a h2 sa pa eb na H locs)
    (kk : ∀ (H : Heap) (locs : List Loc), LW D cI cM cJ s h er tr sv a h2 sa pa eb na H locs → W p l e room_1 s m #[Value.ref b] below meth c H locs 44 777 Q (F0 m 762 ls [])) : W p l e room_1 s m #[Value.ref b] below meth c H locs 44 777 Q (F0 m 395 ls []) := by
  have hts := k_law_tbl C0
  obtain ⟨hx, hb, hr, hml, hown, -, hX, hbl, hlocks, hgv⟩ := C0
  have hA : ∀ q : Nat, s.heap.size ≤ q → (fun q : Nat => s.heap.size ≤ q) q := fun _ h => h
  have hbA : ¬ (fun q : Nat => s.heap.size ≤ q) b := Nat.not_le.mpr hbl
  obtain ⟨X, Y, t, AD, f, hs, hR, hP, hD, hS⟩ := hW
  obtain ⟨y1, y2, y3, y4, y5, y6, y7, hE⟩ := hR.yh f
  refine lv_aload_n hx hb dL_law_395 rfl (lv_at hl 1 rfl) ?_
  refine kc_i (wc := (tk_xw cI cM h er tr sv a t AD X)) (wr := (tk_yw cI cJ h2 sa pa eb na f hs Y)) (va_runV (As := []) (rest := []) ⟨hx, hb, hml, hown, hts⟩ (kx_level l D cI cM cJ _ h er tr sv a t AD X) (cwV 0 hts gL_law_X3_level rfl rfl rfl (by decide +kernel) ⟨Nat.le_of_ble_eq_true rfl, Nat.le_of_ble_eq_true rfl⟩) (kp_preV (q := (RX3, TX3, 5)) (wc := (tk_xw cI cM h er tr sv a t AD X)) (wr := (tk_yw cI cJ h2 sa pa eb na f hs Y)) hN hK hP hD 0 rfl rfl) rfl rfl hl.1 rfl (lv_room (Nat.le_of_ble_eq_true rfl)) dL_law_396 ⟨Nat.le_of_ble_eq_true rfl, Nat.le_of_ble_eq_true rfl⟩) hP hD hS hA (fun r u H locs pr hP hD hS => ?_)
  have pr : r = _ := pr
  replace hP := va_swapP (v := (tk_xw cI cM h er tr sv a t AD X)) (w := (tk_yw cI cJ h2 sa pa eb na f hs Y)) hP
  replace hD := va_swapD (v := (tk_xw cI cM h er tr sv a t AD X)) (w := (tk_yw cI cJ h2 sa pa eb na f hs Y)) hD
  refine lv_aload_n hx hb dL_law_399 rfl (lv_at hl 2 rfl) ?_
  refine kc_i (wc := (tk_yw cI cJ h2 sa pa eb na f hs Y)) (wr := (tk_xw cI cM h er tr sv a t AD X)) (va_runV (As := []) (rest := [.int r]) ⟨hx, hb, hml, hown, hts⟩ (ky_level l D cI cM cJ _ h2 sa pa eb na f hs Y) (cwV 0 hts gL_law_X4_level rfl rfl rfl (by decide +kernel) ⟨Nat.le_of_ble_eq_true rfl, Nat.le_of_ble_eq_true rfl⟩) (kp_preV (q := (RX4, TX4, 9)) (wc := (tk_yw cI cJ h2 sa pa eb na f hs Y)) (wr := (tk_xw cI cM h er tr sv a t AD X)) hN hK hP hD 0 rfl rfl) rfl rfl hl.1 rfl (lv_room (Nat.le_of_ble_eq_true rfl)) dL_law_400 ⟨Nat.le_of_ble_eq_true rfl, Nat.le_of_ble_eq_true rfl⟩) hP hD hS hA (fun r2 u2 H locs pr2 hP hD hS => ?_)
  have pr2 : r2 = _ := pr2
  replace hP := va_swapP (v := (tk_yw cI cJ h2 sa pa eb na f hs Y)) (w := (tk_xw cI cM h er tr sv a t AD X)) hP
  replace hD := va_swapD (v := (tk_yw cI cJ h2 sa pa eb na f hs Y)) (w := (tk_xw cI cM h er tr sv a t AD X)) hD
  have he : r = r2 := by
    obtain ⟨m1, m2, m3, m4, m5, m6, m7⟩ := hR.2.2.2.1
    rw [pr, pr2, m1 0 (by decide)]; exact tk_back _
  refine lv_icmp_eq (tgt := 762) hx hb dL_law_403 (by decide) (fun _ => kk _ _ ⟨X, Y, t, AD, f, hs, hR, hP, hD, hS⟩) (fun c9 => absurd he c9)
set_option maxHeartbeats 1000000 in
set_option maxRecDepth 100000 in
theorem lc_flow {p : Program} {l : Launch} {e : Env} {s : State} {m : MethodId} {below : List Frame} {meth : Method} {c : Code} {b L : Nat} {xs : Nat → Int32} {D : va_G} {cI cM cJ : ClassId} {h er tr sv : Nat} {a : Nat → Nat} {h2 sa pa eb na i : Nat} {H : Heap} {locs : List Loc} {ls : Array Slot} {Q : State → Prop} (C0 : lw_At p s m meth c b L xs) (hL : L ≤ 2560) (hN : NX s) (hK : va_K D vwCl (tk_T cI cM cJ) s) (hi : i + 5 ≤ L) (hl : lv_has ls 4 [(0, .ref b), (1, .ref h), (2, .ref h2), (3, .int (nI i))]) (hW : LW D cI cM cJ s h er tr sv a h2 sa pa eb na H locs)
    (kk : ∀ (H : Heap) (locs : List Loc), LW D cI cM cJ s h er tr sv a h2 sa pa eb na H locs → W p l e room_1 s m #[Value.ref b] below meth c H locs 44 777 Q (F0 m 762 ls [])) : W p l e room_1 s m #[Value.ref b] below meth c H locs 44 777 Q (F0 m 408 ls []) := by
  have hts := k_law_tbl C0
  obtain ⟨hx, hb, hr, hml, hown, -, hX, hbl, hlocks, hgv⟩ := C0
  have hA : ∀ q : Nat, s.heap.size ≤ q → (fun q : Nat => s.heap.size ≤ q) q := fun _ h => h
  have hbA : ¬ (fun q : Nat => s.heap.size ≤ q) b := Nat.not_le.mpr hbl
  obtain ⟨X, Y, t, AD, f, hs, hR, hP, hD, hS⟩ := hW
  obtain ⟨y1, y2, y3, y4, y5, y6, y7, hE⟩ := hR.yh f
  refine lv_aload_n hx hb dL_law_408 rfl (lv_at hl 1 rfl) ?_
  refine kc_i (wc := (tk_xw cI cM h er tr sv a t AD X)) (wr := (tk_yw cI cJ h2 sa pa eb na f hs Y)) (va_runV (As := []) (rest := []) ⟨hx, hb, hml, hown, hts⟩ (kx_flow l D cI cM cJ _ h er tr sv a t AD X) (cwV 0 hts gL_law_X3_flow rfl rfl rfl (by decide +kernel) ⟨Nat.le_of_ble_eq_true rfl, Nat.le_of_ble_eq_true rfl⟩) (kp_preV (q := (RX3, TX3, 5)) (wc := (tk_xw cI cM h er tr sv a t AD X)) (wr := (tk_yw cI cJ h2 sa pa eb na f hs Y)) hN hK hP hD 0 rfl rfl) rfl rfl hl.1 rfl (lv_room (Nat.le_of_ble_eq_true rfl)) dL_law_409 ⟨Nat.le_of_ble_eq_true rfl, Nat.le_of_ble_eq_true rfl⟩) hP hD hS hA (fun r u H locs pr hP hD hS => ?_)
  have pr : r = _ := pr
  replace hP := va_swapP (v := (tk_xw cI cM h er tr sv a t AD X)) (w := (tk_yw cI cJ h2 sa pa eb na f hs Y)) hP
  replace hD := va_swapD (v := (tk_xw cI cM h er tr sv a t AD X)) (w := (tk_yw cI cJ h2 sa pa eb na f hs Y)) hD
  refine lv_aload_n hx hb dL_law_412 rfl (lv_at hl 2 rfl) ?_
  refine kc_i (wc := (tk_yw cI cJ h2 sa pa eb na f hs Y)) (wr := (tk_xw cI cM h er tr sv a t AD X)) (va_runV (As := []) (rest := [.int r]) ⟨hx, hb, hml, hown, hts⟩ (ky_flow l D cI cM cJ _ h2 sa pa eb na f hs Y) (cwV 0 hts gL_law_X4_flow rfl rfl rfl (by decide +kernel) ⟨Nat.le_of_ble_eq_true rfl, Nat.le_of_ble_eq_true rfl⟩) (kp_preV (q := (RX4, TX4, 9)) (wc := (tk_yw cI cJ h2 sa pa eb na f hs Y)) (wr := (tk_xw cI cM h er tr sv a t AD X)) hN hK hP hD 0 rfl rfl) rfl rfl hl.1 rfl (lv_room (Nat.le_of_ble_eq_true rfl)) dL_law_413 ⟨Nat.le_of_ble_eq_true rfl, Nat.le_of_ble_eq_true rfl⟩) hP hD hS hA (fun r2 u2 H locs pr2 hP hD hS => ?_)
  have pr2 : r2 = _ := pr2
  replace hP := va_swapP (v := (tk_yw cI cJ h2 sa pa eb na f hs Y)) (w := (tk_xw cI cM h er tr sv a t AD X)) hP
  replace hD := va_swapD (v := (tk_yw cI cJ h2 sa pa eb na f hs Y)) (w := (tk_xw cI cM h er tr sv a t AD X)) hD
  have he : r = r2 := by
    obtain ⟨m1, m2, m3, m4, m5, m6, m7⟩ := hR.2.2.2.1
    rw [pr, pr2, m1 1 (by decide)]; exact tk_back _
  refine lv_icmp_eq (tgt := 762) hx hb dL_law_416 (by decide) (fun _ => kk _ _ ⟨X, Y, t, AD, f, hs, hR, hP, hD, hS⟩) (fun c9 => absurd he c9)
set_option maxHeartbeats 1000000 in
set_option maxRecDepth 100000 in
theorem lc_levelVariance {p : Program} {l : Launch} {e : Env} {s : State} {m : MethodId} {below : List Frame} {meth : Method} {c : Code} {b L : Nat} {xs : Nat → Int32} {D : va_G} {cI cM cJ : ClassId} {h er tr sv : Nat} {a : Nat → Nat} {h2 sa pa eb na i : Nat} {H : Heap} {locs : List Loc} {ls : Array Slot} {Q : State → Prop} (C0 : lw_At p s m meth c b L xs) (hL : L ≤ 2560) (hN : NX s) (hK : va_K D vwCl (tk_T cI cM cJ) s) (hi : i + 5 ≤ L) (hl : lv_has ls 4 [(0, .ref b), (1, .ref h), (2, .ref h2), (3, .int (nI i))]) (hW : LW D cI cM cJ s h er tr sv a h2 sa pa eb na H locs)
    (kk : ∀ (H : Heap) (locs : List Loc), LW D cI cM cJ s h er tr sv a h2 sa pa eb na H locs → W p l e room_1 s m #[Value.ref b] below meth c H locs 44 777 Q (F0 m 762 ls [])) : W p l e room_1 s m #[Value.ref b] below meth c H locs 44 777 Q (F0 m 421 ls []) := by
  have hts := k_law_tbl C0
  obtain ⟨hx, hb, hr, hml, hown, -, hX, hbl, hlocks, hgv⟩ := C0
  have hA : ∀ q : Nat, s.heap.size ≤ q → (fun q : Nat => s.heap.size ≤ q) q := fun _ h => h
  have hbA : ¬ (fun q : Nat => s.heap.size ≤ q) b := Nat.not_le.mpr hbl
  obtain ⟨X, Y, t, AD, f, hs, hR, hP, hD, hS⟩ := hW
  obtain ⟨y1, y2, y3, y4, y5, y6, y7, hE⟩ := hR.yh f
  refine lv_aload_n hx hb dL_law_421 rfl (lv_at hl 1 rfl) ?_
  refine kc_i (wc := (tk_xw cI cM h er tr sv a t AD X)) (wr := (tk_yw cI cJ h2 sa pa eb na f hs Y)) (va_runV (As := []) (rest := []) ⟨hx, hb, hml, hown, hts⟩ (kx_levelVariance l D cI cM cJ _ h er tr sv a t AD X) (cwV 0 hts gL_law_X3_levelVariance rfl rfl rfl (by decide +kernel) ⟨Nat.le_of_ble_eq_true rfl, Nat.le_of_ble_eq_true rfl⟩) (kp_preV (q := (RX3, TX3, 5)) (wc := (tk_xw cI cM h er tr sv a t AD X)) (wr := (tk_yw cI cJ h2 sa pa eb na f hs Y)) hN hK hP hD 0 rfl rfl) rfl rfl hl.1 rfl (lv_room (Nat.le_of_ble_eq_true rfl)) dL_law_422 ⟨Nat.le_of_ble_eq_true rfl, Nat.le_of_ble_eq_true rfl⟩) hP hD hS hA (fun r u H locs pr hP hD hS => ?_)
  have pr : r = _ := pr
  replace hP := va_swapP (v := (tk_xw cI cM h er tr sv a t AD X)) (w := (tk_yw cI cJ h2 sa pa eb na f hs Y)) hP
  replace hD := va_swapD (v := (tk_xw cI cM h er tr sv a t AD X)) (w := (tk_yw cI cJ h2 sa pa eb na f hs Y)) hD
  refine lv_aload_n hx hb dL_law_425 rfl (lv_at hl 2 rfl) ?_
  refine kc_i (wc := (tk_yw cI cJ h2 sa pa eb na f hs Y)) (wr := (tk_xw cI cM h er tr sv a t AD X)) (va_runV (As := []) (rest := [.int r]) ⟨hx, hb, hml, hown, hts⟩ (ky_levelVariance l D cI cM cJ _ h2 sa pa eb na f hs Y) (cwV 0 hts gL_law_X4_levelVariance rfl rfl rfl (by decide +kernel) ⟨Nat.le_of_ble_eq_true rfl, Nat.le_of_ble_eq_true rfl⟩) (kp_preV (q := (RX4, TX4, 9)) (wc := (tk_yw cI cJ h2 sa pa eb na f hs Y)) (wr := (tk_xw cI cM h er tr sv a t AD X)) hN hK hP hD 0 rfl rfl) rfl rfl hl.1 rfl (lv_room (Nat.le_of_ble_eq_true rfl)) dL_law_426 ⟨Nat.le_of_ble_eq_true rfl, Nat.le_of_ble_eq_true rfl⟩) hP hD hS hA (fun r2 u2 H locs pr2 hP hD hS => ?_)
  have pr2 : r2 = _ := pr2
  replace hP := va_swapP (v := (tk_yw cI cJ h2 sa pa eb na f hs Y)) (w := (tk_xw cI cM h er tr sv a t AD X)) hP
  replace hD := va_swapD (v := (tk_yw cI cJ h2 sa pa eb na f hs Y)) (w := (tk_xw cI cM h er tr sv a t AD X)) hD
  have he : r = r2 := by
    obtain ⟨m1, m2, m3, m4, m5, m6, m7⟩ := hR.2.2.2.1
    rw [pr, pr2, m1 2 (by decide)]; exact tk_back _
  refine lv_icmp_eq (tgt := 762) hx hb dL_law_429 (by decide) (fun _ => kk _ _ ⟨X, Y, t, AD, f, hs, hR, hP, hD, hS⟩) (fun c9 => absurd he c9)
set_option maxHeartbeats 1000000 in
set_option maxRecDepth 100000 in
theorem lc_covariance {p : Program} {l : Launch} {e : Env} {s : State} {m : MethodId} {below : List Frame} {meth : Method} {c : Code} {b L : Nat} {xs : Nat → Int32} {D : va_G} {cI cM cJ : ClassId} {h er tr sv : Nat} {a : Nat → Nat} {h2 sa pa eb na i : Nat} {H : Heap} {locs : List Loc} {ls : Array Slot} {Q : State → Prop} (C0 : lw_At p s m meth c b L xs) (hL : L ≤ 2560) (hN : NX s) (hK : va_K D vwCl (tk_T cI cM cJ) s) (hi : i + 5 ≤ L) (hl : lv_has ls 4 [(0, .ref b), (1, .ref h), (2, .ref h2), (3, .int (nI i))]) (hW : LW D cI cM cJ s h er tr sv a h2 sa pa eb na H locs)
    (kk : ∀ (H : Heap) (locs : List Loc), LW D cI cM cJ s h er tr sv a h2 sa pa eb na H locs → W p l e room_1 s m #[Value.ref b] below meth c H locs 44 777 Q (F0 m 762 ls [])) : W p l e room_1 s m #[Value.ref b] below meth c H locs 44 777 Q (F0 m 434 ls []) := by
  have hts := k_law_tbl C0
  obtain ⟨hx, hb, hr, hml, hown, -, hX, hbl, hlocks, hgv⟩ := C0
  have hA : ∀ q : Nat, s.heap.size ≤ q → (fun q : Nat => s.heap.size ≤ q) q := fun _ h => h
  have hbA : ¬ (fun q : Nat => s.heap.size ≤ q) b := Nat.not_le.mpr hbl
  obtain ⟨X, Y, t, AD, f, hs, hR, hP, hD, hS⟩ := hW
  obtain ⟨y1, y2, y3, y4, y5, y6, y7, hE⟩ := hR.yh f
  refine lv_aload_n hx hb dL_law_434 rfl (lv_at hl 1 rfl) ?_
  refine kc_i (wc := (tk_xw cI cM h er tr sv a t AD X)) (wr := (tk_yw cI cJ h2 sa pa eb na f hs Y)) (va_runV (As := []) (rest := []) ⟨hx, hb, hml, hown, hts⟩ (kx_covariance l D cI cM cJ _ h er tr sv a t AD X) (cwV 0 hts gL_law_X3_covariance rfl rfl rfl (by decide +kernel) ⟨Nat.le_of_ble_eq_true rfl, Nat.le_of_ble_eq_true rfl⟩) (kp_preV (q := (RX3, TX3, 5)) (wc := (tk_xw cI cM h er tr sv a t AD X)) (wr := (tk_yw cI cJ h2 sa pa eb na f hs Y)) hN hK hP hD 0 rfl rfl) rfl rfl hl.1 rfl (lv_room (Nat.le_of_ble_eq_true rfl)) dL_law_435 ⟨Nat.le_of_ble_eq_true rfl, Nat.le_of_ble_eq_true rfl⟩) hP hD hS hA (fun r u H locs pr hP hD hS => ?_)
  have pr : r = _ := pr
  replace hP := va_swapP (v := (tk_xw cI cM h er tr sv a t AD X)) (w := (tk_yw cI cJ h2 sa pa eb na f hs Y)) hP
  replace hD := va_swapD (v := (tk_xw cI cM h er tr sv a t AD X)) (w := (tk_yw cI cJ h2 sa pa eb na f hs Y)) hD
  refine lv_aload_n hx hb dL_law_438 rfl (lv_at hl 2 rfl) ?_
  refine kc_i (wc := (tk_yw cI cJ h2 sa pa eb na f hs Y)) (wr := (tk_xw cI cM h er tr sv a t AD X)) (va_runV (As := []) (rest := [.int r]) ⟨hx, hb, hml, hown, hts⟩ (ky_covariance l D cI cM cJ _ h2 sa pa eb na f hs Y) (cwV 0 hts gL_law_X4_covariance rfl rfl rfl (by decide +kernel) ⟨Nat.le_of_ble_eq_true rfl, Nat.le_of_ble_eq_true rfl⟩) (kp_preV (q := (RX4, TX4, 9)) (wc := (tk_yw cI cJ h2 sa pa eb na f hs Y)) (wr := (tk_xw cI cM h er tr sv a t AD X)) hN hK hP hD 0 rfl rfl) rfl rfl hl.1 rfl (lv_room (Nat.le_of_ble_eq_true rfl)) dL_law_439 ⟨Nat.le_of_ble_eq_true rfl, Nat.le_of_ble_eq_true rfl⟩) hP hD hS hA (fun r2 u2 H locs pr2 hP hD hS => ?_)
  have pr2 : r2 = _ := pr2
  replace hP := va_swapP (v := (tk_yw cI cJ h2 sa pa eb na f hs Y)) (w := (tk_xw cI cM h er tr sv a t AD X)) hP
  replace hD := va_swapD (v := (tk_yw cI cJ h2 sa pa eb na f hs Y)) (w := (tk_xw cI cM h er tr sv a t AD X)) hD
  have he : r = r2 := by
    obtain ⟨m1, m2, m3, m4, m5, m6, m7⟩ := hR.2.2.2.1
    rw [pr, pr2, m1 3 (by decide)]; exact tk_back _
  refine lv_icmp_eq (tgt := 762) hx hb dL_law_442 (by decide) (fun _ => kk _ _ ⟨X, Y, t, AD, f, hs, hR, hP, hD, hS⟩) (fun c9 => absurd he c9)
set_option maxHeartbeats 1000000 in
set_option maxRecDepth 100000 in
theorem lc_flowVariance {p : Program} {l : Launch} {e : Env} {s : State} {m : MethodId} {below : List Frame} {meth : Method} {c : Code} {b L : Nat} {xs : Nat → Int32} {D : va_G} {cI cM cJ : ClassId} {h er tr sv : Nat} {a : Nat → Nat} {h2 sa pa eb na i : Nat} {H : Heap} {locs : List Loc} {ls : Array Slot} {Q : State → Prop} (C0 : lw_At p s m meth c b L xs) (hL : L ≤ 2560) (hN : NX s) (hK : va_K D vwCl (tk_T cI cM cJ) s) (hi : i + 5 ≤ L) (hl : lv_has ls 4 [(0, .ref b), (1, .ref h), (2, .ref h2), (3, .int (nI i))]) (hW : LW D cI cM cJ s h er tr sv a h2 sa pa eb na H locs)
    (kk : ∀ (H : Heap) (locs : List Loc), LW D cI cM cJ s h er tr sv a h2 sa pa eb na H locs → W p l e room_1 s m #[Value.ref b] below meth c H locs 44 777 Q (F0 m 762 ls [])) : W p l e room_1 s m #[Value.ref b] below meth c H locs 44 777 Q (F0 m 447 ls []) := by
  have hts := k_law_tbl C0
  obtain ⟨hx, hb, hr, hml, hown, -, hX, hbl, hlocks, hgv⟩ := C0
  have hA : ∀ q : Nat, s.heap.size ≤ q → (fun q : Nat => s.heap.size ≤ q) q := fun _ h => h
  have hbA : ¬ (fun q : Nat => s.heap.size ≤ q) b := Nat.not_le.mpr hbl
  obtain ⟨X, Y, t, AD, f, hs, hR, hP, hD, hS⟩ := hW
  obtain ⟨y1, y2, y3, y4, y5, y6, y7, hE⟩ := hR.yh f
  refine lv_aload_n hx hb dL_law_447 rfl (lv_at hl 1 rfl) ?_
  refine kc_i (wc := (tk_xw cI cM h er tr sv a t AD X)) (wr := (tk_yw cI cJ h2 sa pa eb na f hs Y)) (va_runV (As := []) (rest := []) ⟨hx, hb, hml, hown, hts⟩ (kx_flowVariance l D cI cM cJ _ h er tr sv a t AD X) (cwV 0 hts gL_law_X3_flowVariance rfl rfl rfl (by decide +kernel) ⟨Nat.le_of_ble_eq_true rfl, Nat.le_of_ble_eq_true rfl⟩) (kp_preV (q := (RX3, TX3, 5)) (wc := (tk_xw cI cM h er tr sv a t AD X)) (wr := (tk_yw cI cJ h2 sa pa eb na f hs Y)) hN hK hP hD 0 rfl rfl) rfl rfl hl.1 rfl (lv_room (Nat.le_of_ble_eq_true rfl)) dL_law_448 ⟨Nat.le_of_ble_eq_true rfl, Nat.le_of_ble_eq_true rfl⟩) hP hD hS hA (fun r u H locs pr hP hD hS => ?_)
  have pr : r = _ := pr
  replace hP := va_swapP (v := (tk_xw cI cM h er tr sv a t AD X)) (w := (tk_yw cI cJ h2 sa pa eb na f hs Y)) hP
  replace hD := va_swapD (v := (tk_xw cI cM h er tr sv a t AD X)) (w := (tk_yw cI cJ h2 sa pa eb na f hs Y)) hD
  refine lv_aload_n hx hb dL_law_451 rfl (lv_at hl 2 rfl) ?_
  refine kc_i (wc := (tk_yw cI cJ h2 sa pa eb na f hs Y)) (wr := (tk_xw cI cM h er tr sv a t AD X)) (va_runV (As := []) (rest := [.int r]) ⟨hx, hb, hml, hown, hts⟩ (ky_flowVariance l D cI cM cJ _ h2 sa pa eb na f hs Y) (cwV 0 hts gL_law_X4_flowVariance rfl rfl rfl (by decide +kernel) ⟨Nat.le_of_ble_eq_true rfl, Nat.le_of_ble_eq_true rfl⟩) (kp_preV (q := (RX4, TX4, 9)) (wc := (tk_yw cI cJ h2 sa pa eb na f hs Y)) (wr := (tk_xw cI cM h er tr sv a t AD X)) hN hK hP hD 0 rfl rfl) rfl rfl hl.1 rfl (lv_room (Nat.le_of_ble_eq_true rfl)) dL_law_452 ⟨Nat.le_of_ble_eq_true rfl, Nat.le_of_ble_eq_true rfl⟩) hP hD hS hA (fun r2 u2 H locs pr2 hP hD hS => ?_)
  have pr2 : r2 = _ := pr2
  replace hP := va_swapP (v := (tk_yw cI cJ h2 sa pa eb na f hs Y)) (w := (tk_xw cI cM h er tr sv a t AD X)) hP
  replace hD := va_swapD (v := (tk_yw cI cJ h2 sa pa eb na f hs Y)) (w := (tk_xw cI cM h er tr sv a t AD X)) hD
  have he : r = r2 := by
    obtain ⟨m1, m2, m3, m4, m5, m6, m7⟩ := hR.2.2.2.1
    rw [pr, pr2, m1 4 (by decide)]; exact tk_back _
  refine lv_icmp_eq (tgt := 762) hx hb dL_law_455 (by decide) (fun _ => kk _ _ ⟨X, Y, t, AD, f, hs, hR, hP, hD, hS⟩) (fun c9 => absurd he c9)
set_option maxHeartbeats 1000000 in
set_option maxRecDepth 100000 in
theorem lc_innovation {p : Program} {l : Launch} {e : Env} {s : State} {m : MethodId} {below : List Frame} {meth : Method} {c : Code} {b L : Nat} {xs : Nat → Int32} {D : va_G} {cI cM cJ : ClassId} {h er tr sv : Nat} {a : Nat → Nat} {h2 sa pa eb na i : Nat} {H : Heap} {locs : List Loc} {ls : Array Slot} {Q : State → Prop} (C0 : lw_At p s m meth c b L xs) (hL : L ≤ 2560) (hN : NX s) (hK : va_K D vwCl (tk_T cI cM cJ) s) (hi : i + 5 ≤ L) (hl : lv_has ls 4 [(0, .ref b), (1, .ref h), (2, .ref h2), (3, .int (nI i))]) (hW : LW D cI cM cJ s h er tr sv a h2 sa pa eb na H locs)
    (kk : ∀ (H : Heap) (locs : List Loc), LW D cI cM cJ s h er tr sv a h2 sa pa eb na H locs → W p l e room_1 s m #[Value.ref b] below meth c H locs 44 777 Q (F0 m 762 ls [])) : W p l e room_1 s m #[Value.ref b] below meth c H locs 44 777 Q (F0 m 460 ls []) := by
  have hts := k_law_tbl C0
  obtain ⟨hx, hb, hr, hml, hown, -, hX, hbl, hlocks, hgv⟩ := C0
  have hA : ∀ q : Nat, s.heap.size ≤ q → (fun q : Nat => s.heap.size ≤ q) q := fun _ h => h
  have hbA : ¬ (fun q : Nat => s.heap.size ≤ q) b := Nat.not_le.mpr hbl
  obtain ⟨X, Y, t, AD, f, hs, hR, hP, hD, hS⟩ := hW
  obtain ⟨y1, y2, y3, y4, y5, y6, y7, hE⟩ := hR.yh f
  refine lv_aload_n hx hb dL_law_460 rfl (lv_at hl 1 rfl) ?_
  refine kc_i (wc := (tk_xw cI cM h er tr sv a t AD X)) (wr := (tk_yw cI cJ h2 sa pa eb na f hs Y)) (va_runV (As := []) (rest := []) ⟨hx, hb, hml, hown, hts⟩ (kx_innovation l D cI cM cJ _ h er tr sv a t AD X) (cwV 0 hts gL_law_X3_innovation rfl rfl rfl (by decide +kernel) ⟨Nat.le_of_ble_eq_true rfl, Nat.le_of_ble_eq_true rfl⟩) (kp_preV (q := (RX3, TX3, 5)) (wc := (tk_xw cI cM h er tr sv a t AD X)) (wr := (tk_yw cI cJ h2 sa pa eb na f hs Y)) hN hK hP hD 0 rfl rfl) rfl rfl hl.1 rfl (lv_room (Nat.le_of_ble_eq_true rfl)) dL_law_461 ⟨Nat.le_of_ble_eq_true rfl, Nat.le_of_ble_eq_true rfl⟩) hP hD hS hA (fun r u H locs pr hP hD hS => ?_)
  have pr : r = _ := pr
  replace hP := va_swapP (v := (tk_xw cI cM h er tr sv a t AD X)) (w := (tk_yw cI cJ h2 sa pa eb na f hs Y)) hP
  replace hD := va_swapD (v := (tk_xw cI cM h er tr sv a t AD X)) (w := (tk_yw cI cJ h2 sa pa eb na f hs Y)) hD
  refine lv_aload_n hx hb dL_law_464 rfl (lv_at hl 2 rfl) ?_
  refine kc_i (wc := (tk_yw cI cJ h2 sa pa eb na f hs Y)) (wr := (tk_xw cI cM h er tr sv a t AD X)) (va_runV (As := []) (rest := [.int r]) ⟨hx, hb, hml, hown, hts⟩ (ky_innovation l D cI cM cJ _ h2 sa pa eb na f hs Y) (cwV 0 hts gL_law_X4_innovation rfl rfl rfl (by decide +kernel) ⟨Nat.le_of_ble_eq_true rfl, Nat.le_of_ble_eq_true rfl⟩) (kp_preV (q := (RX4, TX4, 9)) (wc := (tk_yw cI cJ h2 sa pa eb na f hs Y)) (wr := (tk_xw cI cM h er tr sv a t AD X)) hN hK hP hD 0 rfl rfl) rfl rfl hl.1 rfl (lv_room (Nat.le_of_ble_eq_true rfl)) dL_law_465 ⟨Nat.le_of_ble_eq_true rfl, Nat.le_of_ble_eq_true rfl⟩) hP hD hS hA (fun r2 u2 H locs pr2 hP hD hS => ?_)
  have pr2 : r2 = _ := pr2
  replace hP := va_swapP (v := (tk_yw cI cJ h2 sa pa eb na f hs Y)) (w := (tk_xw cI cM h er tr sv a t AD X)) hP
  replace hD := va_swapD (v := (tk_yw cI cJ h2 sa pa eb na f hs Y)) (w := (tk_xw cI cM h er tr sv a t AD X)) hD
  have he : r = r2 := by
    obtain ⟨m1, m2, m3, m4, m5, m6, m7⟩ := hR.2.2.2.1
    rw [pr, pr2, m2.1]; exact tk_back _
  refine lv_icmp_eq (tgt := 762) hx hb dL_law_468 (by decide) (fun _ => kk _ _ ⟨X, Y, t, AD, f, hs, hR, hP, hD, hS⟩) (fun c9 => absurd he c9)
set_option maxHeartbeats 1000000 in
set_option maxRecDepth 100000 in
theorem lc_levelGain {p : Program} {l : Launch} {e : Env} {s : State} {m : MethodId} {below : List Frame} {meth : Method} {c : Code} {b L : Nat} {xs : Nat → Int32} {D : va_G} {cI cM cJ : ClassId} {h er tr sv : Nat} {a : Nat → Nat} {h2 sa pa eb na i : Nat} {H : Heap} {locs : List Loc} {ls : Array Slot} {Q : State → Prop} (C0 : lw_At p s m meth c b L xs) (hL : L ≤ 2560) (hN : NX s) (hK : va_K D vwCl (tk_T cI cM cJ) s) (hi : i + 5 ≤ L) (hl : lv_has ls 4 [(0, .ref b), (1, .ref h), (2, .ref h2), (3, .int (nI i))]) (hW : LW D cI cM cJ s h er tr sv a h2 sa pa eb na H locs)
    (kk : ∀ (H : Heap) (locs : List Loc), LW D cI cM cJ s h er tr sv a h2 sa pa eb na H locs → W p l e room_1 s m #[Value.ref b] below meth c H locs 44 777 Q (F0 m 762 ls [])) : W p l e room_1 s m #[Value.ref b] below meth c H locs 44 777 Q (F0 m 473 ls []) := by
  have hts := k_law_tbl C0
  obtain ⟨hx, hb, hr, hml, hown, -, hX, hbl, hlocks, hgv⟩ := C0
  have hA : ∀ q : Nat, s.heap.size ≤ q → (fun q : Nat => s.heap.size ≤ q) q := fun _ h => h
  have hbA : ¬ (fun q : Nat => s.heap.size ≤ q) b := Nat.not_le.mpr hbl
  obtain ⟨X, Y, t, AD, f, hs, hR, hP, hD, hS⟩ := hW
  obtain ⟨y1, y2, y3, y4, y5, y6, y7, hE⟩ := hR.yh f
  refine lv_aload_n hx hb dL_law_473 rfl (lv_at hl 1 rfl) ?_
  refine kc_i (wc := (tk_xw cI cM h er tr sv a t AD X)) (wr := (tk_yw cI cJ h2 sa pa eb na f hs Y)) (va_runV (As := []) (rest := []) ⟨hx, hb, hml, hown, hts⟩ (kx_levelGain l D cI cM cJ _ h er tr sv a t AD X) (cwV 0 hts gL_law_X3_levelGain rfl rfl rfl (by decide +kernel) ⟨Nat.le_of_ble_eq_true rfl, Nat.le_of_ble_eq_true rfl⟩) (kp_preV (q := (RX3, TX3, 5)) (wc := (tk_xw cI cM h er tr sv a t AD X)) (wr := (tk_yw cI cJ h2 sa pa eb na f hs Y)) hN hK hP hD 0 rfl rfl) rfl rfl hl.1 rfl (lv_room (Nat.le_of_ble_eq_true rfl)) dL_law_474 ⟨Nat.le_of_ble_eq_true rfl, Nat.le_of_ble_eq_true rfl⟩) hP hD hS hA (fun r u H locs pr hP hD hS => ?_)
  have pr : r = _ := pr
  replace hP := va_swapP (v := (tk_xw cI cM h er tr sv a t AD X)) (w := (tk_yw cI cJ h2 sa pa eb na f hs Y)) hP
  replace hD := va_swapD (v := (tk_xw cI cM h er tr sv a t AD X)) (w := (tk_yw cI cJ h2 sa pa eb na f hs Y)) hD
  refine lv_aload_n hx hb dL_law_477 rfl (lv_at hl 2 rfl) ?_
  refine kc_i (wc := (tk_yw cI cJ h2 sa pa eb na f hs Y)) (wr := (tk_xw cI cM h er tr sv a t AD X)) (va_runV (As := []) (rest := [.int r]) ⟨hx, hb, hml, hown, hts⟩ (ky_levelGain l D cI cM cJ _ h2 sa pa eb na f hs Y) (cwV 0 hts gL_law_X4_levelGain rfl rfl rfl (by decide +kernel) ⟨Nat.le_of_ble_eq_true rfl, Nat.le_of_ble_eq_true rfl⟩) (kp_preV (q := (RX4, TX4, 9)) (wc := (tk_yw cI cJ h2 sa pa eb na f hs Y)) (wr := (tk_xw cI cM h er tr sv a t AD X)) hN hK hP hD 0 rfl rfl) rfl rfl hl.1 rfl (lv_room (Nat.le_of_ble_eq_true rfl)) dL_law_478 ⟨Nat.le_of_ble_eq_true rfl, Nat.le_of_ble_eq_true rfl⟩) hP hD hS hA (fun r2 u2 H locs pr2 hP hD hS => ?_)
  have pr2 : r2 = _ := pr2
  replace hP := va_swapP (v := (tk_yw cI cJ h2 sa pa eb na f hs Y)) (w := (tk_xw cI cM h er tr sv a t AD X)) hP
  replace hD := va_swapD (v := (tk_yw cI cJ h2 sa pa eb na f hs Y)) (w := (tk_xw cI cM h er tr sv a t AD X)) hD
  have he : r = r2 := by
    obtain ⟨m1, m2, m3, m4, m5, m6, m7⟩ := hR.2.2.2.1
    rw [pr, pr2, m2.2.1]; exact tk_back _
  refine lv_icmp_eq (tgt := 762) hx hb dL_law_481 (by decide) (fun _ => kk _ _ ⟨X, Y, t, AD, f, hs, hR, hP, hD, hS⟩) (fun c9 => absurd he c9)
set_option maxHeartbeats 1000000 in
set_option maxRecDepth 100000 in
theorem lc_flowGain {p : Program} {l : Launch} {e : Env} {s : State} {m : MethodId} {below : List Frame} {meth : Method} {c : Code} {b L : Nat} {xs : Nat → Int32} {D : va_G} {cI cM cJ : ClassId} {h er tr sv : Nat} {a : Nat → Nat} {h2 sa pa eb na i : Nat} {H : Heap} {locs : List Loc} {ls : Array Slot} {Q : State → Prop} (C0 : lw_At p s m meth c b L xs) (hL : L ≤ 2560) (hN : NX s) (hK : va_K D vwCl (tk_T cI cM cJ) s) (hi : i + 5 ≤ L) (hl : lv_has ls 4 [(0, .ref b), (1, .ref h), (2, .ref h2), (3, .int (nI i))]) (hW : LW D cI cM cJ s h er tr sv a h2 sa pa eb na H locs)
    (kk : ∀ (H : Heap) (locs : List Loc), LW D cI cM cJ s h er tr sv a h2 sa pa eb na H locs → W p l e room_1 s m #[Value.ref b] below meth c H locs 44 777 Q (F0 m 762 ls [])) : W p l e room_1 s m #[Value.ref b] below meth c H locs 44 777 Q (F0 m 486 ls []) := by
  have hts := k_law_tbl C0
  obtain ⟨hx, hb, hr, hml, hown, -, hX, hbl, hlocks, hgv⟩ := C0
  have hA : ∀ q : Nat, s.heap.size ≤ q → (fun q : Nat => s.heap.size ≤ q) q := fun _ h => h
  have hbA : ¬ (fun q : Nat => s.heap.size ≤ q) b := Nat.not_le.mpr hbl
  obtain ⟨X, Y, t, AD, f, hs, hR, hP, hD, hS⟩ := hW
  obtain ⟨y1, y2, y3, y4, y5, y6, y7, hE⟩ := hR.yh f
  refine lv_aload_n hx hb dL_law_486 rfl (lv_at hl 1 rfl) ?_
  refine kc_i (wc := (tk_xw cI cM h er tr sv a t AD X)) (wr := (tk_yw cI cJ h2 sa pa eb na f hs Y)) (va_runV (As := []) (rest := []) ⟨hx, hb, hml, hown, hts⟩ (kx_flowGain l D cI cM cJ _ h er tr sv a t AD X) (cwV 0 hts gL_law_X3_flowGain rfl rfl rfl (by decide +kernel) ⟨Nat.le_of_ble_eq_true rfl, Nat.le_of_ble_eq_true rfl⟩) (kp_preV (q := (RX3, TX3, 5)) (wc := (tk_xw cI cM h er tr sv a t AD X)) (wr := (tk_yw cI cJ h2 sa pa eb na f hs Y)) hN hK hP hD 0 rfl rfl) rfl rfl hl.1 rfl (lv_room (Nat.le_of_ble_eq_true rfl)) dL_law_487 ⟨Nat.le_of_ble_eq_true rfl, Nat.le_of_ble_eq_true rfl⟩) hP hD hS hA (fun r u H locs pr hP hD hS => ?_)
  have pr : r = _ := pr
  replace hP := va_swapP (v := (tk_xw cI cM h er tr sv a t AD X)) (w := (tk_yw cI cJ h2 sa pa eb na f hs Y)) hP
  replace hD := va_swapD (v := (tk_xw cI cM h er tr sv a t AD X)) (w := (tk_yw cI cJ h2 sa pa eb na f hs Y)) hD
  refine lv_aload_n hx hb dL_law_490 rfl (lv_at hl 2 rfl) ?_
  refine kc_i (wc := (tk_yw cI cJ h2 sa pa eb na f hs Y)) (wr := (tk_xw cI cM h er tr sv a t AD X)) (va_runV (As := []) (rest := [.int r]) ⟨hx, hb, hml, hown, hts⟩ (ky_flowGain l D cI cM cJ _ h2 sa pa eb na f hs Y) (cwV 0 hts gL_law_X4_flowGain rfl rfl rfl (by decide +kernel) ⟨Nat.le_of_ble_eq_true rfl, Nat.le_of_ble_eq_true rfl⟩) (kp_preV (q := (RX4, TX4, 9)) (wc := (tk_yw cI cJ h2 sa pa eb na f hs Y)) (wr := (tk_xw cI cM h er tr sv a t AD X)) hN hK hP hD 0 rfl rfl) rfl rfl hl.1 rfl (lv_room (Nat.le_of_ble_eq_true rfl)) dL_law_491 ⟨Nat.le_of_ble_eq_true rfl, Nat.le_of_ble_eq_true rfl⟩) hP hD hS hA (fun r2 u2 H locs pr2 hP hD hS => ?_)
  have pr2 : r2 = _ := pr2
  replace hP := va_swapP (v := (tk_yw cI cJ h2 sa pa eb na f hs Y)) (w := (tk_xw cI cM h er tr sv a t AD X)) hP
  replace hD := va_swapD (v := (tk_yw cI cJ h2 sa pa eb na f hs Y)) (w := (tk_xw cI cM h er tr sv a t AD X)) hD
  have he : r = r2 := by
    obtain ⟨m1, m2, m3, m4, m5, m6, m7⟩ := hR.2.2.2.1
    rw [pr, pr2, m2.2.2]; exact tk_back _
  refine lv_icmp_eq (tgt := 762) hx hb dL_law_494 (by decide) (fun _ => kk _ _ ⟨X, Y, t, AD, f, hs, hR, hP, hD, hS⟩) (fun c9 => absurd he c9)
set_option maxHeartbeats 1000000 in
set_option maxRecDepth 100000 in
theorem lc_accepted {p : Program} {l : Launch} {e : Env} {s : State} {m : MethodId} {below : List Frame} {meth : Method} {c : Code} {b L : Nat} {xs : Nat → Int32} {D : va_G} {cI cM cJ : ClassId} {h er tr sv : Nat} {a : Nat → Nat} {h2 sa pa eb na i : Nat} {H : Heap} {locs : List Loc} {ls : Array Slot} {Q : State → Prop} (C0 : lw_At p s m meth c b L xs) (hL : L ≤ 2560) (hN : NX s) (hK : va_K D vwCl (tk_T cI cM cJ) s) (hi : i + 5 ≤ L) (hl : lv_has ls 4 [(0, .ref b), (1, .ref h), (2, .ref h2), (3, .int (nI i))]) (hW : LW D cI cM cJ s h er tr sv a h2 sa pa eb na H locs)
    (kk : ∀ (H : Heap) (locs : List Loc), LW D cI cM cJ s h er tr sv a h2 sa pa eb na H locs → W p l e room_1 s m #[Value.ref b] below meth c H locs 44 777 Q (F0 m 762 ls [])) : W p l e room_1 s m #[Value.ref b] below meth c H locs 44 777 Q (F0 m 499 ls []) := by
  have hts := k_law_tbl C0
  obtain ⟨hx, hb, hr, hml, hown, -, hX, hbl, hlocks, hgv⟩ := C0
  have hA : ∀ q : Nat, s.heap.size ≤ q → (fun q : Nat => s.heap.size ≤ q) q := fun _ h => h
  have hbA : ¬ (fun q : Nat => s.heap.size ≤ q) b := Nat.not_le.mpr hbl
  obtain ⟨X, Y, t, AD, f, hs, hR, hP, hD, hS⟩ := hW
  obtain ⟨y1, y2, y3, y4, y5, y6, y7, hE⟩ := hR.yh f
  refine lv_aload_n hx hb dL_law_499 rfl (lv_at hl 1 rfl) ?_
  refine kc_i (wc := (tk_xw cI cM h er tr sv a t AD X)) (wr := (tk_yw cI cJ h2 sa pa eb na f hs Y)) (va_runV (As := []) (rest := []) ⟨hx, hb, hml, hown, hts⟩ (kx_accepted l D cI cM cJ _ h er tr sv a t AD X) (cwV 0 hts gL_law_X3_accepted rfl rfl rfl (by decide +kernel) ⟨Nat.le_of_ble_eq_true rfl, Nat.le_of_ble_eq_true rfl⟩) (kp_preV (q := (RX3, TX3, 5)) (wc := (tk_xw cI cM h er tr sv a t AD X)) (wr := (tk_yw cI cJ h2 sa pa eb na f hs Y)) hN hK hP hD 0 rfl rfl) rfl rfl hl.1 rfl (lv_room (Nat.le_of_ble_eq_true rfl)) dL_law_500 ⟨Nat.le_of_ble_eq_true rfl, Nat.le_of_ble_eq_true rfl⟩) hP hD hS hA (fun r u H locs pr hP hD hS => ?_)
  have pr : r = _ := pr
  replace hP := va_swapP (v := (tk_xw cI cM h er tr sv a t AD X)) (w := (tk_yw cI cJ h2 sa pa eb na f hs Y)) hP
  replace hD := va_swapD (v := (tk_xw cI cM h er tr sv a t AD X)) (w := (tk_yw cI cJ h2 sa pa eb na f hs Y)) hD
  refine lv_aload_n hx hb dL_law_503 rfl (lv_at hl 2 rfl) ?_
  refine kc_i (wc := (tk_yw cI cJ h2 sa pa eb na f hs Y)) (wr := (tk_xw cI cM h er tr sv a t AD X)) (va_runV (As := []) (rest := [.int r]) ⟨hx, hb, hml, hown, hts⟩ (ky_accepted l D cI cM cJ _ h2 sa pa eb na f hs Y) (cwV 0 hts gL_law_X4_accepted rfl rfl rfl (by decide +kernel) ⟨Nat.le_of_ble_eq_true rfl, Nat.le_of_ble_eq_true rfl⟩) (kp_preV (q := (RX4, TX4, 9)) (wc := (tk_yw cI cJ h2 sa pa eb na f hs Y)) (wr := (tk_xw cI cM h er tr sv a t AD X)) hN hK hP hD 0 rfl rfl) rfl rfl hl.1 rfl (lv_room (Nat.le_of_ble_eq_true rfl)) dL_law_504 ⟨Nat.le_of_ble_eq_true rfl, Nat.le_of_ble_eq_true rfl⟩) hP hD hS hA (fun r2 u2 H locs pr2 hP hD hS => ?_)
  have pr2 : r2 = _ := pr2
  replace hP := va_swapP (v := (tk_yw cI cJ h2 sa pa eb na f hs Y)) (w := (tk_xw cI cM h er tr sv a t AD X)) hP
  replace hD := va_swapD (v := (tk_yw cI cJ h2 sa pa eb na f hs Y)) (w := (tk_xw cI cM h er tr sv a t AD X)) hD
  have he : r = r2 := by
    obtain ⟨m1, m2, m3, m4, m5, m6, m7⟩ := hR.2.2.2.1
    rw [pr, pr2, m4.1]
  refine lv_icmp_eq (tgt := 762) hx hb dL_law_507 (by decide) (fun _ => kk _ _ ⟨X, Y, t, AD, f, hs, hR, hP, hD, hS⟩) (fun c9 => absurd he c9)
set_option maxHeartbeats 1000000 in
set_option maxRecDepth 100000 in
theorem lc_rejected {p : Program} {l : Launch} {e : Env} {s : State} {m : MethodId} {below : List Frame} {meth : Method} {c : Code} {b L : Nat} {xs : Nat → Int32} {D : va_G} {cI cM cJ : ClassId} {h er tr sv : Nat} {a : Nat → Nat} {h2 sa pa eb na i : Nat} {H : Heap} {locs : List Loc} {ls : Array Slot} {Q : State → Prop} (C0 : lw_At p s m meth c b L xs) (hL : L ≤ 2560) (hN : NX s) (hK : va_K D vwCl (tk_T cI cM cJ) s) (hi : i + 5 ≤ L) (hl : lv_has ls 4 [(0, .ref b), (1, .ref h), (2, .ref h2), (3, .int (nI i))]) (hW : LW D cI cM cJ s h er tr sv a h2 sa pa eb na H locs)
    (kk : ∀ (H : Heap) (locs : List Loc), LW D cI cM cJ s h er tr sv a h2 sa pa eb na H locs → W p l e room_1 s m #[Value.ref b] below meth c H locs 44 777 Q (F0 m 762 ls [])) : W p l e room_1 s m #[Value.ref b] below meth c H locs 44 777 Q (F0 m 512 ls []) := by
  have hts := k_law_tbl C0
  obtain ⟨hx, hb, hr, hml, hown, -, hX, hbl, hlocks, hgv⟩ := C0
  have hA : ∀ q : Nat, s.heap.size ≤ q → (fun q : Nat => s.heap.size ≤ q) q := fun _ h => h
  have hbA : ¬ (fun q : Nat => s.heap.size ≤ q) b := Nat.not_le.mpr hbl
  obtain ⟨X, Y, t, AD, f, hs, hR, hP, hD, hS⟩ := hW
  obtain ⟨y1, y2, y3, y4, y5, y6, y7, hE⟩ := hR.yh f
  refine lv_aload_n hx hb dL_law_512 rfl (lv_at hl 1 rfl) ?_
  refine kc_i (wc := (tk_xw cI cM h er tr sv a t AD X)) (wr := (tk_yw cI cJ h2 sa pa eb na f hs Y)) (va_runV (As := []) (rest := []) ⟨hx, hb, hml, hown, hts⟩ (kx_rejected l D cI cM cJ _ h er tr sv a t AD X) (cwV 0 hts gL_law_X3_rejected rfl rfl rfl (by decide +kernel) ⟨Nat.le_of_ble_eq_true rfl, Nat.le_of_ble_eq_true rfl⟩) (kp_preV (q := (RX3, TX3, 5)) (wc := (tk_xw cI cM h er tr sv a t AD X)) (wr := (tk_yw cI cJ h2 sa pa eb na f hs Y)) hN hK hP hD 0 rfl rfl) rfl rfl hl.1 rfl (lv_room (Nat.le_of_ble_eq_true rfl)) dL_law_513 ⟨Nat.le_of_ble_eq_true rfl, Nat.le_of_ble_eq_true rfl⟩) hP hD hS hA (fun r u H locs pr hP hD hS => ?_)
  have pr : r = _ := pr
  replace hP := va_swapP (v := (tk_xw cI cM h er tr sv a t AD X)) (w := (tk_yw cI cJ h2 sa pa eb na f hs Y)) hP
  replace hD := va_swapD (v := (tk_xw cI cM h er tr sv a t AD X)) (w := (tk_yw cI cJ h2 sa pa eb na f hs Y)) hD
  refine lv_aload_n hx hb dL_law_516 rfl (lv_at hl 2 rfl) ?_
  refine kc_i (wc := (tk_yw cI cJ h2 sa pa eb na f hs Y)) (wr := (tk_xw cI cM h er tr sv a t AD X)) (va_runV (As := []) (rest := [.int r]) ⟨hx, hb, hml, hown, hts⟩ (ky_rejected l D cI cM cJ _ h2 sa pa eb na f hs Y) (cwV 0 hts gL_law_X4_rejected rfl rfl rfl (by decide +kernel) ⟨Nat.le_of_ble_eq_true rfl, Nat.le_of_ble_eq_true rfl⟩) (kp_preV (q := (RX4, TX4, 9)) (wc := (tk_yw cI cJ h2 sa pa eb na f hs Y)) (wr := (tk_xw cI cM h er tr sv a t AD X)) hN hK hP hD 0 rfl rfl) rfl rfl hl.1 rfl (lv_room (Nat.le_of_ble_eq_true rfl)) dL_law_517 ⟨Nat.le_of_ble_eq_true rfl, Nat.le_of_ble_eq_true rfl⟩) hP hD hS hA (fun r2 u2 H locs pr2 hP hD hS => ?_)
  have pr2 : r2 = _ := pr2
  replace hP := va_swapP (v := (tk_yw cI cJ h2 sa pa eb na f hs Y)) (w := (tk_xw cI cM h er tr sv a t AD X)) hP
  replace hD := va_swapD (v := (tk_yw cI cJ h2 sa pa eb na f hs Y)) (w := (tk_xw cI cM h er tr sv a t AD X)) hD
  have he : r = r2 := by
    obtain ⟨m1, m2, m3, m4, m5, m6, m7⟩ := hR.2.2.2.1
    rw [pr, pr2, m4.2.1]
  refine lv_icmp_eq (tgt := 762) hx hb dL_law_520 (by decide) (fun _ => kk _ _ ⟨X, Y, t, AD, f, hs, hR, hP, hD, hS⟩) (fun c9 => absurd he c9)
set_option maxHeartbeats 1000000 in
set_option maxRecDepth 100000 in
theorem lc_missed {p : Program} {l : Launch} {e : Env} {s : State} {m : MethodId} {below : List Frame} {meth : Method} {c : Code} {b L : Nat} {xs : Nat → Int32} {D : va_G} {cI cM cJ : ClassId} {h er tr sv : Nat} {a : Nat → Nat} {h2 sa pa eb na i : Nat} {H : Heap} {locs : List Loc} {ls : Array Slot} {Q : State → Prop} (C0 : lw_At p s m meth c b L xs) (hL : L ≤ 2560) (hN : NX s) (hK : va_K D vwCl (tk_T cI cM cJ) s) (hi : i + 5 ≤ L) (hl : lv_has ls 4 [(0, .ref b), (1, .ref h), (2, .ref h2), (3, .int (nI i))]) (hW : LW D cI cM cJ s h er tr sv a h2 sa pa eb na H locs)
    (kk : ∀ (H : Heap) (locs : List Loc), LW D cI cM cJ s h er tr sv a h2 sa pa eb na H locs → W p l e room_1 s m #[Value.ref b] below meth c H locs 44 777 Q (F0 m 762 ls [])) : W p l e room_1 s m #[Value.ref b] below meth c H locs 44 777 Q (F0 m 525 ls []) := by
  have hts := k_law_tbl C0
  obtain ⟨hx, hb, hr, hml, hown, -, hX, hbl, hlocks, hgv⟩ := C0
  have hA : ∀ q : Nat, s.heap.size ≤ q → (fun q : Nat => s.heap.size ≤ q) q := fun _ h => h
  have hbA : ¬ (fun q : Nat => s.heap.size ≤ q) b := Nat.not_le.mpr hbl
  obtain ⟨X, Y, t, AD, f, hs, hR, hP, hD, hS⟩ := hW
  obtain ⟨y1, y2, y3, y4, y5, y6, y7, hE⟩ := hR.yh f
  refine lv_aload_n hx hb dL_law_525 rfl (lv_at hl 1 rfl) ?_
  refine kc_i (wc := (tk_xw cI cM h er tr sv a t AD X)) (wr := (tk_yw cI cJ h2 sa pa eb na f hs Y)) (va_runV (As := []) (rest := []) ⟨hx, hb, hml, hown, hts⟩ (kx_missed l D cI cM cJ _ h er tr sv a t AD X) (cwV 0 hts gL_law_X3_missed rfl rfl rfl (by decide +kernel) ⟨Nat.le_of_ble_eq_true rfl, Nat.le_of_ble_eq_true rfl⟩) (kp_preV (q := (RX3, TX3, 5)) (wc := (tk_xw cI cM h er tr sv a t AD X)) (wr := (tk_yw cI cJ h2 sa pa eb na f hs Y)) hN hK hP hD 0 rfl rfl) rfl rfl hl.1 rfl (lv_room (Nat.le_of_ble_eq_true rfl)) dL_law_526 ⟨Nat.le_of_ble_eq_true rfl, Nat.le_of_ble_eq_true rfl⟩) hP hD hS hA (fun r u H locs pr hP hD hS => ?_)
  have pr : r = _ := pr
  replace hP := va_swapP (v := (tk_xw cI cM h er tr sv a t AD X)) (w := (tk_yw cI cJ h2 sa pa eb na f hs Y)) hP
  replace hD := va_swapD (v := (tk_xw cI cM h er tr sv a t AD X)) (w := (tk_yw cI cJ h2 sa pa eb na f hs Y)) hD
  refine lv_aload_n hx hb dL_law_529 rfl (lv_at hl 2 rfl) ?_
  refine kc_i (wc := (tk_yw cI cJ h2 sa pa eb na f hs Y)) (wr := (tk_xw cI cM h er tr sv a t AD X)) (va_runV (As := []) (rest := [.int r]) ⟨hx, hb, hml, hown, hts⟩ (ky_missed l D cI cM cJ _ h2 sa pa eb na f hs Y) (cwV 0 hts gL_law_X4_missed rfl rfl rfl (by decide +kernel) ⟨Nat.le_of_ble_eq_true rfl, Nat.le_of_ble_eq_true rfl⟩) (kp_preV (q := (RX4, TX4, 9)) (wc := (tk_yw cI cJ h2 sa pa eb na f hs Y)) (wr := (tk_xw cI cM h er tr sv a t AD X)) hN hK hP hD 0 rfl rfl) rfl rfl hl.1 rfl (lv_room (Nat.le_of_ble_eq_true rfl)) dL_law_530 ⟨Nat.le_of_ble_eq_true rfl, Nat.le_of_ble_eq_true rfl⟩) hP hD hS hA (fun r2 u2 H locs pr2 hP hD hS => ?_)
  have pr2 : r2 = _ := pr2
  replace hP := va_swapP (v := (tk_yw cI cJ h2 sa pa eb na f hs Y)) (w := (tk_xw cI cM h er tr sv a t AD X)) hP
  replace hD := va_swapD (v := (tk_yw cI cJ h2 sa pa eb na f hs Y)) (w := (tk_xw cI cM h er tr sv a t AD X)) hD
  have he : r = r2 := by
    obtain ⟨m1, m2, m3, m4, m5, m6, m7⟩ := hR.2.2.2.1
    rw [pr, pr2, m4.2.2]
  refine lv_icmp_eq (tgt := 762) hx hb dL_law_533 (by decide) (fun _ => kk _ _ ⟨X, Y, t, AD, f, hs, hR, hP, hD, hS⟩) (fun c9 => absurd he c9)
set_option maxHeartbeats 1000000 in
set_option maxRecDepth 100000 in
theorem lc_historyLength {p : Program} {l : Launch} {e : Env} {s : State} {m : MethodId} {below : List Frame} {meth : Method} {c : Code} {b L : Nat} {xs : Nat → Int32} {D : va_G} {cI cM cJ : ClassId} {h er tr sv : Nat} {a : Nat → Nat} {h2 sa pa eb na i : Nat} {H : Heap} {locs : List Loc} {ls : Array Slot} {Q : State → Prop} (C0 : lw_At p s m meth c b L xs) (hL : L ≤ 2560) (hN : NX s) (hK : va_K D vwCl (tk_T cI cM cJ) s) (hi : i + 5 ≤ L) (hl : lv_has ls 4 [(0, .ref b), (1, .ref h), (2, .ref h2), (3, .int (nI i))]) (hW : LW D cI cM cJ s h er tr sv a h2 sa pa eb na H locs)
    (kk : ∀ (H : Heap) (locs : List Loc), LW D cI cM cJ s h er tr sv a h2 sa pa eb na H locs → W p l e room_1 s m #[Value.ref b] below meth c H locs 44 777 Q (F0 m 762 ls [])) : W p l e room_1 s m #[Value.ref b] below meth c H locs 44 777 Q (F0 m 538 ls []) := by
  have hts := k_law_tbl C0
  obtain ⟨hx, hb, hr, hml, hown, -, hX, hbl, hlocks, hgv⟩ := C0
  have hA : ∀ q : Nat, s.heap.size ≤ q → (fun q : Nat => s.heap.size ≤ q) q := fun _ h => h
  have hbA : ¬ (fun q : Nat => s.heap.size ≤ q) b := Nat.not_le.mpr hbl
  obtain ⟨X, Y, t, AD, f, hs, hR, hP, hD, hS⟩ := hW
  obtain ⟨y1, y2, y3, y4, y5, y6, y7, hE⟩ := hR.yh f
  refine lv_aload_n hx hb dL_law_538 rfl (lv_at hl 1 rfl) ?_
  refine kc_i (wc := (tk_xw cI cM h er tr sv a t AD X)) (wr := (tk_yw cI cJ h2 sa pa eb na f hs Y)) (va_runV (As := []) (rest := []) ⟨hx, hb, hml, hown, hts⟩ (kx_historyLength l D cI cM cJ _ h er tr sv a t AD X) (cwV 0 hts gL_law_X3_historyLength rfl rfl rfl (by decide +kernel) ⟨Nat.le_of_ble_eq_true rfl, Nat.le_of_ble_eq_true rfl⟩) (kp_preV (q := (RX3, TX3, 5)) (wc := (tk_xw cI cM h er tr sv a t AD X)) (wr := (tk_yw cI cJ h2 sa pa eb na f hs Y)) hN hK hP hD 0 rfl rfl) rfl rfl hl.1 rfl (lv_room (Nat.le_of_ble_eq_true rfl)) dL_law_539 ⟨Nat.le_of_ble_eq_true rfl, Nat.le_of_ble_eq_true rfl⟩) hP hD hS hA (fun r u H locs pr hP hD hS => ?_)
  have pr : r = _ := pr
  replace hP := va_swapP (v := (tk_xw cI cM h er tr sv a t AD X)) (w := (tk_yw cI cJ h2 sa pa eb na f hs Y)) hP
  replace hD := va_swapD (v := (tk_xw cI cM h er tr sv a t AD X)) (w := (tk_yw cI cJ h2 sa pa eb na f hs Y)) hD
  refine lv_aload_n hx hb dL_law_542 rfl (lv_at hl 2 rfl) ?_
  refine kc_i (wc := (tk_yw cI cJ h2 sa pa eb na f hs Y)) (wr := (tk_xw cI cM h er tr sv a t AD X)) (va_runV (As := []) (rest := [.int r]) ⟨hx, hb, hml, hown, hts⟩ (ky_historyLength l D cI cM cJ _ h2 sa pa eb na f hs Y) (cwV 0 hts gL_law_X4_historyLength rfl rfl rfl (by decide +kernel) ⟨Nat.le_of_ble_eq_true rfl, Nat.le_of_ble_eq_true rfl⟩) (kp_preV (q := (RX4, TX4, 9)) (wc := (tk_yw cI cJ h2 sa pa eb na f hs Y)) (wr := (tk_xw cI cM h er tr sv a t AD X)) hN hK hP hD 0 rfl rfl) rfl rfl hl.1 rfl (lv_room (Nat.le_of_ble_eq_true rfl)) dL_law_543 ⟨Nat.le_of_ble_eq_true rfl, Nat.le_of_ble_eq_true rfl⟩) hP hD hS hA (fun r2 u2 H locs pr2 hP hD hS => ?_)
  have pr2 : r2 = _ := pr2
  replace hP := va_swapP (v := (tk_yw cI cJ h2 sa pa eb na f hs Y)) (w := (tk_xw cI cM h er tr sv a t AD X)) hP
  replace hD := va_swapD (v := (tk_yw cI cJ h2 sa pa eb na f hs Y)) (w := (tk_xw cI cM h er tr sv a t AD X)) hD
  have he : r = r2 := by
    obtain ⟨m1, m2, m3, m4, m5, m6, m7⟩ := hR.2.2.2.1
    rw [pr, pr2, m5]
  refine lv_icmp_eq (tgt := 762) hx hb dL_law_546 (by decide) (fun _ => kk _ _ ⟨X, Y, t, AD, f, hs, hR, hP, hD, hS⟩) (fun c9 => absurd he c9)
set_option maxHeartbeats 1000000 in
set_option maxRecDepth 100000 in
theorem lc_forecast {p : Program} {l : Launch} {e : Env} {s : State} {m : MethodId} {below : List Frame} {meth : Method} {c : Code} {b L : Nat} {xs : Nat → Int32} {D : va_G} {cI cM cJ : ClassId} {h er tr sv : Nat} {a : Nat → Nat} {h2 sa pa eb na i : Nat} {H : Heap} {locs : List Loc} {ls : Array Slot} {Q : State → Prop} (C0 : lw_At p s m meth c b L xs) (hL : L ≤ 2560) (hN : NX s) (hK : va_K D vwCl (tk_T cI cM cJ) s) (hi : i + 5 ≤ L) (hl : lv_has ls 4 [(0, .ref b), (1, .ref h), (2, .ref h2), (3, .int (nI i))]) (hW : LW D cI cM cJ s h er tr sv a h2 sa pa eb na H locs)
    (kk : ∀ (H : Heap) (locs : List Loc), LW D cI cM cJ s h er tr sv a h2 sa pa eb na H locs → W p l e room_1 s m #[Value.ref b] below meth c H locs 44 777 Q (F0 m 762 ls [])) : W p l e room_1 s m #[Value.ref b] below meth c H locs 44 777 Q (F0 m 551 ls []) := by
  have hts := k_law_tbl C0
  obtain ⟨hx, hb, hr, hml, hown, -, hX, hbl, hlocks, hgv⟩ := C0
  have hA : ∀ q : Nat, s.heap.size ≤ q → (fun q : Nat => s.heap.size ≤ q) q := fun _ h => h
  have hbA : ¬ (fun q : Nat => s.heap.size ≤ q) b := Nat.not_le.mpr hbl
  obtain ⟨X, Y, t, AD, f, hs, hR, hP, hD, hS⟩ := hW
  obtain ⟨y1, y2, y3, y4, y5, y6, y7, hE⟩ := hR.yh f
  have hv1 : vp_in (nI i + 1) L := by rw [show nI i + 1 = nI (i + 1) from nI_add i 1]; exact vp_in_nI (by omega) (by omega)
  refine lv_aload_n hx hb dL_law_551 rfl (lv_at hl 1 rfl) ?_
  refine lv_aload_n hx hb dL_law_552 rfl (lv_at hl 0 rfl) ?_
  refine lv_iload_n hx hb dL_law_553 rfl (lv_at hl 3 rfl) ?_
  refine lv_iconst (v := 1) hx hb dL_law_554 (by decide) ?_
  refine lv_iadd hx hb dL_law_555 ?_
  refine va_sld hx hb hX hbl hbA hS hv1 dL_law_556 ?_
  refine kc_i (wc := (tk_xw cI cM h er tr sv a t AD X)) (wr := (tk_yw cI cJ h2 sa pa eb na f hs Y)) (va_runV (As := [.int (xs (nI i + 1).toNatClampNeg)]) (rest := []) ⟨hx, hb, hml, hown, hts⟩ (kx_forecast l D cI cM cJ _ h er tr sv a t AD X (xs (nI i + 1).toNatClampNeg)) (cwV 1 hts gL_law_X3_forecast rfl rfl rfl (by decide +kernel) ⟨Nat.le_of_ble_eq_true rfl, Nat.le_of_ble_eq_true rfl⟩) (kp_preV (q := (RX3, TX3, 5)) (wc := (tk_xw cI cM h er tr sv a t AD X)) (wr := (tk_yw cI cJ h2 sa pa eb na f hs Y)) hN hK hP hD 0 rfl rfl) rfl rfl hl.1 rfl (lv_room (Nat.le_of_ble_eq_true rfl)) dL_law_557 ⟨Nat.le_of_ble_eq_true rfl, Nat.le_of_ble_eq_true rfl⟩) hP hD hS hA (fun r u H locs pr hP hD hS => ?_)
  obtain ⟨X1, AD1, t1⟩ := u
  obtain ⟨pr, hX1⟩ := pr
  have hX1 : X1 = _ := hX1
  replace hP := va_swapP (v := (tk_xw cI cM h er tr sv a t1 AD1 X1)) (w := (tk_yw cI cJ h2 sa pa eb na f hs Y)) hP
  replace hD := va_swapD (v := (tk_xw cI cM h er tr sv a t1 AD1 X1)) (w := (tk_yw cI cJ h2 sa pa eb na f hs Y)) hD
  refine lv_aload_n hx hb dL_law_560 rfl (lv_at hl 2 rfl) ?_
  refine lv_aload_n hx hb dL_law_561 rfl (lv_at hl 0 rfl) ?_
  refine lv_iload_n hx hb dL_law_562 rfl (lv_at hl 3 rfl) ?_
  refine lv_iconst (v := 1) hx hb dL_law_563 (by decide) ?_
  refine lv_iadd hx hb dL_law_564 ?_
  refine va_sld hx hb hX hbl hbA hS hv1 dL_law_565 ?_
  refine kc_i (wc := (tk_yw cI cJ h2 sa pa eb na f hs Y)) (wr := (tk_xw cI cM h er tr sv a t1 AD1 X1)) (va_runV (As := [.int (xs (nI i + 1).toNatClampNeg)]) (rest := [.int r]) ⟨hx, hb, hml, hown, hts⟩ (ky_forecast l D cI cM cJ _ h2 sa pa eb na f hs Y (xs (nI i + 1).toNatClampNeg) y4 y5) (cwV 1 hts gL_law_X4_forecast rfl rfl rfl (by decide +kernel) ⟨Nat.le_of_ble_eq_true rfl, Nat.le_of_ble_eq_true rfl⟩) (kp_preV (q := (RX4, TX4, 9)) (wc := (tk_yw cI cJ h2 sa pa eb na f hs Y)) (wr := (tk_xw cI cM h er tr sv a t1 AD1 X1)) hN hK hP hD 0 rfl rfl) rfl rfl hl.1 rfl (lv_room (Nat.le_of_ble_eq_true rfl)) dL_law_566 ⟨Nat.le_of_ble_eq_true rfl, Nat.le_of_ble_eq_true rfl⟩) hP hD hS hA (fun r2 u2 H locs pr2 hP hD hS => ?_)
  obtain ⟨Y1, f1, hs1⟩ := u2
  obtain ⟨pr2, hY1⟩ := pr2
  have hY1 : Y1 = _ := hY1
  replace hP := va_swapP (v := (tk_yw cI cJ h2 sa pa eb na f1 hs1 Y1)) (w := (tk_xw cI cM h er tr sv a t1 AD1 X1)) hP
  replace hD := va_swapD (v := (tk_yw cI cJ h2 sa pa eb na f1 hs1 Y1)) (w := (tk_xw cI cM h er tr sv a t1 AD1 X1)) hD
  have hsim := sim_forecast hR hE (xs (nI i + 1).toNatClampNeg)
  have he : r = r2 := by rw [pr, pr2]; exact hsim.1
  have hR1 : RX X1 Y1 := by rw [hX1, hY1]; exact hsim.2
  refine lv_icmp_eq (tgt := 762) hx hb dL_law_569 (by decide) (fun _ => kk _ _ ⟨X1, Y1, t1, AD1, f1, hs1, hR1, hP, hD, hS⟩) (fun c9 => absurd he c9)
set_option maxHeartbeats 1000000 in
set_option maxRecDepth 100000 in
theorem lc_forecastVariance {p : Program} {l : Launch} {e : Env} {s : State} {m : MethodId} {below : List Frame} {meth : Method} {c : Code} {b L : Nat} {xs : Nat → Int32} {D : va_G} {cI cM cJ : ClassId} {h er tr sv : Nat} {a : Nat → Nat} {h2 sa pa eb na i : Nat} {H : Heap} {locs : List Loc} {ls : Array Slot} {Q : State → Prop} (C0 : lw_At p s m meth c b L xs) (hL : L ≤ 2560) (hN : NX s) (hK : va_K D vwCl (tk_T cI cM cJ) s) (hi : i + 5 ≤ L) (hl : lv_has ls 4 [(0, .ref b), (1, .ref h), (2, .ref h2), (3, .int (nI i))]) (hW : LW D cI cM cJ s h er tr sv a h2 sa pa eb na H locs)
    (kk : ∀ (H : Heap) (locs : List Loc), LW D cI cM cJ s h er tr sv a h2 sa pa eb na H locs → W p l e room_1 s m #[Value.ref b] below meth c H locs 44 777 Q (F0 m 762 ls [])) : W p l e room_1 s m #[Value.ref b] below meth c H locs 44 777 Q (F0 m 574 ls []) := by
  have hts := k_law_tbl C0
  obtain ⟨hx, hb, hr, hml, hown, -, hX, hbl, hlocks, hgv⟩ := C0
  have hA : ∀ q : Nat, s.heap.size ≤ q → (fun q : Nat => s.heap.size ≤ q) q := fun _ h => h
  have hbA : ¬ (fun q : Nat => s.heap.size ≤ q) b := Nat.not_le.mpr hbl
  obtain ⟨X, Y, t, AD, f, hs, hR, hP, hD, hS⟩ := hW
  obtain ⟨y1, y2, y3, y4, y5, y6, y7, hE⟩ := hR.yh f
  have hv1 : vp_in (nI i + 1) L := by rw [show nI i + 1 = nI (i + 1) from nI_add i 1]; exact vp_in_nI (by omega) (by omega)
  refine lv_aload_n hx hb dL_law_574 rfl (lv_at hl 1 rfl) ?_
  refine lv_aload_n hx hb dL_law_575 rfl (lv_at hl 0 rfl) ?_
  refine lv_iload_n hx hb dL_law_576 rfl (lv_at hl 3 rfl) ?_
  refine lv_iconst (v := 1) hx hb dL_law_577 (by decide) ?_
  refine lv_iadd hx hb dL_law_578 ?_
  refine va_sld hx hb hX hbl hbA hS hv1 dL_law_579 ?_
  refine kc_i (wc := (tk_xw cI cM h er tr sv a t AD X)) (wr := (tk_yw cI cJ h2 sa pa eb na f hs Y)) (va_runV (As := [.int (xs (nI i + 1).toNatClampNeg)]) (rest := []) ⟨hx, hb, hml, hown, hts⟩ (kx_forecastVariance l D cI cM cJ _ h er tr sv a t AD X (xs (nI i + 1).toNatClampNeg)) (cwV 1 hts gL_law_X3_forecastVariance rfl rfl rfl (by decide +kernel) ⟨Nat.le_of_ble_eq_true rfl, Nat.le_of_ble_eq_true rfl⟩) (kp_preV (q := (RX3, TX3, 5)) (wc := (tk_xw cI cM h er tr sv a t AD X)) (wr := (tk_yw cI cJ h2 sa pa eb na f hs Y)) hN hK hP hD 0 rfl rfl) rfl rfl hl.1 rfl (lv_room (Nat.le_of_ble_eq_true rfl)) dL_law_580 ⟨Nat.le_of_ble_eq_true rfl, Nat.le_of_ble_eq_true rfl⟩) hP hD hS hA (fun r u H locs pr hP hD hS => ?_)
  obtain ⟨X1, AD1, t1⟩ := u
  obtain ⟨pr, hX1⟩ := pr
  have hX1 : X1 = _ := hX1
  replace hP := va_swapP (v := (tk_xw cI cM h er tr sv a t1 AD1 X1)) (w := (tk_yw cI cJ h2 sa pa eb na f hs Y)) hP
  replace hD := va_swapD (v := (tk_xw cI cM h er tr sv a t1 AD1 X1)) (w := (tk_yw cI cJ h2 sa pa eb na f hs Y)) hD
  refine lv_aload_n hx hb dL_law_583 rfl (lv_at hl 2 rfl) ?_
  refine lv_aload_n hx hb dL_law_584 rfl (lv_at hl 0 rfl) ?_
  refine lv_iload_n hx hb dL_law_585 rfl (lv_at hl 3 rfl) ?_
  refine lv_iconst (v := 1) hx hb dL_law_586 (by decide) ?_
  refine lv_iadd hx hb dL_law_587 ?_
  refine va_sld hx hb hX hbl hbA hS hv1 dL_law_588 ?_
  refine kc_i (wc := (tk_yw cI cJ h2 sa pa eb na f hs Y)) (wr := (tk_xw cI cM h er tr sv a t1 AD1 X1)) (va_runV (As := [.int (xs (nI i + 1).toNatClampNeg)]) (rest := [.int r]) ⟨hx, hb, hml, hown, hts⟩ (ky_forecastVariance l D cI cM cJ _ h2 sa pa eb na f hs Y (xs (nI i + 1).toNatClampNeg) y4 y5) (cwV 1 hts gL_law_X4_forecastVariance rfl rfl rfl (by decide +kernel) ⟨Nat.le_of_ble_eq_true rfl, Nat.le_of_ble_eq_true rfl⟩) (kp_preV (q := (RX4, TX4, 9)) (wc := (tk_yw cI cJ h2 sa pa eb na f hs Y)) (wr := (tk_xw cI cM h er tr sv a t1 AD1 X1)) hN hK hP hD 0 rfl rfl) rfl rfl hl.1 rfl (lv_room (Nat.le_of_ble_eq_true rfl)) dL_law_589 ⟨Nat.le_of_ble_eq_true rfl, Nat.le_of_ble_eq_true rfl⟩) hP hD hS hA (fun r2 u2 H locs pr2 hP hD hS => ?_)
  obtain ⟨Y1, f1, hs1⟩ := u2
  obtain ⟨pr2, hY1⟩ := pr2
  have hY1 : Y1 = _ := hY1
  replace hP := va_swapP (v := (tk_yw cI cJ h2 sa pa eb na f1 hs1 Y1)) (w := (tk_xw cI cM h er tr sv a t1 AD1 X1)) hP
  replace hD := va_swapD (v := (tk_yw cI cJ h2 sa pa eb na f1 hs1 Y1)) (w := (tk_xw cI cM h er tr sv a t1 AD1 X1)) hD
  have hsim := sim_forecastVariance hR hE (xs (nI i + 1).toNatClampNeg)
  have he : r = r2 := by rw [pr, pr2]; exact hsim.1
  have hR1 : RX X1 Y1 := by rw [hX1, hY1]; exact hsim.2
  refine lv_icmp_eq (tgt := 762) hx hb dL_law_592 (by decide) (fun _ => kk _ _ ⟨X1, Y1, t1, AD1, f1, hs1, hR1, hP, hD, hS⟩) (fun c9 => absurd he c9)
set_option maxHeartbeats 1000000 in
set_option maxRecDepth 100000 in
theorem lc_stepsTo {p : Program} {l : Launch} {e : Env} {s : State} {m : MethodId} {below : List Frame} {meth : Method} {c : Code} {b L : Nat} {xs : Nat → Int32} {D : va_G} {cI cM cJ : ClassId} {h er tr sv : Nat} {a : Nat → Nat} {h2 sa pa eb na i : Nat} {H : Heap} {locs : List Loc} {ls : Array Slot} {Q : State → Prop} (C0 : lw_At p s m meth c b L xs) (hL : L ≤ 2560) (hN : NX s) (hK : va_K D vwCl (tk_T cI cM cJ) s) (hi : i + 5 ≤ L) (hl : lv_has ls 4 [(0, .ref b), (1, .ref h), (2, .ref h2), (3, .int (nI i))]) (hW : LW D cI cM cJ s h er tr sv a h2 sa pa eb na H locs)
    (kk : ∀ (H : Heap) (locs : List Loc), LW D cI cM cJ s h er tr sv a h2 sa pa eb na H locs → W p l e room_1 s m #[Value.ref b] below meth c H locs 44 777 Q (F0 m 762 ls [])) : W p l e room_1 s m #[Value.ref b] below meth c H locs 44 777 Q (F0 m 597 ls []) := by
  have hts := k_law_tbl C0
  obtain ⟨hx, hb, hr, hml, hown, -, hX, hbl, hlocks, hgv⟩ := C0
  have hA : ∀ q : Nat, s.heap.size ≤ q → (fun q : Nat => s.heap.size ≤ q) q := fun _ h => h
  have hbA : ¬ (fun q : Nat => s.heap.size ≤ q) b := Nat.not_le.mpr hbl
  obtain ⟨X, Y, t, AD, f, hs, hR, hP, hD, hS⟩ := hW
  obtain ⟨y1, y2, y3, y4, y5, y6, y7, hE⟩ := hR.yh f
  have hv1 : vp_in (nI i + 1) L := by rw [show nI i + 1 = nI (i + 1) from nI_add i 1]; exact vp_in_nI (by omega) (by omega)
  refine lv_aload_n hx hb dL_law_597 rfl (lv_at hl 1 rfl) ?_
  refine lv_aload_n hx hb dL_law_598 rfl (lv_at hl 0 rfl) ?_
  refine lv_iload_n hx hb dL_law_599 rfl (lv_at hl 3 rfl) ?_
  refine lv_iconst (v := 1) hx hb dL_law_600 (by decide) ?_
  refine lv_iadd hx hb dL_law_601 ?_
  refine va_sld hx hb hX hbl hbA hS hv1 dL_law_602 ?_
  refine kc_i (wc := (tk_xw cI cM h er tr sv a t AD X)) (wr := (tk_yw cI cJ h2 sa pa eb na f hs Y)) (va_runV (As := [.int (xs (nI i + 1).toNatClampNeg)]) (rest := []) ⟨hx, hb, hml, hown, hts⟩ (kx_stepsTo l D cI cM cJ _ h er tr sv a t AD X (xs (nI i + 1).toNatClampNeg)) (cwV 1 hts gL_law_X3_stepsTo rfl rfl rfl (by decide +kernel) ⟨Nat.le_of_ble_eq_true rfl, Nat.le_of_ble_eq_true rfl⟩) (kp_preV (q := (RX3, TX3, 5)) (wc := (tk_xw cI cM h er tr sv a t AD X)) (wr := (tk_yw cI cJ h2 sa pa eb na f hs Y)) hN hK hP hD 0 rfl rfl) rfl rfl hl.1 rfl (lv_room (Nat.le_of_ble_eq_true rfl)) dL_law_603 ⟨Nat.le_of_ble_eq_true rfl, Nat.le_of_ble_eq_true rfl⟩) hP hD hS hA (fun r u H locs pr hP hD hS => ?_)
  obtain ⟨X1, AD1, t1⟩ := u
  obtain ⟨pr, hX1⟩ := pr
  have hX1 : X1 = _ := hX1
  replace hP := va_swapP (v := (tk_xw cI cM h er tr sv a t1 AD1 X1)) (w := (tk_yw cI cJ h2 sa pa eb na f hs Y)) hP
  replace hD := va_swapD (v := (tk_xw cI cM h er tr sv a t1 AD1 X1)) (w := (tk_yw cI cJ h2 sa pa eb na f hs Y)) hD
  refine lv_aload_n hx hb dL_law_606 rfl (lv_at hl 2 rfl) ?_
  refine lv_aload_n hx hb dL_law_607 rfl (lv_at hl 0 rfl) ?_
  refine lv_iload_n hx hb dL_law_608 rfl (lv_at hl 3 rfl) ?_
  refine lv_iconst (v := 1) hx hb dL_law_609 (by decide) ?_
  refine lv_iadd hx hb dL_law_610 ?_
  refine va_sld hx hb hX hbl hbA hS hv1 dL_law_611 ?_
  refine kc_i (wc := (tk_yw cI cJ h2 sa pa eb na f hs Y)) (wr := (tk_xw cI cM h er tr sv a t1 AD1 X1)) (va_runV (As := [.int (xs (nI i + 1).toNatClampNeg)]) (rest := [.int r]) ⟨hx, hb, hml, hown, hts⟩ (ky_stepsTo l D cI cM cJ _ h2 sa pa eb na f hs Y (xs (nI i + 1).toNatClampNeg) y4 y5) (cwV 1 hts gL_law_X4_stepsTo rfl rfl rfl (by decide +kernel) ⟨Nat.le_of_ble_eq_true rfl, Nat.le_of_ble_eq_true rfl⟩) (kp_preV (q := (RX4, TX4, 9)) (wc := (tk_yw cI cJ h2 sa pa eb na f hs Y)) (wr := (tk_xw cI cM h er tr sv a t1 AD1 X1)) hN hK hP hD 0 rfl rfl) rfl rfl hl.1 rfl (lv_room (Nat.le_of_ble_eq_true rfl)) dL_law_612 ⟨Nat.le_of_ble_eq_true rfl, Nat.le_of_ble_eq_true rfl⟩) hP hD hS hA (fun r2 u2 H locs pr2 hP hD hS => ?_)
  obtain ⟨Y1, f1, hs1⟩ := u2
  obtain ⟨pr2, hY1⟩ := pr2
  have hY1 : Y1 = _ := hY1
  replace hP := va_swapP (v := (tk_yw cI cJ h2 sa pa eb na f1 hs1 Y1)) (w := (tk_xw cI cM h er tr sv a t1 AD1 X1)) hP
  replace hD := va_swapD (v := (tk_yw cI cJ h2 sa pa eb na f1 hs1 Y1)) (w := (tk_xw cI cM h er tr sv a t1 AD1 X1)) hD
  have hsim := sim_stepsTo hR hE (xs (nI i + 1).toNatClampNeg)
  have he : r = r2 := by rw [pr, pr2]; exact hsim.1
  have hR1 : RX X1 Y1 := by rw [hX1, hY1]; exact hsim.2
  refine lv_icmp_eq (tgt := 762) hx hb dL_law_615 (by decide) (fun _ => kk _ _ ⟨X1, Y1, t1, AD1, f1, hs1, hR1, hP, hD, hS⟩) (fun c9 => absurd he c9)
set_option maxHeartbeats 1000000 in
set_option maxRecDepth 100000 in
theorem lc_steadyCycles {p : Program} {l : Launch} {e : Env} {s : State} {m : MethodId} {below : List Frame} {meth : Method} {c : Code} {b L : Nat} {xs : Nat → Int32} {D : va_G} {cI cM cJ : ClassId} {h er tr sv : Nat} {a : Nat → Nat} {h2 sa pa eb na i : Nat} {H : Heap} {locs : List Loc} {ls : Array Slot} {Q : State → Prop} (C0 : lw_At p s m meth c b L xs) (hL : L ≤ 2560) (hN : NX s) (hK : va_K D vwCl (tk_T cI cM cJ) s) (hi : i + 5 ≤ L) (hl : lv_has ls 4 [(0, .ref b), (1, .ref h), (2, .ref h2), (3, .int (nI i))]) (hW : LW D cI cM cJ s h er tr sv a h2 sa pa eb na H locs)
    (kk : ∀ (H : Heap) (locs : List Loc), LW D cI cM cJ s h er tr sv a h2 sa pa eb na H locs → W p l e room_1 s m #[Value.ref b] below meth c H locs 44 777 Q (F0 m 762 ls [])) : W p l e room_1 s m #[Value.ref b] below meth c H locs 44 777 Q (F0 m 620 ls []) := by
  have hts := k_law_tbl C0
  obtain ⟨hx, hb, hr, hml, hown, -, hX, hbl, hlocks, hgv⟩ := C0
  have hA : ∀ q : Nat, s.heap.size ≤ q → (fun q : Nat => s.heap.size ≤ q) q := fun _ h => h
  have hbA : ¬ (fun q : Nat => s.heap.size ≤ q) b := Nat.not_le.mpr hbl
  obtain ⟨X, Y, t, AD, f, hs, hR, hP, hD, hS⟩ := hW
  obtain ⟨y1, y2, y3, y4, y5, y6, y7, hE⟩ := hR.yh f
  have hv1 : vp_in (nI i + 1) L := by rw [show nI i + 1 = nI (i + 1) from nI_add i 1]; exact vp_in_nI (by omega) (by omega)
  refine lv_aload_n hx hb dL_law_620 rfl (lv_at hl 1 rfl) ?_
  refine lv_aload_n hx hb dL_law_621 rfl (lv_at hl 0 rfl) ?_
  refine lv_iload_n hx hb dL_law_622 rfl (lv_at hl 3 rfl) ?_
  refine lv_iconst (v := 1) hx hb dL_law_623 (by decide) ?_
  refine lv_iadd hx hb dL_law_624 ?_
  refine va_sld hx hb hX hbl hbA hS hv1 dL_law_625 ?_
  refine kc_i (wc := (tk_xw cI cM h er tr sv a t AD X)) (wr := (tk_yw cI cJ h2 sa pa eb na f hs Y)) (va_runV (As := [.int (xs (nI i + 1).toNatClampNeg)]) (rest := []) ⟨hx, hb, hml, hown, hts⟩ (kx_steadyCycles l D cI cM cJ _ h er tr sv a t AD X (xs (nI i + 1).toNatClampNeg) hR.2.2.2.2.1.2.2.1 hR.2.2.2.2.1.2.2.2.2.1) (cwV 1 hts gL_law_X3_steadyCycles rfl rfl rfl (by decide +kernel) ⟨Nat.le_of_ble_eq_true rfl, Nat.le_of_ble_eq_true rfl⟩) (kp_preV (q := (RX3, TX3, 5)) (wc := (tk_xw cI cM h er tr sv a t AD X)) (wr := (tk_yw cI cJ h2 sa pa eb na f hs Y)) hN hK hP hD 0 rfl rfl) rfl rfl hl.1 rfl (lv_room (Nat.le_of_ble_eq_true rfl)) dL_law_626 ⟨Nat.le_of_ble_eq_true rfl, Nat.le_of_ble_eq_true rfl⟩) hP hD hS hA (fun r u H locs pr hP hD hS => ?_)
  obtain ⟨X1, AD1, t1⟩ := u
  obtain ⟨pr, hX1⟩ := pr
  have hX1 : X1 = _ := hX1
  replace hP := va_swapP (v := (tk_xw cI cM h er tr sv a t1 AD1 X1)) (w := (tk_yw cI cJ h2 sa pa eb na f hs Y)) hP
  replace hD := va_swapD (v := (tk_xw cI cM h er tr sv a t1 AD1 X1)) (w := (tk_yw cI cJ h2 sa pa eb na f hs Y)) hD
  refine lv_aload_n hx hb dL_law_629 rfl (lv_at hl 2 rfl) ?_
  refine lv_aload_n hx hb dL_law_630 rfl (lv_at hl 0 rfl) ?_
  refine lv_iload_n hx hb dL_law_631 rfl (lv_at hl 3 rfl) ?_
  refine lv_iconst (v := 1) hx hb dL_law_632 (by decide) ?_
  refine lv_iadd hx hb dL_law_633 ?_
  refine va_sld hx hb hX hbl hbA hS hv1 dL_law_634 ?_
  refine kc_i (wc := (tk_yw cI cJ h2 sa pa eb na f hs Y)) (wr := (tk_xw cI cM h er tr sv a t1 AD1 X1)) (va_runV (As := [.int (xs (nI i + 1).toNatClampNeg)]) (rest := [.int r]) ⟨hx, hb, hml, hown, hts⟩ (ky_steadyCycles l D cI cM cJ _ h2 sa pa eb na f hs Y (xs (nI i + 1).toNatClampNeg) y4 y5 y6) (cwV 1 hts gL_law_X4_steadyCycles rfl rfl rfl (by decide +kernel) ⟨Nat.le_of_ble_eq_true rfl, Nat.le_of_ble_eq_true rfl⟩) (kp_preV (q := (RX4, TX4, 9)) (wc := (tk_yw cI cJ h2 sa pa eb na f hs Y)) (wr := (tk_xw cI cM h er tr sv a t1 AD1 X1)) hN hK hP hD 0 rfl rfl) rfl rfl hl.1 rfl (lv_room (Nat.le_of_ble_eq_true rfl)) dL_law_635 ⟨Nat.le_of_ble_eq_true rfl, Nat.le_of_ble_eq_true rfl⟩) hP hD hS hA (fun r2 u2 H locs pr2 hP hD hS => ?_)
  obtain ⟨Y1, f1, hs1⟩ := u2
  obtain ⟨pr2, hY1⟩ := pr2
  have hY1 : Y1 = _ := hY1
  replace hP := va_swapP (v := (tk_yw cI cJ h2 sa pa eb na f1 hs1 Y1)) (w := (tk_xw cI cM h er tr sv a t1 AD1 X1)) hP
  replace hD := va_swapD (v := (tk_yw cI cJ h2 sa pa eb na f1 hs1 Y1)) (w := (tk_xw cI cM h er tr sv a t1 AD1 X1)) hD
  have hsim := sim_steadyCycles hR hE (xs (nI i + 1).toNatClampNeg)
  have he : r = r2 := by rw [pr, pr2]; exact hsim.1
  have hR1 : RX X1 Y1 := by rw [hX1, hY1]; exact hsim.2
  refine lv_icmp_eq (tgt := 762) hx hb dL_law_638 (by decide) (fun _ => kk _ _ ⟨X1, Y1, t1, AD1, f1, hs1, hR1, hP, hD, hS⟩) (fun c9 => absurd he c9)
set_option maxHeartbeats 1000000 in
set_option maxRecDepth 100000 in
theorem lc_steadyGain {p : Program} {l : Launch} {e : Env} {s : State} {m : MethodId} {below : List Frame} {meth : Method} {c : Code} {b L : Nat} {xs : Nat → Int32} {D : va_G} {cI cM cJ : ClassId} {h er tr sv : Nat} {a : Nat → Nat} {h2 sa pa eb na i : Nat} {H : Heap} {locs : List Loc} {ls : Array Slot} {Q : State → Prop} (C0 : lw_At p s m meth c b L xs) (hL : L ≤ 2560) (hN : NX s) (hK : va_K D vwCl (tk_T cI cM cJ) s) (hi : i + 5 ≤ L) (hl : lv_has ls 4 [(0, .ref b), (1, .ref h), (2, .ref h2), (3, .int (nI i))]) (hW : LW D cI cM cJ s h er tr sv a h2 sa pa eb na H locs)
    (kk : ∀ (H : Heap) (locs : List Loc), LW D cI cM cJ s h er tr sv a h2 sa pa eb na H locs → W p l e room_1 s m #[Value.ref b] below meth c H locs 44 777 Q (F0 m 762 ls [])) : W p l e room_1 s m #[Value.ref b] below meth c H locs 44 777 Q (F0 m 643 ls []) := by
  have hts := k_law_tbl C0
  obtain ⟨hx, hb, hr, hml, hown, -, hX, hbl, hlocks, hgv⟩ := C0
  have hA : ∀ q : Nat, s.heap.size ≤ q → (fun q : Nat => s.heap.size ≤ q) q := fun _ h => h
  have hbA : ¬ (fun q : Nat => s.heap.size ≤ q) b := Nat.not_le.mpr hbl
  obtain ⟨X, Y, t, AD, f, hs, hR, hP, hD, hS⟩ := hW
  obtain ⟨y1, y2, y3, y4, y5, y6, y7, hE⟩ := hR.yh f
  have hv1 : vp_in (nI i + 1) L := by rw [show nI i + 1 = nI (i + 1) from nI_add i 1]; exact vp_in_nI (by omega) (by omega)
  have hv2 : vp_in (nI i + 2) L := by rw [show nI i + 2 = nI (i + 2) from nI_add i 2]; exact vp_in_nI (by omega) (by omega)
  refine lv_aload_n hx hb dL_law_643 rfl (lv_at hl 1 rfl) ?_
  refine lv_aload_n hx hb dL_law_644 rfl (lv_at hl 0 rfl) ?_
  refine lv_iload_n hx hb dL_law_645 rfl (lv_at hl 3 rfl) ?_
  refine lv_iconst (v := 1) hx hb dL_law_646 (by decide) ?_
  refine lv_iadd hx hb dL_law_647 ?_
  refine va_sld hx hb hX hbl hbA hS hv1 dL_law_648 ?_
  refine lv_aload_n hx hb dL_law_649 rfl (lv_at hl 0 rfl) ?_
  refine lv_iload_n hx hb dL_law_650 rfl (lv_at hl 3 rfl) ?_
  refine lv_iconst (v := 2) hx hb dL_law_651 (by decide) ?_
  refine lv_iadd hx hb dL_law_652 ?_
  refine va_sld hx hb hX hbl hbA hS hv2 dL_law_653 ?_
  refine kc_i (wc := (tk_xw cI cM h er tr sv a t AD X)) (wr := (tk_yw cI cJ h2 sa pa eb na f hs Y)) (va_runV (As := [.int (xs (nI i + 1).toNatClampNeg), .int (xs (nI i + 2).toNatClampNeg)]) (rest := []) ⟨hx, hb, hml, hown, hts⟩ (kx_steadyGain l D cI cM cJ _ h er tr sv a t AD X (xs (nI i + 1).toNatClampNeg) (xs (nI i + 2).toNatClampNeg) hR.2.2.2.2.1.2.2.1 hR.2.2.2.2.1.2.2.2.2.1) (cwV 2 hts gL_law_X3_steadyGain rfl rfl rfl (by decide +kernel) ⟨Nat.le_of_ble_eq_true rfl, Nat.le_of_ble_eq_true rfl⟩) (kp_preV (q := (RX3, TX3, 5)) (wc := (tk_xw cI cM h er tr sv a t AD X)) (wr := (tk_yw cI cJ h2 sa pa eb na f hs Y)) hN hK hP hD 0 rfl rfl) rfl rfl hl.1 rfl (lv_room (Nat.le_of_ble_eq_true rfl)) dL_law_654 ⟨Nat.le_of_ble_eq_true rfl, Nat.le_of_ble_eq_true rfl⟩) hP hD hS hA (fun r u H locs pr hP hD hS => ?_)
  obtain ⟨X1, AD1, t1⟩ := u
  obtain ⟨pr, hX1⟩ := pr
  have hX1 : X1 = _ := hX1
  replace hP := va_swapP (v := (tk_xw cI cM h er tr sv a t1 AD1 X1)) (w := (tk_yw cI cJ h2 sa pa eb na f hs Y)) hP
  replace hD := va_swapD (v := (tk_xw cI cM h er tr sv a t1 AD1 X1)) (w := (tk_yw cI cJ h2 sa pa eb na f hs Y)) hD
  refine lv_aload_n hx hb dL_law_657 rfl (lv_at hl 2 rfl) ?_
  refine lv_aload_n hx hb dL_law_658 rfl (lv_at hl 0 rfl) ?_
  refine lv_iload_n hx hb dL_law_659 rfl (lv_at hl 3 rfl) ?_
  refine lv_iconst (v := 1) hx hb dL_law_660 (by decide) ?_
  refine lv_iadd hx hb dL_law_661 ?_
  refine va_sld hx hb hX hbl hbA hS hv1 dL_law_662 ?_
  refine lv_aload_n hx hb dL_law_663 rfl (lv_at hl 0 rfl) ?_
  refine lv_iload_n hx hb dL_law_664 rfl (lv_at hl 3 rfl) ?_
  refine lv_iconst (v := 2) hx hb dL_law_665 (by decide) ?_
  refine lv_iadd hx hb dL_law_666 ?_
  refine va_sld hx hb hX hbl hbA hS hv2 dL_law_667 ?_
  refine kc_i (wc := (tk_yw cI cJ h2 sa pa eb na f hs Y)) (wr := (tk_xw cI cM h er tr sv a t1 AD1 X1)) (va_runV (As := [.int (xs (nI i + 1).toNatClampNeg), .int (xs (nI i + 2).toNatClampNeg)]) (rest := [.int r]) ⟨hx, hb, hml, hown, hts⟩ (ky_steadyGain l D cI cM cJ _ h2 sa pa eb na f hs Y (xs (nI i + 1).toNatClampNeg) (xs (nI i + 2).toNatClampNeg) y4 y5 y6) (cwV 2 hts gL_law_X4_steadyGain rfl rfl rfl (by decide +kernel) ⟨Nat.le_of_ble_eq_true rfl, Nat.le_of_ble_eq_true rfl⟩) (kp_preV (q := (RX4, TX4, 9)) (wc := (tk_yw cI cJ h2 sa pa eb na f hs Y)) (wr := (tk_xw cI cM h er tr sv a t1 AD1 X1)) hN hK hP hD 0 rfl rfl) rfl rfl hl.1 rfl (lv_room (Nat.le_of_ble_eq_true rfl)) dL_law_668 ⟨Nat.le_of_ble_eq_true rfl, Nat.le_of_ble_eq_true rfl⟩) hP hD hS hA (fun r2 u2 H locs pr2 hP hD hS => ?_)
  obtain ⟨Y1, f1, hs1⟩ := u2
  obtain ⟨pr2, hY1⟩ := pr2
  have hY1 : Y1 = _ := hY1
  replace hP := va_swapP (v := (tk_yw cI cJ h2 sa pa eb na f1 hs1 Y1)) (w := (tk_xw cI cM h er tr sv a t1 AD1 X1)) hP
  replace hD := va_swapD (v := (tk_yw cI cJ h2 sa pa eb na f1 hs1 Y1)) (w := (tk_xw cI cM h er tr sv a t1 AD1 X1)) hD
  have hsim := sim_steadyGain hR hE (xs (nI i + 1).toNatClampNeg) (xs (nI i + 2).toNatClampNeg)
  have he : r = r2 := by rw [pr, pr2]; exact hsim.1
  have hR1 : RX X1 Y1 := by rw [hX1, hY1]; exact hsim.2
  refine lv_icmp_eq (tgt := 762) hx hb dL_law_671 (by decide) (fun _ => kk _ _ ⟨X1, Y1, t1, AD1, f1, hs1, hR1, hP, hD, hS⟩) (fun c9 => absurd he c9)
set_option maxHeartbeats 1000000 in
set_option maxRecDepth 100000 in
theorem lc_replayError {p : Program} {l : Launch} {e : Env} {s : State} {m : MethodId} {below : List Frame} {meth : Method} {c : Code} {b L : Nat} {xs : Nat → Int32} {D : va_G} {cI cM cJ : ClassId} {h er tr sv : Nat} {a : Nat → Nat} {h2 sa pa eb na i : Nat} {H : Heap} {locs : List Loc} {ls : Array Slot} {Q : State → Prop} (C0 : lw_At p s m meth c b L xs) (hL : L ≤ 2560) (hN : NX s) (hK : va_K D vwCl (tk_T cI cM cJ) s) (hi : i + 5 ≤ L) (hl : lv_has ls 4 [(0, .ref b), (1, .ref h), (2, .ref h2), (3, .int (nI i))]) (hW : LW D cI cM cJ s h er tr sv a h2 sa pa eb na H locs)
    (kk : ∀ (H : Heap) (locs : List Loc), LW D cI cM cJ s h er tr sv a h2 sa pa eb na H locs → W p l e room_1 s m #[Value.ref b] below meth c H locs 44 777 Q (F0 m 762 ls [])) : W p l e room_1 s m #[Value.ref b] below meth c H locs 44 777 Q (F0 m 676 ls []) := by
  have hts := k_law_tbl C0
  obtain ⟨hx, hb, hr, hml, hown, -, hX, hbl, hlocks, hgv⟩ := C0
  have hA : ∀ q : Nat, s.heap.size ≤ q → (fun q : Nat => s.heap.size ≤ q) q := fun _ h => h
  have hbA : ¬ (fun q : Nat => s.heap.size ≤ q) b := Nat.not_le.mpr hbl
  obtain ⟨X, Y, t, AD, f, hs, hR, hP, hD, hS⟩ := hW
  obtain ⟨y1, y2, y3, y4, y5, y6, y7, hE⟩ := hR.yh f
  have hv1 : vp_in (nI i + 1) L := by rw [show nI i + 1 = nI (i + 1) from nI_add i 1]; exact vp_in_nI (by omega) (by omega)
  refine lv_aload_n hx hb dL_law_676 rfl (lv_at hl 1 rfl) ?_
  refine lv_aload_n hx hb dL_law_677 rfl (lv_at hl 0 rfl) ?_
  refine lv_iload_n hx hb dL_law_678 rfl (lv_at hl 3 rfl) ?_
  refine lv_iconst (v := 1) hx hb dL_law_679 (by decide) ?_
  refine lv_iadd hx hb dL_law_680 ?_
  refine va_sld hx hb hX hbl hbA hS hv1 dL_law_681 ?_
  refine kc_i (wc := (tk_xw cI cM h er tr sv a t AD X)) (wr := (tk_yw cI cJ h2 sa pa eb na f hs Y)) (va_runV (As := [.int (xs (nI i + 1).toNatClampNeg)]) (rest := []) ⟨hx, hb, hml, hown, hts⟩ (kx_replayError l D cI cM cJ _ h er tr sv a t AD X (xs (nI i + 1).toNatClampNeg) hR.2.2.2.2.1.2.2.1 hR.2.2.2.2.1.2.2.2.2.1 hR.2.2.2.2.1.1) (cwV 1 hts gL_law_X3_replayError rfl rfl rfl (by decide +kernel) ⟨Nat.le_of_ble_eq_true rfl, Nat.le_of_ble_eq_true rfl⟩) (kp_preV (q := (RX3, TX3, 5)) (wc := (tk_xw cI cM h er tr sv a t AD X)) (wr := (tk_yw cI cJ h2 sa pa eb na f hs Y)) hN hK hP hD 0 rfl rfl) rfl rfl hl.1 rfl (lv_room (Nat.le_of_ble_eq_true rfl)) dL_law_682 ⟨Nat.le_of_ble_eq_true rfl, Nat.le_of_ble_eq_true rfl⟩) hP hD hS hA (fun r u H locs pr hP hD hS => ?_)
  obtain ⟨X1, AD1, t1⟩ := u
  obtain ⟨pr, hX1⟩ := pr
  have hX1 : X1 = _ := hX1
  replace hP := va_swapP (v := (tk_xw cI cM h er tr sv a t1 AD1 X1)) (w := (tk_yw cI cJ h2 sa pa eb na f hs Y)) hP
  replace hD := va_swapD (v := (tk_xw cI cM h er tr sv a t1 AD1 X1)) (w := (tk_yw cI cJ h2 sa pa eb na f hs Y)) hD
  refine lv_aload_n hx hb dL_law_685 rfl (lv_at hl 2 rfl) ?_
  refine lv_aload_n hx hb dL_law_686 rfl (lv_at hl 0 rfl) ?_
  refine lv_iload_n hx hb dL_law_687 rfl (lv_at hl 3 rfl) ?_
  refine lv_iconst (v := 1) hx hb dL_law_688 (by decide) ?_
  refine lv_iadd hx hb dL_law_689 ?_
  refine va_sld hx hb hX hbl hbA hS hv1 dL_law_690 ?_
  refine kc_i (wc := (tk_yw cI cJ h2 sa pa eb na f hs Y)) (wr := (tk_xw cI cM h er tr sv a t1 AD1 X1)) (va_runV (As := [.int (xs (nI i + 1).toNatClampNeg)]) (rest := [.int r]) ⟨hx, hb, hml, hown, hts⟩ (ky_replayError l D cI cM cJ _ h2 sa pa eb na f hs Y (xs (nI i + 1).toNatClampNeg) X.2.2.1.2.2.2.2.2.2.2.2.2.2.2 y2 y3 y4 y6 y7) (cwV 1 hts gL_law_X4_replayError rfl rfl rfl (by decide +kernel) ⟨Nat.le_of_ble_eq_true rfl, Nat.le_of_ble_eq_true rfl⟩) (kp_preV (q := (RX4, TX4, 9)) (wc := (tk_yw cI cJ h2 sa pa eb na f hs Y)) (wr := (tk_xw cI cM h er tr sv a t1 AD1 X1)) hN hK hP hD 0 rfl rfl) rfl rfl hl.1 rfl (lv_room (Nat.le_of_ble_eq_true rfl)) dL_law_691 ⟨Nat.le_of_ble_eq_true rfl, Nat.le_of_ble_eq_true rfl⟩) hP hD hS hA (fun r2 u2 H locs pr2 hP hD hS => ?_)
  obtain ⟨Y1, f1, hs1⟩ := u2
  obtain ⟨pr2, hY1⟩ := pr2
  have hY1 : Y1 = _ := hY1
  replace hP := va_swapP (v := (tk_yw cI cJ h2 sa pa eb na f1 hs1 Y1)) (w := (tk_xw cI cM h er tr sv a t1 AD1 X1)) hP
  replace hD := va_swapD (v := (tk_yw cI cJ h2 sa pa eb na f1 hs1 Y1)) (w := (tk_xw cI cM h er tr sv a t1 AD1 X1)) hD
  have hsim := sim_replayError hR hE (xs (nI i + 1).toNatClampNeg)
  have he : r = r2 := by rw [pr, pr2]; exact hsim.1
  have hR1 : RX X1 Y1 := by rw [hX1, hY1]; exact hsim.2
  refine lv_icmp_eq (tgt := 762) hx hb dL_law_694 (by decide) (fun _ => kk _ _ ⟨X1, Y1, t1, AD1, f1, hs1, hR1, hP, hD, hS⟩) (fun c9 => absurd he c9)
set_option maxHeartbeats 1000000 in
set_option maxRecDepth 100000 in
theorem lc_bestFlowNoise {p : Program} {l : Launch} {e : Env} {s : State} {m : MethodId} {below : List Frame} {meth : Method} {c : Code} {b L : Nat} {xs : Nat → Int32} {D : va_G} {cI cM cJ : ClassId} {h er tr sv : Nat} {a : Nat → Nat} {h2 sa pa eb na i : Nat} {H : Heap} {locs : List Loc} {ls : Array Slot} {Q : State → Prop} {tb : Nat} (hT : tk_st tb (fun q => s.heap.size ≤ q) s) (C0 : lw_At p s m meth c b L xs) (hL : L ≤ 2560) (hN : NX s) (hK : va_K D vwCl (tk_T cI cM cJ) s) (hi : i + 5 ≤ L) (hl : lv_has ls 4 [(0, .ref b), (1, .ref h), (2, .ref h2), (3, .int (nI i))]) (hW : LW D cI cM cJ s h er tr sv a h2 sa pa eb na H locs)
    (kk : ∀ (H : Heap) (locs : List Loc), LW D cI cM cJ s h er tr sv a h2 sa pa eb na H locs → W p l e room_1 s m #[Value.ref b] below meth c H locs 44 777 Q (F0 m 762 ls [])) : W p l e room_1 s m #[Value.ref b] below meth c H locs 44 777 Q (F0 m 699 ls []) := by
  have hts := k_law_tbl C0
  obtain ⟨hx, hb, hr, hml, hown, -, hX, hbl, hlocks, hgv⟩ := C0
  have hA : ∀ q : Nat, s.heap.size ≤ q → (fun q : Nat => s.heap.size ≤ q) q := fun _ h => h
  have hbA : ¬ (fun q : Nat => s.heap.size ≤ q) b := Nat.not_le.mpr hbl
  obtain ⟨X, Y, t, AD, f, hs, hR, hP, hD, hS⟩ := hW
  obtain ⟨y1, y2, y3, y4, y5, y6, y7, hE⟩ := hR.yh f
  refine lv_aload_n hx hb dL_law_699 rfl (lv_at hl 1 rfl) ?_
  have hst : ∀ U : State, U.heap = H → s.vm.Alike U.vm → tk_st tb (va_A (tk_xw cI cM h er tr sv a t AD X) H.size) U := by
    intro U hU hV
    have hF := kp_free (wc := (tk_xw cI cM h er tr sv a t AD X)) (wr := (tk_yw cI cJ h2 sa pa eb na f hs Y)) hD hS hA
    refine ⟨?_, ?_⟩
    · rw [hU]; exact ((hT.1.kept (fun q h1 h2 => hS.2.1 q h1 h2)).narrow hF).moved hV
    · rw [hU]; exact ((hT.2.kept (fun q h1 h2 => hS.2.1 q h1 h2)).narrow hF).moved hV
  refine kc_i (wc := (tk_xw cI cM h er tr sv a t AD X)) (wr := (tk_yw cI cJ h2 sa pa eb na f hs Y)) (va_runV (As := []) (rest := []) ⟨hx, hb, hml, hown, hts⟩ (kx_bestFlowNoise l D cI cM cJ _ h er tr sv a t AD X tb hR.2.2.2.2.1.2.2.1 hR.2.2.2.2.1.2.2.2.2.1 hR.2.2.2.2.1.1) (cwV 0 hts gL_law_X3_bestFlowNoise rfl rfl rfl (by decide +kernel) ⟨Nat.le_of_ble_eq_true rfl, Nat.le_of_ble_eq_true rfl⟩) (kp_preVx (q := (RX3, TX3, 5)) (wc := (tk_xw cI cM h er tr sv a t AD X)) (wr := (tk_yw cI cJ h2 sa pa eb na f hs Y)) hN hK hP hD 0 rfl rfl hst (fun _ _ hh hv => tk_st.mv hh hv)) rfl rfl hl.1 rfl (lv_room (Nat.le_of_ble_eq_true rfl)) dL_law_700 ⟨Nat.le_of_ble_eq_true rfl, Nat.le_of_ble_eq_true rfl⟩) hP hD hS hA (fun r u H locs pr hP hD hS => ?_)
  obtain ⟨X1, AD1, t1⟩ := u
  obtain ⟨pr, hX1⟩ := pr
  have hX1 : X1 = _ := hX1
  replace hP := va_swapP (v := (tk_xw cI cM h er tr sv a t1 AD1 X1)) (w := (tk_yw cI cJ h2 sa pa eb na f hs Y)) hP
  replace hD := va_swapD (v := (tk_xw cI cM h er tr sv a t1 AD1 X1)) (w := (tk_yw cI cJ h2 sa pa eb na f hs Y)) hD
  refine lv_aload_n hx hb dL_law_703 rfl (lv_at hl 2 rfl) ?_
  refine kc_i (wc := (tk_yw cI cJ h2 sa pa eb na f hs Y)) (wr := (tk_xw cI cM h er tr sv a t1 AD1 X1)) (va_runV (As := []) (rest := [.int r]) ⟨hx, hb, hml, hown, hts⟩ (ky_bestFlowNoise l D cI cM cJ _ h2 sa pa eb na f hs Y X.2.2.1.2.2.2.2.2.2.2.2.2.2.2 y2 y3 y4 y6 y7) (cwV 0 hts gL_law_X4_bestFlowNoise rfl rfl rfl (by decide +kernel) ⟨Nat.le_of_ble_eq_true rfl, Nat.le_of_ble_eq_true rfl⟩) (kp_preV (q := (RX4, TX4, 9)) (wc := (tk_yw cI cJ h2 sa pa eb na f hs Y)) (wr := (tk_xw cI cM h er tr sv a t1 AD1 X1)) hN hK hP hD 0 rfl rfl) rfl rfl hl.1 rfl (lv_room (Nat.le_of_ble_eq_true rfl)) dL_law_704 ⟨Nat.le_of_ble_eq_true rfl, Nat.le_of_ble_eq_true rfl⟩) hP hD hS hA (fun r2 u2 H locs pr2 hP hD hS => ?_)
  obtain ⟨Y1, f1, hs1⟩ := u2
  obtain ⟨pr2, hY1⟩ := pr2
  have hY1 : Y1 = _ := hY1
  replace hP := va_swapP (v := (tk_yw cI cJ h2 sa pa eb na f1 hs1 Y1)) (w := (tk_xw cI cM h er tr sv a t1 AD1 X1)) hP
  replace hD := va_swapD (v := (tk_yw cI cJ h2 sa pa eb na f1 hs1 Y1)) (w := (tk_xw cI cM h er tr sv a t1 AD1 X1)) hD
  have hsim := sim_bestFlowNoise hR hE
  have he : r = r2 := by rw [pr, pr2]; exact hsim.1
  have hR1 : RX X1 Y1 := by rw [hX1, hY1]; exact hsim.2
  refine lv_icmp_eq (tgt := 762) hx hb dL_law_707 (by decide) (fun _ => kk _ _ ⟨X1, Y1, t1, AD1, f1, hs1, hR1, hP, hD, hS⟩) (fun c9 => absurd he c9)
set_option maxHeartbeats 1000000 in
set_option maxRecDepth 100000 in
theorem lc_undo {p : Program} {l : Launch} {e : Env} {s : State} {m : MethodId} {below : List Frame} {meth : Method} {c : Code} {b L : Nat} {xs : Nat → Int32} {D : va_G} {cI cM cJ : ClassId} {h er tr sv : Nat} {a : Nat → Nat} {h2 sa pa eb na i : Nat} {H : Heap} {locs : List Loc} {ls : Array Slot} {Q : State → Prop} (C0 : lw_At p s m meth c b L xs) (hL : L ≤ 2560) (hN : NX s) (hK : va_K D vwCl (tk_T cI cM cJ) s) (hi : i + 5 ≤ L) (hl : lv_has ls 4 [(0, .ref b), (1, .ref h), (2, .ref h2), (3, .int (nI i))]) (hW : LW D cI cM cJ s h er tr sv a h2 sa pa eb na H locs)
    (kk : ∀ (H : Heap) (locs : List Loc), LW D cI cM cJ s h er tr sv a h2 sa pa eb na H locs → W p l e room_1 s m #[Value.ref b] below meth c H locs 44 777 Q (F0 m 762 ls [])) : W p l e room_1 s m #[Value.ref b] below meth c H locs 44 777 Q (F0 m 712 ls []) := by
  have hts := k_law_tbl C0
  obtain ⟨hx, hb, hr, hml, hown, -, hX, hbl, hlocks, hgv⟩ := C0
  have hA : ∀ q : Nat, s.heap.size ≤ q → (fun q : Nat => s.heap.size ≤ q) q := fun _ h => h
  have hbA : ¬ (fun q : Nat => s.heap.size ≤ q) b := Nat.not_le.mpr hbl
  obtain ⟨X, Y, t, AD, f, hs, hR, hP, hD, hS⟩ := hW
  obtain ⟨y1, y2, y3, y4, y5, y6, y7, hE⟩ := hR.yh f
  refine lv_aload_n hx hb dL_law_712 rfl (lv_at hl 1 rfl) ?_
  refine kc_i (wc := (tk_xw cI cM h er tr sv a t AD X)) (wr := (tk_yw cI cJ h2 sa pa eb na f hs Y)) (va_runV (As := []) (rest := []) ⟨hx, hb, hml, hown, hts⟩ (kx_undo l D cI cM cJ _ h er tr sv a t AD X hR.2.1) (cwV 0 hts gL_law_X3_undo rfl rfl rfl (by decide +kernel) ⟨Nat.le_of_ble_eq_true rfl, Nat.le_of_ble_eq_true rfl⟩) (kp_preV (q := (RX3, TX3, 5)) (wc := (tk_xw cI cM h er tr sv a t AD X)) (wr := (tk_yw cI cJ h2 sa pa eb na f hs Y)) hN hK hP hD 0 rfl rfl) rfl rfl hl.1 rfl (lv_room (Nat.le_of_ble_eq_true rfl)) dL_law_713 ⟨Nat.le_of_ble_eq_true rfl, Nat.le_of_ble_eq_true rfl⟩) hP hD hS hA (fun r u H locs pr hP hD hS => ?_)
  obtain ⟨X1, AD1, t1⟩ := u
  obtain ⟨pr, hX1⟩ := pr
  have hX1 : X1 = _ := hX1
  replace hP := va_swapP (v := (tk_xw cI cM h er tr sv a t1 AD1 X1)) (w := (tk_yw cI cJ h2 sa pa eb na f hs Y)) hP
  replace hD := va_swapD (v := (tk_xw cI cM h er tr sv a t1 AD1 X1)) (w := (tk_yw cI cJ h2 sa pa eb na f hs Y)) hD
  refine lv_aload_n hx hb dL_law_716 rfl (lv_at hl 2 rfl) ?_
  refine kc_i (wc := (tk_yw cI cJ h2 sa pa eb na f hs Y)) (wr := (tk_xw cI cM h er tr sv a t1 AD1 X1)) (va_runV (As := []) (rest := [.int r]) ⟨hx, hb, hml, hown, hts⟩ (ky_undo l D cI cM cJ _ h2 sa pa eb na f hs Y y1) (cwV 0 hts gL_law_X4_undo rfl rfl rfl (by decide +kernel) ⟨Nat.le_of_ble_eq_true rfl, Nat.le_of_ble_eq_true rfl⟩) (kp_preV (q := (RX4, TX4, 9)) (wc := (tk_yw cI cJ h2 sa pa eb na f hs Y)) (wr := (tk_xw cI cM h er tr sv a t1 AD1 X1)) hN hK hP hD 0 rfl rfl) rfl rfl hl.1 rfl (lv_room (Nat.le_of_ble_eq_true rfl)) dL_law_717 ⟨Nat.le_of_ble_eq_true rfl, Nat.le_of_ble_eq_true rfl⟩) hP hD hS hA (fun r2 u2 H locs pr2 hP hD hS => ?_)
  obtain ⟨Y1, f1, hs1⟩ := u2
  obtain ⟨pr2, hY1⟩ := pr2
  have hY1 : Y1 = _ := hY1
  replace hP := va_swapP (v := (tk_yw cI cJ h2 sa pa eb na f1 hs1 Y1)) (w := (tk_xw cI cM h er tr sv a t1 AD1 X1)) hP
  replace hD := va_swapD (v := (tk_yw cI cJ h2 sa pa eb na f1 hs1 Y1)) (w := (tk_xw cI cM h er tr sv a t1 AD1 X1)) hD
  have hsim := sim_undo hR
  have he : r = r2 := by rw [pr, pr2]; exact hsim.1
  have hR1 : RX X1 Y1 := by rw [hX1, hY1]; exact hsim.2
  refine lv_icmp_eq (tgt := 762) hx hb dL_law_720 (by decide) (fun _ => kk _ _ ⟨X1, Y1, t1, AD1, f1, hs1, hR1, hP, hD, hS⟩) (fun c9 => absurd he c9)
set_option maxHeartbeats 1000000 in
set_option maxRecDepth 100000 in
theorem lc_errorCount {p : Program} {l : Launch} {e : Env} {s : State} {m : MethodId} {below : List Frame} {meth : Method} {c : Code} {b L : Nat} {xs : Nat → Int32} {D : va_G} {cI cM cJ : ClassId} {h er tr sv : Nat} {a : Nat → Nat} {h2 sa pa eb na i : Nat} {H : Heap} {locs : List Loc} {ls : Array Slot} {Q : State → Prop} (C0 : lw_At p s m meth c b L xs) (hL : L ≤ 2560) (hN : NX s) (hK : va_K D vwCl (tk_T cI cM cJ) s) (hi : i + 5 ≤ L) (hl : lv_has ls 4 [(0, .ref b), (1, .ref h), (2, .ref h2), (3, .int (nI i))]) (hW : LW D cI cM cJ s h er tr sv a h2 sa pa eb na H locs)
    (kk : ∀ (H : Heap) (locs : List Loc), LW D cI cM cJ s h er tr sv a h2 sa pa eb na H locs → W p l e room_1 s m #[Value.ref b] below meth c H locs 44 777 Q (F0 m 762 ls [])) : W p l e room_1 s m #[Value.ref b] below meth c H locs 44 777 Q (F0 m 725 ls []) := by
  have hts := k_law_tbl C0
  obtain ⟨hx, hb, hr, hml, hown, -, hX, hbl, hlocks, hgv⟩ := C0
  have hA : ∀ q : Nat, s.heap.size ≤ q → (fun q : Nat => s.heap.size ≤ q) q := fun _ h => h
  have hbA : ¬ (fun q : Nat => s.heap.size ≤ q) b := Nat.not_le.mpr hbl
  obtain ⟨X, Y, t, AD, f, hs, hR, hP, hD, hS⟩ := hW
  obtain ⟨y1, y2, y3, y4, y5, y6, y7, hE⟩ := hR.yh f
  have hv1 : vp_in (nI i + 1) L := by rw [show nI i + 1 = nI (i + 1) from nI_add i 1]; exact vp_in_nI (by omega) (by omega)
  refine lv_aload_n hx hb dL_law_725 rfl (lv_at hl 1 rfl) ?_
  refine lv_aload_n hx hb dL_law_726 rfl (lv_at hl 0 rfl) ?_
  refine lv_iload_n hx hb dL_law_727 rfl (lv_at hl 3 rfl) ?_
  refine lv_iconst (v := 1) hx hb dL_law_728 (by decide) ?_
  refine lv_iadd hx hb dL_law_729 ?_
  refine va_sld hx hb hX hbl hbA hS hv1 dL_law_730 ?_
  refine kc_i (wc := (tk_xw cI cM h er tr sv a t AD X)) (wr := (tk_yw cI cJ h2 sa pa eb na f hs Y)) (va_runV (As := [.int (xs (nI i + 1).toNatClampNeg)]) (rest := []) ⟨hx, hb, hml, hown, hts⟩ (kx_errorCount l D cI cM cJ _ h er tr sv a t AD X (xs (nI i + 1).toNatClampNeg)) (cwV 1 hts gL_law_X3_errorCount rfl rfl rfl (by decide +kernel) ⟨Nat.le_of_ble_eq_true rfl, Nat.le_of_ble_eq_true rfl⟩) (kp_preV (q := (RX3, TX3, 5)) (wc := (tk_xw cI cM h er tr sv a t AD X)) (wr := (tk_yw cI cJ h2 sa pa eb na f hs Y)) hN hK hP hD 0 rfl rfl) rfl rfl hl.1 rfl (lv_room (Nat.le_of_ble_eq_true rfl)) dL_law_731 ⟨Nat.le_of_ble_eq_true rfl, Nat.le_of_ble_eq_true rfl⟩) hP hD hS hA (fun r u H locs pr hP hD hS => ?_)
  obtain ⟨X1, AD1, t1⟩ := u
  obtain ⟨pr, hX1⟩ := pr
  have hX1 : X1 = _ := hX1
  replace hP := va_swapP (v := (tk_xw cI cM h er tr sv a t1 AD1 X1)) (w := (tk_yw cI cJ h2 sa pa eb na f hs Y)) hP
  replace hD := va_swapD (v := (tk_xw cI cM h er tr sv a t1 AD1 X1)) (w := (tk_yw cI cJ h2 sa pa eb na f hs Y)) hD
  refine lv_aload_n hx hb dL_law_734 rfl (lv_at hl 2 rfl) ?_
  refine lv_aload_n hx hb dL_law_735 rfl (lv_at hl 0 rfl) ?_
  refine lv_iload_n hx hb dL_law_736 rfl (lv_at hl 3 rfl) ?_
  refine lv_iconst (v := 1) hx hb dL_law_737 (by decide) ?_
  refine lv_iadd hx hb dL_law_738 ?_
  refine va_sld hx hb hX hbl hbA hS hv1 dL_law_739 ?_
  refine kc_i (wc := (tk_yw cI cJ h2 sa pa eb na f hs Y)) (wr := (tk_xw cI cM h er tr sv a t1 AD1 X1)) (va_runV (As := [.int (xs (nI i + 1).toNatClampNeg)]) (rest := [.int r]) ⟨hx, hb, hml, hown, hts⟩ (ky_errorCount l D cI cM cJ _ h2 sa pa eb na f hs Y (xs (nI i + 1).toNatClampNeg)) (cwV 1 hts gL_law_X4_errorCount rfl rfl rfl (by decide +kernel) ⟨Nat.le_of_ble_eq_true rfl, Nat.le_of_ble_eq_true rfl⟩) (kp_preV (q := (RX4, TX4, 9)) (wc := (tk_yw cI cJ h2 sa pa eb na f hs Y)) (wr := (tk_xw cI cM h er tr sv a t1 AD1 X1)) hN hK hP hD 0 rfl rfl) rfl rfl hl.1 rfl (lv_room (Nat.le_of_ble_eq_true rfl)) dL_law_740 ⟨Nat.le_of_ble_eq_true rfl, Nat.le_of_ble_eq_true rfl⟩) hP hD hS hA (fun r2 u2 H locs pr2 hP hD hS => ?_)
  obtain ⟨Y1, f1, hs1⟩ := u2
  obtain ⟨pr2, hY1⟩ := pr2
  have hY1 : Y1 = _ := hY1
  replace hP := va_swapP (v := (tk_yw cI cJ h2 sa pa eb na f1 hs1 Y1)) (w := (tk_xw cI cM h er tr sv a t1 AD1 X1)) hP
  replace hD := va_swapD (v := (tk_yw cI cJ h2 sa pa eb na f1 hs1 Y1)) (w := (tk_xw cI cM h er tr sv a t1 AD1 X1)) hD
  have hsim := sim_errorCount hR (xs (nI i + 1).toNatClampNeg)
  have he : r = r2 := by rw [pr, pr2]; exact hsim.1
  have hR1 : RX X1 Y1 := by rw [hX1, hY1]; exact hsim.2
  refine lv_icmp_eq (tgt := 762) hx hb dL_law_743 (by decide) (fun _ => kk _ _ ⟨X1, Y1, t1, AD1, f1, hs1, hR1, hP, hD, hS⟩) (fun c9 => absurd he c9)
set_option maxHeartbeats 1000000 in
set_option maxRecDepth 100000 in
theorem lc_digest {p : Program} {l : Launch} {e : Env} {s : State} {m : MethodId} {below : List Frame} {meth : Method} {c : Code} {b L : Nat} {xs : Nat → Int32} {D : va_G} {cI cM cJ : ClassId} {h er tr sv : Nat} {a : Nat → Nat} {h2 sa pa eb na i : Nat} {H : Heap} {locs : List Loc} {ls : Array Slot} {Q : State → Prop} (C0 : lw_At p s m meth c b L xs) (hL : L ≤ 2560) (hN : NX s) (hK : va_K D vwCl (tk_T cI cM cJ) s) (hi : i + 5 ≤ L) (hl : lv_has ls 4 [(0, .ref b), (1, .ref h), (2, .ref h2), (3, .int (nI i))]) (hW : LW D cI cM cJ s h er tr sv a h2 sa pa eb na H locs)
    (kk : ∀ (H : Heap) (locs : List Loc), LW D cI cM cJ s h er tr sv a h2 sa pa eb na H locs → W p l e room_1 s m #[Value.ref b] below meth c H locs 44 777 Q (F0 m 762 ls [])) : W p l e room_1 s m #[Value.ref b] below meth c H locs 44 777 Q (F0 m 748 ls []) := by
  have hts := k_law_tbl C0
  obtain ⟨hx, hb, hr, hml, hown, -, hX, hbl, hlocks, hgv⟩ := C0
  have hA : ∀ q : Nat, s.heap.size ≤ q → (fun q : Nat => s.heap.size ≤ q) q := fun _ h => h
  have hbA : ¬ (fun q : Nat => s.heap.size ≤ q) b := Nat.not_le.mpr hbl
  obtain ⟨X, Y, t, AD, f, hs, hR, hP, hD, hS⟩ := hW
  obtain ⟨y1, y2, y3, y4, y5, y6, y7, hE⟩ := hR.yh f
  refine lv_aload_n hx hb dL_law_748 rfl (lv_at hl 1 rfl) ?_
  refine kc_l (wc := (tk_xw cI cM h er tr sv a t AD X)) (wr := (tk_yw cI cJ h2 sa pa eb na f hs Y)) (va_runV (As := []) (rest := []) ⟨hx, hb, hml, hown, hts⟩ (kx_digest l D cI cM cJ _ h er tr sv a t AD X hR.2.2.2.2.1.1) (cwV 0 hts gL_law_X3_digest rfl rfl rfl (by decide +kernel) ⟨Nat.le_of_ble_eq_true rfl, Nat.le_of_ble_eq_true rfl⟩) (kp_preV (q := (RX3, TX3, 5)) (wc := (tk_xw cI cM h er tr sv a t AD X)) (wr := (tk_yw cI cJ h2 sa pa eb na f hs Y)) hN hK hP hD 0 rfl rfl) rfl rfl hl.1 rfl (lv_room (Nat.le_of_ble_eq_true rfl)) dL_law_749 ⟨Nat.le_of_ble_eq_true rfl, Nat.le_of_ble_eq_true rfl⟩) hP hD hS hA (fun r u H locs pr hP hD hS => ?_)
  have pr : r = _ := pr
  replace hP := va_swapP (v := (tk_xw cI cM h er tr sv a t AD X)) (w := (tk_yw cI cJ h2 sa pa eb na f hs Y)) hP
  replace hD := va_swapD (v := (tk_xw cI cM h er tr sv a t AD X)) (w := (tk_yw cI cJ h2 sa pa eb na f hs Y)) hD
  refine lv_aload_n hx hb dL_law_752 rfl (lv_at hl 2 rfl) ?_
  refine kc_l (wc := (tk_yw cI cJ h2 sa pa eb na f hs Y)) (wr := (tk_xw cI cM h er tr sv a t AD X)) (va_runV (As := []) (rest := [.long r]) ⟨hx, hb, hml, hown, hts⟩ (ky_digest l D cI cM cJ _ h2 sa pa eb na f hs Y X.2.2.1.2.2.2.2.2.2.2.2.2.2.2 y2 y3) (cwV 0 hts gL_law_X4_digest rfl rfl rfl (by decide +kernel) ⟨Nat.le_of_ble_eq_true rfl, Nat.le_of_ble_eq_true rfl⟩) (kp_preV (q := (RX4, TX4, 9)) (wc := (tk_yw cI cJ h2 sa pa eb na f hs Y)) (wr := (tk_xw cI cM h er tr sv a t AD X)) hN hK hP hD 0 rfl rfl) rfl rfl hl.1 rfl (lv_room (Nat.le_of_ble_eq_true rfl)) dL_law_753 ⟨Nat.le_of_ble_eq_true rfl, Nat.le_of_ble_eq_true rfl⟩) hP hD hS hA (fun r2 u2 H locs pr2 hP hD hS => ?_)
  have pr2 : r2 = _ := pr2
  replace hP := va_swapP (v := (tk_yw cI cJ h2 sa pa eb na f (yf_digest Y X.2.2.1.2.2.2.2.2.2.2.2.2.2.2) Y)) (w := (tk_xw cI cM h er tr sv a t AD X)) hP
  replace hD := va_swapD (v := (tk_yw cI cJ h2 sa pa eb na f (yf_digest Y X.2.2.1.2.2.2.2.2.2.2.2.2.2.2) Y)) (w := (tk_xw cI cM h er tr sv a t AD X)) hD
  have he : r = r2 := by rw [pr, pr2]; exact sim_digest hR
  refine W.lcmp hx hb dL_law_756 ?_
  subst he
  refine lv_if_eq (tgt := 762) hx hb dL_law_757 (by decide) (fun _ => kk _ _ ⟨X, Y, t, AD, f, _, hR, hP, hD, hS⟩) (fun c9 => absurd (by simp [lg_cmp]) c9)
