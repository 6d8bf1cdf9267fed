theorem tk_nz {y : Int64} (h : 0 < y) : ¬ y = 0 := fun z => by subst z; exact absurd h (by decide)
theorem tk_nge {x : Int64} (h : ¬ 0 ≤ x) : x < 0 := by
  rw [Int64.le_iff_toInt_le] at h
  rw [Int64.lt_iff_toInt_lt]
  omega
theorem tk_half {b : Int64} (h : 0 < b) : tk_dn b 2 = b / 2 := tk_dn_p (by decide) (by
  rw [Int64.lt_iff_toInt_lt] at h
  rw [Int64.le_iff_toInt_le]
  omega)
theorem tk_nl {a b : Int32} : ¬ b < a ↔ a ≤ b := by
  rw [Int32.lt_iff_toInt_lt, Int32.le_iff_toInt_le]
  omega
theorem tk_nl2 {a b : Int32} : ¬ a ≤ b ↔ b < a := by
  rw [Int32.lt_iff_toInt_lt, Int32.le_iff_toInt_le]
  omega
theorem tk_rng_t {lo hi v : Int32} (h1 : ¬ v < lo) (h2 : ¬ hi < v) : tk_rng lo hi v := ⟨tk_nl.mp h1, tk_nl.mp h2⟩
theorem tk_rng_1 {lo hi v : Int32} (h : v < lo) : ¬ tk_rng lo hi v := fun z => tk_nl.mpr z.1 h
theorem tk_rng_2 {lo hi v : Int32} (h : hi < v) : ¬ tk_rng lo hi v := fun z => tk_nl.mpr z.2 h
set_option maxHeartbeats 4000000 in
set_option maxRecDepth 100000 in
/-- Math.floorDiv, for a divisor above 0 -/
theorem k_J9_floorDiv_f86c9 (l : Launch) (D : va_G) (cI cM cJ : ClassId) (sz : Nat) (x y : Int64) (hy : 0 < y) : Met l yJ9_floorDiv_f86c9 wsJ9_floorDiv_f86c9 ({ frames := 0, cells := 0, slots := 0, locals := 0 }) (va_Pc [.long x, .long y] (KP D (tk_T cI cM cJ) ([]) sz)) (va_Ql (fun (r : Int64) (u : Unit) => r = tk_dn x y) (fun u zt => KB D ([]) ([]) sz zt) (va_A ([]) sz)) 0 0 (va_A ([]) sz) := by
  refine kw_ofW (cc := cJ9_floorDiv_f86c9) (maxL := 6) (ret := (some .long)) (by decide +kernel) rfl ?_
  intro zp ze zs zm zargs zbelow zmeth zc zs1 B hml hv
  obtain ⟨rfl, hsz, hP, hK, hD0, hN⟩ := hv
  have hx := B.exec
  have hb := B.bytes
  have hr := B.returns
  have hts := atoms_spec (ws := wsJ9_floorDiv_f86c9) B.pre
  have hm : ∀ (i : Nat) (w : Cond), wsJ9_floorDiv_f86c9[i]? = some w → w.before _ zs = true := fun i w h => hts w (List.mem_of_getElem? h)
  have hown : zs.vm.findClass RJ9 = some zm.cls := findClass_of_methodNamed B.named
  have hlocks := B.notSynchronized
  subst hsz
  have hD := hD0.self (sz := zs.heap.size)
  generalize hAe : va_A ([]) zs.heap.size = A at hD ⊢
  have hA : ∀ q : Nat, zs.heap.size ≤ q → A q := fun q h => by rw [← hAe]; exact Or.inr h
  have hS : va_S A zs.heap zs.heap [] := va_S.rf
  have hP : va_P D vwCl ([]) zs.heap := hP
  have hl := lv_entry ([.long x, .long y]) (n := 6) (Nat.le_of_ble_eq_true rfl)
  rw [lg_entry_eq]
  generalize (lg_sl ([.long x, .long y]) ++ List.replicate (6 - (lg_sl ([.long x, .long y])).length) Slot.unset).toArray = ls at hl ⊢
  have hl : lv_has ls 6 [(0, .long x), (2, .long y)] := hl
  refine lv_lload_n hx hb dJ9_floorDiv_f86c9_0 rfl (lv_at hl 0 rfl) ?_
  refine lv_lload_n hx hb dJ9_floorDiv_f86c9_1 rfl (lv_at hl 1 rfl) ?_
  refine lv_ldiv hx hb dJ9_floorDiv_f86c9_2 (tk_nz hy) ?_
  refine lv_lstore (lv' := [(4, .long (x / y)), (0, .long x), (2, .long y)]) hx hb dJ9_floorDiv_f86c9_3 hl (by decide) rfl (fun ls hl => ?_)
  refine lv_lload_n hx hb dJ9_floorDiv_f86c9_5 rfl (lv_at hl 1 rfl) ?_
  refine lv_lload_n hx hb dJ9_floorDiv_f86c9_6 rfl (lv_at hl 2 rfl) ?_
  refine lv_lxor hx hb dJ9_floorDiv_f86c9_7 ?_
  refine lv_lconst (v := 0) hx hb dJ9_floorDiv_f86c9_8 (by decide) ?_
  refine W.lcmp hx hb dJ9_floorDiv_f86c9_9 ?_
  refine lv_if_ge (tgt := 27) hx hb dJ9_floorDiv_f86c9_10 (by decide) (fun c_1 => ?_) (fun c_1 => ?_)
  · have c_1 := (lg_cmp_ge _ _).mp c_1
    refine lv_lload hx hb dJ9_floorDiv_f86c9_27 (lv_at hl 0 rfl) ?_
    exact W.lret (v := x / y) hx hb hr (fun zt ht hW => ⟨⟨x / y, (), rfl, tk_fd_a hy c_1, KB.of hAe (by rw [ht]; exact hP) hD⟩, hS.F ht⟩) hS.2.2 dJ9_floorDiv_f86c9_29
  · have c_1 := mt (lg_cmp_ge _ _).mpr c_1
    refine lv_lload hx hb dJ9_floorDiv_f86c9_13 (lv_at hl 0 rfl) ?_
    refine lv_lload_n hx hb dJ9_floorDiv_f86c9_15 rfl (lv_at hl 2 rfl) ?_
    refine lv_lmul hx hb dJ9_floorDiv_f86c9_16 ?_
    refine lv_lload_n hx hb dJ9_floorDiv_f86c9_17 rfl (lv_at hl 1 rfl) ?_
    refine W.lcmp hx hb dJ9_floorDiv_f86c9_18 ?_
    refine lv_if_eq (tgt := 27) hx hb dJ9_floorDiv_f86c9_19 (by decide) (fun c_2 => ?_) (fun c_2 => ?_)
    · have c_2 := (lg_cmp_eq _ _).mp c_2
      refine lv_lload hx hb dJ9_floorDiv_f86c9_27 (lv_at hl 0 rfl) ?_
      exact W.lret (v := x / y) hx hb hr (fun zt ht hW => ⟨⟨x / y, (), rfl, tk_fd_b c_2, KB.of hAe (by rw [ht]; exact hP) hD⟩, hS.F ht⟩) hS.2.2 dJ9_floorDiv_f86c9_29
    · have c_2 := mt (lg_cmp_eq _ _).mpr c_2
      refine lv_lload hx hb dJ9_floorDiv_f86c9_22 (lv_at hl 0 rfl) ?_
      refine lv_lconst (v := 1) hx hb dJ9_floorDiv_f86c9_24 (by decide) ?_
      refine lv_lsub hx hb dJ9_floorDiv_f86c9_25 ?_
      exact W.lret (v := (x / y) - 1) hx hb hr (fun zt ht hW => ⟨⟨(x / y) - 1, (), rfl, tk_fd_c hy (tk_nge c_1) c_2, KB.of hAe (by rw [ht]; exact hP) hD⟩, hS.F ht⟩) hS.2.2 dJ9_floorDiv_f86c9_26

set_option maxHeartbeats 4000000 in
set_option maxRecDepth 100000 in
/-- times -/
theorem k_X3_times (l : Launch) (D : va_G) (cI cM cJ : ClassId) (sz : Nat) (x y : Int64) : Met l yX3_times wsX3_times ({ frames := 1, cells := 0, slots := 0, locals := 25 }) (va_Pc [.long x, .long y] (KP D (tk_T cI cM cJ) ([]) sz)) (va_Ql (fun (r : Int64) (u : Unit) => r = tk_mul x y) (fun u zt => KB D ([]) ([]) sz zt) (va_A ([]) sz)) 0 0 (va_A ([]) sz) := by
  refine Met.ofW (cc := cX3_times) (maxL := 4) (ret := (some .long)) (by decide) rfl ?_
  intro zp ze zs zm zargs zbelow zmeth zc zs1 B hml hv
  obtain ⟨rfl, hsz, hP, hK, hD0, hN⟩ := hv
  have hx := B.exec
  have hb := B.bytes
  have hr := B.returns
  have hts := atoms_spec (ws := wsX3_times) B.pre
  have hm : ∀ (i : Nat) (w : Cond), wsX3_times[i]? = some w → w.before _ zs = true := fun i w h => hts w (List.mem_of_getElem? h)
  have hown : zs.vm.findClass RX3 = some zm.cls := findClass_of_methodNamed B.named
  have hlocks := B.notSynchronized
  subst hsz
  have hD := hD0.self (sz := zs.heap.size)
  generalize hAe : va_A ([]) zs.heap.size = A at hD ⊢
  have hA : ∀ q : Nat, zs.heap.size ≤ q → A q := fun q h => by rw [← hAe]; exact Or.inr h
  have hS : va_S A zs.heap zs.heap [] := va_S.rf
  have hP : va_P D vwCl ([]) zs.heap := hP
  have hl := lv_entry ([.long x, .long y]) (n := 4) (Nat.le_of_ble_eq_true rfl)
  rw [lg_entry_eq]
  generalize (lg_sl ([.long x, .long y]) ++ List.replicate (4 - (lg_sl ([.long x, .long y])).length) Slot.unset).toArray = ls at hl ⊢
  have hl : lv_has ls 4 [(0, .long x), (2, .long y)] := hl
  refine lv_lload_n hx hb dX3_times_0 rfl (lv_at hl 0 rfl) ?_
  refine lv_lload_n hx hb dX3_times_1 rfl (lv_at hl 1 rfl) ?_
  refine lv_lmul hx hb dX3_times_2 ?_
  refine lv_ldc2 (v := 2048) hx hb hown (hm 1 (.constantLong RX3 178 (2048)) rfl) dX3_times_3 ?_
  refine lv_ladd hx hb dX3_times_6 ?_
  refine lv_ldc2 (v := 4096) hx hb hown (hm 2 (.constantLong RX3 180 (4096)) rfl) dX3_times_7 ?_
  refine kc_l (wc := []) (wr := []) (va_runS (As := [.long ((x * y) + 2048), .long 4096]) (rest := []) ⟨hx, hb, hml, hown, hts⟩ (k_J9_floorDiv_f86c9 l D cI cM cJ _ ((x * y) + 2048) 4096 (by decide)) (va_cwS 2 hts gX3_times_J9_floorDiv_f86c9 rfl rfl rfl (by decide +kernel) ⟨Nat.le_of_ble_eq_true rfl, Nat.le_of_ble_eq_true rfl⟩) (kp_preS (wc := []) (wr := []) hN hK hP hD) rfl rfl hl.1 rfl (lv_room (Nat.le_of_ble_eq_true rfl)) dX3_times_10 ⟨Nat.le_of_ble_eq_true rfl, Nat.le_of_ble_eq_true rfl⟩) hP hD hS hA (fun r_1 u_1 H locs p_1 hP hD hS => ?_)
  obtain rfl : r_1 = tk_dn ((x * y) + 2048) 4096 := p_1
  have hP : va_P D vwCl ([]) H := hP
  have hD : va_D A ([]) := hD
  exact W.lret (v := tk_dn ((x * y) + 2048) 4096) hx hb hr (fun zt ht hW => ⟨⟨tk_dn ((x * y) + 2048) 4096, (), rfl, rfl, KB.of hAe (by rw [ht]; exact hP) hD⟩, hS.F ht⟩) hS.2.2 dX3_times_13

set_option maxHeartbeats 4000000 in
set_option maxRecDepth 100000 in
/-- dividedBy -/
theorem k_X3_dividedBy (l : Launch) (D : va_G) (cI cM cJ : ClassId) (sz : Nat) (x y : Int64) (hy : 0 < y) : Met l yX3_dividedBy wsX3_dividedBy ({ frames := 1, cells := 0, slots := 0, locals := 25 }) (va_Pc [.long x, .long y] (KP D (tk_T cI cM cJ) ([]) sz)) (va_Ql (fun (r : Int64) (u : Unit) => r = tk_div x y) (fun u zt => KB D ([]) ([]) sz zt) (va_A ([]) sz)) 0 0 (va_A ([]) sz) := by
  refine Met.ofW (cc := cX3_dividedBy) (maxL := 4) (ret := (some .long)) (by decide) rfl ?_
  intro zp ze zs zm zargs zbelow zmeth zc zs1 B hml hv
  obtain ⟨rfl, hsz, hP, hK, hD0, hN⟩ := hv
  have hx := B.exec
  have hb := B.bytes
  have hr := B.returns
  have hts := atoms_spec (ws := wsX3_dividedBy) B.pre
  have hm : ∀ (i : Nat) (w : Cond), wsX3_dividedBy[i]? = some w → w.before _ zs = true := fun i w h => hts w (List.mem_of_getElem? h)
  have hown : zs.vm.findClass RX3 = some zm.cls := findClass_of_methodNamed B.named
  have hlocks := B.notSynchronized
  subst hsz
  have hD := hD0.self (sz := zs.heap.size)
  generalize hAe : va_A ([]) zs.heap.size = A at hD ⊢
  have hA : ∀ q : Nat, zs.heap.size ≤ q → A q := fun q h => by rw [← hAe]; exact Or.inr h
  have hS : va_S A zs.heap zs.heap [] := va_S.rf
  have hP : va_P D vwCl ([]) zs.heap := hP
  have hl := lv_entry ([.long x, .long y]) (n := 4) (Nat.le_of_ble_eq_true rfl)
  rw [lg_entry_eq]
  generalize (lg_sl ([.long x, .long y]) ++ List.replicate (4 - (lg_sl ([.long x, .long y])).length) Slot.unset).toArray = ls at hl ⊢
  have hl : lv_has ls 4 [(0, .long x), (2, .long y)] := hl
  refine lv_lload_n hx hb dX3_dividedBy_0 rfl (lv_at hl 1 rfl) ?_
  refine lv_lconst (v := 0) hx hb dX3_dividedBy_1 (by decide) ?_
  refine W.lcmp hx hb dX3_dividedBy_2 ?_
  refine lv_if_gt (tgt := 8) hx hb dX3_dividedBy_3 (by decide) (fun c_1 => ?_) (fun c_1 => ?_)
  · have c_1 := (lg_cmp_gt _ _).mp c_1
    skip
    refine lv_lload_n hx hb dX3_dividedBy_8 rfl (lv_at hl 0 rfl) ?_
    refine lv_ldc2 (v := 4096) hx hb hown (hm 1 (.constantLong RX3 180 (4096)) rfl) dX3_dividedBy_9 ?_
    refine lv_lmul hx hb dX3_dividedBy_12 ?_
    refine lv_lload_n hx hb dX3_dividedBy_13 rfl (lv_at hl 1 rfl) ?_
    refine lv_ldc2 (v := 2) hx hb hown (hm 2 (.constantLong RX3 187 (2)) rfl) dX3_dividedBy_14 ?_
    refine lv_ldiv hx hb dX3_dividedBy_17 (by decide) ?_
    refine lv_ladd hx hb dX3_dividedBy_18 ?_
    refine lv_lload_n hx hb dX3_dividedBy_19 rfl (lv_at hl 1 rfl) ?_
    refine kc_l (wc := []) (wr := []) (va_runS (As := [.long ((x * 4096) + (y / 2)), .long y]) (rest := []) ⟨hx, hb, hml, hown, hts⟩ (k_J9_floorDiv_f86c9 l D cI cM cJ _ ((x * 4096) + (y / 2)) y (hy)) (va_cwS 2 hts gX3_dividedBy_J9_floorDiv_f86c9 rfl rfl rfl (by decide +kernel) ⟨Nat.le_of_ble_eq_true rfl, Nat.le_of_ble_eq_true rfl⟩) (kp_preS (wc := []) (wr := []) hN hK hP hD) rfl rfl hl.1 rfl (lv_room (Nat.le_of_ble_eq_true rfl)) dX3_dividedBy_20 ⟨Nat.le_of_ble_eq_true rfl, Nat.le_of_ble_eq_true rfl⟩) hP hD hS hA (fun r_2 u_2 H locs p_2 hP hD hS => ?_)
    obtain rfl : r_2 = tk_dn ((x * 4096) + (y / 2)) y := p_2
    have hP : va_P D vwCl ([]) H := hP
    have hD : va_D A ([]) := hD
    exact W.lret (v := tk_dn ((x * 4096) + (y / 2)) y) hx hb hr (fun zt ht hW => ⟨⟨tk_dn ((x * 4096) + (y / 2)) y, (), rfl, by rw [tk_div, tk_half hy], KB.of hAe (by rw [ht]; exact hP) hD⟩, hS.F ht⟩) hS.2.2 dX3_dividedBy_23
  · have c_1 := mt (lg_cmp_gt _ _).mpr c_1
    exact absurd hy c_1

set_option maxHeartbeats 4000000 in
set_option maxRecDepth 100000 in
/-- mix -/
theorem k_X3_mix (l : Launch) (D : va_G) (cI cM cJ : ClassId) (sz : Nat) (h v : Int64) : Met l yX3_mix wsX3_mix ({ frames := 0, cells := 0, slots := 0, locals := 0 }) (va_Pc [.long h, .long v] (KP D (tk_T cI cM cJ) ([]) sz)) (va_Ql (fun (r : Int64) (u : Unit) => r = tk_h h v) (fun u zt => KB D ([]) ([]) sz zt) (va_A ([]) sz)) 0 0 (va_A ([]) sz) := by
  refine Met.ofW (cc := cX3_mix) (maxL := 4) (ret := (some .long)) (by decide) rfl ?_
  intro zp ze zs zm zargs zbelow zmeth zc zs1 B hml hv
  obtain ⟨rfl, hsz, hP, hK, hD0, hN⟩ := hv
  have hx := B.exec
  have hb := B.bytes
  have hr := B.returns
  have hts := atoms_spec (ws := wsX3_mix) B.pre
  have hm : ∀ (i : Nat) (w : Cond), wsX3_mix[i]? = some w → w.before _ zs = true := fun i w h => hts w (List.mem_of_getElem? h)
  have hown : zs.vm.findClass RX3 = some zm.cls := findClass_of_methodNamed B.named
  have hlocks := B.notSynchronized
  subst hsz
  have hD := hD0.self (sz := zs.heap.size)
  generalize hAe : va_A ([]) zs.heap.size = A at hD ⊢
  have hA : ∀ q : Nat, zs.heap.size ≤ q → A q := fun q h => by rw [← hAe]; exact Or.inr h
  have hS : va_S A zs.heap zs.heap [] := va_S.rf
  have hP : va_P D vwCl ([]) zs.heap := hP
  have hl := lv_entry ([.long h, .long v]) (n := 4) (Nat.le_of_ble_eq_true rfl)
  rw [lg_entry_eq]
  generalize (lg_sl ([.long h, .long v]) ++ List.replicate (4 - (lg_sl ([.long h, .long v])).length) Slot.unset).toArray = ls at hl ⊢
  have hl : lv_has ls 4 [(0, .long h), (2, .long v)] := hl
  refine lv_ldc2 (v := 31) hx hb hown (hm 1 (.constantLong RX3 189 (31)) rfl) dX3_mix_0 ?_
  refine lv_lload_n hx hb dX3_mix_3 rfl (lv_at hl 0 rfl) ?_
  refine lv_lmul hx hb dX3_mix_4 ?_
  refine lv_lload_n hx hb dX3_mix_5 rfl (lv_at hl 1 rfl) ?_
  refine lv_ladd hx hb dX3_mix_6 ?_
  exact W.lret (v := (31 * h) + v) hx hb hr (fun zt ht hW => ⟨⟨(31 * h) + v, (), rfl, rfl, KB.of hAe (by rw [ht]; exact hP) hD⟩, hS.F ht⟩) hS.2.2 dX3_mix_7

set_option maxHeartbeats 4000000 in
set_option maxRecDepth 100000 in
/-- in the limit -/
theorem k_X3_isInLimit (l : Launch) (D : va_G) (cI cM cJ : ClassId) (sz : Nat) (x : Int64) : Met l yX3_isInLimit wsX3_isInLimit ({ frames := 0, cells := 0, slots := 0, locals := 0 }) (va_Pc [.long x] (KP D (tk_T cI cM cJ) ([]) sz)) (va_Qi (fun (r : Int32) (u : Unit) => (tk_in x = true ∧ r = 1) ∨ (tk_in x = false ∧ r = 0)) (fun u zt => KB D ([]) ([]) sz zt) (va_A ([]) sz)) 0 0 (va_A ([]) sz) := by
  refine Met.ofW (cc := cX3_isInLimit) (maxL := 2) (ret := (some .boolean)) (by decide) rfl ?_
  intro zp ze zs zm zargs zbelow zmeth zc zs1 B hml hv
  obtain ⟨rfl, hsz, hP, hK, hD0, hN⟩ := hv
  have hx := B.exec
  have hb := B.bytes
  have hr := B.returns
  have hts := atoms_spec (ws := wsX3_isInLimit) B.pre
  have hm : ∀ (i : Nat) (w : Cond), wsX3_isInLimit[i]? = some w → w.before _ zs = true := fun i w h => hts w (List.mem_of_getElem? h)
  have hown : zs.vm.findClass RX3 = some zm.cls := findClass_of_methodNamed B.named
  have hlocks := B.notSynchronized
  subst hsz
  have hD := hD0.self (sz := zs.heap.size)
  generalize hAe : va_A ([]) zs.heap.size = A at hD ⊢
  have hA : ∀ q : Nat, zs.heap.size ≤ q → A q := fun q h => by rw [← hAe]; exact Or.inr h
  have hS : va_S A zs.heap zs.heap [] := va_S.rf
  have hP : va_P D vwCl ([]) zs.heap := hP
  have hl := lv_entry ([.long x]) (n := 2) (Nat.le_of_ble_eq_true rfl)
  rw [lg_entry_eq]
  generalize (lg_sl ([.long x]) ++ List.replicate (2 - (lg_sl ([.long x])).length) Slot.unset).toArray = ls at hl ⊢
  have hl : lv_has ls 2 [(0, .long x)] := hl
  refine lv_lload_n hx hb dX3_isInLimit_0 rfl (lv_at hl 0 rfl) ?_
  refine lv_ldc2 (v := -1000000000) hx hb hown (hm 1 (.constantLong RX3 174 (-1000000000)) rfl) dX3_isInLimit_1 ?_
  refine W.lcmp hx hb dX3_isInLimit_4 ?_
  refine lv_if_lt (tgt := 20) hx hb dX3_isInLimit_5 (by decide) (fun c_1 => ?_) (fun c_1 => ?_)
  · have c_1 := (lg_cmp_lt _ _).mp c_1
    refine lv_iconst (v := 0) hx hb dX3_isInLimit_20 (by decide) ?_
    exact W.zret (v := 0) hx hb hr rfl (fun zt ht hW => ⟨⟨0, (), rfl, Or.inr ⟨tk_in_f1 c_1, rfl⟩, KB.of hAe (by rw [ht]; exact hP) hD⟩, hS.F ht⟩) hS.2.2 dX3_isInLimit_21
  · have c_1 := mt (lg_cmp_lt _ _).mpr c_1
    refine lv_lload_n hx hb dX3_isInLimit_8 rfl (lv_at hl 0 rfl) ?_
    refine lv_ldc2 (v := 1000000000) hx hb hown (hm 2 (.constantLong RX3 176 (1000000000)) rfl) dX3_isInLimit_9 ?_
    refine W.lcmp hx hb dX3_isInLimit_12 ?_
    refine lv_if_gt (tgt := 20) hx hb dX3_isInLimit_13 (by decide) (fun c_2 => ?_) (fun c_2 => ?_)
    · have c_2 := (lg_cmp_gt _ _).mp c_2
      refine lv_iconst (v := 0) hx hb dX3_isInLimit_20 (by decide) ?_
      exact W.zret (v := 0) hx hb hr rfl (fun zt ht hW => ⟨⟨0, (), rfl, Or.inr ⟨tk_in_f2 c_2, rfl⟩, KB.of hAe (by rw [ht]; exact hP) hD⟩, hS.F ht⟩) hS.2.2 dX3_isInLimit_21
    · have c_2 := mt (lg_cmp_gt _ _).mpr c_2
      refine lv_iconst (v := 1) hx hb dX3_isInLimit_16 (by decide) ?_
      refine lv_goto (tgt := 21) hx hb dX3_isInLimit_17 (by decide) ?_
      exact W.zret (v := 1) hx hb hr rfl (fun zt ht hW => ⟨⟨1, (), rfl, Or.inl ⟨tk_in_t c_1 c_2, rfl⟩, KB.of hAe (by rw [ht]; exact hP) hD⟩, hS.F ht⟩) hS.2.2 dX3_isInLimit_21

set_option maxHeartbeats 4000000 in
set_option maxRecDepth 100000 in
/-- in the limit -/
theorem k_X4_isIn (l : Launch) (D : va_G) (cI cM cJ : ClassId) (sz : Nat) (x : Int64) : Met l yX4_isIn wsX4_isIn ({ frames := 0, cells := 0, slots := 0, locals := 0 }) (va_Pc [.long x] (KP D (tk_T cI cM cJ) ([]) sz)) (va_Qi (fun (r : Int32) (u : Unit) => (tk_in x = true ∧ r = 1) ∨ (tk_in x = false ∧ r = 0)) (fun u zt => KB D ([]) ([]) sz zt) (va_A ([]) sz)) 0 0 (va_A ([]) sz) := by
  refine Met.ofW (cc := cX4_isIn) (maxL := 2) (ret := (some .boolean)) (by decide) rfl ?_
  intro zp ze zs zm zargs zbelow zmeth zc zs1 B hml hv
  obtain ⟨rfl, hsz, hP, hK, hD0, hN⟩ := hv
  have hx := B.exec
  have hb := B.bytes
  have hr := B.returns
  have hts := atoms_spec (ws := wsX4_isIn) B.pre
  have hm : ∀ (i : Nat) (w : Cond), wsX4_isIn[i]? = some w → w.before _ zs = true := fun i w h => hts w (List.mem_of_getElem? h)
  have hown : zs.vm.findClass RX4 = some zm.cls := findClass_of_methodNamed B.named
  have hlocks := B.notSynchronized
  subst hsz
  have hD := hD0.self (sz := zs.heap.size)
  generalize hAe : va_A ([]) zs.heap.size = A at hD ⊢
  have hA : ∀ q : Nat, zs.heap.size ≤ q → A q := fun q h => by rw [← hAe]; exact Or.inr h
  have hS : va_S A zs.heap zs.heap [] := va_S.rf
  have hP : va_P D vwCl ([]) zs.heap := hP
  have hl := lv_entry ([.long x]) (n := 2) (Nat.le_of_ble_eq_true rfl)
  rw [lg_entry_eq]
  generalize (lg_sl ([.long x]) ++ List.replicate (2 - (lg_sl ([.long x])).length) Slot.unset).toArray = ls at hl ⊢
  have hl : lv_has ls 2 [(0, .long x)] := hl
  refine lv_lload_n hx hb dX4_isIn_0 rfl (lv_at hl 0 rfl) ?_
  refine lv_ldc2 (v := -1000000000) hx hb hown (hm 1 (.constantLong RX4 42 (-1000000000)) rfl) dX4_isIn_1 ?_
  refine W.lcmp hx hb dX4_isIn_4 ?_
  refine lv_if_lt (tgt := 20) hx hb dX4_isIn_5 (by decide) (fun c_1 => ?_) (fun c_1 => ?_)
  · have c_1 := (lg_cmp_lt _ _).mp c_1
    refine lv_iconst (v := 0) hx hb dX4_isIn_20 (by decide) ?_
    exact W.zret (v := 0) hx hb hr rfl (fun zt ht hW => ⟨⟨0, (), rfl, Or.inr ⟨tk_in_f1 c_1, rfl⟩, KB.of hAe (by rw [ht]; exact hP) hD⟩, hS.F ht⟩) hS.2.2 dX4_isIn_21
  · have c_1 := mt (lg_cmp_lt _ _).mpr c_1
    refine lv_lload_n hx hb dX4_isIn_8 rfl (lv_at hl 0 rfl) ?_
    refine lv_ldc2 (v := 1000000000) hx hb hown (hm 2 (.constantLong RX4 44 (1000000000)) rfl) dX4_isIn_9 ?_
    refine W.lcmp hx hb dX4_isIn_12 ?_
    refine lv_if_gt (tgt := 20) hx hb dX4_isIn_13 (by decide) (fun c_2 => ?_) (fun c_2 => ?_)
    · have c_2 := (lg_cmp_gt _ _).mp c_2
      refine lv_iconst (v := 0) hx hb dX4_isIn_20 (by decide) ?_
      exact W.zret (v := 0) hx hb hr rfl (fun zt ht hW => ⟨⟨0, (), rfl, Or.inr ⟨tk_in_f2 c_2, rfl⟩, KB.of hAe (by rw [ht]; exact hP) hD⟩, hS.F ht⟩) hS.2.2 dX4_isIn_21
    · have c_2 := mt (lg_cmp_gt _ _).mpr c_2
      refine lv_iconst (v := 1) hx hb dX4_isIn_16 (by decide) ?_
      refine lv_goto (tgt := 21) hx hb dX4_isIn_17 (by decide) ?_
      exact W.zret (v := 1) hx hb hr rfl (fun zt ht hW => ⟨⟨1, (), rfl, Or.inl ⟨tk_in_t c_1 c_2, rfl⟩, KB.of hAe (by rw [ht]; exact hP) hD⟩, hS.F ht⟩) hS.2.2 dX4_isIn_21

set_option maxHeartbeats 4000000 in
set_option maxRecDepth 100000 in
/-- in its range -/
theorem k_X3_isOutside (l : Launch) (D : va_G) (cI cM cJ : ClassId) (sz : Nat) (v lo hi : Int32) : Met l yX3_isOutside wsX3_isOutside ({ frames := 0, cells := 0, slots := 0, locals := 0 }) (va_Pc [.int v, .int lo, .int hi] (KP D (tk_T cI cM cJ) ([]) sz)) (va_Qi (fun (r : Int32) (u : Unit) => (¬ tk_rng lo hi v ∧ r = 1) ∨ (tk_rng lo hi v ∧ r = 0)) (fun u zt => KB D ([]) ([]) sz zt) (va_A ([]) sz)) 0 0 (va_A ([]) sz) := by
  refine Met.ofW (cc := cX3_isOutside) (maxL := 3) (ret := (some .boolean)) (by decide) rfl ?_
  intro zp ze zs zm zargs zbelow zmeth zc zs1 B hml hv
  obtain ⟨rfl, hsz, hP, hK, hD0, hN⟩ := hv
  have hx := B.exec
  have hb := B.bytes
  have hr := B.returns
  have hts := atoms_spec (ws := wsX3_isOutside) B.pre
  have hm : ∀ (i : Nat) (w : Cond), wsX3_isOutside[i]? = some w → w.before _ zs = true := fun i w h => hts w (List.mem_of_getElem? h)
  have hown : zs.vm.findClass RX3 = some zm.cls := findClass_of_methodNamed B.named
  have hlocks := B.notSynchronized
  subst hsz
  have hD := hD0.self (sz := zs.heap.size)
  generalize hAe : va_A ([]) zs.heap.size = A at hD ⊢
  have hA : ∀ q : Nat, zs.heap.size ≤ q → A q := fun q h => by rw [← hAe]; exact Or.inr h
  have hS : va_S A zs.heap zs.heap [] := va_S.rf
  have hP : va_P D vwCl ([]) zs.heap := hP
  have hl := lv_entry ([.int v, .int lo, .int hi]) (n := 3) (Nat.le_of_ble_eq_true rfl)
  rw [lg_entry_eq]
  generalize (lg_sl ([.int v, .int lo, .int hi]) ++ List.replicate (3 - (lg_sl ([.int v, .int lo, .int hi])).length) Slot.unset).toArray = ls at hl ⊢
  have hl : lv_has ls 3 [(0, .int v), (1, .int lo), (2, .int hi)] := hl
  refine lv_iload_n hx hb dX3_isOutside_0 rfl (lv_at hl 0 rfl) ?_
  refine lv_iload_n hx hb dX3_isOutside_1 rfl (lv_at hl 1 rfl) ?_
  refine lv_icmp_lt (tgt := 10) hx hb dX3_isOutside_2 (by decide) (fun c_1 => ?_) (fun c_1 => ?_)
  · skip
    refine lv_iconst (v := 1) hx hb dX3_isOutside_10 (by decide) ?_
    refine lv_goto (tgt := 15) hx hb dX3_isOutside_11 (by decide) ?_
    exact W.zret (v := 1) hx hb hr rfl (fun zt ht hW => ⟨⟨1, (), rfl, Or.inl ⟨tk_rng_1 c_1, rfl⟩, KB.of hAe (by rw [ht]; exact hP) hD⟩, hS.F ht⟩) hS.2.2 dX3_isOutside_15
  · skip
    refine lv_iload_n hx hb dX3_isOutside_5 rfl (lv_at hl 0 rfl) ?_
    refine lv_iload_n hx hb dX3_isOutside_6 rfl (lv_at hl 2 rfl) ?_
    refine lv_icmp_le (tgt := 14) hx hb dX3_isOutside_7 (by decide) (fun c_2 => ?_) (fun c_2 => ?_)
    · skip
      refine lv_iconst (v := 0) hx hb dX3_isOutside_14 (by decide) ?_
      exact W.zret (v := 0) hx hb hr rfl (fun zt ht hW => ⟨⟨0, (), rfl, Or.inr ⟨⟨tk_nl.mp c_1, c_2⟩, rfl⟩, KB.of hAe (by rw [ht]; exact hP) hD⟩, hS.F ht⟩) hS.2.2 dX3_isOutside_15
    · skip
      refine lv_iconst (v := 1) hx hb dX3_isOutside_10 (by decide) ?_
      refine lv_goto (tgt := 15) hx hb dX3_isOutside_11 (by decide) ?_
      exact W.zret (v := 1) hx hb hr rfl (fun zt ht hW => ⟨⟨1, (), rfl, Or.inl ⟨fun z => c_2 z.2, rfl⟩, KB.of hAe (by rw [ht]; exact hP) hD⟩, hS.F ht⟩) hS.2.2 dX3_isOutside_15

set_option maxHeartbeats 4000000 in
set_option maxRecDepth 100000 in
/-- in its range -/
theorem k_X4_in (l : Launch) (D : va_G) (cI cM cJ : ClassId) (sz : Nat) (v lo hi : Int32) : Met l yX4_in wsX4_in ({ frames := 0, cells := 0, slots := 0, locals := 0 }) (va_Pc [.int v, .int lo, .int hi] (KP D (tk_T cI cM cJ) ([]) sz)) (va_Qi (fun (r : Int32) (u : Unit) => (tk_rng lo hi v ∧ r = 1) ∨ (¬ tk_rng lo hi v ∧ r = 0)) (fun u zt => KB D ([]) ([]) sz zt) (va_A ([]) sz)) 0 0 (va_A ([]) sz) := by
  refine Met.ofW (cc := cX4_in) (maxL := 3) (ret := (some .boolean)) (by decide) rfl ?_
  intro zp ze zs zm zargs zbelow zmeth zc zs1 B hml hv
  obtain ⟨rfl, hsz, hP, hK, hD0, hN⟩ := hv
  have hx := B.exec
  have hb := B.bytes
  have hr := B.returns
  have hts := atoms_spec (ws := wsX4_in) B.pre
  have hm : ∀ (i : Nat) (w : Cond), wsX4_in[i]? = some w → w.before _ zs = true := fun i w h => hts w (List.mem_of_getElem? h)
  have hown : zs.vm.findClass RX4 = some zm.cls := findClass_of_methodNamed B.named
  have hlocks := B.notSynchronized
  subst hsz
  have hD := hD0.self (sz := zs.heap.size)
  generalize hAe : va_A ([]) zs.heap.size = A at hD ⊢
  have hA : ∀ q : Nat, zs.heap.size ≤ q → A q := fun q h => by rw [← hAe]; exact Or.inr h
  have hS : va_S A zs.heap zs.heap [] := va_S.rf
  have hP : va_P D vwCl ([]) zs.heap := hP
  have hl := lv_entry ([.int v, .int lo, .int hi]) (n := 3) (Nat.le_of_ble_eq_true rfl)
  rw [lg_entry_eq]
  generalize (lg_sl ([.int v, .int lo, .int hi]) ++ List.replicate (3 - (lg_sl ([.int v, .int lo, .int hi])).length) Slot.unset).toArray = ls at hl ⊢
  have hl : lv_has ls 3 [(0, .int v), (1, .int lo), (2, .int hi)] := hl
  refine lv_iload_n hx hb dX4_in_0 rfl (lv_at hl 0 rfl) ?_
  refine lv_iload_n hx hb dX4_in_1 rfl (lv_at hl 1 rfl) ?_
  refine lv_icmp_lt (tgt := 14) hx hb dX4_in_2 (by decide) (fun c_1 => ?_) (fun c_1 => ?_)
  · skip
    refine lv_iconst (v := 0) hx hb dX4_in_14 (by decide) ?_
    exact W.zret (v := 0) hx hb hr rfl (fun zt ht hW => ⟨⟨0, (), rfl, Or.inr ⟨tk_rng_1 c_1, rfl⟩, KB.of hAe (by rw [ht]; exact hP) hD⟩, hS.F ht⟩) hS.2.2 dX4_in_15
  · skip
    refine lv_iload_n hx hb dX4_in_5 rfl (lv_at hl 0 rfl) ?_
    refine lv_iload_n hx hb dX4_in_6 rfl (lv_at hl 2 rfl) ?_
    refine lv_icmp_gt (tgt := 14) hx hb dX4_in_7 (by decide) (fun c_2 => ?_) (fun c_2 => ?_)
    · skip
      refine lv_iconst (v := 0) hx hb dX4_in_14 (by decide) ?_
      exact W.zret (v := 0) hx hb hr rfl (fun zt ht hW => ⟨⟨0, (), rfl, Or.inr ⟨tk_rng_2 c_2, rfl⟩, KB.of hAe (by rw [ht]; exact hP) hD⟩, hS.F ht⟩) hS.2.2 dX4_in_15
    · skip
      refine lv_iconst (v := 1) hx hb dX4_in_10 (by decide) ?_
      refine lv_goto (tgt := 15) hx hb dX4_in_11 (by decide) ?_
      exact W.zret (v := 1) hx hb hr rfl (fun zt ht hW => ⟨⟨1, (), rfl, Or.inl ⟨tk_rng_t c_1 c_2, rfl⟩, KB.of hAe (by rw [ht]; exact hP) hD⟩, hS.F ht⟩) hS.2.2 dX4_in_15

set_option maxHeartbeats 4000000 in
set_option maxRecDepth 100000 in
/-- isSensor -/
theorem k_X3_isSensor (l : Launch) (D : va_G) (cI cM cJ : ClassId) (sz : Nat) (v : Int32) : Met l yX3_isSensor wsX3_isSensor ({ frames := 1, cells := 0, slots := 0, locals := 22 }) (va_Pc [.int v] (KP D (tk_T cI cM cJ) ([]) sz)) (va_Qi (fun (r : Int32) (u : Unit) => (tk_rng 0 3 v ∧ r = 1) ∨ (¬ tk_rng 0 3 v ∧ r = 0)) (fun u zt => KB D ([]) ([]) sz zt) (va_A ([]) sz)) 0 0 (va_A ([]) sz) := by
  refine Met.ofW (cc := cX3_isSensor) (maxL := 1) (ret := (some .boolean)) (by decide) rfl ?_
  intro zp ze zs zm zargs zbelow zmeth zc zs1 B hml hv
  obtain ⟨rfl, hsz, hP, hK, hD0, hN⟩ := hv
  have hx := B.exec
  have hb := B.bytes
  have hr := B.returns
  have hts := atoms_spec (ws := wsX3_isSensor) B.pre
  have hm : ∀ (i : Nat) (w : Cond), wsX3_isSensor[i]? = some w → w.before _ zs = true := fun i w h => hts w (List.mem_of_getElem? h)
  have hown : zs.vm.findClass RX3 = some zm.cls := findClass_of_methodNamed B.named
  have hlocks := B.notSynchronized
  subst hsz
  have hD := hD0.self (sz := zs.heap.size)
  generalize hAe : va_A ([]) zs.heap.size = A at hD ⊢
  have hA : ∀ q : Nat, zs.heap.size ≤ q → A q := fun q h => by rw [← hAe]; exact Or.inr h
  have hS : va_S A zs.heap zs.heap [] := va_S.rf
  have hP : va_P D vwCl ([]) zs.heap := hP
  have hl := lv_entry ([.int v]) (n := 1) (Nat.le_of_ble_eq_true rfl)
  rw [lg_entry_eq]
  generalize (lg_sl ([.int v]) ++ List.replicate (1 - (lg_sl ([.int v])).length) Slot.unset).toArray = ls at hl ⊢
  have hl : lv_has ls 1 [(0, .int v)] := hl
  refine lv_iload_n hx hb dX3_isSensor_0 rfl (lv_at hl 0 rfl) ?_
  refine lv_iconst (v := 0) hx hb dX3_isSensor_1 (by decide) ?_
  refine lv_iconst (v := 3) hx hb dX3_isSensor_2 (by decide) ?_
  refine kc_i (wc := []) (wr := []) (va_runS (As := [.int v, .int 0, .int 3]) (rest := []) ⟨hx, hb, hml, hown, hts⟩ (k_X3_isOutside l D cI cM cJ _ v 0 3) (va_cwS 3 hts gX3_isSensor_X3_isOutside rfl rfl rfl (by decide +kernel) ⟨Nat.le_of_ble_eq_true rfl, Nat.le_of_ble_eq_true rfl⟩) (kp_preS (wc := []) (wr := []) hN hK hP hD) rfl rfl hl.1 rfl (lv_room (Nat.le_of_ble_eq_true rfl)) dX3_isSensor_3 ⟨Nat.le_of_ble_eq_true rfl, Nat.le_of_ble_eq_true rfl⟩) hP hD hS hA (fun r_1 u_1 H locs p_1 hP hD hS => ?_)
  rcases p_1 with ⟨p_1, rfl⟩ | ⟨p_1, rfl⟩
  · have hP : va_P D vwCl ([]) H := hP
    have hD : va_D A ([]) := hD
    refine lv_if_ne (tgt := 13) hx hb dX3_isSensor_6 (by decide) (fun c_2 => ?_) (fun c_2 => ?_)
    · skip
      refine lv_iconst (v := 0) hx hb dX3_isSensor_13 (by decide) ?_
      exact W.zret (v := 0) hx hb hr rfl (fun zt ht hW => ⟨⟨0, (), rfl, Or.inr ⟨p_1, rfl⟩, KB.of hAe (by rw [ht]; exact hP) hD⟩, hS.F ht⟩) hS.2.2 dX3_isSensor_14
    · exact absurd c_2 (by decide)
  · have hP : va_P D vwCl ([]) H := hP
    have hD : va_D A ([]) := hD
    refine lv_if_ne (tgt := 13) hx hb dX3_isSensor_6 (by decide) (fun c_3 => ?_) (fun c_3 => ?_)
    · exact absurd c_3 (by decide)
    · skip
      refine lv_iconst (v := 1) hx hb dX3_isSensor_9 (by decide) ?_
      refine lv_goto (tgt := 14) hx hb dX3_isSensor_10 (by decide) ?_
      exact W.zret (v := 1) hx hb hr rfl (fun zt ht hW => ⟨⟨1, (), rfl, Or.inl ⟨p_1, rfl⟩, KB.of hAe (by rw [ht]; exact hP) hD⟩, hS.F ht⟩) hS.2.2 dX3_isSensor_14

set_option maxHeartbeats 4000000 in
set_option maxRecDepth 100000 in
/-- isSensor -/
theorem k_X4_isSensor (l : Launch) (D : va_G) (cI cM cJ : ClassId) (sz : Nat) (v : Int32) : Met l yX4_isSensor wsX4_isSensor ({ frames := 1, cells := 0, slots := 0, locals := 22 }) (va_Pc [.int v] (KP D (tk_T cI cM cJ) ([]) sz)) (va_Qi (fun (r : Int32) (u : Unit) => (tk_rng 0 3 v ∧ r = 1) ∨ (¬ tk_rng 0 3 v ∧ r = 0)) (fun u zt => KB D ([]) ([]) sz zt) (va_A ([]) sz)) 0 0 (va_A ([]) sz) := by
  refine Met.ofW (cc := cX4_isSensor) (maxL := 1) (ret := (some .boolean)) (by decide) rfl ?_
  intro zp ze zs zm zargs zbelow zmeth zc zs1 B hml hv
  obtain ⟨rfl, hsz, hP, hK, hD0, hN⟩ := hv
  have hx := B.exec
  have hb := B.bytes
  have hr := B.returns
  have hts := atoms_spec (ws := wsX4_isSensor) B.pre
  have hm : ∀ (i : Nat) (w : Cond), wsX4_isSensor[i]? = some w → w.before _ zs = true := fun i w h => hts w (List.mem_of_getElem? h)
  have hown : zs.vm.findClass RX4 = some zm.cls := findClass_of_methodNamed B.named
  have hlocks := B.notSynchronized
  subst hsz
  have hD := hD0.self (sz := zs.heap.size)
  generalize hAe : va_A ([]) zs.heap.size = A at hD ⊢
  have hA : ∀ q : Nat, zs.heap.size ≤ q → A q := fun q h => by rw [← hAe]; exact Or.inr h
  have hS : va_S A zs.heap zs.heap [] := va_S.rf
  have hP : va_P D vwCl ([]) zs.heap := hP
  have hl := lv_entry ([.int v]) (n := 1) (Nat.le_of_ble_eq_true rfl)
  rw [lg_entry_eq]
  generalize (lg_sl ([.int v]) ++ List.replicate (1 - (lg_sl ([.int v])).length) Slot.unset).toArray = ls at hl ⊢
  have hl : lv_has ls 1 [(0, .int v)] := hl
  refine lv_iload_n hx hb dX4_isSensor_0 rfl (lv_at hl 0 rfl) ?_
  refine lv_iconst (v := 0) hx hb dX4_isSensor_1 (by decide) ?_
  refine lv_iconst (v := 3) hx hb dX4_isSensor_2 (by decide) ?_
  refine kc_i (wc := []) (wr := []) (va_runS (As := [.int v, .int 0, .int 3]) (rest := []) ⟨hx, hb, hml, hown, hts⟩ (k_X4_in l D cI cM cJ _ v 0 3) (va_cwS 3 hts gX4_isSensor_X4_in rfl rfl rfl (by decide +kernel) ⟨Nat.le_of_ble_eq_true rfl, Nat.le_of_ble_eq_true rfl⟩) (kp_preS (wc := []) (wr := []) hN hK hP hD) rfl rfl hl.1 rfl (lv_room (Nat.le_of_ble_eq_true rfl)) dX4_isSensor_3 ⟨Nat.le_of_ble_eq_true rfl, Nat.le_of_ble_eq_true rfl⟩) hP hD hS hA (fun r_1 u_1 H locs p_1 hP hD hS => ?_)
  rcases p_1 with ⟨p_1, rfl⟩ | ⟨p_1, rfl⟩
  · have hP : va_P D vwCl ([]) H := hP
    have hD : va_D A ([]) := hD
    exact W.zret (v := 1) hx hb hr rfl (fun zt ht hW => ⟨⟨1, (), rfl, Or.inl ⟨p_1, rfl⟩, KB.of hAe (by rw [ht]; exact hP) hD⟩, hS.F ht⟩) hS.2.2 dX4_isSensor_6
  · have hP : va_P D vwCl ([]) H := hP
    have hD : va_D A ([]) := hD
    exact W.zret (v := 0) hx hb hr rfl (fun zt ht hW => ⟨⟨0, (), rfl, Or.inr ⟨p_1, rfl⟩, KB.of hAe (by rw [ht]; exact hP) hD⟩, hS.F ht⟩) hS.2.2 dX4_isSensor_6

set_option maxHeartbeats 4000000 in
set_option maxRecDepth 100000 in
/-- isKind -/
theorem k_X3_isKind (l : Launch) (D : va_G) (cI cM cJ : ClassId) (sz : Nat) (v : Int32) : Met l yX3_isKind wsX3_isKind ({ frames := 0, cells := 0, slots := 0, locals := 0 }) (va_Pc [.int v] (KP D (tk_T cI cM cJ) ([]) sz)) (va_Qi (fun (r : Int32) (u : Unit) => ((v = 0 ∨ v = 1) ∧ r = 1) ∨ (¬ (v = 0 ∨ v = 1) ∧ r = 0)) (fun u zt => KB D ([]) ([]) sz zt) (va_A ([]) sz)) 0 0 (va_A ([]) sz) := by
  refine Met.ofW (cc := cX3_isKind) (maxL := 1) (ret := (some .boolean)) (by decide) rfl ?_
  intro zp ze zs zm zargs zbelow zmeth zc zs1 B hml hv
  obtain ⟨rfl, hsz, hP, hK, hD0, hN⟩ := hv
  have hx := B.exec
  have hb := B.bytes
  have hr := B.returns
  have hts := atoms_spec (ws := wsX3_isKind) B.pre
  have hm : ∀ (i : Nat) (w : Cond), wsX3_isKind[i]? = some w → w.before _ zs = true := fun i w h => hts w (List.mem_of_getElem? h)
  have hown : zs.vm.findClass RX3 = some zm.cls := findClass_of_methodNamed B.named
  have hlocks := B.notSynchronized
  subst hsz
  have hD := hD0.self (sz := zs.heap.size)
  generalize hAe : va_A ([]) zs.heap.size = A at hD ⊢
  have hA : ∀ q : Nat, zs.heap.size ≤ q → A q := fun q h => by rw [← hAe]; exact Or.inr h
  have hS : va_S A zs.heap zs.heap [] := va_S.rf
  have hP : va_P D vwCl ([]) zs.heap := hP
  have hl := lv_entry ([.int v]) (n := 1) (Nat.le_of_ble_eq_true rfl)
  rw [lg_entry_eq]
  generalize (lg_sl ([.int v]) ++ List.replicate (1 - (lg_sl ([.int v])).length) Slot.unset).toArray = ls at hl ⊢
  have hl : lv_has ls 1 [(0, .int v)] := hl
  refine lv_iload_n hx hb dX3_isKind_0 rfl (lv_at hl 0 rfl) ?_
  refine lv_if_eq (tgt := 9) hx hb dX3_isKind_1 (by decide) (fun c_1 => ?_) (fun c_1 => ?_)
  · skip
    refine lv_iconst (v := 1) hx hb dX3_isKind_9 (by decide) ?_
    refine lv_goto (tgt := 14) hx hb dX3_isKind_10 (by decide) ?_
    exact W.zret (v := 1) hx hb hr rfl (fun zt ht hW => ⟨⟨1, (), rfl, Or.inl ⟨by simp_all, rfl⟩, KB.of hAe (by rw [ht]; exact hP) hD⟩, hS.F ht⟩) hS.2.2 dX3_isKind_14
  · skip
    refine lv_iload_n hx hb dX3_isKind_4 rfl (lv_at hl 0 rfl) ?_
    refine lv_iconst (v := 1) hx hb dX3_isKind_5 (by decide) ?_
    refine lv_icmp_ne (tgt := 13) hx hb dX3_isKind_6 (by decide) (fun c_2 => ?_) (fun c_2 => ?_)
    · skip
      refine lv_iconst (v := 0) hx hb dX3_isKind_13 (by decide) ?_
      exact W.zret (v := 0) hx hb hr rfl (fun zt ht hW => ⟨⟨0, (), rfl, Or.inr ⟨by simp_all, rfl⟩, KB.of hAe (by rw [ht]; exact hP) hD⟩, hS.F ht⟩) hS.2.2 dX3_isKind_14
    · skip
      refine lv_iconst (v := 1) hx hb dX3_isKind_9 (by decide) ?_
      refine lv_goto (tgt := 14) hx hb dX3_isKind_10 (by decide) ?_
      exact W.zret (v := 1) hx hb hr rfl (fun zt ht hW => ⟨⟨1, (), rfl, Or.inl ⟨by simp_all, rfl⟩, KB.of hAe (by rw [ht]; exact hP) hD⟩, hS.F ht⟩) hS.2.2 dX3_isKind_14

set_option maxHeartbeats 4000000 in
set_option maxRecDepth 100000 in
/-- down -/
theorem k_X4_down (l : Launch) (D : va_G) (cI cM cJ : ClassId) (sz : Nat) (x y : Int64) (hy : ¬ y = 0) : Met l yX4_down wsX4_down ({ frames := 0, cells := 0, slots := 0, locals := 0 }) (va_Pc [.long x, .long y] (KP D (tk_T cI cM cJ) ([]) sz)) (va_Ql (fun (r : Int64) (u : Unit) => r = tk_dn x y) (fun u zt => KB D ([]) ([]) sz zt) (va_A ([]) sz)) 0 0 (va_A ([]) sz) := by
  refine Met.ofW (cc := cX4_down) (maxL := 6) (ret := (some .long)) (by decide) rfl ?_
  intro zp ze zs zm zargs zbelow zmeth zc zs1 B hml hv
  obtain ⟨rfl, hsz, hP, hK, hD0, hN⟩ := hv
  have hx := B.exec
  have hb := B.bytes
  have hr := B.returns
  have hts := atoms_spec (ws := wsX4_down) B.pre
  have hm : ∀ (i : Nat) (w : Cond), wsX4_down[i]? = some w → w.before _ zs = true := fun i w h => hts w (List.mem_of_getElem? h)
  have hown : zs.vm.findClass RX4 = some zm.cls := findClass_of_methodNamed B.named
  have hlocks := B.notSynchronized
  subst hsz
  have hD := hD0.self (sz := zs.heap.size)
  generalize hAe : va_A ([]) zs.heap.size = A at hD ⊢
  have hA : ∀ q : Nat, zs.heap.size ≤ q → A q := fun q h => by rw [← hAe]; exact Or.inr h
  have hS : va_S A zs.heap zs.heap [] := va_S.rf
  have hP : va_P D vwCl ([]) zs.heap := hP
  have hl := lv_entry ([.long x, .long y]) (n := 6) (Nat.le_of_ble_eq_true rfl)
  rw [lg_entry_eq]
  generalize (lg_sl ([.long x, .long y]) ++ List.replicate (6 - (lg_sl ([.long x, .long y])).length) Slot.unset).toArray = ls at hl ⊢
  have hl : lv_has ls 6 [(0, .long x), (2, .long y)] := hl
  refine lv_lload_n hx hb dX4_down_0 rfl (lv_at hl 0 rfl) ?_
  refine lv_lload_n hx hb dX4_down_1 rfl (lv_at hl 1 rfl) ?_
  refine lv_ldiv hx hb dX4_down_2 (hy) ?_
  refine lv_lstore (lv' := [(4, .long (x / y)), (0, .long x), (2, .long y)]) hx hb dX4_down_3 hl (by decide) rfl (fun ls hl => ?_)
  refine lv_lload_n hx hb dX4_down_5 rfl (lv_at hl 1 rfl) ?_
  refine lv_lload_n hx hb dX4_down_6 rfl (lv_at hl 2 rfl) ?_
  refine lv_lrem hx hb dX4_down_7 (hy) ?_
  refine lv_lconst (v := 0) hx hb dX4_down_8 (by decide) ?_
  refine W.lcmp hx hb dX4_down_9 ?_
  refine lv_if_ge (tgt := 20) hx hb dX4_down_10 (by decide) (fun c_1 => ?_) (fun c_1 => ?_)
  · have c_1 := (lg_cmp_ge _ _).mp c_1
    refine lv_lload hx hb dX4_down_20 (lv_at hl 0 rfl) ?_
    exact W.lret (v := x / y) hx hb hr (fun zt ht hW => ⟨⟨x / y, (), rfl, by rw [tk_dn, if_neg (Int64.not_lt.mpr c_1)], KB.of hAe (by rw [ht]; exact hP) hD⟩, hS.F ht⟩) hS.2.2 dX4_down_22
  · have c_1 := mt (lg_cmp_ge _ _).mpr c_1
    refine lv_lload hx hb dX4_down_13 (lv_at hl 0 rfl) ?_
    refine lv_lconst (v := 1) hx hb dX4_down_15 (by decide) ?_
    refine lv_lsub hx hb dX4_down_16 ?_
    refine lv_goto (tgt := 22) hx hb dX4_down_17 (by decide) ?_
    exact W.lret (v := (x / y) - 1) hx hb hr (fun zt ht hW => ⟨⟨(x / y) - 1, (), rfl, by rw [tk_dn, if_pos (Int64.not_le.mp c_1)], KB.of hAe (by rw [ht]; exact hP) hD⟩, hS.F ht⟩) hS.2.2 dX4_down_22

set_option maxHeartbeats 4000000 in
set_option maxRecDepth 100000 in
/-- mul -/
theorem k_X4_mul (l : Launch) (D : va_G) (cI cM cJ : ClassId) (sz : Nat) (x y : Int64) : Met l yX4_mul wsX4_mul ({ frames := 1, cells := 0, slots := 0, locals := 25 }) (va_Pc [.long x, .long y] (KP D (tk_T cI cM cJ) ([]) sz)) (va_Ql (fun (r : Int64) (u : Unit) => r = tk_mul x y) (fun u zt => KB D ([]) ([]) sz zt) (va_A ([]) sz)) 0 0 (va_A ([]) sz) := by
  refine Met.ofW (cc := cX4_mul) (maxL := 4) (ret := (some .long)) (by decide) rfl ?_
  intro zp ze zs zm zargs zbelow zmeth zc zs1 B hml hv
  obtain ⟨rfl, hsz, hP, hK, hD0, hN⟩ := hv
  have hx := B.exec
  have hb := B.bytes
  have hr := B.returns
  have hts := atoms_spec (ws := wsX4_mul) B.pre
  have hm : ∀ (i : Nat) (w : Cond), wsX4_mul[i]? = some w → w.before _ zs = true := fun i w h => hts w (List.mem_of_getElem? h)
  have hown : zs.vm.findClass RX4 = some zm.cls := findClass_of_methodNamed B.named
  have hlocks := B.notSynchronized
  subst hsz
  have hD := hD0.self (sz := zs.heap.size)
  generalize hAe : va_A ([]) zs.heap.size = A at hD ⊢
  have hA : ∀ q : Nat, zs.heap.size ≤ q → A q := fun q h => by rw [← hAe]; exact Or.inr h
  have hS : va_S A zs.heap zs.heap [] := va_S.rf
  have hP : va_P D vwCl ([]) zs.heap := hP
  have hl := lv_entry ([.long x, .long y]) (n := 4) (Nat.le_of_ble_eq_true rfl)
  rw [lg_entry_eq]
  generalize (lg_sl ([.long x, .long y]) ++ List.replicate (4 - (lg_sl ([.long x, .long y])).length) Slot.unset).toArray = ls at hl ⊢
  have hl : lv_has ls 4 [(0, .long x), (2, .long y)] := hl
  refine lv_lload_n hx hb dX4_mul_0 rfl (lv_at hl 0 rfl) ?_
  refine lv_lload_n hx hb dX4_mul_1 rfl (lv_at hl 1 rfl) ?_
  refine lv_lmul hx hb dX4_mul_2 ?_
  refine lv_ldc2 (v := 2048) hx hb hown (hm 1 (.constantLong RX4 32 (2048)) rfl) dX4_mul_3 ?_
  refine lv_ladd hx hb dX4_mul_6 ?_
  refine lv_ldc2 (v := 4096) hx hb hown (hm 2 (.constantLong RX4 34 (4096)) rfl) dX4_mul_7 ?_
  refine kc_l (wc := []) (wr := []) (va_runS (As := [.long ((x * y) + 2048), .long 4096]) (rest := []) ⟨hx, hb, hml, hown, hts⟩ (k_X4_down l D cI cM cJ _ ((x * y) + 2048) 4096 (by decide)) (va_cwS 2 hts gX4_mul_X4_down rfl rfl rfl (by decide +kernel) ⟨Nat.le_of_ble_eq_true rfl, Nat.le_of_ble_eq_true rfl⟩) (kp_preS (wc := []) (wr := []) hN hK hP hD) rfl rfl hl.1 rfl (lv_room (Nat.le_of_ble_eq_true rfl)) dX4_mul_10 ⟨Nat.le_of_ble_eq_true rfl, Nat.le_of_ble_eq_true rfl⟩) hP hD hS hA (fun r_1 u_1 H locs p_1 hP hD hS => ?_)
  obtain rfl : r_1 = tk_dn ((x * y) + 2048) 4096 := p_1
  have hP : va_P D vwCl ([]) H := hP
  have hD : va_D A ([]) := hD
  exact W.lret (v := tk_dn ((x * y) + 2048) 4096) hx hb hr (fun zt ht hW => ⟨⟨tk_dn ((x * y) + 2048) 4096, (), rfl, rfl, KB.of hAe (by rw [ht]; exact hP) hD⟩, hS.F ht⟩) hS.2.2 dX4_mul_13

set_option maxHeartbeats 4000000 in
set_option maxRecDepth 100000 in
/-- div -/
theorem k_X4_div (l : Launch) (D : va_G) (cI cM cJ : ClassId) (sz : Nat) (x y : Int64) (hy : ¬ y = 0) : Met l yX4_div wsX4_div ({ frames := 1, cells := 0, slots := 0, locals := 25 }) (va_Pc [.long x, .long y] (KP D (tk_T cI cM cJ) ([]) sz)) (va_Ql (fun (r : Int64) (u : Unit) => r = tk_div x y) (fun u zt => KB D ([]) ([]) sz zt) (va_A ([]) sz)) 0 0 (va_A ([]) sz) := by
  refine Met.ofW (cc := cX4_div) (maxL := 4) (ret := (some .long)) (by decide) rfl ?_
  intro zp ze zs zm zargs zbelow zmeth zc zs1 B hml hv
  obtain ⟨rfl, hsz, hP, hK, hD0, hN⟩ := hv
  have hx := B.exec
  have hb := B.bytes
  have hr := B.returns
  have hts := atoms_spec (ws := wsX4_div) B.pre
  have hm : ∀ (i : Nat) (w : Cond), wsX4_div[i]? = some w → w.before _ zs = true := fun i w h => hts w (List.mem_of_getElem? h)
  have hown : zs.vm.findClass RX4 = some zm.cls := findClass_of_methodNamed B.named
  have hlocks := B.notSynchronized
  subst hsz
  have hD := hD0.self (sz := zs.heap.size)
  generalize hAe : va_A ([]) zs.heap.size = A at hD ⊢
  have hA : ∀ q : Nat, zs.heap.size ≤ q → A q := fun q h => by rw [← hAe]; exact Or.inr h
  have hS : va_S A zs.heap zs.heap [] := va_S.rf
  have hP : va_P D vwCl ([]) zs.heap := hP
  have hl := lv_entry ([.long x, .long y]) (n := 4) (Nat.le_of_ble_eq_true rfl)
  rw [lg_entry_eq]
  generalize (lg_sl ([.long x, .long y]) ++ List.replicate (4 - (lg_sl ([.long x, .long y])).length) Slot.unset).toArray = ls at hl ⊢
  have hl : lv_has ls 4 [(0, .long x), (2, .long y)] := hl
  refine lv_lload_n hx hb dX4_div_0 rfl (lv_at hl 0 rfl) ?_
  refine lv_ldc2 (v := 4096) hx hb hown (hm 1 (.constantLong RX4 34 (4096)) rfl) dX4_div_1 ?_
  refine lv_lmul hx hb dX4_div_4 ?_
  refine lv_lload_n hx hb dX4_div_5 rfl (lv_at hl 1 rfl) ?_
  refine lv_ldc2 (v := 2) hx hb hown (hm 2 (.constantLong RX4 40 (2)) rfl) dX4_div_6 ?_
  refine kc_l (wc := []) (wr := []) (va_runS (As := [.long y, .long 2]) (rest := [.long (x * 4096)]) ⟨hx, hb, hml, hown, hts⟩ (k_X4_down l D cI cM cJ _ y 2 (by decide)) (va_cwS 2 hts gX4_div_X4_down rfl rfl rfl (by decide +kernel) ⟨Nat.le_of_ble_eq_true rfl, Nat.le_of_ble_eq_true rfl⟩) (kp_preS (wc := []) (wr := []) hN hK hP hD) rfl rfl hl.1 rfl (lv_room (Nat.le_of_ble_eq_true rfl)) dX4_div_9 ⟨Nat.le_of_ble_eq_true rfl, Nat.le_of_ble_eq_true rfl⟩) hP hD hS hA (fun r_1 u_1 H locs p_1 hP hD hS => ?_)
  obtain rfl : r_1 = tk_dn y 2 := p_1
  have hP : va_P D vwCl ([]) H := hP
  have hD : va_D A ([]) := hD
  refine lv_ladd hx hb dX4_div_12 ?_
  refine lv_lload_n hx hb dX4_div_13 rfl (lv_at hl 1 rfl) ?_
  refine kc_l (wc := []) (wr := []) (va_runS (As := [.long ((x * 4096) + (tk_dn y 2)), .long y]) (rest := []) ⟨hx, hb, hml, hown, hts⟩ (k_X4_down l D cI cM cJ _ ((x * 4096) + (tk_dn y 2)) y (hy)) (va_cwS 2 hts gX4_div_X4_down rfl rfl rfl (by decide +kernel) ⟨Nat.le_of_ble_eq_true rfl, Nat.le_of_ble_eq_true rfl⟩) (kp_preS (wc := []) (wr := []) hN hK hP hD) rfl rfl hl.1 rfl (lv_room (Nat.le_of_ble_eq_true rfl)) dX4_div_14 ⟨Nat.le_of_ble_eq_true rfl, Nat.le_of_ble_eq_true rfl⟩) hP hD hS hA (fun r_2 u_2 H locs p_2 hP hD hS => ?_)
  obtain rfl : r_2 = tk_dn ((x * 4096) + (tk_dn y 2)) y := p_2
  have hP : va_P D vwCl ([]) H := hP
  have hD : va_D A ([]) := hD
  exact W.lret (v := tk_dn ((x * 4096) + (tk_dn y 2)) y) hx hb hr (fun zt ht hW => ⟨⟨tk_dn ((x * 4096) + (tk_dn y 2)) y, (), rfl, rfl, KB.of hAe (by rw [ht]; exact hP) hD⟩, hS.F ht⟩) hS.2.2 dX4_div_17
