set_option maxHeartbeats 4000000 in
set_option maxRecDepth 100000 in
/-- the loop over the script -/
theorem law_loop {p : Program} {l : Launch} {e : Env} {s : State} {m : MethodId} {below : List Frame} {meth : Method} {c : Code} {b L : Nat} {xs : Nat → Int32} {D : va_G} {cI cM cJ : ClassId} {h er tr sv : Nat} {a : Nat → Nat} {h2 sa pa eb na : Nat} {H : Heap} {locs : List Loc} {ls : Array Slot} {tb : Nat} (hT : tk_st tb (fun q => s.heap.size ≤ q) s) (C0 : lw_At p s m meth c b L xs) (hL : L ≤ 2560) (hN : NX s) (hK : va_K D vwCl (tk_T cI cM cJ) s) (hl : lv_has ls 4 [(0, .ref b), (1, .ref h), (2, .ref h2), (3, .int (nI 0))]) (hW : LW D cI cM cJ s h er tr sv a h2 sa pa eb na H locs) : W p l e room_1 s m #[Value.ref b] below meth c H locs 44 777 (lw_Z below #[Value.ref b] s) (F0 m 18 ls []) := by
  refine kl_loop (fun k H locs ls => ∃ i : Nat, k + i = L ∧ lv_has ls 4 [(0, .ref b), (1, .ref h), (2, .ref h2), (3, .int (nI i))] ∧ LW D cI cM cJ s h er tr sv a h2 sa pa eb na H locs) L ⟨0, rfl, hl, hW⟩ ?_
  intro k H locs ls hI ih
  obtain ⟨i, hki, hl, hW⟩ := hI
  have C1 := C0
  obtain ⟨hx, hb, hr, hml, hown, -, hX, hbl, hlocks, hgv⟩ := C1
  have hbA : ¬ (fun q : Nat => s.heap.size ≤ q) b := Nat.not_le.mpr hbl
  have hS : va_S (fun q => s.heap.size ≤ q) s.heap H locs := by
    obtain ⟨X, Y, t, AD, f, hs, hR, hP, hD, hS⟩ := hW
    exact hS
  refine lv_iload_n hx hb dL_law_18 rfl (lv_at hl 3 rfl) ?_
  refine lv_aload_n hx hb dL_law_19 rfl (lv_at hl 0 rfl) ?_
  refine va_slen hx hb hX hbl hbA hS dL_law_20 ?_
  refine lv_iconst (v := 5) hx hb dL_law_21 (by decide) ?_
  refine lv_isub hx hb dL_law_22 ?_
  have hsub : (Int32.ofNat L - 5).toInt = (L : Int) - 5 := pk_sub_toInt (a := L) (b := 5) (by omega) (by decide)
  have hni : (nI i).toInt = (i : Int) := nI_toInt (by omega)
  refine lv_icmp_gt (tgt := 768) hx hb dL_law_23 (by decide) (fun c9 => ?_) (fun c9 => ?_)
  · refine lv_iconst (v := 1) hx hb dL_law_768 (by decide) ?_
    refine va_forget (fun q hq => hS.2.2 q hq) ?_
    refine W.widen (k := 600000) (n := 7302250) (Nat.le_of_ble_eq_true rfl) (Nat.le_of_ble_eq_true rfl) ?_
    exact lw_ret hx hb hr hlocks dL_law_769
  · have hi : i + 5 ≤ L := by
      rw [Int32.lt_iff_toInt_lt, hsub, hni] at c9
      omega
    have hv0 : vp_in (nI i) L := vp_in_nI (by omega) (by omega)
    refine lv_aload_n hx hb dL_law_26 rfl (lv_at hl 0 rfl) ?_
    refine lv_iload_n hx hb dL_law_27 rfl (lv_at hl 3 rfl) ?_
    refine va_sld hx hb hX hbl hbA hS hv0 dL_law_28 ?_
    refine lv_bipush (v := 31) hx hb dL_law_29 (by decide) ?_
    refine lv_iand hx hb dL_law_31 ?_
    have kk : ∀ (H : Heap) (locs : List Loc), LW D cI cM cJ s h er tr sv a h2 sa pa eb na H locs → W p l e room_1 s m #[Value.ref b] below meth c H locs 44 777 (lw_Z below #[Value.ref b] s) (F0 m 762 ls []) := by
      intro H locs hW
      refine lv_iinc (v := nI (i + 5)) (lv' := [(3, .int (nI (i + 5))), (0, .ref b), (1, .ref h), (2, .ref h2)]) hx hb dL_law_762 hl (k := 3) rfl (by rw [show Int32.ofInt 5 = nI 5 from by decide]; exact nI_add i 5) (by decide) rfl (fun ls hl => ?_)
      refine lv_goto (tgt := 18) hx hb dL_law_765 (by decide) ?_
      exact ih (L - (i + 5)) _ _ ls (by omega) ⟨i + 5, by omega, lv_sub hl [1, 2, 3, 0] rfl, hW⟩
    obtain ⟨j, hj, hje⟩ := pk_andE (xs (nI i).toNatClampNeg) (m := 31) 5 (by decide)
    rw [hje]
    match j, hj with
    | 0, _ =>
      refine lv_tableIn (off := 132) (tgt := 164) hx hb dL_law_32 (by decide) (by decide) rfl (by decide) ?_
      exact lc_reset C0 hL hN hK hi hl hW kk
    | 1, _ =>
      refine lv_tableIn (off := 185) (tgt := 217) hx hb dL_law_32 (by decide) (by decide) rfl (by decide) ?_
      exact lc_setProcessNoise C0 hL hN hK hi hl hW kk
    | 2, _ =>
      refine lv_tableIn (off := 218) (tgt := 250) hx hb dL_law_32 (by decide) (by decide) rfl (by decide) ?_
      exact lc_setSensor C0 hL hN hK hi hl hW kk
    | 3, _ =>
      refine lv_tableIn (off := 261) (tgt := 293) hx hb dL_law_32 (by decide) (by decide) rfl (by decide) ?_
      exact lc_setGate C0 hL hN hK hi hl hW kk
    | 4, _ =>
      refine lv_tableIn (off := 284) (tgt := 316) hx hb dL_law_32 (by decide) (by decide) rfl (by decide) ?_
      exact lc_predict C0 hL hN hK hi hl hW kk
    | 5, _ =>
      refine lv_tableIn (off := 307) (tgt := 339) hx hb dL_law_32 (by decide) (by decide) rfl (by decide) ?_
      exact lc_correct C0 hL hN hK hi hl hW kk
    | 6, _ =>
      refine lv_tableIn (off := 340) (tgt := 372) hx hb dL_law_32 (by decide) (by decide) rfl (by decide) ?_
      exact lc_miss C0 hL hN hK hi hl hW kk
    | 7, _ =>
      refine lv_tableIn (off := 363) (tgt := 395) hx hb dL_law_32 (by decide) (by decide) rfl (by decide) ?_
      exact lc_level C0 hL hN hK hi hl hW kk
    | 8, _ =>
      refine lv_tableIn (off := 376) (tgt := 408) hx hb dL_law_32 (by decide) (by decide) rfl (by decide) ?_
      exact lc_flow C0 hL hN hK hi hl hW kk
    | 9, _ =>
      refine lv_tableIn (off := 389) (tgt := 421) hx hb dL_law_32 (by decide) (by decide) rfl (by decide) ?_
      exact lc_levelVariance C0 hL hN hK hi hl hW kk
    | 10, _ =>
      refine lv_tableIn (off := 402) (tgt := 434) hx hb dL_law_32 (by decide) (by decide) rfl (by decide) ?_
      exact lc_covariance C0 hL hN hK hi hl hW kk
    | 11, _ =>
      refine lv_tableIn (off := 415) (tgt := 447) hx hb dL_law_32 (by decide) (by decide) rfl (by decide) ?_
      exact lc_flowVariance C0 hL hN hK hi hl hW kk
    | 12, _ =>
      refine lv_tableIn (off := 428) (tgt := 460) hx hb dL_law_32 (by decide) (by decide) rfl (by decide) ?_
      exact lc_innovation C0 hL hN hK hi hl hW kk
    | 13, _ =>
      refine lv_tableIn (off := 441) (tgt := 473) hx hb dL_law_32 (by decide) (by decide) rfl (by decide) ?_
      exact lc_levelGain C0 hL hN hK hi hl hW kk
    | 14, _ =>
      refine lv_tableIn (off := 454) (tgt := 486) hx hb dL_law_32 (by decide) (by decide) rfl (by decide) ?_
      exact lc_flowGain C0 hL hN hK hi hl hW kk
    | 15, _ =>
      refine lv_tableIn (off := 467) (tgt := 499) hx hb dL_law_32 (by decide) (by decide) rfl (by decide) ?_
      exact lc_accepted C0 hL hN hK hi hl hW kk
    | 16, _ =>
      refine lv_tableIn (off := 480) (tgt := 512) hx hb dL_law_32 (by decide) (by decide) rfl (by decide) ?_
      exact lc_rejected C0 hL hN hK hi hl hW kk
    | 17, _ =>
      refine lv_tableIn (off := 493) (tgt := 525) hx hb dL_law_32 (by decide) (by decide) rfl (by decide) ?_
      exact lc_missed C0 hL hN hK hi hl hW kk
    | 18, _ =>
      refine lv_tableIn (off := 506) (tgt := 538) hx hb dL_law_32 (by decide) (by decide) rfl (by decide) ?_
      exact lc_historyLength C0 hL hN hK hi hl hW kk
    | 19, _ =>
      refine lv_tableIn (off := 519) (tgt := 551) hx hb dL_law_32 (by decide) (by decide) rfl (by decide) ?_
      exact lc_forecast C0 hL hN hK hi hl hW kk
    | 20, _ =>
      refine lv_tableIn (off := 542) (tgt := 574) hx hb dL_law_32 (by decide) (by decide) rfl (by decide) ?_
      exact lc_forecastVariance C0 hL hN hK hi hl hW kk
    | 21, _ =>
      refine lv_tableIn (off := 565) (tgt := 597) hx hb dL_law_32 (by decide) (by decide) rfl (by decide) ?_
      exact lc_stepsTo C0 hL hN hK hi hl hW kk
    | 22, _ =>
      refine lv_tableIn (off := 588) (tgt := 620) hx hb dL_law_32 (by decide) (by decide) rfl (by decide) ?_
      exact lc_steadyCycles C0 hL hN hK hi hl hW kk
    | 23, _ =>
      refine lv_tableIn (off := 611) (tgt := 643) hx hb dL_law_32 (by decide) (by decide) rfl (by decide) ?_
      exact lc_steadyGain C0 hL hN hK hi hl hW kk
    | 24, _ =>
      refine lv_tableIn (off := 644) (tgt := 676) hx hb dL_law_32 (by decide) (by decide) rfl (by decide) ?_
      exact lc_replayError C0 hL hN hK hi hl hW kk
    | 25, _ =>
      refine lv_tableIn (off := 667) (tgt := 699) hx hb dL_law_32 (by decide) (by decide) rfl (by decide) ?_
      exact lc_bestFlowNoise hT C0 hL hN hK hi hl hW kk
    | 26, _ =>
      refine lv_tableIn (off := 680) (tgt := 712) hx hb dL_law_32 (by decide) (by decide) rfl (by decide) ?_
      exact lc_undo C0 hL hN hK hi hl hW kk
    | 27, _ =>
      refine lv_tableIn (off := 693) (tgt := 725) hx hb dL_law_32 (by decide) (by decide) rfl (by decide) ?_
      exact lc_errorCount C0 hL hN hK hi hl hW kk
    | 28, _ =>
      refine lv_tableIn (off := 716) (tgt := 748) hx hb dL_law_32 (by decide) (by decide) rfl (by decide) ?_
      exact lc_digest C0 hL hN hK hi hl hW kk
    | j + 29, hj =>
      refine lv_tableOut (tgt := 762) hx hb dL_law_32 (Or.inr ?_) (by decide) ?_
      · rw [nI_toInt (by omega)]
        omega
      · exact kk _ _ hW
abbrev tk_m0 : tk_M := (tk_e0, 0, 64, 9, 0, 0, 0, fun _ => 0, fun _ => 4096, fun _ => 0, fun _ => 0, 0)
theorem tk_rm0 : RM tk_m0 tk_y0 := by
  refine ⟨?_, ?_, ?_, ?_, ?_, ?_, ?_⟩
  · show ∀ k, k < 5 → tk_e0 k = (tk_y0 k).toInt64
    decide +kernel
  · show tk_e0 5 = (tk_y0 16).toInt64 ∧ tk_e0 6 = (tk_y0 17).toInt64 ∧ tk_e0 7 = (tk_y0 18).toInt64
    decide +kernel
  · show (0 : Int32) = tk_y0 5 ∧ (64 : Int32) = tk_y0 6 ∧ (9 : Int32) = tk_y0 7
    decide +kernel
  · show (0 : Int32) = tk_y0 19 ∧ (0 : Int32) = tk_y0 20 ∧ (0 : Int32) = tk_y0 21
    decide +kernel
  · show tk_y0 22 = nI 0
    decide +kernel
  · show ∀ j, j < 4 → (0 : Int32) = tk_y0 (8 + j) ∧ (4096 : Int32) = tk_y0 (12 + j)
    decide +kernel
  · intro i hi
    exact absurd hi (Nat.not_lt_zero i)
theorem tk_im0 : IM tk_m0 := by
  refine ⟨Nat.zero_le 24, ?_, ?_, ?_, ?_, ?_⟩
  · show ∀ k, k < 5 → tk_in (tk_e0 k) = true
    decide +kernel
  · show (0 ≤ tk_e0 2 ∧ tk_e0 2 ≤ 1000000000) ∧ (0 ≤ tk_e0 4 ∧ tk_e0 4 ≤ 1000000000)
    decide +kernel
  · exact ⟨by decide, by decide⟩
  · intro j _
    show (1 : Int32) ≤ 4096 ∧ (4096 : Int32) ≤ 40960000
    decide
  · intro i hi
    exact absurd hi (Nat.not_lt_zero i)
theorem tk_rx0 : RX (0, fun _ => 0, tk_m0, fun _ => tk_m0) (0, tk_y0, fun _ => 0, fun _ => 0) :=
  ⟨rfl, Nat.zero_le 4, rfl, tk_rm0, tk_im0, fun i hi => absurd hi (Nat.not_lt_zero i)⟩
theorem nxl_tab : nxl.all (fun w => w.onTables) = true := by rfl
theorem law_st {s : State} {b : Nat} (hgv : (Jvm.Cond.and given_1 narrow_1).before #[Value.ref b] s = true) (hl : (Cond.laysStatic "TankFilter" "FLOW_NOISE_CANDIDATES" "[I").before #[Value.ref b] s = true) (hini : (Cond.initialized "TankFilter").before #[Value.ref b] s = true) : ∃ tb : Nat, tk_st tb (fun q => s.heap.size ≤ q) s := by
  have hs := flat_of_before _ hgv
  have harr : (Cond.arrayOf (.static "TankFilter" "FLOW_NOISE_CANDIDATES" "[I") .int).before #[Value.ref b] s = true := hs _ (by decide +kernel)
  have hlen : (Cond.eq (.length (.static "TankFilter" "FLOW_NOISE_CANDIDATES" "[I")) (.int (Int32.ofNat 12))).before #[Value.ref b] s = true := hs _ (by decide +kernel)
  have h0 : (Cond.eq (.elem (.static "TankFilter" "FLOW_NOISE_CANDIDATES" "[I") (.int (Int32.ofNat 0))) (.int (tk_cd 0))).before #[Value.ref b] s = true := hs _ (by decide +kernel)
  have h1 : (Cond.eq (.elem (.static "TankFilter" "FLOW_NOISE_CANDIDATES" "[I") (.int (Int32.ofNat 1))) (.int (tk_cd 1))).before #[Value.ref b] s = true := hs _ (by decide +kernel)
  have h2 : (Cond.eq (.elem (.static "TankFilter" "FLOW_NOISE_CANDIDATES" "[I") (.int (Int32.ofNat 2))) (.int (tk_cd 2))).before #[Value.ref b] s = true := hs _ (by decide +kernel)
  have h3 : (Cond.eq (.elem (.static "TankFilter" "FLOW_NOISE_CANDIDATES" "[I") (.int (Int32.ofNat 3))) (.int (tk_cd 3))).before #[Value.ref b] s = true := hs _ (by decide +kernel)
  have h4 : (Cond.eq (.elem (.static "TankFilter" "FLOW_NOISE_CANDIDATES" "[I") (.int (Int32.ofNat 4))) (.int (tk_cd 4))).before #[Value.ref b] s = true := hs _ (by decide +kernel)
  have h5 : (Cond.eq (.elem (.static "TankFilter" "FLOW_NOISE_CANDIDATES" "[I") (.int (Int32.ofNat 5))) (.int (tk_cd 5))).before #[Value.ref b] s = true := hs _ (by decide +kernel)
  have h6 : (Cond.eq (.elem (.static "TankFilter" "FLOW_NOISE_CANDIDATES" "[I") (.int (Int32.ofNat 6))) (.int (tk_cd 6))).before #[Value.ref b] s = true := hs _ (by decide +kernel)
  have h7 : (Cond.eq (.elem (.static "TankFilter" "FLOW_NOISE_CANDIDATES" "[I") (.int (Int32.ofNat 7))) (.int (tk_cd 7))).before #[Value.ref b] s = true := hs _ (by decide +kernel)
  have h8 : (Cond.eq (.elem (.static "TankFilter" "FLOW_NOISE_CANDIDATES" "[I") (.int (Int32.ofNat 8))) (.int (tk_cd 8))).before #[Value.ref b] s = true := hs _ (by decide +kernel)
  have h9 : (Cond.eq (.elem (.static "TankFilter" "FLOW_NOISE_CANDIDATES" "[I") (.int (Int32.ofNat 9))) (.int (tk_cd 9))).before #[Value.ref b] s = true := hs _ (by decide +kernel)
  have h10 : (Cond.eq (.elem (.static "TankFilter" "FLOW_NOISE_CANDIDATES" "[I") (.int (Int32.ofNat 10))) (.int (tk_cd 10))).before #[Value.ref b] s = true := hs _ (by decide +kernel)
  have h11 : (Cond.eq (.elem (.static "TankFilter" "FLOW_NOISE_CANDIDATES" "[I") (.int (Int32.ofNat 11))) (.int (tk_cd 11))).before #[Value.ref b] s = true := hs _ (by decide +kernel)
  have hA : ∀ q : Nat, q < s.heap.size → ¬ (fun q => s.heap.size ≤ q) q := fun q hq => Nat.not_le.mpr hq
  obtain ⟨tb, e1, e2⟩ := va_Tof (tm := .static "TankFilter" "FLOW_NOISE_CANDIDATES" "[I") (N := 12) (f := fun j => .int (tk_cd j)) (by decide) harr (va_eqt hlen) (fun j hj => by
    match j, hj with
    | 0, _ => exact va_eqt h0
    | 1, _ => exact va_eqt h1
    | 2, _ => exact va_eqt h2
    | 3, _ => exact va_eqt h3
    | 4, _ => exact va_eqt h4
    | 5, _ => exact va_eqt h5
    | 6, _ => exact va_eqt h6
    | 7, _ => exact va_eqt h7
    | 8, _ => exact va_eqt h8
    | 9, _ => exact va_eqt h9
    | 10, _ => exact va_eqt h10
    | 11, _ => exact va_eqt h11
    | j + 12, hj => exact absurd hj (by omega)) hA
  exact ⟨tb, va_Zof hl hini e1 hA, e2⟩
set_option maxHeartbeats 4000000 in
set_option maxRecDepth 100000 in
/-- THE LAW, from its entry -/
theorem whole_start {p : Program} {e : Env} {s : State} {m : MethodId} {below : List Frame} {meth : Method} {c : Code} (l : Launch) (hflags : l.flags = flags0) {b L : Nat} {xs : Nat → Int32} (hL : L ≤ 2560) (C0 : lw_At p s m meth c b L xs) : W p l e room_1 s m #[Value.ref b] below meth c s.heap [] 0 0 (lw_Z below #[Value.ref b] s) (entryFrame m ([Value.ref b] : List Value).toArray 4) := by
  have htl := k_law_tbl C0
  have C1 := C0
  obtain ⟨hx, hb, hr, hml, hown, hts, hX, hbl, hlocks, hgv⟩ := C1
  have hA : ∀ q : Nat, s.heap.size ≤ q → (fun q : Nat => s.heap.size ≤ q) q := fun _ h => h
  have hN : NX s := fun w hw => va_Nw.of (List.all_eq_true.mp nxl_tab w hw) (hts w (nxl_in w hw))
  obtain ⟨tb, hT⟩ := law_st hgv (hts (.laysStatic "TankFilter" "FLOW_NOISE_CANDIDATES" "[I") (by decide +kernel)) (hts (.initialized "TankFilter") (by decide +kernel))
  obtain ⟨c0, i0, k0⟩ := u_known (C := RX0) (T := TX0) (N := 8) (n := 8) hts inX0 (hts (.instantiable RX0 8) (by decide +kernel))
  obtain ⟨c1, i1, k1⟩ := u_known (C := RX1) (T := TX1) (N := 3) (n := 3) hts inX1 (hts (.instantiable RX1 3) (by decide +kernel))
  obtain ⟨c2, i2, k2⟩ := u_known (C := RX2) (T := TX2) (N := 10) (n := 10) hts inX2 (hts (.instantiable RX2 10) (by decide +kernel))
  obtain ⟨c3, i3, k3⟩ := u_known (C := RX3) (T := TX3) (N := 5) (n := 5) hts inX3 (hts (.instantiable RX3 5) (by decide +kernel))
  obtain ⟨c4, i4, k4⟩ := u_known (C := RX4) (T := TX4) (N := 9) (n := 9) hts inX4 (hts (.instantiable RX4 9) (by decide +kernel))
  obtain ⟨D, hKc⟩ : ∃ D : va_G, ∀ (k : Nat) (q : vw_C), vwCl[k]? = some q → u_Kn s q.1 q.2.1 q.2.2 (D.1 k) (D.2 k) := by
    refine ⟨(fun k => match k with | 0 => c0 | 1 => c1 | 2 => c2 | 3 => c3 | _ => c4, fun k => match k with | 0 => i0 | 1 => i1 | 2 => i2 | 3 => i3 | _ => i4), ?_⟩
    intro k q hq
    match k, hq with
    | 0, hq => cases hq; exact k0
    | 1, hq => cases hq; exact k1
    | 2, hq => cases hq; exact k2
    | 3, hq => cases hq; exact k3
    | 4, hq => cases hq; exact k4
    | k + 5, hq => simp [vwCl] at hq
  obtain ⟨cI, aI⟩ := kn_arr (ty := .int) (hts (.arrayClass .int) (by decide +kernel)) rfl
  obtain ⟨cJ, aJ⟩ := kn_arr (ty := .long) (hts (.arrayClass .long) (by decide +kernel)) rfl
  have hov : (Cond.arrayOver (.object "TankFilter$Memory")).before #[Value.ref b] s = true := hts (.arrayOver (.object "TankFilter$Memory")) (by decide +kernel)
  obtain ⟨cM, aM⟩ := kn_over hov
  have hao : va_AO "TankFilter$Memory" s := va_AO.of hov
  have hK : va_K D vwCl (tk_T cI cM cJ) s := kn_T hKc aI aM aJ
  have hS : va_S (fun q : Nat => s.heap.size ≤ q) s.heap s.heap [] := va_S.rf
  have hP : va_P D vwCl [] s.heap := fun k q h => by simp at h
  have hD : va_D (fun q : Nat => s.heap.size ≤ q) [] := ⟨fun i j p q h => by simp at h, fun k q h => by simp at h⟩
  have hl := lv_entry ([.ref b]) (n := 4) (Nat.le_of_ble_eq_true rfl)
  rw [lg_entry_eq]
  generalize (lg_sl ([.ref b]) ++ List.replicate (4 - (lg_sl ([.ref b])).length) Slot.unset).toArray = ls at hl ⊢
  have hl : lv_has ls 4 [(0, .ref b)] := hl
  refine va_new (ci := 3) (fs := [.null, .null, .int 0, .null, .null]) (C := RX3) (T := TX3) (N := 5) hx hb hts inX3 tyX3 tyX3_ok hown (hts (.classLink RL 7 RX3) (by decide +kernel)) (hts (.instantiable RX3 5) (by decide +kernel)) (hts (.initialized RX3) (by decide +kernel)) hK hP hD hS hA rfl (fun j hj => by rcases (show j = 0 ∨ j = 1 ∨ j = 2 ∨ j = 3 ∨ j = 4 by omega) with rfl | rfl | rfl | rfl | rfl <;> rfl) (Nat.le_of_ble_eq_true rfl) (Nat.le_of_ble_eq_true rfl) dL_law_0 (fun h H hP hD hS => ?_)
  have hP : va_P D vwCl [(h, .inr (3, [.null, .null, .int 0, .null, .null]))] H := hP
  have hD : va_D (fun q : Nat => s.heap.size ≤ q) [(h, .inr (3, [.null, .null, .int 0, .null, .null]))] := hD
  refine lv_dup hx hb dL_law_3 rfl ?_
  refine kc_v0 (wc := [(h, .inr (3, [.null, .null, .int 0, .null, .null]))]) (va_runI (As := []) (rest := [.ref h]) ⟨hx, hb, hml, hown, htl⟩ (k_X3_init l D cI cM cJ _ h) (cwI 0 htl gL_law_X3_init rfl rfl rfl (hts (.initialized RX3) (by decide +kernel)) (hts (.methodLink RL 9 yX3_init) (by decide +kernel)) (hts (.instanceMethod yX3_init) (by decide +kernel)) rfl (by decide +kernel) ⟨Nat.le_of_ble_eq_true rfl, Nat.le_of_ble_eq_true rfl⟩) (kp_preSx (wc := [(h, .inr (3, [.null, .null, .int 0, .null, .null]))]) (wr := []) hN hK (by rw [List.append_nil]; exact hP) (by rw [List.append_nil]; exact hD) (fun U hU hV => va_AO.moved hV hao) (fun u U _ hv z => va_AO.moved hv z)) rfl rfl hl.1 rfl (lv_room (Nat.le_of_ble_eq_true rfl)) dL_law_4 ⟨Nat.le_of_ble_eq_true rfl, Nat.le_of_ble_eq_true rfl⟩) hP hD hS hA (fun u H locs _ hP hD hS => ?_)
  obtain ⟨er, tr, sv, a, AD⟩ := u
  have hP : va_P D vwCl (tk_xw cI cM h er tr sv a tk_e0 AD (0, fun _ => 0, tk_m0, fun _ => tk_m0)) H := hP
  have hD : va_D (fun q : Nat => s.heap.size ≤ q) (tk_xw cI cM h er tr sv a tk_e0 AD (0, fun _ => 0, tk_m0, fun _ => tk_m0)) := hD
  refine lv_astore_n (lv' := [(1, .ref h), (0, .ref b)]) hx hb dL_law_7 rfl hl (by decide) rfl (fun ls hl => ?_)
  refine va_new (ci := 4) (fs := [.null, .null, .int 0, .null, .null, .long 0, .long 0, .long 0, .long 0]) (C := RX4) (T := TX4) (N := 9) hx hb hts inX4 tyX4 tyX4_ok hown (hts (.classLink RL 10 RX4) (by decide +kernel)) (hts (.instantiable RX4 9) (by decide +kernel)) (hts (.initialized RX4) (by decide +kernel)) hK hP hD hS hA rfl (fun j hj => by rcases (show j = 0 ∨ j = 1 ∨ j = 2 ∨ j = 3 ∨ j = 4 ∨ j = 5 ∨ j = 6 ∨ j = 7 ∨ j = 8 by omega) with rfl | rfl | rfl | rfl | rfl | rfl | rfl | rfl | rfl <;> rfl) (Nat.le_of_ble_eq_true rfl) (Nat.le_of_ble_eq_true rfl) dL_law_8 (fun h2 H hP hD hS => ?_)
  replace hP := va_swapP hP
  replace hD := va_swapD hD
  refine lv_dup hx hb dL_law_11 rfl ?_
  refine kc_v (wc := [(h2, .inr (4, [.null, .null, .int 0, .null, .null, .long 0, .long 0, .long 0, .long 0]))]) (wr := tk_xw cI cM h er tr sv a tk_e0 AD (0, fun _ => 0, tk_m0, fun _ => tk_m0)) (va_runI (As := []) (rest := [.ref h2]) ⟨hx, hb, hml, hown, htl⟩ (k_X4_init l D cI cM cJ _ h2) (cwI 0 htl gL_law_X4_init rfl rfl rfl (hts (.initialized RX4) (by decide +kernel)) (hts (.methodLink RL 12 yX4_init) (by decide +kernel)) (hts (.instanceMethod yX4_init) (by decide +kernel)) rfl (by decide +kernel) ⟨Nat.le_of_ble_eq_true rfl, Nat.le_of_ble_eq_true rfl⟩) (kp_preS (wc := [(h2, .inr (4, [.null, .null, .int 0, .null, .null, .long 0, .long 0, .long 0, .long 0]))]) (wr := tk_xw cI cM h er tr sv a tk_e0 AD (0, fun _ => 0, tk_m0, fun _ => tk_m0)) hN hK hP hD) rfl rfl hl.1 rfl (lv_room (Nat.le_of_ble_eq_true rfl)) dL_law_12 ⟨Nat.le_of_ble_eq_true rfl, Nat.le_of_ble_eq_true rfl⟩) hP hD hS hA (fun u H locs _ hP hD hS => ?_)
  obtain ⟨sa, pa, eb, na⟩ := u
  have hP : va_P D vwCl (tk_yw cI cJ h2 sa pa eb na (fun _ => 0) 0 (0, tk_y0, fun _ => 0, fun _ => 0) ++ tk_xw cI cM h er tr sv a tk_e0 AD (0, fun _ => 0, tk_m0, fun _ => tk_m0)) H := hP
  have hD : va_D (fun q : Nat => s.heap.size ≤ q) (tk_yw cI cJ h2 sa pa eb na (fun _ => 0) 0 (0, tk_y0, fun _ => 0, fun _ => 0) ++ tk_xw cI cM h er tr sv a tk_e0 AD (0, fun _ => 0, tk_m0, fun _ => tk_m0)) := hD
  refine lv_astore_n (lv' := [(2, .ref h2), (1, .ref h), (0, .ref b)]) hx hb dL_law_15 rfl hl (by decide) rfl (fun ls hl => ?_)
  refine lv_iconst (v := 0) hx hb dL_law_16 (by decide) ?_
  refine ka_fold (y := nI 0) nI_0.symm ?_
  refine lv_istore_n (lv' := [(3, .int (nI 0)), (2, .ref h2), (1, .ref h), (0, .ref b)]) hx hb dL_law_17 rfl hl (by decide) rfl (fun ls hl => ?_)
  exact law_loop hT C0 hL hN hK (lv_sub hl [3, 2, 1, 0] rfl) ⟨_, _, _, _, _, _, tk_rx0, va_swapP hP, va_swapD hD, hS⟩
