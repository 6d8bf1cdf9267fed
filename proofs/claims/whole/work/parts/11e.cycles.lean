theorem izX4_cycles_4 : ∀ w ∈ wsX40, w ∈ wsX4_cycles := fun _ h => List.mem_cons_of_mem _ (List.mem_append_right _ h)
set_option maxHeartbeats 4000000 in
set_option maxRecDepth 100000 in
/-- cycles -/
theorem k_X4_cycles (l : Launch) (D : va_G) (cI cM cJ : ClassId) (sz : Nat) (h sa pa er na : Nat) (z : Int32) (hs : Int64) (s : Nat → Int32) (e : Nat → Int64) (j : Nat) (hj4 : j < 4) (hv : tk_rv (s (12 + j))) (hj : tk_jv (tk_s5 s e)) (hw : tk_rng 0 4096000 (s 6)) : Met l yX4_cycles wsX4_cycles ({ frames := 3, cells := 0, slots := 0, locals := 91 }) (va_Pc [.ref h, .int (nI j)] (KP D (tk_T cI cM cJ) ([(h, .inr (4, [.ref sa, .ref pa, .int z, .ref er, .ref na, .long (e 5), .long (e 6), .long (e 7), .long hs])), (sa, .inl (cI, 71, .inl s)), (na, .inl (cJ, 5, .inr (.inl e)))]) sz)) (va_Qi (fun (r : Int32) (u : Nat → Int64) => r = (cy_go (s 5).toInt64 (s 6).toInt64 (s (12 + j)).toInt64 (s (8 + j)) 300 1 (tk_s5 s e)).1 ∧ (r = -2000000001 ∨ u = (cy_go (s 5).toInt64 (s 6).toInt64 (s (12 + j)).toInt64 (s (8 + j)) 300 1 (tk_s5 s e)).2)) (fun u zt => KB D ([(h, .inr (4, [.ref sa, .ref pa, .int z, .ref er, .ref na, .long (e 5), .long (e 6), .long (e 7), .long hs])), (sa, .inl (cI, 71, .inl s)), (na, .inl (cJ, 5, .inr (.inl e)))]) ([(h, .inr (4, [.ref sa, .ref pa, .int z, .ref er, .ref na, .long (u 5), .long (u 6), .long (u 7), .long hs])), (sa, .inl (cI, 71, .inl s)), (na, .inl (cJ, 5, .inr (.inl u)))]) sz zt) (va_A ([(h, .inr (4, [.ref sa, .ref pa, .int z, .ref er, .ref na, .long (e 5), .long (e 6), .long (e 7), .long hs])), (sa, .inl (cI, 71, .inl s)), (na, .inl (cJ, 5, .inr (.inl e)))]) sz)) 0 0 (va_A ([(h, .inr (4, [.ref sa, .ref pa, .int z, .ref er, .ref na, .long (e 5), .long (e 6), .long (e 7), .long hs])), (sa, .inl (cI, 71, .inl s)), (na, .inl (cJ, 5, .inr (.inl e)))]) sz) := by
  refine Met.ofW (cc := cX4_cycles) (maxL := 10) (ret := (some .int)) (by decide) rfl ?_
  intro zp ze zs zm zargs zbelow zmeth zc zs1 B hml hv
  obtain ⟨rfl, hsz, hP, hK, hD0, hN⟩ := hv
  have hx := B.exec
  have hb := B.bytes
  have hr := B.returns
  have hts := atoms_spec (ws := wsX4_cycles) B.pre
  have hm : ∀ (i : Nat) (w : Cond), wsX4_cycles[i]? = some w → w.before _ zs = true := fun i w h => hts w (List.mem_of_getElem? h)
  have hown : zs.vm.findClass RX4 = some zm.cls := findClass_of_methodNamed B.named
  have hlocks := B.notSynchronized
  subst hsz
  have hD := hD0.self (sz := zs.heap.size)
  generalize hAe : va_A ([(h, .inr (4, [.ref sa, .ref pa, .int z, .ref er, .ref na, .long (e 5), .long (e 6), .long (e 7), .long hs])), (sa, .inl (cI, 71, .inl s)), (na, .inl (cJ, 5, .inr (.inl e)))]) zs.heap.size = A at hD ⊢
  have hA : ∀ q : Nat, zs.heap.size ≤ q → A q := fun q h => by rw [← hAe]; exact Or.inr h
  have hS : va_S A zs.heap zs.heap [] := va_S.rf
  have hP : va_P D vwCl ([(h, .inr (4, [.ref sa, .ref pa, .int z, .ref er, .ref na, .long (e 5), .long (e 6), .long (e 7), .long hs])), (sa, .inl (cI, 71, .inl s)), (na, .inl (cJ, 5, .inr (.inl e)))]) zs.heap := hP
  have hl := lv_entry ([.ref h, .int (nI j)]) (n := 10) (Nat.le_of_ble_eq_true rfl)
  rw [lg_entry_eq]
  generalize (lg_sl ([.ref h, .int (nI j)]) ++ List.replicate (10 - (lg_sl ([.ref h, .int (nI j)])).length) Slot.unset).toArray = ls at hl ⊢
  have hl : lv_has ls 10 [(0, .ref h), (1, .int (nI j))] := hl
  refine lv_aload_n hx hb dX4_cycles_0 rfl (lv_at hl 0 rfl) ?_
  refine kc_v (wc := [(h, .inr (4, [.ref sa, .ref pa, .int z, .ref er, .ref na, .long (e 5), .long (e 6), .long (e 7), .long hs])), (sa, .inl (cI, 71, .inl s)), (na, .inl (cJ, 5, .inr (.inl e)))]) (wr := []) (va_runV (As := []) (rest := []) ⟨hx, hb, hml, hown, hts⟩ (k_X4_take l D cI cM cJ _ h sa pa er na z (e 5) (e 6) (e 7) hs s e) (cwV 0 hts gX4_cycles_X4_take rfl rfl rfl (by decide +kernel) ⟨Nat.le_of_ble_eq_true rfl, Nat.le_of_ble_eq_true rfl⟩) (kp_preV (q := (RX4, TX4, 9)) (wc := [(h, .inr (4, [.ref sa, .ref pa, .int z, .ref er, .ref na, .long (e 5), .long (e 6), .long (e 7), .long hs])), (sa, .inl (cI, 71, .inl s)), (na, .inl (cJ, 5, .inr (.inl e)))]) (wr := []) hN hK hP hD 0 rfl rfl) rfl rfl hl.1 rfl (lv_room (Nat.le_of_ble_eq_true rfl)) dX4_cycles_1 ⟨Nat.le_of_ble_eq_true rfl, Nat.le_of_ble_eq_true rfl⟩) hP hD hS hA (fun u_1 H locs p_1 hP hD hS => ?_)
  have hP : va_P D vwCl ([(h, .inr (4, [.ref sa, .ref pa, .int z, .ref er, .ref na, .long (e 5), .long (e 6), .long (e 7), .long hs])), (sa, .inl (cI, 71, .inl s)), (na, .inl (cJ, 5, .inr (.inl (tk_s5 s e))))]) H := hP
  have hD : va_D A ([(h, .inr (4, [.ref sa, .ref pa, .int z, .ref er, .ref na, .long (e 5), .long (e 6), .long (e 7), .long hs])), (sa, .inl (cI, 71, .inl s)), (na, .inl (cJ, 5, .inr (.inl (tk_s5 s e))))]) := hD
  refine lv_iconst (v := 1) hx hb dX4_cycles_4 (by decide) ?_
  refine lv_istore_n (lv' := [(2, .int 1), (0, .ref h), (1, .int (nI j))]) hx hb dX4_cycles_5 rfl hl (by decide) rfl (fun ls hl => ?_)
  refine kl_loop (fun (k : Nat) (H : Heap) (locs : List Loc) (ls : Array Slot) => ∃ (i : Nat) (E : Nat → Int64), (k + i = 301) ∧ (cy_go (s 5).toInt64 (s 6).toInt64 (s (12 + j)).toInt64 (s (8 + j)) k i E = cy_go (s 5).toInt64 (s 6).toInt64 (s (12 + j)).toInt64 (s (8 + j)) 300 1 (tk_s5 s e)) ∧ (tk_jv E) ∧ va_P D vwCl ([(h, .inr (4, [.ref sa, .ref pa, .int z, .ref er, .ref na, .long (E 5), .long (E 6), .long (E 7), .long hs])), (sa, .inl (cI, 71, .inl s)), (na, .inl (cJ, 5, .inr (.inl E)))]) H ∧ va_D A ([(h, .inr (4, [.ref sa, .ref pa, .int z, .ref er, .ref na, .long (E 5), .long (E 6), .long (E 7), .long hs])), (sa, .inl (cI, 71, .inl s)), (na, .inl (cJ, 5, .inr (.inl E)))]) ∧ va_S A zs.heap H locs ∧ lv_has ls 10 [(2, .int (nI i)), (0, .ref h), (1, .int (nI j))]) (300) ⟨1, tk_s5 s e, by omega, rfl, hj, hP, hD, hS, lv_sub hl [0, 1, 2] rfl⟩ ?_
  rintro k H locs ls ⟨i, E, hk, hE, hI, hP, hD, hS, hl⟩ ih
  refine lv_iload_n hx hb dX4_cycles_6 rfl (lv_at hl 0 rfl) ?_
  refine lv_sipush (v := 300) hx hb dX4_cycles_7 (by decide) ?_
  refine lv_icmp_gt (tgt := 140) hx hb dX4_cycles_10 (by decide) (fun c_2 => ?_) (fun c_2 => ?_)
  · have c_2 := (nI_ltI (a := 300) (b := i) (by omega) (by omega)).mp c_2
    refine lv_ldc (v := -2000000001) hx hb hown (hm 3 (.constant RX4 27 (-2000000001)) rfl) dX4_cycles_140 ?_
    exact W.iret (v := (-2000000001)) hx hb hr (fun zt ht hW => ⟨⟨(-2000000001), E, rfl, ⟨by rw [← hE, show k = 0 from by omega]; rfl, Or.inl rfl⟩, KB.of hAe (by rw [ht]; exact hP) hD⟩, hS.F ht⟩) hS.2.2 dX4_cycles_142
  · have c_2 := mt (nI_ltI (a := 300) (b := i) (by omega) (by omega)).mpr c_2
    refine lv_aload_n hx hb dX4_cycles_13 rfl (lv_at hl 1 rfl) ?_
    refine va_get (D := D) (ci := 4) (v := .ref na) (C := RX4) (T := TX4) (N := 9) hx hb hts izX4_cycles_4 hown hK hP 0 rfl rfl 4 (by decide) (hm 1 (.fieldLink RX4 19 "TankFilterModel" "now" "[J") rfl) (fun _ h9 => h9) rfl dX4_cycles_14 ?_
    refine lv_iconst (v := 2) hx hb dX4_cycles_17 (by decide) ?_
    refine ka_lld (D := D) (j := 2) (n := 5) (f := E) hx hb hK hP 2 2 rfl rfl (rfl) (by decide) (by decide) dX4_cycles_18 ?_
    refine lv_lstore_n (lv' := [(3, .long (E 2)), (2, .int (nI i)), (0, .ref h), (1, .int (nI j))]) hx hb dX4_cycles_19 rfl hl (by decide) rfl (fun ls hl => ?_)
    refine lv_aload_n hx hb dX4_cycles_20 rfl (lv_at hl 2 rfl) ?_
    refine va_get (D := D) (ci := 4) (v := .ref na) (C := RX4) (T := TX4) (N := 9) hx hb hts izX4_cycles_4 hown hK hP 0 rfl rfl 4 (by decide) (hm 1 (.fieldLink RX4 19 "TankFilterModel" "now" "[J") rfl) (fun _ h9 => h9) rfl dX4_cycles_21 ?_
    refine lv_iconst (v := 3) hx hb dX4_cycles_24 (by decide) ?_
    refine ka_lld (D := D) (j := 3) (n := 5) (f := E) hx hb hK hP 2 2 rfl rfl (rfl) (by decide) (by decide) dX4_cycles_25 ?_
    refine lv_lstore (lv' := [(5, .long (E 3)), (3, .long (E 2)), (2, .int (nI i)), (0, .ref h), (1, .int (nI j))]) hx hb dX4_cycles_26 hl (by decide) rfl (fun ls hl => ?_)
    refine lv_aload_n hx hb dX4_cycles_28 rfl (lv_at hl 3 rfl) ?_
    refine va_get (D := D) (ci := 4) (v := .ref na) (C := RX4) (T := TX4) (N := 9) hx hb hts izX4_cycles_4 hown hK hP 0 rfl rfl 4 (by decide) (hm 1 (.fieldLink RX4 19 "TankFilterModel" "now" "[J") rfl) (fun _ h9 => h9) rfl dX4_cycles_29 ?_
    refine lv_iconst (v := 4) hx hb dX4_cycles_32 (by decide) ?_
    refine ka_lld (D := D) (j := 4) (n := 5) (f := E) hx hb hK hP 2 2 rfl rfl (rfl) (by decide) (by decide) dX4_cycles_33 ?_
    refine lv_lstore (lv' := [(7, .long (E 4)), (5, .long (E 3)), (3, .long (E 2)), (2, .int (nI i)), (0, .ref h), (1, .int (nI j))]) hx hb dX4_cycles_34 hl (by decide) rfl (fun ls hl => ?_)
    refine lv_aload_n hx hb dX4_cycles_36 rfl (lv_at hl 4 rfl) ?_
    refine lv_iconst (v := 0) hx hb dX4_cycles_37 (by decide) ?_
    refine lv_aload_n hx hb dX4_cycles_38 rfl (lv_at hl 4 rfl) ?_
    refine va_get (D := D) (ci := 4) (v := .ref sa) (C := RX4) (T := TX4) (N := 9) hx hb hts izX4_cycles_4 hown hK hP 0 rfl rfl 0 (by decide) (hm 2 (.fieldLink RX4 7 "TankFilterModel" "s" "[I") rfl) (fun _ h9 => h9) rfl dX4_cycles_39 ?_
    refine lv_bipush (v := 6) hx hb dX4_cycles_42 (by decide) ?_
    refine ka_ild (D := D) (j := 6) (n := 71) (f := s) hx hb hK hP 1 0 rfl rfl (rfl) (by decide) (by decide) dX4_cycles_44 ?_
    refine kc_i (wc := [(h, .inr (4, [.ref sa, .ref pa, .int z, .ref er, .ref na, .long (E 5), .long (E 6), .long (E 7), .long hs])), (sa, .inl (cI, 71, .inl s)), (na, .inl (cJ, 5, .inr (.inl E)))]) (wr := []) (va_runV (As := [.int 0, .int (s 6)]) (rest := []) ⟨hx, hb, hml, hown, hts⟩ (k_X4_predicts l D cI cM cJ _ h sa pa er na z (E 5) (E 6) (E 7) hs s E 0 (s 6) (hI.2) (tk_c0 hI.1 hw)) (cwV 2 hts gX4_cycles_X4_predicts rfl rfl rfl (by decide +kernel) ⟨Nat.le_of_ble_eq_true rfl, Nat.le_of_ble_eq_true rfl⟩) (kp_preV (q := (RX4, TX4, 9)) (wc := [(h, .inr (4, [.ref sa, .ref pa, .int z, .ref er, .ref na, .long (E 5), .long (E 6), .long (E 7), .long hs])), (sa, .inl (cI, 71, .inl s)), (na, .inl (cJ, 5, .inr (.inl E)))]) (wr := []) hN hK hP hD 0 rfl rfl) rfl rfl hl.1 rfl (lv_room (Nat.le_of_ble_eq_true rfl)) dX4_cycles_45 ⟨Nat.le_of_ble_eq_true rfl, Nat.le_of_ble_eq_true rfl⟩) hP hD hS hA (fun r_3 u_3 H locs p_3 hP hD hS => ?_)
    rcases p_3 with ⟨p_3, rfl, rfl⟩ | ⟨p_3, rfl, rfl⟩
    · rw [tk_z64] at p_3 hP hD
      have hP : va_P D vwCl ([(h, .inr (4, [.ref sa, .ref pa, .int z, .ref er, .ref na, .long (E 5), .long (E 6), .long (E 7), .long hs])), (sa, .inl (cI, 71, .inl s)), (na, .inl (cJ, 5, .inr (.inl (ad_e E 0 (s 5).toInt64 (s 6).toInt64))))]) H := hP
      have hD : va_D A ([(h, .inr (4, [.ref sa, .ref pa, .int z, .ref er, .ref na, .long (E 5), .long (E 6), .long (E 7), .long hs])), (sa, .inl (cI, 71, .inl s)), (na, .inl (cJ, 5, .inr (.inl (ad_e E 0 (s 5).toInt64 (s 6).toInt64))))]) := hD
      refine lv_if_ne (tgt := 54) hx hb dX4_cycles_48 (by decide) (fun c_4 => ?_) (fun c_4 => ?_)
      · skip
        refine lv_aload_n hx hb dX4_cycles_54 rfl (lv_at hl 4 rfl) ?_
        refine lv_iload_n hx hb dX4_cycles_55 rfl (lv_at hl 5 rfl) ?_
        refine lv_aload_n hx hb dX4_cycles_56 rfl (lv_at hl 4 rfl) ?_
        refine va_get (D := D) (ci := 4) (v := .ref sa) (C := RX4) (T := TX4) (N := 9) hx hb hts izX4_cycles_4 hown hK hP 0 rfl rfl 0 (by decide) (hm 2 (.fieldLink RX4 7 "TankFilterModel" "s" "[I") rfl) (fun _ h9 => h9) rfl dX4_cycles_57 ?_
        refine lv_bipush (v := 8) hx hb dX4_cycles_60 (by decide) ?_
        refine lv_iload_n hx hb dX4_cycles_62 rfl (lv_at hl 5 rfl) ?_
        refine lv_iadd hx hb dX4_cycles_63 ?_
        refine ka_ild (D := D) (j := (8 + j)) (n := 71) (f := s) hx hb hK hP 1 0 rfl rfl (nI_add 8 j) (by omega) (by decide) dX4_cycles_64 ?_
        refine lv_if_ne (tgt := 77) hx hb dX4_cycles_65 (by decide) (fun c_5 => ?_) (fun c_5 => ?_)
        · skip
          refine lv_aload_n hx hb dX4_cycles_77 rfl (lv_at hl 4 rfl) ?_
          refine va_get (D := D) (ci := 4) (v := .ref na) (C := RX4) (T := TX4) (N := 9) hx hb hts izX4_cycles_4 hown hK hP 0 rfl rfl 4 (by decide) (hm 1 (.fieldLink RX4 19 "TankFilterModel" "now" "[J") rfl) (fun _ h9 => h9) rfl dX4_cycles_78 ?_
          refine lv_iconst (v := 1) hx hb dX4_cycles_81 (by decide) ?_
          refine ka_lld (D := D) (j := 1) (n := 5) (f := ad_e E 0 (s 5).toInt64 (s 6).toInt64) hx hb hK hP 2 2 rfl rfl (rfl) (by decide) (by decide) dX4_cycles_82 ?_
          refine ka_foldl (y := co_m (ad_e E 0 (s 5).toInt64 (s 6).toInt64) (s (8 + j))) (co_m1 c_5).symm ?_
          refine lv_iconst (v := 0) hx hb dX4_cycles_83 (by decide) ?_
          refine kc_i (wc := [(h, .inr (4, [.ref sa, .ref pa, .int z, .ref er, .ref na, .long (E 5), .long (E 6), .long (E 7), .long hs])), (sa, .inl (cI, 71, .inl s)), (na, .inl (cJ, 5, .inr (.inl (ad_e E 0 (s 5).toInt64 (s 6).toInt64))))]) (wr := []) (va_runV (As := [.int (nI j), .long (co_m (ad_e E 0 (s 5).toInt64 (s 6).toInt64) (s (8 + j))), .int 0]) (rest := []) ⟨hx, hb, hml, hown, hts⟩ (k_X4_corrects l D cI cM cJ _ h sa pa er na z hs s (ad_e E 0 (s 5).toInt64 (s 6).toInt64) j (co_m (ad_e E 0 (s 5).toInt64 (s 6).toInt64) (s (8 + j))) 0 (hj4) (tk_sp (tk_iv_ad p_3) hv)) (cwV 3 hts gX4_cycles_X4_corrects rfl rfl rfl (by decide +kernel) ⟨Nat.le_of_ble_eq_true rfl, Nat.le_of_ble_eq_true rfl⟩) (kp_preV (q := (RX4, TX4, 9)) (wc := [(h, .inr (4, [.ref sa, .ref pa, .int z, .ref er, .ref na, .long (E 5), .long (E 6), .long (E 7), .long hs])), (sa, .inl (cI, 71, .inl s)), (na, .inl (cJ, 5, .inr (.inl (ad_e E 0 (s 5).toInt64 (s 6).toInt64))))]) (wr := []) hN hK hP hD 0 rfl rfl) rfl rfl hl.1 rfl (lv_room (Nat.le_of_ble_eq_true rfl)) dX4_cycles_84 ⟨Nat.le_of_ble_eq_true rfl, Nat.le_of_ble_eq_true rfl⟩) hP hD hS hA (fun r_6 u_6 H locs p_6 hP hD hS => ?_)
          rcases p_6 with ⟨p_6, _⟩ | ⟨_, p_6k, rfl, rfl⟩ | ⟨_, p_6k, rfl, rfl⟩
          · exact absurd p_6 cy_rej0y
          · have hP : va_P D vwCl ([(h, .inr (4, [.ref sa, .ref pa, .int z, .ref er, .ref na, .long ((co_e (ad_e E 0 (s 5).toInt64 (s 6).toInt64) (s (8 + j)) (co_m (ad_e E 0 (s 5).toInt64 (s 6).toInt64) (s (8 + j))) (s (12 + j)).toInt64) 5), .long ((co_e (ad_e E 0 (s 5).toInt64 (s 6).toInt64) (s (8 + j)) (co_m (ad_e E 0 (s 5).toInt64 (s 6).toInt64) (s (8 + j))) (s (12 + j)).toInt64) 6), .long ((co_e (ad_e E 0 (s 5).toInt64 (s 6).toInt64) (s (8 + j)) (co_m (ad_e E 0 (s 5).toInt64 (s 6).toInt64) (s (8 + j))) (s (12 + j)).toInt64) 7), .long hs])), (sa, .inl (cI, 71, .inl s)), (na, .inl (cJ, 5, .inr (.inl (co_e (ad_e E 0 (s 5).toInt64 (s 6).toInt64) (s (8 + j)) (co_m (ad_e E 0 (s 5).toInt64 (s 6).toInt64) (s (8 + j))) (s (12 + j)).toInt64))))]) H := hP
            have hD : va_D A ([(h, .inr (4, [.ref sa, .ref pa, .int z, .ref er, .ref na, .long ((co_e (ad_e E 0 (s 5).toInt64 (s 6).toInt64) (s (8 + j)) (co_m (ad_e E 0 (s 5).toInt64 (s 6).toInt64) (s (8 + j))) (s (12 + j)).toInt64) 5), .long ((co_e (ad_e E 0 (s 5).toInt64 (s 6).toInt64) (s (8 + j)) (co_m (ad_e E 0 (s 5).toInt64 (s 6).toInt64) (s (8 + j))) (s (12 + j)).toInt64) 6), .long ((co_e (ad_e E 0 (s 5).toInt64 (s 6).toInt64) (s (8 + j)) (co_m (ad_e E 0 (s 5).toInt64 (s 6).toInt64) (s (8 + j))) (s (12 + j)).toInt64) 7), .long hs])), (sa, .inl (cI, 71, .inl s)), (na, .inl (cJ, 5, .inr (.inl (co_e (ad_e E 0 (s 5).toInt64 (s 6).toInt64) (s (8 + j)) (co_m (ad_e E 0 (s 5).toInt64 (s 6).toInt64) (s (8 + j))) (s (12 + j)).toInt64))))]) := hD
            refine lv_istore (lv' := [(9, .int 1), (7, .long (E 4)), (5, .long (E 3)), (3, .long (E 2)), (2, .int (nI i)), (0, .ref h), (1, .int (nI j))]) hx hb dX4_cycles_87 hl (by decide) rfl (fun ls hl => ?_)
            refine lv_iload hx hb dX4_cycles_89 (lv_at hl 0 rfl) ?_
            refine lv_if_ge (tgt := 97) hx hb dX4_cycles_91 (by decide) (fun c_7 => ?_) (fun c_7 => ?_)
            · skip
              refine lv_aload_n hx hb dX4_cycles_97 rfl (lv_at hl 5 rfl) ?_
              refine va_get (D := D) (ci := 4) (v := .ref na) (C := RX4) (T := TX4) (N := 9) hx hb hts izX4_cycles_4 hown hK hP 0 rfl rfl 4 (by decide) (hm 1 (.fieldLink RX4 19 "TankFilterModel" "now" "[J") rfl) (fun _ h9 => h9) rfl dX4_cycles_98 ?_
              refine lv_iconst (v := 2) hx hb dX4_cycles_101 (by decide) ?_
              refine ka_lld (D := D) (j := 2) (n := 5) (f := co_e (ad_e E 0 (s 5).toInt64 (s 6).toInt64) (s (8 + j)) (co_m (ad_e E 0 (s 5).toInt64 (s 6).toInt64) (s (8 + j))) (s (12 + j)).toInt64) hx hb hK hP 2 2 rfl rfl (rfl) (by decide) (by decide) dX4_cycles_102 ?_
              refine lv_lload_n hx hb dX4_cycles_103 rfl (lv_at hl 3 rfl) ?_
              refine W.lcmp hx hb dX4_cycles_104 ?_
              refine lv_if_ne (tgt := 134) hx hb dX4_cycles_105 (by decide) (fun c_8 => ?_) (fun c_8 => ?_)
              · have c_8 := mt (lg_cmp_eq _ _).mpr c_8
                refine lv_iinc (v := nI (i + 1)) (lv' := [(2, .int (nI (i + 1))), (9, .int 1), (7, .long (E 4)), (5, .long (E 3)), (3, .long (E 2)), (0, .ref h), (1, .int (nI j))]) hx hb dX4_cycles_134 hl (k := 4) rfl (nI_1 _) (by decide) rfl (fun ls hl => ?_)
                refine lv_goto (tgt := 6) hx hb dX4_cycles_137 (by decide) ?_
                exact ih (k - 1) _ _ _ (by omega) ⟨i + 1, cy_e (s 5).toInt64 (s 6).toInt64 (s (12 + j)).toInt64 (s (8 + j)) E, by omega, (cy_go_t (by rw [cy_ok, p_3, p_6k]; rfl) (fun z => c_8 z.1) (by omega)).symm.trans hE, tk_jv_co p_6k, hP, hD, hS, lv_sub hl [0, 5, 6] rfl⟩
              · have c_8 := (lg_cmp_eq _ _).mp c_8
                refine lv_aload_n hx hb dX4_cycles_108 rfl (lv_at hl 5 rfl) ?_
                refine va_get (D := D) (ci := 4) (v := .ref na) (C := RX4) (T := TX4) (N := 9) hx hb hts izX4_cycles_4 hown hK hP 0 rfl rfl 4 (by decide) (hm 1 (.fieldLink RX4 19 "TankFilterModel" "now" "[J") rfl) (fun _ h9 => h9) rfl dX4_cycles_109 ?_
                refine lv_iconst (v := 3) hx hb dX4_cycles_112 (by decide) ?_
                refine ka_lld (D := D) (j := 3) (n := 5) (f := co_e (ad_e E 0 (s 5).toInt64 (s 6).toInt64) (s (8 + j)) (co_m (ad_e E 0 (s 5).toInt64 (s 6).toInt64) (s (8 + j))) (s (12 + j)).toInt64) hx hb hK hP 2 2 rfl rfl (rfl) (by decide) (by decide) dX4_cycles_113 ?_
                refine lv_lload hx hb dX4_cycles_114 (lv_at hl 2 rfl) ?_
                refine W.lcmp hx hb dX4_cycles_116 ?_
                refine lv_if_ne (tgt := 134) hx hb dX4_cycles_117 (by decide) (fun c_9 => ?_) (fun c_9 => ?_)
                · have c_9 := mt (lg_cmp_eq _ _).mpr c_9
                  refine lv_iinc (v := nI (i + 1)) (lv' := [(2, .int (nI (i + 1))), (9, .int 1), (7, .long (E 4)), (5, .long (E 3)), (3, .long (E 2)), (0, .ref h), (1, .int (nI j))]) hx hb dX4_cycles_134 hl (k := 4) rfl (nI_1 _) (by decide) rfl (fun ls hl => ?_)
                  refine lv_goto (tgt := 6) hx hb dX4_cycles_137 (by decide) ?_
                  exact ih (k - 1) _ _ _ (by omega) ⟨i + 1, cy_e (s 5).toInt64 (s 6).toInt64 (s (12 + j)).toInt64 (s (8 + j)) E, by omega, (cy_go_t (by rw [cy_ok, p_3, p_6k]; rfl) (fun z => c_9 z.2.1) (by omega)).symm.trans hE, tk_jv_co p_6k, hP, hD, hS, lv_sub hl [0, 5, 6] rfl⟩
                · have c_9 := (lg_cmp_eq _ _).mp c_9
                  refine lv_aload_n hx hb dX4_cycles_120 rfl (lv_at hl 5 rfl) ?_
                  refine va_get (D := D) (ci := 4) (v := .ref na) (C := RX4) (T := TX4) (N := 9) hx hb hts izX4_cycles_4 hown hK hP 0 rfl rfl 4 (by decide) (hm 1 (.fieldLink RX4 19 "TankFilterModel" "now" "[J") rfl) (fun _ h9 => h9) rfl dX4_cycles_121 ?_
                  refine lv_iconst (v := 4) hx hb dX4_cycles_124 (by decide) ?_
                  refine ka_lld (D := D) (j := 4) (n := 5) (f := co_e (ad_e E 0 (s 5).toInt64 (s 6).toInt64) (s (8 + j)) (co_m (ad_e E 0 (s 5).toInt64 (s 6).toInt64) (s (8 + j))) (s (12 + j)).toInt64) hx hb hK hP 2 2 rfl rfl (rfl) (by decide) (by decide) dX4_cycles_125 ?_
                  refine lv_lload hx hb dX4_cycles_126 (lv_at hl 1 rfl) ?_
                  refine W.lcmp hx hb dX4_cycles_128 ?_
                  refine lv_if_ne (tgt := 134) hx hb dX4_cycles_129 (by decide) (fun c_10 => ?_) (fun c_10 => ?_)
                  · have c_10 := mt (lg_cmp_eq _ _).mpr c_10
                    refine lv_iinc (v := nI (i + 1)) (lv' := [(2, .int (nI (i + 1))), (9, .int 1), (7, .long (E 4)), (5, .long (E 3)), (3, .long (E 2)), (0, .ref h), (1, .int (nI j))]) hx hb dX4_cycles_134 hl (k := 4) rfl (nI_1 _) (by decide) rfl (fun ls hl => ?_)
                    refine lv_goto (tgt := 6) hx hb dX4_cycles_137 (by decide) ?_
                    exact ih (k - 1) _ _ _ (by omega) ⟨i + 1, cy_e (s 5).toInt64 (s 6).toInt64 (s (12 + j)).toInt64 (s (8 + j)) E, by omega, (cy_go_t (by rw [cy_ok, p_3, p_6k]; rfl) (fun z => c_10 z.2.2) (by omega)).symm.trans hE, tk_jv_co p_6k, hP, hD, hS, lv_sub hl [0, 5, 6] rfl⟩
                  · have c_10 := (lg_cmp_eq _ _).mp c_10
                    refine lv_iload_n hx hb dX4_cycles_132 rfl (lv_at hl 4 rfl) ?_
                    exact W.iret (v := nI i) hx hb hr (fun zt ht hW => ⟨⟨nI i, cy_e (s 5).toInt64 (s 6).toInt64 (s (12 + j)).toInt64 (s (8 + j)) E, rfl, ⟨by rw [← hE, (cy_go_s (k := k) (i := i) (by rw [cy_ok, p_3, p_6k]; rfl) ⟨c_8, c_9, c_10⟩ (by omega))], Or.inr (by rw [← hE, (cy_go_s (k := k) (i := i) (by rw [cy_ok, p_3, p_6k]; rfl) ⟨c_8, c_9, c_10⟩ (by omega))])⟩, KB.of hAe (by rw [ht]; exact hP) hD⟩, hS.F ht⟩) hS.2.2 dX4_cycles_133
            · exact absurd c_7 (by decide)
          · have hP : va_P D vwCl ([(h, .inr (4, [.ref sa, .ref pa, .int z, .ref er, .ref na, .long ((tk_y (ad_e E 0 (s 5).toInt64 (s 6).toInt64) ((co_m (ad_e E 0 (s 5).toInt64 (s 6).toInt64) (s (8 + j))) - co_m (ad_e E 0 (s 5).toInt64 (s 6).toInt64) (s (8 + j)))) 5), .long ((tk_y (ad_e E 0 (s 5).toInt64 (s 6).toInt64) ((co_m (ad_e E 0 (s 5).toInt64 (s 6).toInt64) (s (8 + j))) - co_m (ad_e E 0 (s 5).toInt64 (s 6).toInt64) (s (8 + j)))) 6), .long ((tk_y (ad_e E 0 (s 5).toInt64 (s 6).toInt64) ((co_m (ad_e E 0 (s 5).toInt64 (s 6).toInt64) (s (8 + j))) - co_m (ad_e E 0 (s 5).toInt64 (s 6).toInt64) (s (8 + j)))) 7), .long hs])), (sa, .inl (cI, 71, .inl s)), (na, .inl (cJ, 5, .inr (.inl (tk_y (ad_e E 0 (s 5).toInt64 (s 6).toInt64) ((co_m (ad_e E 0 (s 5).toInt64 (s 6).toInt64) (s (8 + j))) - co_m (ad_e E 0 (s 5).toInt64 (s 6).toInt64) (s (8 + j)))))))]) H := hP
            have hD : va_D A ([(h, .inr (4, [.ref sa, .ref pa, .int z, .ref er, .ref na, .long ((tk_y (ad_e E 0 (s 5).toInt64 (s 6).toInt64) ((co_m (ad_e E 0 (s 5).toInt64 (s 6).toInt64) (s (8 + j))) - co_m (ad_e E 0 (s 5).toInt64 (s 6).toInt64) (s (8 + j)))) 5), .long ((tk_y (ad_e E 0 (s 5).toInt64 (s 6).toInt64) ((co_m (ad_e E 0 (s 5).toInt64 (s 6).toInt64) (s (8 + j))) - co_m (ad_e E 0 (s 5).toInt64 (s 6).toInt64) (s (8 + j)))) 6), .long ((tk_y (ad_e E 0 (s 5).toInt64 (s 6).toInt64) ((co_m (ad_e E 0 (s 5).toInt64 (s 6).toInt64) (s (8 + j))) - co_m (ad_e E 0 (s 5).toInt64 (s 6).toInt64) (s (8 + j)))) 7), .long hs])), (sa, .inl (cI, 71, .inl s)), (na, .inl (cJ, 5, .inr (.inl (tk_y (ad_e E 0 (s 5).toInt64 (s 6).toInt64) ((co_m (ad_e E 0 (s 5).toInt64 (s 6).toInt64) (s (8 + j))) - co_m (ad_e E 0 (s 5).toInt64 (s 6).toInt64) (s (8 + j)))))))]) := hD
            refine lv_istore (lv' := [(9, .int (-1)), (7, .long (E 4)), (5, .long (E 3)), (3, .long (E 2)), (2, .int (nI i)), (0, .ref h), (1, .int (nI j))]) hx hb dX4_cycles_87 hl (by decide) rfl (fun ls hl => ?_)
            refine lv_iload hx hb dX4_cycles_89 (lv_at hl 0 rfl) ?_
            refine lv_if_ge (tgt := 97) hx hb dX4_cycles_91 (by decide) (fun c_11 => ?_) (fun c_11 => ?_)
            · exact absurd c_11 (by decide)
            · skip
              refine lv_ldc (v := -2000000001) hx hb hown (hm 3 (.constant RX4 27 (-2000000001)) rfl) dX4_cycles_94 ?_
              exact W.iret (v := (-2000000001)) hx hb hr (fun zt ht hW => ⟨⟨(-2000000001), tk_y (ad_e E 0 (s 5).toInt64 (s 6).toInt64) ((co_m (ad_e E 0 (s 5).toInt64 (s 6).toInt64) (s (8 + j))) - co_m (ad_e E 0 (s 5).toInt64 (s 6).toInt64) (s (8 + j))), rfl, ⟨by rw [← hE]; exact (cy_go_f (by rw [cy_ok, p_3, p_6k]; rfl) (by omega)).symm, Or.inl rfl⟩, KB.of hAe (by rw [ht]; exact hP) hD⟩, hS.F ht⟩) hS.2.2 dX4_cycles_96
        · skip
          refine lv_aload_n hx hb dX4_cycles_68 rfl (lv_at hl 4 rfl) ?_
          refine va_get (D := D) (ci := 4) (v := .ref na) (C := RX4) (T := TX4) (N := 9) hx hb hts izX4_cycles_4 hown hK hP 0 rfl rfl 4 (by decide) (hm 1 (.fieldLink RX4 19 "TankFilterModel" "now" "[J") rfl) (fun _ h9 => h9) rfl dX4_cycles_69 ?_
          refine lv_iconst (v := 0) hx hb dX4_cycles_72 (by decide) ?_
          refine ka_lld (D := D) (j := 0) (n := 5) (f := ad_e E 0 (s 5).toInt64 (s 6).toInt64) hx hb hK hP 2 2 rfl rfl (rfl) (by decide) (by decide) dX4_cycles_73 ?_
          refine lv_goto (tgt := 83) hx hb dX4_cycles_74 (by decide) ?_
          refine ka_foldl (y := co_m (ad_e E 0 (s 5).toInt64 (s 6).toInt64) (s (8 + j))) (co_m0 c_5).symm ?_
          refine lv_iconst (v := 0) hx hb dX4_cycles_83 (by decide) ?_
          refine kc_i (wc := [(h, .inr (4, [.ref sa, .ref pa, .int z, .ref er, .ref na, .long (E 5), .long (E 6), .long (E 7), .long hs])), (sa, .inl (cI, 71, .inl s)), (na, .inl (cJ, 5, .inr (.inl (ad_e E 0 (s 5).toInt64 (s 6).toInt64))))]) (wr := []) (va_runV (As := [.int (nI j), .long (co_m (ad_e E 0 (s 5).toInt64 (s 6).toInt64) (s (8 + j))), .int 0]) (rest := []) ⟨hx, hb, hml, hown, hts⟩ (k_X4_corrects l D cI cM cJ _ h sa pa er na z hs s (ad_e E 0 (s 5).toInt64 (s 6).toInt64) j (co_m (ad_e E 0 (s 5).toInt64 (s 6).toInt64) (s (8 + j))) 0 (hj4) (tk_sp (tk_iv_ad p_3) hv)) (cwV 3 hts gX4_cycles_X4_corrects rfl rfl rfl (by decide +kernel) ⟨Nat.le_of_ble_eq_true rfl, Nat.le_of_ble_eq_true rfl⟩) (kp_preV (q := (RX4, TX4, 9)) (wc := [(h, .inr (4, [.ref sa, .ref pa, .int z, .ref er, .ref na, .long (E 5), .long (E 6), .long (E 7), .long hs])), (sa, .inl (cI, 71, .inl s)), (na, .inl (cJ, 5, .inr (.inl (ad_e E 0 (s 5).toInt64 (s 6).toInt64))))]) (wr := []) hN hK hP hD 0 rfl rfl) rfl rfl hl.1 rfl (lv_room (Nat.le_of_ble_eq_true rfl)) dX4_cycles_84 ⟨Nat.le_of_ble_eq_true rfl, Nat.le_of_ble_eq_true rfl⟩) hP hD hS hA (fun r_12 u_12 H locs p_12 hP hD hS => ?_)
          rcases p_12 with ⟨p_12, _⟩ | ⟨_, p_12k, rfl, rfl⟩ | ⟨_, p_12k, rfl, rfl⟩
          · exact absurd p_12 cy_rej0y
          · have hP : va_P D vwCl ([(h, .inr (4, [.ref sa, .ref pa, .int z, .ref er, .ref na, .long ((co_e (ad_e E 0 (s 5).toInt64 (s 6).toInt64) (s (8 + j)) (co_m (ad_e E 0 (s 5).toInt64 (s 6).toInt64) (s (8 + j))) (s (12 + j)).toInt64) 5), .long ((co_e (ad_e E 0 (s 5).toInt64 (s 6).toInt64) (s (8 + j)) (co_m (ad_e E 0 (s 5).toInt64 (s 6).toInt64) (s (8 + j))) (s (12 + j)).toInt64) 6), .long ((co_e (ad_e E 0 (s 5).toInt64 (s 6).toInt64) (s (8 + j)) (co_m (ad_e E 0 (s 5).toInt64 (s 6).toInt64) (s (8 + j))) (s (12 + j)).toInt64) 7), .long hs])), (sa, .inl (cI, 71, .inl s)), (na, .inl (cJ, 5, .inr (.inl (co_e (ad_e E 0 (s 5).toInt64 (s 6).toInt64) (s (8 + j)) (co_m (ad_e E 0 (s 5).toInt64 (s 6).toInt64) (s (8 + j))) (s (12 + j)).toInt64))))]) H := hP
            have hD : va_D A ([(h, .inr (4, [.ref sa, .ref pa, .int z, .ref er, .ref na, .long ((co_e (ad_e E 0 (s 5).toInt64 (s 6).toInt64) (s (8 + j)) (co_m (ad_e E 0 (s 5).toInt64 (s 6).toInt64) (s (8 + j))) (s (12 + j)).toInt64) 5), .long ((co_e (ad_e E 0 (s 5).toInt64 (s 6).toInt64) (s (8 + j)) (co_m (ad_e E 0 (s 5).toInt64 (s 6).toInt64) (s (8 + j))) (s (12 + j)).toInt64) 6), .long ((co_e (ad_e E 0 (s 5).toInt64 (s 6).toInt64) (s (8 + j)) (co_m (ad_e E 0 (s 5).toInt64 (s 6).toInt64) (s (8 + j))) (s (12 + j)).toInt64) 7), .long hs])), (sa, .inl (cI, 71, .inl s)), (na, .inl (cJ, 5, .inr (.inl (co_e (ad_e E 0 (s 5).toInt64 (s 6).toInt64) (s (8 + j)) (co_m (ad_e E 0 (s 5).toInt64 (s 6).toInt64) (s (8 + j))) (s (12 + j)).toInt64))))]) := hD
            refine lv_istore (lv' := [(9, .int 1), (7, .long (E 4)), (5, .long (E 3)), (3, .long (E 2)), (2, .int (nI i)), (0, .ref h), (1, .int (nI j))]) hx hb dX4_cycles_87 hl (by decide) rfl (fun ls hl => ?_)
            refine lv_iload hx hb dX4_cycles_89 (lv_at hl 0 rfl) ?_
            refine lv_if_ge (tgt := 97) hx hb dX4_cycles_91 (by decide) (fun c_13 => ?_) (fun c_13 => ?_)
            · skip
              refine lv_aload_n hx hb dX4_cycles_97 rfl (lv_at hl 5 rfl) ?_
              refine va_get (D := D) (ci := 4) (v := .ref na) (C := RX4) (T := TX4) (N := 9) hx hb hts izX4_cycles_4 hown hK hP 0 rfl rfl 4 (by decide) (hm 1 (.fieldLink RX4 19 "TankFilterModel" "now" "[J") rfl) (fun _ h9 => h9) rfl dX4_cycles_98 ?_
              refine lv_iconst (v := 2) hx hb dX4_cycles_101 (by decide) ?_
              refine ka_lld (D := D) (j := 2) (n := 5) (f := co_e (ad_e E 0 (s 5).toInt64 (s 6).toInt64) (s (8 + j)) (co_m (ad_e E 0 (s 5).toInt64 (s 6).toInt64) (s (8 + j))) (s (12 + j)).toInt64) hx hb hK hP 2 2 rfl rfl (rfl) (by decide) (by decide) dX4_cycles_102 ?_
              refine lv_lload_n hx hb dX4_cycles_103 rfl (lv_at hl 3 rfl) ?_
              refine W.lcmp hx hb dX4_cycles_104 ?_
              refine lv_if_ne (tgt := 134) hx hb dX4_cycles_105 (by decide) (fun c_14 => ?_) (fun c_14 => ?_)
              · have c_14 := mt (lg_cmp_eq _ _).mpr c_14
                refine lv_iinc (v := nI (i + 1)) (lv' := [(2, .int (nI (i + 1))), (9, .int 1), (7, .long (E 4)), (5, .long (E 3)), (3, .long (E 2)), (0, .ref h), (1, .int (nI j))]) hx hb dX4_cycles_134 hl (k := 4) rfl (nI_1 _) (by decide) rfl (fun ls hl => ?_)
                refine lv_goto (tgt := 6) hx hb dX4_cycles_137 (by decide) ?_
                exact ih (k - 1) _ _ _ (by omega) ⟨i + 1, cy_e (s 5).toInt64 (s 6).toInt64 (s (12 + j)).toInt64 (s (8 + j)) E, by omega, (cy_go_t (by rw [cy_ok, p_3, p_12k]; rfl) (fun z => c_14 z.1) (by omega)).symm.trans hE, tk_jv_co p_12k, hP, hD, hS, lv_sub hl [0, 5, 6] rfl⟩
              · have c_14 := (lg_cmp_eq _ _).mp c_14
                refine lv_aload_n hx hb dX4_cycles_108 rfl (lv_at hl 5 rfl) ?_
                refine va_get (D := D) (ci := 4) (v := .ref na) (C := RX4) (T := TX4) (N := 9) hx hb hts izX4_cycles_4 hown hK hP 0 rfl rfl 4 (by decide) (hm 1 (.fieldLink RX4 19 "TankFilterModel" "now" "[J") rfl) (fun _ h9 => h9) rfl dX4_cycles_109 ?_
                refine lv_iconst (v := 3) hx hb dX4_cycles_112 (by decide) ?_
                refine ka_lld (D := D) (j := 3) (n := 5) (f := co_e (ad_e E 0 (s 5).toInt64 (s 6).toInt64) (s (8 + j)) (co_m (ad_e E 0 (s 5).toInt64 (s 6).toInt64) (s (8 + j))) (s (12 + j)).toInt64) hx hb hK hP 2 2 rfl rfl (rfl) (by decide) (by decide) dX4_cycles_113 ?_
                refine lv_lload hx hb dX4_cycles_114 (lv_at hl 2 rfl) ?_
                refine W.lcmp hx hb dX4_cycles_116 ?_
                refine lv_if_ne (tgt := 134) hx hb dX4_cycles_117 (by decide) (fun c_15 => ?_) (fun c_15 => ?_)
                · have c_15 := mt (lg_cmp_eq _ _).mpr c_15
                  refine lv_iinc (v := nI (i + 1)) (lv' := [(2, .int (nI (i + 1))), (9, .int 1), (7, .long (E 4)), (5, .long (E 3)), (3, .long (E 2)), (0, .ref h), (1, .int (nI j))]) hx hb dX4_cycles_134 hl (k := 4) rfl (nI_1 _) (by decide) rfl (fun ls hl => ?_)
                  refine lv_goto (tgt := 6) hx hb dX4_cycles_137 (by decide) ?_
                  exact ih (k - 1) _ _ _ (by omega) ⟨i + 1, cy_e (s 5).toInt64 (s 6).toInt64 (s (12 + j)).toInt64 (s (8 + j)) E, by omega, (cy_go_t (by rw [cy_ok, p_3, p_12k]; rfl) (fun z => c_15 z.2.1) (by omega)).symm.trans hE, tk_jv_co p_12k, hP, hD, hS, lv_sub hl [0, 5, 6] rfl⟩
                · have c_15 := (lg_cmp_eq _ _).mp c_15
                  refine lv_aload_n hx hb dX4_cycles_120 rfl (lv_at hl 5 rfl) ?_
                  refine va_get (D := D) (ci := 4) (v := .ref na) (C := RX4) (T := TX4) (N := 9) hx hb hts izX4_cycles_4 hown hK hP 0 rfl rfl 4 (by decide) (hm 1 (.fieldLink RX4 19 "TankFilterModel" "now" "[J") rfl) (fun _ h9 => h9) rfl dX4_cycles_121 ?_
                  refine lv_iconst (v := 4) hx hb dX4_cycles_124 (by decide) ?_
                  refine ka_lld (D := D) (j := 4) (n := 5) (f := co_e (ad_e E 0 (s 5).toInt64 (s 6).toInt64) (s (8 + j)) (co_m (ad_e E 0 (s 5).toInt64 (s 6).toInt64) (s (8 + j))) (s (12 + j)).toInt64) hx hb hK hP 2 2 rfl rfl (rfl) (by decide) (by decide) dX4_cycles_125 ?_
                  refine lv_lload hx hb dX4_cycles_126 (lv_at hl 1 rfl) ?_
                  refine W.lcmp hx hb dX4_cycles_128 ?_
                  refine lv_if_ne (tgt := 134) hx hb dX4_cycles_129 (by decide) (fun c_16 => ?_) (fun c_16 => ?_)
                  · have c_16 := mt (lg_cmp_eq _ _).mpr c_16
                    refine lv_iinc (v := nI (i + 1)) (lv' := [(2, .int (nI (i + 1))), (9, .int 1), (7, .long (E 4)), (5, .long (E 3)), (3, .long (E 2)), (0, .ref h), (1, .int (nI j))]) hx hb dX4_cycles_134 hl (k := 4) rfl (nI_1 _) (by decide) rfl (fun ls hl => ?_)
                    refine lv_goto (tgt := 6) hx hb dX4_cycles_137 (by decide) ?_
                    exact ih (k - 1) _ _ _ (by omega) ⟨i + 1, cy_e (s 5).toInt64 (s 6).toInt64 (s (12 + j)).toInt64 (s (8 + j)) E, by omega, (cy_go_t (by rw [cy_ok, p_3, p_12k]; rfl) (fun z => c_16 z.2.2) (by omega)).symm.trans hE, tk_jv_co p_12k, hP, hD, hS, lv_sub hl [0, 5, 6] rfl⟩
                  · have c_16 := (lg_cmp_eq _ _).mp c_16
                    refine lv_iload_n hx hb dX4_cycles_132 rfl (lv_at hl 4 rfl) ?_
                    exact W.iret (v := nI i) hx hb hr (fun zt ht hW => ⟨⟨nI i, cy_e (s 5).toInt64 (s 6).toInt64 (s (12 + j)).toInt64 (s (8 + j)) E, rfl, ⟨by rw [← hE, (cy_go_s (k := k) (i := i) (by rw [cy_ok, p_3, p_12k]; rfl) ⟨c_14, c_15, c_16⟩ (by omega))], Or.inr (by rw [← hE, (cy_go_s (k := k) (i := i) (by rw [cy_ok, p_3, p_12k]; rfl) ⟨c_14, c_15, c_16⟩ (by omega))])⟩, KB.of hAe (by rw [ht]; exact hP) hD⟩, hS.F ht⟩) hS.2.2 dX4_cycles_133
            · exact absurd c_13 (by decide)
          · have hP : va_P D vwCl ([(h, .inr (4, [.ref sa, .ref pa, .int z, .ref er, .ref na, .long ((tk_y (ad_e E 0 (s 5).toInt64 (s 6).toInt64) ((co_m (ad_e E 0 (s 5).toInt64 (s 6).toInt64) (s (8 + j))) - co_m (ad_e E 0 (s 5).toInt64 (s 6).toInt64) (s (8 + j)))) 5), .long ((tk_y (ad_e E 0 (s 5).toInt64 (s 6).toInt64) ((co_m (ad_e E 0 (s 5).toInt64 (s 6).toInt64) (s (8 + j))) - co_m (ad_e E 0 (s 5).toInt64 (s 6).toInt64) (s (8 + j)))) 6), .long ((tk_y (ad_e E 0 (s 5).toInt64 (s 6).toInt64) ((co_m (ad_e E 0 (s 5).toInt64 (s 6).toInt64) (s (8 + j))) - co_m (ad_e E 0 (s 5).toInt64 (s 6).toInt64) (s (8 + j)))) 7), .long hs])), (sa, .inl (cI, 71, .inl s)), (na, .inl (cJ, 5, .inr (.inl (tk_y (ad_e E 0 (s 5).toInt64 (s 6).toInt64) ((co_m (ad_e E 0 (s 5).toInt64 (s 6).toInt64) (s (8 + j))) - co_m (ad_e E 0 (s 5).toInt64 (s 6).toInt64) (s (8 + j)))))))]) H := hP
            have hD : va_D A ([(h, .inr (4, [.ref sa, .ref pa, .int z, .ref er, .ref na, .long ((tk_y (ad_e E 0 (s 5).toInt64 (s 6).toInt64) ((co_m (ad_e E 0 (s 5).toInt64 (s 6).toInt64) (s (8 + j))) - co_m (ad_e E 0 (s 5).toInt64 (s 6).toInt64) (s (8 + j)))) 5), .long ((tk_y (ad_e E 0 (s 5).toInt64 (s 6).toInt64) ((co_m (ad_e E 0 (s 5).toInt64 (s 6).toInt64) (s (8 + j))) - co_m (ad_e E 0 (s 5).toInt64 (s 6).toInt64) (s (8 + j)))) 6), .long ((tk_y (ad_e E 0 (s 5).toInt64 (s 6).toInt64) ((co_m (ad_e E 0 (s 5).toInt64 (s 6).toInt64) (s (8 + j))) - co_m (ad_e E 0 (s 5).toInt64 (s 6).toInt64) (s (8 + j)))) 7), .long hs])), (sa, .inl (cI, 71, .inl s)), (na, .inl (cJ, 5, .inr (.inl (tk_y (ad_e E 0 (s 5).toInt64 (s 6).toInt64) ((co_m (ad_e E 0 (s 5).toInt64 (s 6).toInt64) (s (8 + j))) - co_m (ad_e E 0 (s 5).toInt64 (s 6).toInt64) (s (8 + j)))))))]) := hD
            refine lv_istore (lv' := [(9, .int (-1)), (7, .long (E 4)), (5, .long (E 3)), (3, .long (E 2)), (2, .int (nI i)), (0, .ref h), (1, .int (nI j))]) hx hb dX4_cycles_87 hl (by decide) rfl (fun ls hl => ?_)
            refine lv_iload hx hb dX4_cycles_89 (lv_at hl 0 rfl) ?_
            refine lv_if_ge (tgt := 97) hx hb dX4_cycles_91 (by decide) (fun c_17 => ?_) (fun c_17 => ?_)
            · exact absurd c_17 (by decide)
            · skip
              refine lv_ldc (v := -2000000001) hx hb hown (hm 3 (.constant RX4 27 (-2000000001)) rfl) dX4_cycles_94 ?_
              exact W.iret (v := (-2000000001)) hx hb hr (fun zt ht hW => ⟨⟨(-2000000001), tk_y (ad_e E 0 (s 5).toInt64 (s 6).toInt64) ((co_m (ad_e E 0 (s 5).toInt64 (s 6).toInt64) (s (8 + j))) - co_m (ad_e E 0 (s 5).toInt64 (s 6).toInt64) (s (8 + j))), rfl, ⟨by rw [← hE]; exact (cy_go_f (by rw [cy_ok, p_3, p_12k]; rfl) (by omega)).symm, Or.inl rfl⟩, KB.of hAe (by rw [ht]; exact hP) hD⟩, hS.F ht⟩) hS.2.2 dX4_cycles_96
      · exact absurd c_4 (by decide)
    · rw [tk_z64] at p_3
      have hP : va_P D vwCl ([(h, .inr (4, [.ref sa, .ref pa, .int z, .ref er, .ref na, .long (E 5), .long (E 6), .long (E 7), .long hs])), (sa, .inl (cI, 71, .inl s)), (na, .inl (cJ, 5, .inr (.inl E)))]) H := hP
      have hD : va_D A ([(h, .inr (4, [.ref sa, .ref pa, .int z, .ref er, .ref na, .long (E 5), .long (E 6), .long (E 7), .long hs])), (sa, .inl (cI, 71, .inl s)), (na, .inl (cJ, 5, .inr (.inl E)))]) := hD
      refine lv_if_ne (tgt := 54) hx hb dX4_cycles_48 (by decide) (fun c_18 => ?_) (fun c_18 => ?_)
      · exact absurd c_18 (by decide)
      · skip
        refine lv_ldc (v := -2000000001) hx hb hown (hm 3 (.constant RX4 27 (-2000000001)) rfl) dX4_cycles_51 ?_
        exact W.iret (v := (-2000000001)) hx hb hr (fun zt ht hW => ⟨⟨(-2000000001), E, rfl, ⟨by rw [← hE]; exact (cy_go_f (by rw [cy_ok, p_3]; rfl) (by omega)).symm, Or.inl rfl⟩, KB.of hAe (by rw [ht]; exact hP) hD⟩, hS.F ht⟩) hS.2.2 dX4_cycles_53
