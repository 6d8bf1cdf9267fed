def tk_ro (o : Option Int64) : Int64 := match o with
  | some x => if tk_in x = true then x else -1
  | none => -1

theorem tk_m1 (h : tk_rng 0 3 (-1)) : False := absurd h.1 (by decide)

theorem izX4_errorOf_4 : ∀ w ∈ wsX40, w ∈ wsX4_errorOf := fun _ h => List.mem_cons_of_mem _ (List.mem_append_right _ h)
set_option maxHeartbeats 1000000 in
set_option maxRecDepth 100000 in
/-- errorOf -/
theorem k_X4_errorOf (l : Launch) (D : va_G) (cI cM cJ : ClassId) (sz : Nat) (h sa pa er na : Nat) (z : Int32) (hs : Int64) (s : Nat → Int32) (e : Nat → Int64) (fw : Int32) (n : Nat) (hn : n ≤ 24) (h22 : s 22 = nI n) (hj : tk_jv (tk_s5 s e)) (hfw : tk_rng 0 4096000 fw) (hV : ∀ j, j < 4 → tk_rv (s (12 + j))) (hSr : ∀ i, i < n → s (23 + 2 * i) = -1 ∨ tk_rng 0 3 (s (23 + 2 * i))) : Met l yX4_errorOf wsX4_errorOf ({ frames := 3, cells := 0, slots := 0, locals := 91 }) (va_Pc [.ref h, .int fw] (KP D (tk_T cI cM cJ) ([(h, .inr (4, [.ref sa, .ref pa, .int z, .ref er, .ref na, .long (e 5), .long (e 6), .long (e 7), .long hs])), (sa, .inl (cI, 71, .inl s)), (na, .inl (cJ, 5, .inr (.inl e)))]) sz)) (va_Ql (fun (r : Int64) (u : Nat → Int64) => r = tk_ro (rp_go (tk_yK s) (tk_yV s) (tk_yS s) (tk_yG s) (s 5).toInt64 fw.toInt64 n 0 (tk_s5 s e) 0)) (fun u zt => KB D ([(h, .inr (4, [.ref sa, .ref pa, .int z, .ref er, .ref na, .long (e 5), .long (e 6), .long (e 7), .long hs])), (sa, .inl (cI, 71, .inl s)), (na, .inl (cJ, 5, .inr (.inl e)))]) ([(h, .inr (4, [.ref sa, .ref pa, .int z, .ref er, .ref na, .long (u 5), .long (u 6), .long (u 7), .long hs])), (sa, .inl (cI, 71, .inl s)), (na, .inl (cJ, 5, .inr (.inl u)))]) sz zt) (va_A ([(h, .inr (4, [.ref sa, .ref pa, .int z, .ref er, .ref na, .long (e 5), .long (e 6), .long (e 7), .long hs])), (sa, .inl (cI, 71, .inl s)), (na, .inl (cJ, 5, .inr (.inl e)))]) sz)) 0 0 (va_A ([(h, .inr (4, [.ref sa, .ref pa, .int z, .ref er, .ref na, .long (e 5), .long (e 6), .long (e 7), .long hs])), (sa, .inl (cI, 71, .inl s)), (na, .inl (cJ, 5, .inr (.inl e)))]) sz) := by
  refine Met.ofW (cc := cX4_errorOf) (maxL := 8) (ret := (some .long)) (by decide) rfl ?_
  intro zp ze zs zm zargs zbelow zmeth zc zs1 B hml hv
  obtain ⟨rfl, hsz, hP, hK, hD0, hN⟩ := hv
  have hx := B.exec
  have hb := B.bytes
  have hr := B.returns
  have hts := atoms_spec (ws := wsX4_errorOf) B.pre
  have hm : ∀ (i : Nat) (w : Cond), wsX4_errorOf[i]? = some w → w.before _ zs = true := fun i w h => hts w (List.mem_of_getElem? h)
  have hown : zs.vm.findClass RX4 = some zm.cls := findClass_of_methodNamed B.named
  have hlocks := B.notSynchronized
  subst hsz
  have hD := hD0.self (sz := zs.heap.size)
  generalize hAe : va_A ([(h, .inr (4, [.ref sa, .ref pa, .int z, .ref er, .ref na, .long (e 5), .long (e 6), .long (e 7), .long hs])), (sa, .inl (cI, 71, .inl s)), (na, .inl (cJ, 5, .inr (.inl e)))]) zs.heap.size = A at hD ⊢
  have hA : ∀ q : Nat, zs.heap.size ≤ q → A q := fun q h => by rw [← hAe]; exact Or.inr h
  have hS : va_S A zs.heap zs.heap [] := va_S.rf
  have hP : va_P D vwCl ([(h, .inr (4, [.ref sa, .ref pa, .int z, .ref er, .ref na, .long (e 5), .long (e 6), .long (e 7), .long hs])), (sa, .inl (cI, 71, .inl s)), (na, .inl (cJ, 5, .inr (.inl e)))]) zs.heap := hP
  have hl := lv_entry ([.ref h, .int fw]) (n := 8) (Nat.le_of_ble_eq_true rfl)
  rw [lg_entry_eq]
  generalize (lg_sl ([.ref h, .int fw]) ++ List.replicate (8 - (lg_sl ([.ref h, .int fw])).length) Slot.unset).toArray = ls at hl ⊢
  have hl : lv_has ls 8 [(0, .ref h), (1, .int fw)] := hl
  refine lv_aload_n hx hb dX4_errorOf_0 rfl (lv_at hl 0 rfl) ?_
  refine kc_v (wc := [(h, .inr (4, [.ref sa, .ref pa, .int z, .ref er, .ref na, .long (e 5), .long (e 6), .long (e 7), .long hs])), (sa, .inl (cI, 71, .inl s)), (na, .inl (cJ, 5, .inr (.inl e)))]) (wr := []) (va_runV (As := []) (rest := []) ⟨hx, hb, hml, hown, hts⟩ (k_X4_take l D cI cM cJ _ h sa pa er na z (e 5) (e 6) (e 7) hs s e) (cwV 0 hts gX4_errorOf_X4_take rfl rfl rfl (by decide +kernel) ⟨Nat.le_of_ble_eq_true rfl, Nat.le_of_ble_eq_true rfl⟩) (kp_preV (q := (RX4, TX4, 9)) (wc := [(h, .inr (4, [.ref sa, .ref pa, .int z, .ref er, .ref na, .long (e 5), .long (e 6), .long (e 7), .long hs])), (sa, .inl (cI, 71, .inl s)), (na, .inl (cJ, 5, .inr (.inl e)))]) (wr := []) hN hK hP hD 0 rfl rfl) rfl rfl hl.1 rfl (lv_room (Nat.le_of_ble_eq_true rfl)) dX4_errorOf_1 ⟨Nat.le_of_ble_eq_true rfl, Nat.le_of_ble_eq_true rfl⟩) hP hD hS hA (fun u_1 H locs p_1 hP hD hS => ?_)
  have hP : va_P D vwCl ([(h, .inr (4, [.ref sa, .ref pa, .int z, .ref er, .ref na, .long (e 5), .long (e 6), .long (e 7), .long hs])), (sa, .inl (cI, 71, .inl s)), (na, .inl (cJ, 5, .inr (.inl (tk_s5 s e))))]) H := hP
  have hD : va_D A ([(h, .inr (4, [.ref sa, .ref pa, .int z, .ref er, .ref na, .long (e 5), .long (e 6), .long (e 7), .long hs])), (sa, .inl (cI, 71, .inl s)), (na, .inl (cJ, 5, .inr (.inl (tk_s5 s e))))]) := hD
  refine lv_lconst (v := 0) hx hb dX4_errorOf_4 (by decide) ?_
  refine lv_lstore_n (lv' := [(2, .long 0), (0, .ref h), (1, .int fw)]) hx hb dX4_errorOf_5 rfl hl (by decide) rfl (fun ls hl => ?_)
  refine lv_iconst (v := 0) hx hb dX4_errorOf_6 (by decide) ?_
  refine lv_istore (lv' := [(4, .int 0), (2, .long 0), (0, .ref h), (1, .int fw)]) hx hb dX4_errorOf_7 hl (by decide) rfl (fun ls hl => ?_)
  refine kl_loop (fun (k : Nat) (H : Heap) (locs : List Loc) (ls : Array Slot) => ∃ (i : Nat) (E : Nat → Int64) (sum : Int64), (k + i = n) ∧ (rp_go (tk_yK s) (tk_yV s) (tk_yS s) (tk_yG s) (s 5).toInt64 fw.toInt64 k i E sum = rp_go (tk_yK s) (tk_yV s) (tk_yS s) (tk_yG s) (s 5).toInt64 fw.toInt64 n 0 (tk_s5 s e) 0) ∧ (tk_jv E) ∧ va_P D vwCl ([(h, .inr (4, [.ref sa, .ref pa, .int z, .ref er, .ref na, .long (E 5), .long (E 6), .long (E 7), .long hs])), (sa, .inl (cI, 71, .inl s)), (na, .inl (cJ, 5, .inr (.inl E)))]) H ∧ va_D A ([(h, .inr (4, [.ref sa, .ref pa, .int z, .ref er, .ref na, .long (E 5), .long (E 6), .long (E 7), .long hs])), (sa, .inl (cI, 71, .inl s)), (na, .inl (cJ, 5, .inr (.inl E)))]) ∧ va_S A zs.heap H locs ∧ lv_has ls 8 [(4, .int (nI i)), (0, .ref h), (1, .int fw), (2, .long sum)]) (n) ⟨0, tk_s5 s e, 0, by omega, rfl, hj, hP, hD, hS, lv_sub hl [0, 2, 3, 1] rfl⟩ ?_
  rintro k H locs ls ⟨i, E, sum, hk, hE, hI, hP, hD, hS, hl⟩ ih
  refine lv_iload hx hb dX4_errorOf_9 (lv_at hl 0 rfl) ?_
  refine lv_aload_n hx hb dX4_errorOf_11 rfl (lv_at hl 1 rfl) ?_
  refine va_get (D := D) (ci := 4) (v := .ref sa) (C := RX4) (T := TX4) (N := 9) hx hb hts izX4_errorOf_4 hown hK hP 0 rfl rfl 0 (by decide) (hm 1 (.fieldLink RX4 7 "TankFilterModel" "s" "[I") rfl) (fun _ h9 => h9) rfl dX4_errorOf_12 ?_
  refine lv_bipush (v := 22) hx hb dX4_errorOf_15 (by decide) ?_
  refine ka_ild (D := D) (j := 22) (n := 71) (f := s) hx hb hK hP 1 0 rfl rfl (rfl) (by decide) (by decide) dX4_errorOf_17 ?_
  refine ka_fold (y := nI n) h22 ?_
  refine lv_icmp_ge (tgt := 122) hx hb dX4_errorOf_18 (by decide) (fun c_2 => ?_) (fun c_2 => ?_)
  · have c_2 := (nI_leI (a := n) (b := i) (by omega) (by omega)).mp c_2
    refine lv_lload_n hx hb dX4_errorOf_122 rfl (lv_at hl 3 rfl) ?_
    refine kc_i (wc := []) (wr := [(h, .inr (4, [.ref sa, .ref pa, .int z, .ref er, .ref na, .long (E 5), .long (E 6), .long (E 7), .long hs])), (sa, .inl (cI, 71, .inl s)), (na, .inl (cJ, 5, .inr (.inl E)))]) (va_runS (As := [.long sum]) (rest := []) ⟨hx, hb, hml, hown, hts⟩ (k_X4_isIn l D cI cM cJ _ sum) (va_cwS 1 hts gX4_errorOf_X4_isIn rfl rfl rfl (by decide +kernel) ⟨Nat.le_of_ble_eq_true rfl, Nat.le_of_ble_eq_true rfl⟩) (kp_preS (wc := []) (wr := [(h, .inr (4, [.ref sa, .ref pa, .int z, .ref er, .ref na, .long (E 5), .long (E 6), .long (E 7), .long hs])), (sa, .inl (cI, 71, .inl s)), (na, .inl (cJ, 5, .inr (.inl E)))]) hN hK hP hD) rfl rfl hl.1 rfl (lv_room (Nat.le_of_ble_eq_true rfl)) dX4_errorOf_123 ⟨Nat.le_of_ble_eq_true rfl, Nat.le_of_ble_eq_true rfl⟩) hP hD hS hA (fun r_3 u_3 H locs p_3 hP hD hS => ?_)
    rcases p_3 with ⟨p_3, rfl⟩ | ⟨p_3, rfl⟩
    · have hP : va_P D vwCl ([(h, .inr (4, [.ref sa, .ref pa, .int z, .ref er, .ref na, .long (E 5), .long (E 6), .long (E 7), .long hs])), (sa, .inl (cI, 71, .inl s)), (na, .inl (cJ, 5, .inr (.inl E)))]) H := hP
      have hD : va_D A ([(h, .inr (4, [.ref sa, .ref pa, .int z, .ref er, .ref na, .long (E 5), .long (E 6), .long (E 7), .long hs])), (sa, .inl (cI, 71, .inl s)), (na, .inl (cJ, 5, .inr (.inl E)))]) := hD
      refine lv_if_eq (tgt := 133) hx hb dX4_errorOf_126 (by decide) (fun c_4 => ?_) (fun c_4 => ?_)
      · exact absurd c_4 (by decide)
      · skip
        refine lv_lload_n hx hb dX4_errorOf_129 rfl (lv_at hl 3 rfl) ?_
        refine lv_goto (tgt := 136) hx hb dX4_errorOf_130 (by decide) ?_
        exact W.lret (v := sum) hx hb hr (fun zt ht hW => ⟨⟨sum, E, rfl, by rw [← hE, show k = 0 from by omega, rp_go, tk_ro, if_pos p_3], KB.of hAe (by rw [ht]; exact hP) hD⟩, hS.F ht⟩) hS.2.2 dX4_errorOf_136
    · have hP : va_P D vwCl ([(h, .inr (4, [.ref sa, .ref pa, .int z, .ref er, .ref na, .long (E 5), .long (E 6), .long (E 7), .long hs])), (sa, .inl (cI, 71, .inl s)), (na, .inl (cJ, 5, .inr (.inl E)))]) H := hP
      have hD : va_D A ([(h, .inr (4, [.ref sa, .ref pa, .int z, .ref er, .ref na, .long (E 5), .long (E 6), .long (E 7), .long hs])), (sa, .inl (cI, 71, .inl s)), (na, .inl (cJ, 5, .inr (.inl E)))]) := hD
      refine lv_if_eq (tgt := 133) hx hb dX4_errorOf_126 (by decide) (fun c_5 => ?_) (fun c_5 => ?_)
      · skip
        refine lv_ldc2 (v := -1) hx hb hown (hm 2 (.constantLong RX4 110 (-1)) rfl) dX4_errorOf_133 ?_
        exact W.lret (v := (-1)) hx hb hr (fun zt ht hW => ⟨⟨(-1), E, rfl, by rw [← hE, show k = 0 from by omega, rp_go, tk_ro, if_neg (by rw [p_3]; decide)], KB.of hAe (by rw [ht]; exact hP) hD⟩, hS.F ht⟩) hS.2.2 dX4_errorOf_136
      · exact absurd c_5 (by decide)
  · have c_2 := mt (nI_leI (a := n) (b := i) (by omega) (by omega)).mpr c_2
    refine lv_aload_n hx hb dX4_errorOf_21 rfl (lv_at hl 1 rfl) ?_
    refine va_get (D := D) (ci := 4) (v := .ref sa) (C := RX4) (T := TX4) (N := 9) hx hb hts izX4_errorOf_4 hown hK hP 0 rfl rfl 0 (by decide) (hm 1 (.fieldLink RX4 7 "TankFilterModel" "s" "[I") rfl) (fun _ h9 => h9) rfl dX4_errorOf_22 ?_
    refine lv_bipush (v := 23) hx hb dX4_errorOf_25 (by decide) ?_
    refine lv_iconst (v := 2) hx hb dX4_errorOf_27 (by decide) ?_
    refine lv_iload hx hb dX4_errorOf_28 (lv_at hl 0 rfl) ?_
    refine lv_imul hx hb dX4_errorOf_30 ?_
    refine ka_fold (y := nI (2 * i)) (pk_mul 2 i) ?_
    refine lv_iadd hx hb dX4_errorOf_31 ?_
    refine ka_fold (y := nI (23 + (2 * i))) (nI_add 23 (2 * i)) ?_
    refine ka_ild (D := D) (j := (23 + (2 * i))) (n := 71) (f := s) hx hb hK hP 1 0 rfl rfl (rfl) (by omega) (by decide) dX4_errorOf_32 ?_
    refine lv_istore (lv' := [(5, .int (s (23 + (2 * i)))), (4, .int (nI i)), (0, .ref h), (1, .int fw), (2, .long sum)]) hx hb dX4_errorOf_33 hl (by decide) rfl (fun ls hl => ?_)
    refine lv_aload_n hx hb dX4_errorOf_35 rfl (lv_at hl 2 rfl) ?_
    refine va_get (D := D) (ci := 4) (v := .ref sa) (C := RX4) (T := TX4) (N := 9) hx hb hts izX4_errorOf_4 hown hK hP 0 rfl rfl 0 (by decide) (hm 1 (.fieldLink RX4 7 "TankFilterModel" "s" "[I") rfl) (fun _ h9 => h9) rfl dX4_errorOf_36 ?_
    refine lv_bipush (v := 23) hx hb dX4_errorOf_39 (by decide) ?_
    refine lv_iconst (v := 2) hx hb dX4_errorOf_41 (by decide) ?_
    refine lv_iload hx hb dX4_errorOf_42 (lv_at hl 1 rfl) ?_
    refine lv_imul hx hb dX4_errorOf_44 ?_
    refine ka_fold (y := nI (2 * i)) (pk_mul 2 i) ?_
    refine lv_iadd hx hb dX4_errorOf_45 ?_
    refine ka_fold (y := nI (23 + (2 * i))) (nI_add 23 (2 * i)) ?_
    refine lv_iconst (v := 1) hx hb dX4_errorOf_46 (by decide) ?_
    refine lv_iadd hx hb dX4_errorOf_47 ?_
    refine ka_fold (y := nI ((23 + (2 * i)) + 1)) (nI_add (23 + (2 * i)) 1) ?_
    refine ka_ild (D := D) (j := ((23 + (2 * i)) + 1)) (n := 71) (f := s) hx hb hK hP 1 0 rfl rfl (rfl) (by omega) (by decide) dX4_errorOf_48 ?_
    refine lv_istore (lv' := [(6, .int (s ((23 + (2 * i)) + 1))), (5, .int (s (23 + (2 * i)))), (4, .int (nI i)), (0, .ref h), (1, .int fw), (2, .long sum)]) hx hb dX4_errorOf_49 hl (by decide) rfl (fun ls hl => ?_)
    refine lv_iload hx hb dX4_errorOf_51 (lv_at hl 1 rfl) ?_
    refine lv_iconst (v := -1) hx hb dX4_errorOf_53 (by decide) ?_
    refine lv_icmp_ne (tgt := 71) hx hb dX4_errorOf_54 (by decide) (fun c_6 => ?_) (fun c_6 => ?_)
    · skip
      have hrg : tk_rng 0 3 (tk_yS s i) := (hSr i (by omega)).resolve_left c_6
      refine lv_aload_n hx hb dX4_errorOf_71 rfl (lv_at hl 3 rfl) ?_
      refine lv_iload hx hb dX4_errorOf_72 (lv_at hl 1 rfl) ?_
      refine ka_fold (y := nI ((s (23 + (2 * i))).toNatClampNeg)) (tk_rng_nat hrg).1 ?_
      refine lv_iload hx hb dX4_errorOf_74 (lv_at hl 0 rfl) ?_
      refine lv_i2l hx hb dX4_errorOf_76 rfl ?_
      refine lv_iconst (v := 0) hx hb dX4_errorOf_77 (by decide) ?_
      refine kc_i (wc := [(h, .inr (4, [.ref sa, .ref pa, .int z, .ref er, .ref na, .long (E 5), .long (E 6), .long (E 7), .long hs])), (sa, .inl (cI, 71, .inl s)), (na, .inl (cJ, 5, .inr (.inl E)))]) (wr := []) (va_runV (As := [.int (nI ((s (23 + (2 * i))).toNatClampNeg)), .long ((s ((23 + (2 * i)) + 1)).toInt64), .int 0]) (rest := []) ⟨hx, hb, hml, hown, hts⟩ (k_X4_corrects l D cI cM cJ _ h sa pa er na z hs s E ((s (23 + (2 * i))).toNatClampNeg) ((s ((23 + (2 * i)) + 1)).toInt64) 0 ((tk_rng_nat hrg).2) (tk_sp hI.1 (hV _ (tk_rng_nat hrg).2))) (cwV 3 hts gX4_errorOf_X4_corrects rfl rfl rfl (by decide +kernel) ⟨Nat.le_of_ble_eq_true rfl, Nat.le_of_ble_eq_true rfl⟩) (kp_preV (q := (RX4, TX4, 9)) (wc := [(h, .inr (4, [.ref sa, .ref pa, .int z, .ref er, .ref na, .long (E 5), .long (E 6), .long (E 7), .long hs])), (sa, .inl (cI, 71, .inl s)), (na, .inl (cJ, 5, .inr (.inl E)))]) (wr := []) hN hK hP hD 0 rfl rfl) rfl rfl hl.1 rfl (lv_room (Nat.le_of_ble_eq_true rfl)) dX4_errorOf_78 ⟨Nat.le_of_ble_eq_true rfl, Nat.le_of_ble_eq_true rfl⟩) hP hD hS hA (fun r_7 u_7 H locs p_7 hP hD hS => ?_)
      rcases p_7 with ⟨p_7, _⟩ | ⟨_, p_7k, rfl, rfl⟩ | ⟨_, p_7k, rfl, rfl⟩
      · exact absurd p_7 cy_rej0y
      · have hP : va_P D vwCl ([(h, .inr (4, [.ref sa, .ref pa, .int z, .ref er, .ref na, .long ((co_e E (s (8 + ((s (23 + (2 * i))).toNatClampNeg))) ((s ((23 + (2 * i)) + 1)).toInt64) (s (12 + ((s (23 + (2 * i))).toNatClampNeg))).toInt64) 5), .long ((co_e E (s (8 + ((s (23 + (2 * i))).toNatClampNeg))) ((s ((23 + (2 * i)) + 1)).toInt64) (s (12 + ((s (23 + (2 * i))).toNatClampNeg))).toInt64) 6), .long ((co_e E (s (8 + ((s (23 + (2 * i))).toNatClampNeg))) ((s ((23 + (2 * i)) + 1)).toInt64) (s (12 + ((s (23 + (2 * i))).toNatClampNeg))).toInt64) 7), .long hs])), (sa, .inl (cI, 71, .inl s)), (na, .inl (cJ, 5, .inr (.inl (co_e E (s (8 + ((s (23 + (2 * i))).toNatClampNeg))) ((s ((23 + (2 * i)) + 1)).toInt64) (s (12 + ((s (23 + (2 * i))).toNatClampNeg))).toInt64))))]) H := hP
        have hD : va_D A ([(h, .inr (4, [.ref sa, .ref pa, .int z, .ref er, .ref na, .long ((co_e E (s (8 + ((s (23 + (2 * i))).toNatClampNeg))) ((s ((23 + (2 * i)) + 1)).toInt64) (s (12 + ((s (23 + (2 * i))).toNatClampNeg))).toInt64) 5), .long ((co_e E (s (8 + ((s (23 + (2 * i))).toNatClampNeg))) ((s ((23 + (2 * i)) + 1)).toInt64) (s (12 + ((s (23 + (2 * i))).toNatClampNeg))).toInt64) 6), .long ((co_e E (s (8 + ((s (23 + (2 * i))).toNatClampNeg))) ((s ((23 + (2 * i)) + 1)).toInt64) (s (12 + ((s (23 + (2 * i))).toNatClampNeg))).toInt64) 7), .long hs])), (sa, .inl (cI, 71, .inl s)), (na, .inl (cJ, 5, .inr (.inl (co_e E (s (8 + ((s (23 + (2 * i))).toNatClampNeg))) ((s ((23 + (2 * i)) + 1)).toInt64) (s (12 + ((s (23 + (2 * i))).toNatClampNeg))).toInt64))))]) := hD
        refine lv_istore (lv' := [(7, .int 1), (6, .int (s ((23 + (2 * i)) + 1))), (5, .int (s (23 + (2 * i)))), (4, .int (nI i)), (0, .ref h), (1, .int fw), (2, .long sum)]) hx hb dX4_errorOf_81 hl (by decide) rfl (fun ls hl => ?_)
        refine lv_iload hx hb dX4_errorOf_83 (lv_at hl 0 rfl) ?_
        refine lv_if_ge (tgt := 92) hx hb dX4_errorOf_85 (by decide) (fun c_8 => ?_) (fun c_8 => ?_)
        · skip
          refine lv_lload_n hx hb dX4_errorOf_92 rfl (lv_at hl 6 rfl) ?_
          refine lv_aload_n hx hb dX4_errorOf_93 rfl (lv_at hl 4 rfl) ?_
          refine va_get (D := D) (ci := 4) (v := .long ((co_e E (s (8 + ((s (23 + (2 * i))).toNatClampNeg))) ((s ((23 + (2 * i)) + 1)).toInt64) (s (12 + ((s (23 + (2 * i))).toNatClampNeg))).toInt64) 5)) (C := RX4) (T := TX4) (N := 9) hx hb hts izX4_errorOf_4 hown hK hP 0 rfl rfl 5 (by decide) (hm 3 (.fieldLink RX4 50 "TankFilterModel" "innovation" "J") rfl) (fun _ h9 => h9) rfl dX4_errorOf_94 ?_
          refine lv_lconst (v := 0) hx hb dX4_errorOf_97 (by decide) ?_
          refine W.lcmp hx hb dX4_errorOf_98 ?_
          refine lv_if_ge (tgt := 110) hx hb dX4_errorOf_99 (by decide) (fun c_9 => ?_) (fun c_9 => ?_)
          · have c_9 := (lg_cmp_ge _ _).mp c_9
            refine lv_aload_n hx hb dX4_errorOf_110 rfl (lv_at hl 4 rfl) ?_
            refine va_get (D := D) (ci := 4) (v := .long ((co_e E (s (8 + ((s (23 + (2 * i))).toNatClampNeg))) ((s ((23 + (2 * i)) + 1)).toInt64) (s (12 + ((s (23 + (2 * i))).toNatClampNeg))).toInt64) 5)) (C := RX4) (T := TX4) (N := 9) hx hb hts izX4_errorOf_4 hown hK hP 0 rfl rfl 5 (by decide) (hm 3 (.fieldLink RX4 50 "TankFilterModel" "innovation" "J") rfl) (fun _ h9 => h9) rfl dX4_errorOf_111 ?_
            refine ka_foldl (y := tk_abs ((s ((23 + (2 * i)) + 1)).toInt64 - co_m E (s (8 + ((s (23 + (2 * i))).toNatClampNeg))))) (by rw [co_e_5] at c_9; rw [co_e_5]; exact (tk_abs_p (Int64.not_lt.mpr c_9)).symm) ?_
            refine lv_ladd hx hb dX4_errorOf_114 ?_
            refine lv_lstore_n (lv' := [(2, .long (sum + (tk_abs ((s ((23 + (2 * i)) + 1)).toInt64 - co_m E (s (8 + ((s (23 + (2 * i))).toNatClampNeg))))))), (7, .int 1), (6, .int (s ((23 + (2 * i)) + 1))), (5, .int (s (23 + (2 * i)))), (4, .int (nI i)), (0, .ref h), (1, .int fw)]) hx hb dX4_errorOf_115 rfl hl (by decide) rfl (fun ls hl => ?_)
            refine lv_iinc (v := nI (i + 1)) (lv' := [(4, .int (nI (i + 1))), (2, .long (sum + (tk_abs ((s ((23 + (2 * i)) + 1)).toInt64 - co_m E (s (8 + ((s (23 + (2 * i))).toNatClampNeg))))))), (7, .int 1), (6, .int (s ((23 + (2 * i)) + 1))), (5, .int (s (23 + (2 * i)))), (0, .ref h), (1, .int fw)]) hx hb dX4_errorOf_116 hl (k := 4) rfl (nI_1 _) (by decide) rfl (fun ls hl => ?_)
            refine lv_goto (tgt := 9) hx hb dX4_errorOf_119 (by decide) ?_
            exact ih (k - 1) _ _ _ (by omega) ⟨i + 1, co_e E (s (8 + ((s (23 + (2 * i))).toNatClampNeg))) ((s ((23 + (2 * i)) + 1)).toInt64) (s (12 + ((s (23 + (2 * i))).toNatClampNeg))).toInt64, sum + (tk_abs ((s ((23 + (2 * i)) + 1)).toInt64 - co_m E (s (8 + ((s (23 + (2 * i))).toNatClampNeg))))), by omega, (rp_go_ct (K := tk_yK s) (V := tk_yV s) (G := tk_yG s) (S := tk_yS s) (i := i) hrg p_7k (by omega)).symm.trans hE, tk_jv_co p_7k, hP, hD, hS, lv_sub hl [0, 5, 6, 1] rfl⟩
          · have c_9 := mt (lg_cmp_ge _ _).mpr c_9
            refine lv_aload_n hx hb dX4_errorOf_102 rfl (lv_at hl 4 rfl) ?_
            refine va_get (D := D) (ci := 4) (v := .long ((co_e E (s (8 + ((s (23 + (2 * i))).toNatClampNeg))) ((s ((23 + (2 * i)) + 1)).toInt64) (s (12 + ((s (23 + (2 * i))).toNatClampNeg))).toInt64) 5)) (C := RX4) (T := TX4) (N := 9) hx hb hts izX4_errorOf_4 hown hK hP 0 rfl rfl 5 (by decide) (hm 3 (.fieldLink RX4 50 "TankFilterModel" "innovation" "J") rfl) (fun _ h9 => h9) rfl dX4_errorOf_103 ?_
            refine lv_lneg hx hb dX4_errorOf_106 ?_
            refine lv_goto (tgt := 114) hx hb dX4_errorOf_107 (by decide) ?_
            refine ka_foldl (y := tk_abs ((s ((23 + (2 * i)) + 1)).toInt64 - co_m E (s (8 + ((s (23 + (2 * i))).toNatClampNeg))))) (by rw [co_e_5] at c_9; rw [co_e_5]; exact (tk_abs_n (Int64.not_le.mp c_9)).symm) ?_
            refine lv_ladd hx hb dX4_errorOf_114 ?_
            refine lv_lstore_n (lv' := [(2, .long (sum + (tk_abs ((s ((23 + (2 * i)) + 1)).toInt64 - co_m E (s (8 + ((s (23 + (2 * i))).toNatClampNeg))))))), (7, .int 1), (6, .int (s ((23 + (2 * i)) + 1))), (5, .int (s (23 + (2 * i)))), (4, .int (nI i)), (0, .ref h), (1, .int fw)]) hx hb dX4_errorOf_115 rfl hl (by decide) rfl (fun ls hl => ?_)
            refine lv_iinc (v := nI (i + 1)) (lv' := [(4, .int (nI (i + 1))), (2, .long (sum + (tk_abs ((s ((23 + (2 * i)) + 1)).toInt64 - co_m E (s (8 + ((s (23 + (2 * i))).toNatClampNeg))))))), (7, .int 1), (6, .int (s ((23 + (2 * i)) + 1))), (5, .int (s (23 + (2 * i)))), (0, .ref h), (1, .int fw)]) hx hb dX4_errorOf_116 hl (k := 4) rfl (nI_1 _) (by decide) rfl (fun ls hl => ?_)
            refine lv_goto (tgt := 9) hx hb dX4_errorOf_119 (by decide) ?_
            exact ih (k - 1) _ _ _ (by omega) ⟨i + 1, co_e E (s (8 + ((s (23 + (2 * i))).toNatClampNeg))) ((s ((23 + (2 * i)) + 1)).toInt64) (s (12 + ((s (23 + (2 * i))).toNatClampNeg))).toInt64, sum + (tk_abs ((s ((23 + (2 * i)) + 1)).toInt64 - co_m E (s (8 + ((s (23 + (2 * i))).toNatClampNeg))))), by omega, (rp_go_ct (K := tk_yK s) (V := tk_yV s) (G := tk_yG s) (S := tk_yS s) (i := i) hrg p_7k (by omega)).symm.trans hE, tk_jv_co p_7k, hP, hD, hS, lv_sub hl [0, 5, 6, 1] rfl⟩
        · exact absurd c_8 (by decide)
      · have hP : va_P D vwCl ([(h, .inr (4, [.ref sa, .ref pa, .int z, .ref er, .ref na, .long ((tk_y E (((s ((23 + (2 * i)) + 1)).toInt64) - co_m E (s (8 + ((s (23 + (2 * i))).toNatClampNeg))))) 5), .long ((tk_y E (((s ((23 + (2 * i)) + 1)).toInt64) - co_m E (s (8 + ((s (23 + (2 * i))).toNatClampNeg))))) 6), .long ((tk_y E (((s ((23 + (2 * i)) + 1)).toInt64) - co_m E (s (8 + ((s (23 + (2 * i))).toNatClampNeg))))) 7), .long hs])), (sa, .inl (cI, 71, .inl s)), (na, .inl (cJ, 5, .inr (.inl (tk_y E (((s ((23 + (2 * i)) + 1)).toInt64) - co_m E (s (8 + ((s (23 + (2 * i))).toNatClampNeg))))))))]) H := hP
        have hD : va_D A ([(h, .inr (4, [.ref sa, .ref pa, .int z, .ref er, .ref na, .long ((tk_y E (((s ((23 + (2 * i)) + 1)).toInt64) - co_m E (s (8 + ((s (23 + (2 * i))).toNatClampNeg))))) 5), .long ((tk_y E (((s ((23 + (2 * i)) + 1)).toInt64) - co_m E (s (8 + ((s (23 + (2 * i))).toNatClampNeg))))) 6), .long ((tk_y E (((s ((23 + (2 * i)) + 1)).toInt64) - co_m E (s (8 + ((s (23 + (2 * i))).toNatClampNeg))))) 7), .long hs])), (sa, .inl (cI, 71, .inl s)), (na, .inl (cJ, 5, .inr (.inl (tk_y E (((s ((23 + (2 * i)) + 1)).toInt64) - co_m E (s (8 + ((s (23 + (2 * i))).toNatClampNeg))))))))]) := hD
        refine lv_istore (lv' := [(7, .int (-1)), (6, .int (s ((23 + (2 * i)) + 1))), (5, .int (s (23 + (2 * i)))), (4, .int (nI i)), (0, .ref h), (1, .int fw), (2, .long sum)]) hx hb dX4_errorOf_81 hl (by decide) rfl (fun ls hl => ?_)
        refine lv_iload hx hb dX4_errorOf_83 (lv_at hl 0 rfl) ?_
        refine lv_if_ge (tgt := 92) hx hb dX4_errorOf_85 (by decide) (fun c_10 => ?_) (fun c_10 => ?_)
        · exact absurd c_10 (by decide)
        · skip
          refine lv_ldc2 (v := -1) hx hb hown (hm 2 (.constantLong RX4 110 (-1)) rfl) dX4_errorOf_88 ?_
          exact W.lret (v := (-1)) hx hb hr (fun zt ht hW => ⟨⟨(-1), tk_y E (((s ((23 + (2 * i)) + 1)).toInt64) - co_m E (s (8 + ((s (23 + (2 * i))).toNatClampNeg)))), rfl, by rw [← hE, rp_go_cf (K := tk_yK s) (V := tk_yV s) (G := tk_yG s) (S := tk_yS s) (i := i) hrg p_7k (by omega)]; rfl, KB.of hAe (by rw [ht]; exact hP) hD⟩, hS.F ht⟩) hS.2.2 dX4_errorOf_91
    · skip
      refine lv_aload_n hx hb dX4_errorOf_57 rfl (lv_at hl 3 rfl) ?_
      refine lv_iload hx hb dX4_errorOf_58 (lv_at hl 0 rfl) ?_
      refine lv_iload_n hx hb dX4_errorOf_60 rfl (lv_at hl 4 rfl) ?_
      refine kc_i (wc := [(h, .inr (4, [.ref sa, .ref pa, .int z, .ref er, .ref na, .long (E 5), .long (E 6), .long (E 7), .long hs])), (sa, .inl (cI, 71, .inl s)), (na, .inl (cJ, 5, .inr (.inl E)))]) (wr := []) (va_runV (As := [.int (s ((23 + (2 * i)) + 1)), .int fw]) (rest := []) ⟨hx, hb, hml, hown, hts⟩ (k_X4_predicts l D cI cM cJ _ h sa pa er na z (E 5) (E 6) (E 7) hs s E (s ((23 + (2 * i)) + 1)) fw (hI.2) (tk_c0 hI.1 hfw)) (cwV 2 hts gX4_errorOf_X4_predicts rfl rfl rfl (by decide +kernel) ⟨Nat.le_of_ble_eq_true rfl, Nat.le_of_ble_eq_true rfl⟩) (kp_preV (q := (RX4, TX4, 9)) (wc := [(h, .inr (4, [.ref sa, .ref pa, .int z, .ref er, .ref na, .long (E 5), .long (E 6), .long (E 7), .long hs])), (sa, .inl (cI, 71, .inl s)), (na, .inl (cJ, 5, .inr (.inl E)))]) (wr := []) hN hK hP hD 0 rfl rfl) rfl rfl hl.1 rfl (lv_room (Nat.le_of_ble_eq_true rfl)) dX4_errorOf_61 ⟨Nat.le_of_ble_eq_true rfl, Nat.le_of_ble_eq_true rfl⟩) hP hD hS hA (fun r_11 u_11 H locs p_11 hP hD hS => ?_)
      rcases p_11 with ⟨p_11, rfl, rfl⟩ | ⟨p_11, rfl, rfl⟩
      · have hP : va_P D vwCl ([(h, .inr (4, [.ref sa, .ref pa, .int z, .ref er, .ref na, .long (E 5), .long (E 6), .long (E 7), .long hs])), (sa, .inl (cI, 71, .inl s)), (na, .inl (cJ, 5, .inr (.inl (ad_e E (s ((23 + (2 * i)) + 1)).toInt64 (s 5).toInt64 fw.toInt64))))]) H := hP
        have hD : va_D A ([(h, .inr (4, [.ref sa, .ref pa, .int z, .ref er, .ref na, .long (E 5), .long (E 6), .long (E 7), .long hs])), (sa, .inl (cI, 71, .inl s)), (na, .inl (cJ, 5, .inr (.inl (ad_e E (s ((23 + (2 * i)) + 1)).toInt64 (s 5).toInt64 fw.toInt64))))]) := hD
        refine lv_if_ne (tgt := 116) hx hb dX4_errorOf_64 (by decide) (fun c_12 => ?_) (fun c_12 => ?_)
        · skip
          refine lv_iinc (v := nI (i + 1)) (lv' := [(4, .int (nI (i + 1))), (6, .int (s ((23 + (2 * i)) + 1))), (5, .int (s (23 + (2 * i)))), (0, .ref h), (1, .int fw), (2, .long sum)]) hx hb dX4_errorOf_116 hl (k := 2) rfl (nI_1 _) (by decide) rfl (fun ls hl => ?_)
          refine lv_goto (tgt := 9) hx hb dX4_errorOf_119 (by decide) ?_
          exact ih (k - 1) _ _ _ (by omega) ⟨i + 1, ad_e E (s ((23 + (2 * i)) + 1)).toInt64 (s 5).toInt64 fw.toInt64, sum, by omega, (rp_go_at (K := tk_yK s) (V := tk_yV s) (G := tk_yG s) (S := tk_yS s) (i := i) (by rw [show tk_yS s i = -1 from c_6]; exact tk_m1) p_11 (by omega)).symm.trans hE, tk_jv_ad p_11, hP, hD, hS, lv_sub hl [0, 3, 4, 5] rfl⟩
        · exact absurd c_12 (by decide)
      · have hP : va_P D vwCl ([(h, .inr (4, [.ref sa, .ref pa, .int z, .ref er, .ref na, .long (E 5), .long (E 6), .long (E 7), .long hs])), (sa, .inl (cI, 71, .inl s)), (na, .inl (cJ, 5, .inr (.inl E)))]) H := hP
        have hD : va_D A ([(h, .inr (4, [.ref sa, .ref pa, .int z, .ref er, .ref na, .long (E 5), .long (E 6), .long (E 7), .long hs])), (sa, .inl (cI, 71, .inl s)), (na, .inl (cJ, 5, .inr (.inl E)))]) := hD
        refine lv_if_ne (tgt := 116) hx hb dX4_errorOf_64 (by decide) (fun c_13 => ?_) (fun c_13 => ?_)
        · exact absurd c_13 (by decide)
        · skip
          refine lv_ldc2 (v := -1) hx hb hown (hm 2 (.constantLong RX4 110 (-1)) rfl) dX4_errorOf_67 ?_
          exact W.lret (v := (-1)) hx hb hr (fun zt ht hW => ⟨⟨(-1), E, rfl, by rw [← hE, rp_go_af (K := tk_yK s) (V := tk_yV s) (G := tk_yG s) (S := tk_yS s) (i := i) (by rw [show tk_yS s i = -1 from c_6]; exact tk_m1) p_11 (by omega)]; rfl, KB.of hAe (by rw [ht]; exact hP) hD⟩, hS.F ht⟩) hS.2.2 dX4_errorOf_70
