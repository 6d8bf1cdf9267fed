def tk_sh71 (g : Nat → Int32) : Nat → Int32 := fun j => if j < 213 then g (j + 71) else g j
def tk_nb (p : Nat) (s g : Nat → Int32) : Nat → Int32 := fun j => if 71 * p ≤ j ∧ j < 71 * p + 71 then s (j - 71 * p) else g j
def tk_nP (past : Nat → Int32) (p : Nat) (s : Nat → Int32) : Nat → Int32 := if p < 4 then tk_nb p s past else tk_nb 3 s (tk_sh71 past)
theorem tk_sh71_step {f F : Nat → Int32} {i : Nat} (h : ∀ j, j < 284 → F j = if j < i then f (j + 71) else f j) (hi : i < 213) : ∀ j, j < 284 → upd F i (F (i + 71)) j = if j < i + 1 then f (j + 71) else f j := by
  intro j hj
  by_cases e : j = i
  · subst e
    rw [pk_us, h (j + 71) (by omega), if_neg (by omega), if_pos (by omega)]
  · rw [pk_un e, h j hj]
    by_cases e2 : j < i
    · rw [if_pos e2, if_pos (by omega)]
    · rw [if_neg e2, if_neg (by omega)]
theorem tk_sh71_end {f F : Nat → Int32} {i : Nat} (h : ∀ j, j < 284 → F j = if j < i then f (j + 71) else f j) (hi : i = 213) : ∀ j, j < 284 → F j = tk_sh71 f j := by
  intro j hj
  rw [h j hj, hi]
  rfl
theorem tk_nb_step {p i : Nat} {s g F : Nat → Int32} (h : ∀ j, j < 284 → F j = if 71 * p ≤ j ∧ j < 71 * p + i then s (j - 71 * p) else g j) : ∀ j, j < 284 → upd F (71 * p + i) (s i) j = if 71 * p ≤ j ∧ j < 71 * p + (i + 1) then s (j - 71 * p) else g j := by
  intro j hj
  by_cases e : j = 71 * p + i
  · subst e
    rw [pk_us, if_pos (by omega), Nat.add_sub_cancel_left]
  · rw [pk_un e, h j hj]
    by_cases e2 : 71 * p ≤ j ∧ j < 71 * p + i
    · rw [if_pos e2, if_pos (by omega)]
    · rw [if_neg e2, if_neg (by omega)]
theorem tk_nb_end {p i : Nat} {s g F : Nat → Int32} (h : ∀ j, j < 284 → F j = if 71 * p ≤ j ∧ j < 71 * p + i then s (j - 71 * p) else g j) (hi : i = 71) : ∀ j, j < 284 → F j = tk_nb p s g j := by
  intro j hj
  rw [h j hj, hi]
  rfl

theorem izX4_note_4 : ∀ w ∈ wsX40, w ∈ wsX4_note := fun _ h => List.mem_cons_of_mem _ (List.mem_append_right _ h)
set_option maxHeartbeats 4000000 in
set_option maxRecDepth 100000 in
/-- note -/
theorem k_X4_note (l : Launch) (D : va_G) (cI cM cJ : ClassId) (sz : Nat) (h sa pa er na : Nat) (p : Nat) (x1 x2 x3 hs : Int64) (s past : Nat → Int32) (hp : p ≤ 4) : Met l yX4_note wsX4_note ({ frames := 0, cells := 0, slots := 0, locals := 0 }) (va_Pc [.ref h] (KP D (tk_T cI cM cJ) ([(h, .inr (4, [.ref sa, .ref pa, .int (nI p), .ref er, .ref na, .long x1, .long x2, .long x3, .long hs])), (sa, .inl (cI, 71, .inl s)), (pa, .inl (cI, 284, .inl past))]) sz)) (va_Qv (fun (u : Unit) => True) (fun u zt => KB D ([(h, .inr (4, [.ref sa, .ref pa, .int (nI p), .ref er, .ref na, .long x1, .long x2, .long x3, .long hs])), (sa, .inl (cI, 71, .inl s)), (pa, .inl (cI, 284, .inl past))]) ([(h, .inr (4, [.ref sa, .ref pa, .int (nI (tk_np p)), .ref er, .ref na, .long x1, .long x2, .long x3, .long hs])), (sa, .inl (cI, 71, .inl s)), (pa, .inl (cI, 284, .inl (tk_nP past p s)))]) sz zt) (va_A ([(h, .inr (4, [.ref sa, .ref pa, .int (nI p), .ref er, .ref na, .long x1, .long x2, .long x3, .long hs])), (sa, .inl (cI, 71, .inl s)), (pa, .inl (cI, 284, .inl past))]) sz)) 0 0 (va_A ([(h, .inr (4, [.ref sa, .ref pa, .int (nI p), .ref er, .ref na, .long x1, .long x2, .long x3, .long hs])), (sa, .inl (cI, 71, .inl s)), (pa, .inl (cI, 284, .inl past))]) sz) := by
  refine Met.ofW (cc := cX4_note) (maxL := 2) (ret := none) (by decide) rfl ?_
  intro zp ze zs zm zargs zbelow zmeth zc zs1 B hml hv
  obtain ⟨rfl, hsz, hP, hK, hD0, hN⟩ := hv
  have hx := B.exec
  have hb := B.bytes
  have hr := B.returns
  have hts := atoms_spec (ws := wsX4_note) B.pre
  have hm : ∀ (i : Nat) (w : Cond), wsX4_note[i]? = some w → w.before _ zs = true := fun i w h => hts w (List.mem_of_getElem? h)
  have hown : zs.vm.findClass RX4 = some zm.cls := findClass_of_methodNamed B.named
  have hlocks := B.notSynchronized
  subst hsz
  have hD := hD0.self (sz := zs.heap.size)
  generalize hAe : va_A ([(h, .inr (4, [.ref sa, .ref pa, .int (nI p), .ref er, .ref na, .long x1, .long x2, .long x3, .long hs])), (sa, .inl (cI, 71, .inl s)), (pa, .inl (cI, 284, .inl past))]) zs.heap.size = A at hD ⊢
  have hA : ∀ q : Nat, zs.heap.size ≤ q → A q := fun q h => by rw [← hAe]; exact Or.inr h
  have hS : va_S A zs.heap zs.heap [] := va_S.rf
  have hP : va_P D vwCl ([(h, .inr (4, [.ref sa, .ref pa, .int (nI p), .ref er, .ref na, .long x1, .long x2, .long x3, .long hs])), (sa, .inl (cI, 71, .inl s)), (pa, .inl (cI, 284, .inl past))]) zs.heap := hP
  have hl := lv_entry ([.ref h]) (n := 2) (Nat.le_of_ble_eq_true rfl)
  rw [lg_entry_eq]
  generalize (lg_sl ([.ref h]) ++ List.replicate (2 - (lg_sl ([.ref h])).length) Slot.unset).toArray = ls at hl ⊢
  have hl : lv_has ls 2 [(0, .ref h)] := hl
  refine lv_aload_n hx hb dX4_note_0 rfl (lv_at hl 0 rfl) ?_
  refine va_get (D := D) (ci := 4) (v := .int (nI p)) (C := RX4) (T := TX4) (N := 9) hx hb hts izX4_note_4 hown hK hP 0 rfl rfl 2 (by decide) (hm 1 (.fieldLink RX4 28 "TankFilterModel" "pasts" "I") rfl) (fun _ h9 => h9) rfl dX4_note_1 ?_
  refine lv_iconst (v := 4) hx hb dX4_note_4 (by decide) ?_
  refine lv_icmp_ne (tgt := 48) hx hb dX4_note_5 (by decide) (fun c_1 => ?_) (fun c_1 => ?_)
  · have c_1 := mt (nI_eq (a := p) (b := 4) (by omega) (by omega)).mpr c_1
    refine lv_iconst (v := 0) hx hb dX4_note_48 (by decide) ?_
    refine lv_istore_n (lv' := [(1, .int 0), (0, .ref h)]) hx hb dX4_note_49 rfl hl (by decide) rfl (fun ls hl => ?_)
    refine kl_loop (fun (k : Nat) (H : Heap) (locs : List Loc) (ls : Array Slot) => ∃ (i : Nat) (Gf : Nat → Int32), (k + i = 71) ∧ (∀ j, j < 284 → Gf j = if 71 * p ≤ j ∧ j < 71 * p + i then s (j - 71 * p) else past j) ∧ va_P D vwCl ([(h, .inr (4, [.ref sa, .ref pa, .int (nI p), .ref er, .ref na, .long x1, .long x2, .long x3, .long hs])), (sa, .inl (cI, 71, .inl s)), (pa, .inl (cI, 284, .inl Gf))]) H ∧ va_D A ([(h, .inr (4, [.ref sa, .ref pa, .int (nI p), .ref er, .ref na, .long x1, .long x2, .long x3, .long hs])), (sa, .inl (cI, 71, .inl s)), (pa, .inl (cI, 284, .inl Gf))]) ∧ va_S A zs.heap H locs ∧ lv_has ls 2 [(1, .int (nI i)), (0, .ref h)]) (71) ⟨0, past, by omega, fun j _ => by rw [if_neg (by omega)], hP, hD, hS, lv_sub hl [0, 1] rfl⟩ ?_
    rintro k H locs ls ⟨i, Gf, hk, hG, hP, hD, hS, hl⟩ ih
    refine lv_iload_n hx hb dX4_note_50 rfl (lv_at hl 0 rfl) ?_
    refine lv_bipush (v := 71) hx hb dX4_note_51 (by decide) ?_
    refine lv_icmp_ge (tgt := 82) hx hb dX4_note_53 (by decide) (fun c_2 => ?_) (fun c_2 => ?_)
    · have c_2 := (nI_leI (a := 71) (b := i) (by omega) (by omega)).mp c_2
      refine lv_aload_n hx hb dX4_note_82 rfl (lv_at hl 1 rfl) ?_
      refine lv_dup hx hb dX4_note_83 rfl ?_
      refine va_get (D := D) (ci := 4) (v := .int (nI p)) (C := RX4) (T := TX4) (N := 9) hx hb hts izX4_note_4 hown hK hP 0 rfl rfl 2 (by decide) (hm 1 (.fieldLink RX4 28 "TankFilterModel" "pasts" "I") rfl) (fun _ h9 => h9) rfl dX4_note_84 ?_
      refine lv_iconst (v := 1) hx hb dX4_note_87 (by decide) ?_
      refine lv_iadd hx hb dX4_note_88 ?_
      refine ka_fold (y := nI (tk_np p)) (by rw [tk_np, if_pos (by omega), nI_1]) ?_
      refine va_put (D := D) (ci := 4) (v := .int (nI (tk_np p))) (ty := .int) (C := RX4) (T := TX4) (N := 9) hx hb hts izX4_note_4 tyX4 tyX4_ok nmX4 hown hK hP hD hS 0 rfl rfl 2 (by decide) (hm 1 (.fieldLink RX4 28 "TankFilterModel" "pasts" "I") rfl) (fun _ h9 => h9) rfl (by decide +kernel) rfl rfl (Nat.le_of_ble_eq_true rfl) dX4_note_89 (fun H locs hP hD hS => ?_)
      have hP : va_P D vwCl ([(h, .inr (4, [.ref sa, .ref pa, .int (nI (tk_np p)), .ref er, .ref na, .long x1, .long x2, .long x3, .long hs])), (sa, .inl (cI, 71, .inl s)), (pa, .inl (cI, 284, .inl Gf))]) H := hP
      have hD : va_D A ([(h, .inr (4, [.ref sa, .ref pa, .int (nI (tk_np p)), .ref er, .ref na, .long x1, .long x2, .long x3, .long hs])), (sa, .inl (cI, 71, .inl s)), (pa, .inl (cI, 284, .inl Gf))]) := hD
      obtain ⟨hP, hD⟩ := kp_arrI hP hD 2 rfl (tk_nP past p s) (fun j hj => (tk_nb_end hG (by omega) j hj).trans (by rw [tk_nP, if_pos (by omega)]))
      have hP : va_P D vwCl ([(h, .inr (4, [.ref sa, .ref pa, .int (nI (tk_np p)), .ref er, .ref na, .long x1, .long x2, .long x3, .long hs])), (sa, .inl (cI, 71, .inl s)), (pa, .inl (cI, 284, .inl (tk_nP past p s)))]) H := hP
      have hD : va_D A ([(h, .inr (4, [.ref sa, .ref pa, .int (nI (tk_np p)), .ref er, .ref na, .long x1, .long x2, .long x3, .long hs])), (sa, .inl (cI, 71, .inl s)), (pa, .inl (cI, 284, .inl (tk_nP past p s)))]) := hD
      exact W.vret hx hb hr (fun zt ht hW => ⟨⟨(), rfl, trivial, KB.of hAe (by rw [ht]; exact hP) hD⟩, hS.F ht⟩) hS.2.2 dX4_note_92
    · have c_2 := mt (nI_leI (a := 71) (b := i) (by omega) (by omega)).mpr c_2
      refine lv_aload_n hx hb dX4_note_56 rfl (lv_at hl 1 rfl) ?_
      refine va_get (D := D) (ci := 4) (v := .ref pa) (C := RX4) (T := TX4) (N := 9) hx hb hts izX4_note_4 hown hK hP 0 rfl rfl 1 (by decide) (hm 2 (.fieldLink RX4 13 "TankFilterModel" "past" "[I") rfl) (fun _ h9 => h9) rfl dX4_note_57 ?_
      refine lv_bipush (v := 71) hx hb dX4_note_60 (by decide) ?_
      refine lv_aload_n hx hb dX4_note_62 rfl (lv_at hl 1 rfl) ?_
      refine va_get (D := D) (ci := 4) (v := .int (nI p)) (C := RX4) (T := TX4) (N := 9) hx hb hts izX4_note_4 hown hK hP 0 rfl rfl 2 (by decide) (hm 1 (.fieldLink RX4 28 "TankFilterModel" "pasts" "I") rfl) (fun _ h9 => h9) rfl dX4_note_63 ?_
      refine lv_imul hx hb dX4_note_66 ?_
      refine lv_iload_n hx hb dX4_note_67 rfl (lv_at hl 0 rfl) ?_
      refine lv_iadd hx hb dX4_note_68 ?_
      refine lv_aload_n hx hb dX4_note_69 rfl (lv_at hl 1 rfl) ?_
      refine va_get (D := D) (ci := 4) (v := .ref sa) (C := RX4) (T := TX4) (N := 9) hx hb hts izX4_note_4 hown hK hP 0 rfl rfl 0 (by decide) (hm 3 (.fieldLink RX4 7 "TankFilterModel" "s" "[I") rfl) (fun _ h9 => h9) rfl dX4_note_70 ?_
      refine lv_iload_n hx hb dX4_note_73 rfl (lv_at hl 0 rfl) ?_
      refine ka_ild (D := D) (j := i) (n := 71) (f := s) hx hb hK hP 1 0 rfl rfl (rfl) (by omega) (by decide) dX4_note_74 ?_
      refine ka_ist (D := D) (j := (71 * p + i)) (n := 284) (f := Gf) hx hb hK hP hD hS 2 0 rfl rfl (by rw [show (71 : Int32) = nI 71 from rfl, pk_mul, nI_add]) (by omega) (by decide) dX4_note_75 (fun H locs hP hD hS => ?_)
      have hP : va_P D vwCl ([(h, .inr (4, [.ref sa, .ref pa, .int (nI p), .ref er, .ref na, .long x1, .long x2, .long x3, .long hs])), (sa, .inl (cI, 71, .inl s)), (pa, .inl (cI, 284, .inl (upd Gf (71 * p + i) (s i))))]) H := hP
      have hD : va_D A ([(h, .inr (4, [.ref sa, .ref pa, .int (nI p), .ref er, .ref na, .long x1, .long x2, .long x3, .long hs])), (sa, .inl (cI, 71, .inl s)), (pa, .inl (cI, 284, .inl (upd Gf (71 * p + i) (s i))))]) := hD
      refine lv_iinc (v := nI (i + 1)) (lv' := [(1, .int (nI (i + 1))), (0, .ref h)]) hx hb dX4_note_76 hl (k := 0) rfl (nI_1 _) (by decide) rfl (fun ls hl => ?_)
      refine lv_goto (tgt := 50) hx hb dX4_note_79 (by decide) ?_
      exact ih (k - 1) _ _ _ (by omega) ⟨i + 1, upd Gf (71 * p + i) (s i), by omega, tk_nb_step hG, hP, hD, hS, lv_sub hl [0, 1] rfl⟩
  · have c_1 := (nI_eq (a := p) (b := 4) (by omega) (by omega)).mp c_1
    refine lv_iconst (v := 0) hx hb dX4_note_8 (by decide) ?_
    refine lv_istore_n (lv' := [(1, .int 0), (0, .ref h)]) hx hb dX4_note_9 rfl hl (by decide) rfl (fun ls hl => ?_)
    refine kl_loop (fun (k : Nat) (H : Heap) (locs : List Loc) (ls : Array Slot) => ∃ (i : Nat) (Gf : Nat → Int32), (k + i = 213) ∧ (∀ j, j < 284 → Gf j = if j < i then past (j + 71) else past j) ∧ va_P D vwCl ([(h, .inr (4, [.ref sa, .ref pa, .int (nI p), .ref er, .ref na, .long x1, .long x2, .long x3, .long hs])), (sa, .inl (cI, 71, .inl s)), (pa, .inl (cI, 284, .inl Gf))]) H ∧ va_D A ([(h, .inr (4, [.ref sa, .ref pa, .int (nI p), .ref er, .ref na, .long x1, .long x2, .long x3, .long hs])), (sa, .inl (cI, 71, .inl s)), (pa, .inl (cI, 284, .inl Gf))]) ∧ va_S A zs.heap H locs ∧ lv_has ls 2 [(1, .int (nI i)), (0, .ref h)]) (213) ⟨0, past, by omega, fun j _ => by rw [if_neg (by omega)], hP, hD, hS, lv_sub hl [0, 1] rfl⟩ ?_
    rintro k H locs ls ⟨i, Gf, hk, hG, hP, hD, hS, hl⟩ ih
    refine lv_iload_n hx hb dX4_note_10 rfl (lv_at hl 0 rfl) ?_
    refine lv_sipush (v := 213) hx hb dX4_note_11 (by decide) ?_
    refine lv_icmp_ge (tgt := 38) hx hb dX4_note_14 (by decide) (fun c_3 => ?_) (fun c_3 => ?_)
    · have c_3 := (nI_leI (a := 213) (b := i) (by omega) (by omega)).mp c_3
      obtain ⟨hP, hD⟩ := kp_arrI hP hD 2 rfl (tk_sh71 past) (tk_sh71_end hG (by omega))
      have hP : va_P D vwCl ([(h, .inr (4, [.ref sa, .ref pa, .int (nI p), .ref er, .ref na, .long x1, .long x2, .long x3, .long hs])), (sa, .inl (cI, 71, .inl s)), (pa, .inl (cI, 284, .inl (tk_sh71 past)))]) H := hP
      have hD : va_D A ([(h, .inr (4, [.ref sa, .ref pa, .int (nI p), .ref er, .ref na, .long x1, .long x2, .long x3, .long hs])), (sa, .inl (cI, 71, .inl s)), (pa, .inl (cI, 284, .inl (tk_sh71 past)))]) := hD
      refine lv_aload_n hx hb dX4_note_38 rfl (lv_at hl 1 rfl) ?_
      refine lv_dup hx hb dX4_note_39 rfl ?_
      refine va_get (D := D) (ci := 4) (v := .int (nI p)) (C := RX4) (T := TX4) (N := 9) hx hb hts izX4_note_4 hown hK hP 0 rfl rfl 2 (by decide) (hm 1 (.fieldLink RX4 28 "TankFilterModel" "pasts" "I") rfl) (fun _ h9 => h9) rfl dX4_note_40 ?_
      refine lv_iconst (v := 1) hx hb dX4_note_43 (by decide) ?_
      refine lv_isub hx hb dX4_note_44 ?_
      refine ka_fold (y := 3) (by rw [c_1]; rfl) ?_
      refine va_put (D := D) (ci := 4) (v := .int 3) (ty := .int) (C := RX4) (T := TX4) (N := 9) hx hb hts izX4_note_4 tyX4 tyX4_ok nmX4 hown hK hP hD hS 0 rfl rfl 2 (by decide) (hm 1 (.fieldLink RX4 28 "TankFilterModel" "pasts" "I") rfl) (fun _ h9 => h9) rfl (by decide +kernel) rfl rfl (Nat.le_of_ble_eq_true rfl) dX4_note_45 (fun H locs hP hD hS => ?_)
      have hP : va_P D vwCl ([(h, .inr (4, [.ref sa, .ref pa, .int 3, .ref er, .ref na, .long x1, .long x2, .long x3, .long hs])), (sa, .inl (cI, 71, .inl s)), (pa, .inl (cI, 284, .inl (tk_sh71 past)))]) H := hP
      have hD : va_D A ([(h, .inr (4, [.ref sa, .ref pa, .int 3, .ref er, .ref na, .long x1, .long x2, .long x3, .long hs])), (sa, .inl (cI, 71, .inl s)), (pa, .inl (cI, 284, .inl (tk_sh71 past)))]) := hD
      refine lv_iconst (v := 0) hx hb dX4_note_48 (by decide) ?_
      refine lv_istore_n (lv' := [(1, .int 0), (0, .ref h)]) hx hb dX4_note_49 rfl hl (by decide) rfl (fun ls hl => ?_)
      refine kl_loop (fun (k : Nat) (H : Heap) (locs : List Loc) (ls : Array Slot) => ∃ (i : Nat) (Gf : Nat → Int32), (k + i = 71) ∧ (∀ j, j < 284 → Gf j = if 71 * 3 ≤ j ∧ j < 71 * 3 + i then s (j - 71 * 3) else (tk_sh71 past) j) ∧ va_P D vwCl ([(h, .inr (4, [.ref sa, .ref pa, .int 3, .ref er, .ref na, .long x1, .long x2, .long x3, .long hs])), (sa, .inl (cI, 71, .inl s)), (pa, .inl (cI, 284, .inl Gf))]) H ∧ va_D A ([(h, .inr (4, [.ref sa, .ref pa, .int 3, .ref er, .ref na, .long x1, .long x2, .long x3, .long hs])), (sa, .inl (cI, 71, .inl s)), (pa, .inl (cI, 284, .inl Gf))]) ∧ va_S A zs.heap H locs ∧ lv_has ls 2 [(1, .int (nI i)), (0, .ref h)]) (71) ⟨0, (tk_sh71 past), by omega, fun j _ => by rw [if_neg (by omega)], hP, hD, hS, lv_sub hl [0, 1] rfl⟩ ?_
      rintro k H locs ls ⟨i, Gf, hk, hG, hP, hD, hS, hl⟩ ih
      refine lv_iload_n hx hb dX4_note_50 rfl (lv_at hl 0 rfl) ?_
      refine lv_bipush (v := 71) hx hb dX4_note_51 (by decide) ?_
      refine lv_icmp_ge (tgt := 82) hx hb dX4_note_53 (by decide) (fun c_4 => ?_) (fun c_4 => ?_)
      · have c_4 := (nI_leI (a := 71) (b := i) (by omega) (by omega)).mp c_4
        refine lv_aload_n hx hb dX4_note_82 rfl (lv_at hl 1 rfl) ?_
        refine lv_dup hx hb dX4_note_83 rfl ?_
        refine va_get (D := D) (ci := 4) (v := .int 3) (C := RX4) (T := TX4) (N := 9) hx hb hts izX4_note_4 hown hK hP 0 rfl rfl 2 (by decide) (hm 1 (.fieldLink RX4 28 "TankFilterModel" "pasts" "I") rfl) (fun _ h9 => h9) rfl dX4_note_84 ?_
        refine lv_iconst (v := 1) hx hb dX4_note_87 (by decide) ?_
        refine lv_iadd hx hb dX4_note_88 ?_
        refine ka_fold (y := 4) (by decide) ?_
        refine ka_fold (y := nI (tk_np p)) (by rw [c_1]; rfl) ?_
        refine va_put (D := D) (ci := 4) (v := .int (nI (tk_np p))) (ty := .int) (C := RX4) (T := TX4) (N := 9) hx hb hts izX4_note_4 tyX4 tyX4_ok nmX4 hown hK hP hD hS 0 rfl rfl 2 (by decide) (hm 1 (.fieldLink RX4 28 "TankFilterModel" "pasts" "I") rfl) (fun _ h9 => h9) rfl (by decide +kernel) rfl rfl (Nat.le_of_ble_eq_true rfl) dX4_note_89 (fun H locs hP hD hS => ?_)
        have hP : va_P D vwCl ([(h, .inr (4, [.ref sa, .ref pa, .int (nI (tk_np p)), .ref er, .ref na, .long x1, .long x2, .long x3, .long hs])), (sa, .inl (cI, 71, .inl s)), (pa, .inl (cI, 284, .inl Gf))]) H := hP
        have hD : va_D A ([(h, .inr (4, [.ref sa, .ref pa, .int (nI (tk_np p)), .ref er, .ref na, .long x1, .long x2, .long x3, .long hs])), (sa, .inl (cI, 71, .inl s)), (pa, .inl (cI, 284, .inl Gf))]) := hD
        obtain ⟨hP, hD⟩ := kp_arrI hP hD 2 rfl (tk_nP past p s) (fun j hj => (tk_nb_end hG (by omega) j hj).trans (by rw [tk_nP, if_neg (by omega)]))
        have hP : va_P D vwCl ([(h, .inr (4, [.ref sa, .ref pa, .int (nI (tk_np p)), .ref er, .ref na, .long x1, .long x2, .long x3, .long hs])), (sa, .inl (cI, 71, .inl s)), (pa, .inl (cI, 284, .inl (tk_nP past p s)))]) H := hP
        have hD : va_D A ([(h, .inr (4, [.ref sa, .ref pa, .int (nI (tk_np p)), .ref er, .ref na, .long x1, .long x2, .long x3, .long hs])), (sa, .inl (cI, 71, .inl s)), (pa, .inl (cI, 284, .inl (tk_nP past p s)))]) := hD
        exact W.vret hx hb hr (fun zt ht hW => ⟨⟨(), rfl, trivial, KB.of hAe (by rw [ht]; exact hP) hD⟩, hS.F ht⟩) hS.2.2 dX4_note_92
      · have c_4 := mt (nI_leI (a := 71) (b := i) (by omega) (by omega)).mpr c_4
        refine lv_aload_n hx hb dX4_note_56 rfl (lv_at hl 1 rfl) ?_
        refine va_get (D := D) (ci := 4) (v := .ref pa) (C := RX4) (T := TX4) (N := 9) hx hb hts izX4_note_4 hown hK hP 0 rfl rfl 1 (by decide) (hm 2 (.fieldLink RX4 13 "TankFilterModel" "past" "[I") rfl) (fun _ h9 => h9) rfl dX4_note_57 ?_
        refine lv_bipush (v := 71) hx hb dX4_note_60 (by decide) ?_
        refine lv_aload_n hx hb dX4_note_62 rfl (lv_at hl 1 rfl) ?_
        refine va_get (D := D) (ci := 4) (v := .int 3) (C := RX4) (T := TX4) (N := 9) hx hb hts izX4_note_4 hown hK hP 0 rfl rfl 2 (by decide) (hm 1 (.fieldLink RX4 28 "TankFilterModel" "pasts" "I") rfl) (fun _ h9 => h9) rfl dX4_note_63 ?_
        refine lv_imul hx hb dX4_note_66 ?_
        refine ka_fold (y := 213) (by decide) ?_
        refine lv_iload_n hx hb dX4_note_67 rfl (lv_at hl 0 rfl) ?_
        refine lv_iadd hx hb dX4_note_68 ?_
        refine lv_aload_n hx hb dX4_note_69 rfl (lv_at hl 1 rfl) ?_
        refine va_get (D := D) (ci := 4) (v := .ref sa) (C := RX4) (T := TX4) (N := 9) hx hb hts izX4_note_4 hown hK hP 0 rfl rfl 0 (by decide) (hm 3 (.fieldLink RX4 7 "TankFilterModel" "s" "[I") rfl) (fun _ h9 => h9) rfl dX4_note_70 ?_
        refine lv_iload_n hx hb dX4_note_73 rfl (lv_at hl 0 rfl) ?_
        refine ka_ild (D := D) (j := i) (n := 71) (f := s) hx hb hK hP 1 0 rfl rfl (rfl) (by omega) (by decide) dX4_note_74 ?_
        refine ka_ist (D := D) (j := (71 * 3 + i)) (n := 284) (f := Gf) hx hb hK hP hD hS 2 0 rfl rfl (nI_add 213 i) (by omega) (by decide) dX4_note_75 (fun H locs hP hD hS => ?_)
        have hP : va_P D vwCl ([(h, .inr (4, [.ref sa, .ref pa, .int 3, .ref er, .ref na, .long x1, .long x2, .long x3, .long hs])), (sa, .inl (cI, 71, .inl s)), (pa, .inl (cI, 284, .inl (upd Gf (71 * 3 + i) (s i))))]) H := hP
        have hD : va_D A ([(h, .inr (4, [.ref sa, .ref pa, .int 3, .ref er, .ref na, .long x1, .long x2, .long x3, .long hs])), (sa, .inl (cI, 71, .inl s)), (pa, .inl (cI, 284, .inl (upd Gf (71 * 3 + i) (s i))))]) := hD
        refine lv_iinc (v := nI (i + 1)) (lv' := [(1, .int (nI (i + 1))), (0, .ref h)]) hx hb dX4_note_76 hl (k := 0) rfl (nI_1 _) (by decide) rfl (fun ls hl => ?_)
        refine lv_goto (tgt := 50) hx hb dX4_note_79 (by decide) ?_
        exact ih (k - 1) _ _ _ (by omega) ⟨i + 1, upd Gf (71 * 3 + i) (s i), by omega, tk_nb_step hG, hP, hD, hS, lv_sub hl [0, 1] rfl⟩
    · have c_3 := mt (nI_leI (a := 213) (b := i) (by omega) (by omega)).mpr c_3
      refine lv_aload_n hx hb dX4_note_17 rfl (lv_at hl 1 rfl) ?_
      refine va_get (D := D) (ci := 4) (v := .ref pa) (C := RX4) (T := TX4) (N := 9) hx hb hts izX4_note_4 hown hK hP 0 rfl rfl 1 (by decide) (hm 2 (.fieldLink RX4 13 "TankFilterModel" "past" "[I") rfl) (fun _ h9 => h9) rfl dX4_note_18 ?_
      refine lv_iload_n hx hb dX4_note_21 rfl (lv_at hl 0 rfl) ?_
      refine lv_aload_n hx hb dX4_note_22 rfl (lv_at hl 1 rfl) ?_
      refine va_get (D := D) (ci := 4) (v := .ref pa) (C := RX4) (T := TX4) (N := 9) hx hb hts izX4_note_4 hown hK hP 0 rfl rfl 1 (by decide) (hm 2 (.fieldLink RX4 13 "TankFilterModel" "past" "[I") rfl) (fun _ h9 => h9) rfl dX4_note_23 ?_
      refine lv_iload_n hx hb dX4_note_26 rfl (lv_at hl 0 rfl) ?_
      refine lv_bipush (v := 71) hx hb dX4_note_27 (by decide) ?_
      refine lv_iadd hx hb dX4_note_29 ?_
      refine ka_ild (D := D) (j := (i + 71)) (n := 284) (f := Gf) hx hb hK hP 2 0 rfl rfl (nI_add i 71) (by omega) (by decide) dX4_note_30 ?_
      refine ka_ist (D := D) (j := i) (n := 284) (f := Gf) hx hb hK hP hD hS 2 0 rfl rfl (rfl) (by omega) (by decide) dX4_note_31 (fun H locs hP hD hS => ?_)
      have hP : va_P D vwCl ([(h, .inr (4, [.ref sa, .ref pa, .int (nI p), .ref er, .ref na, .long x1, .long x2, .long x3, .long hs])), (sa, .inl (cI, 71, .inl s)), (pa, .inl (cI, 284, .inl (upd Gf i (Gf (i + 71)))))]) H := hP
      have hD : va_D A ([(h, .inr (4, [.ref sa, .ref pa, .int (nI p), .ref er, .ref na, .long x1, .long x2, .long x3, .long hs])), (sa, .inl (cI, 71, .inl s)), (pa, .inl (cI, 284, .inl (upd Gf i (Gf (i + 71)))))]) := hD
      refine lv_iinc (v := nI (i + 1)) (lv' := [(1, .int (nI (i + 1))), (0, .ref h)]) hx hb dX4_note_32 hl (k := 0) rfl (nI_1 _) (by decide) rfl (fun ls hl => ?_)
      refine lv_goto (tgt := 10) hx hb dX4_note_35 (by decide) ?_
      exact ih (k - 1) _ _ _ (by omega) ⟨i + 1, upd Gf i (Gf (i + 71)), by omega, tk_sh71_step hG (by omega), hP, hD, hS, lv_sub hl [0, 1] rfl⟩

def tk_fg0 (s : Nat → Int32) : Nat → Int32 := upd (upd (upd (upd (upd (upd (upd s 16 (-2000000001)) 17 (-2000000001)) 18 (-2000000001)) 19 0) 20 0) 21 0) 22 0
def tk_fg (s : Nat → Int32) : Nat → Int32 := fun j => if 23 ≤ j ∧ j < 71 then 0 else tk_fg0 s j
theorem tk_fg_step {f F : Nat → Int32} {i : Nat} (h : ∀ j, j < 71 → F j = if 23 ≤ j ∧ j < i then 0 else f j) (hi : 23 ≤ i) : ∀ j, j < 71 → upd F i 0 j = if 23 ≤ j ∧ j < i + 1 then 0 else f j := by
  intro j hj
  by_cases e : j = i
  · subst e
    rw [pk_us, if_pos (by omega)]
  · rw [pk_un e, h j hj]
    by_cases e2 : 23 ≤ j ∧ j < i
    · rw [if_pos e2, if_pos (by omega)]
    · rw [if_neg e2, if_neg (by omega)]

theorem izX4_forget_4 : ∀ w ∈ wsX40, w ∈ wsX4_forget := fun _ h => List.mem_cons_of_mem _ (List.mem_append_right _ h)
set_option maxHeartbeats 4000000 in
set_option maxRecDepth 100000 in
/-- forget -/
theorem k_X4_forget (l : Launch) (D : va_G) (cI cM cJ : ClassId) (sz : Nat) (h sa pa er na : Nat) (z : Int32) (x1 x2 x3 hs : Int64) (s : Nat → Int32) : Met l yX4_forget wsX4_forget ({ frames := 0, cells := 0, slots := 0, locals := 0 }) (va_Pc [.ref h] (KP D (tk_T cI cM cJ) ([(h, .inr (4, [.ref sa, .ref pa, .int z, .ref er, .ref na, .long x1, .long x2, .long x3, .long hs])), (sa, .inl (cI, 71, .inl s))]) sz)) (va_Qv (fun (u : Unit) => True) (fun u zt => KB D ([(h, .inr (4, [.ref sa, .ref pa, .int z, .ref er, .ref na, .long x1, .long x2, .long x3, .long hs])), (sa, .inl (cI, 71, .inl s))]) ([(h, .inr (4, [.ref sa, .ref pa, .int z, .ref er, .ref na, .long x1, .long x2, .long x3, .long hs])), (sa, .inl (cI, 71, .inl (tk_fg s)))]) sz zt) (va_A ([(h, .inr (4, [.ref sa, .ref pa, .int z, .ref er, .ref na, .long x1, .long x2, .long x3, .long hs])), (sa, .inl (cI, 71, .inl s))]) sz)) 0 0 (va_A ([(h, .inr (4, [.ref sa, .ref pa, .int z, .ref er, .ref na, .long x1, .long x2, .long x3, .long hs])), (sa, .inl (cI, 71, .inl s))]) sz) := by
  refine Met.ofW (cc := cX4_forget) (maxL := 2) (ret := none) (by decide) rfl ?_
  intro zp ze zs zm zargs zbelow zmeth zc zs1 B hml hv
  obtain ⟨rfl, hsz, hP, hK, hD0, hN⟩ := hv
  have hx := B.exec
  have hb := B.bytes
  have hr := B.returns
  have hts := atoms_spec (ws := wsX4_forget) B.pre
  have hm : ∀ (i : Nat) (w : Cond), wsX4_forget[i]? = some w → w.before _ zs = true := fun i w h => hts w (List.mem_of_getElem? h)
  have hown : zs.vm.findClass RX4 = some zm.cls := findClass_of_methodNamed B.named
  have hlocks := B.notSynchronized
  subst hsz
  have hD := hD0.self (sz := zs.heap.size)
  generalize hAe : va_A ([(h, .inr (4, [.ref sa, .ref pa, .int z, .ref er, .ref na, .long x1, .long x2, .long x3, .long hs])), (sa, .inl (cI, 71, .inl s))]) zs.heap.size = A at hD ⊢
  have hA : ∀ q : Nat, zs.heap.size ≤ q → A q := fun q h => by rw [← hAe]; exact Or.inr h
  have hS : va_S A zs.heap zs.heap [] := va_S.rf
  have hP : va_P D vwCl ([(h, .inr (4, [.ref sa, .ref pa, .int z, .ref er, .ref na, .long x1, .long x2, .long x3, .long hs])), (sa, .inl (cI, 71, .inl s))]) zs.heap := hP
  have hl := lv_entry ([.ref h]) (n := 2) (Nat.le_of_ble_eq_true rfl)
  rw [lg_entry_eq]
  generalize (lg_sl ([.ref h]) ++ List.replicate (2 - (lg_sl ([.ref h])).length) Slot.unset).toArray = ls at hl ⊢
  have hl : lv_has ls 2 [(0, .ref h)] := hl
  refine lv_aload_n hx hb dX4_forget_0 rfl (lv_at hl 0 rfl) ?_
  refine va_get (D := D) (ci := 4) (v := .ref sa) (C := RX4) (T := TX4) (N := 9) hx hb hts izX4_forget_4 hown hK hP 0 rfl rfl 0 (by decide) (hm 1 (.fieldLink RX4 7 "TankFilterModel" "s" "[I") rfl) (fun _ h9 => h9) rfl dX4_forget_1 ?_
  refine lv_bipush (v := 16) hx hb dX4_forget_4 (by decide) ?_
  refine lv_ldc (v := -2000000001) hx hb hown (hm 2 (.constant RX4 27 (-2000000001)) rfl) dX4_forget_6 ?_
  refine ka_ist (D := D) (j := 16) (n := 71) (f := s) hx hb hK hP hD hS 1 0 rfl rfl (rfl) (by decide) (by decide) dX4_forget_8 (fun H locs hP hD hS => ?_)
  have hP : va_P D vwCl ([(h, .inr (4, [.ref sa, .ref pa, .int z, .ref er, .ref na, .long x1, .long x2, .long x3, .long hs])), (sa, .inl (cI, 71, .inl (upd s 16 (-2000000001))))]) H := hP
  have hD : va_D A ([(h, .inr (4, [.ref sa, .ref pa, .int z, .ref er, .ref na, .long x1, .long x2, .long x3, .long hs])), (sa, .inl (cI, 71, .inl (upd s 16 (-2000000001))))]) := hD
  refine lv_aload_n hx hb dX4_forget_9 rfl (lv_at hl 0 rfl) ?_
  refine va_get (D := D) (ci := 4) (v := .ref sa) (C := RX4) (T := TX4) (N := 9) hx hb hts izX4_forget_4 hown hK hP 0 rfl rfl 0 (by decide) (hm 1 (.fieldLink RX4 7 "TankFilterModel" "s" "[I") rfl) (fun _ h9 => h9) rfl dX4_forget_10 ?_
  refine lv_bipush (v := 17) hx hb dX4_forget_13 (by decide) ?_
  refine lv_ldc (v := -2000000001) hx hb hown (hm 2 (.constant RX4 27 (-2000000001)) rfl) dX4_forget_15 ?_
  refine ka_ist (D := D) (j := 17) (n := 71) (f := upd s 16 (-2000000001)) hx hb hK hP hD hS 1 0 rfl rfl (rfl) (by decide) (by decide) dX4_forget_17 (fun H locs hP hD hS => ?_)
  have hP : va_P D vwCl ([(h, .inr (4, [.ref sa, .ref pa, .int z, .ref er, .ref na, .long x1, .long x2, .long x3, .long hs])), (sa, .inl (cI, 71, .inl (upd (upd s 16 (-2000000001)) 17 (-2000000001))))]) H := hP
  have hD : va_D A ([(h, .inr (4, [.ref sa, .ref pa, .int z, .ref er, .ref na, .long x1, .long x2, .long x3, .long hs])), (sa, .inl (cI, 71, .inl (upd (upd s 16 (-2000000001)) 17 (-2000000001))))]) := hD
  refine lv_aload_n hx hb dX4_forget_18 rfl (lv_at hl 0 rfl) ?_
  refine va_get (D := D) (ci := 4) (v := .ref sa) (C := RX4) (T := TX4) (N := 9) hx hb hts izX4_forget_4 hown hK hP 0 rfl rfl 0 (by decide) (hm 1 (.fieldLink RX4 7 "TankFilterModel" "s" "[I") rfl) (fun _ h9 => h9) rfl dX4_forget_19 ?_
  refine lv_bipush (v := 18) hx hb dX4_forget_22 (by decide) ?_
  refine lv_ldc (v := -2000000001) hx hb hown (hm 2 (.constant RX4 27 (-2000000001)) rfl) dX4_forget_24 ?_
  refine ka_ist (D := D) (j := 18) (n := 71) (f := upd (upd s 16 (-2000000001)) 17 (-2000000001)) hx hb hK hP hD hS 1 0 rfl rfl (rfl) (by decide) (by decide) dX4_forget_26 (fun H locs hP hD hS => ?_)
  have hP : va_P D vwCl ([(h, .inr (4, [.ref sa, .ref pa, .int z, .ref er, .ref na, .long x1, .long x2, .long x3, .long hs])), (sa, .inl (cI, 71, .inl (upd (upd (upd s 16 (-2000000001)) 17 (-2000000001)) 18 (-2000000001))))]) H := hP
  have hD : va_D A ([(h, .inr (4, [.ref sa, .ref pa, .int z, .ref er, .ref na, .long x1, .long x2, .long x3, .long hs])), (sa, .inl (cI, 71, .inl (upd (upd (upd s 16 (-2000000001)) 17 (-2000000001)) 18 (-2000000001))))]) := hD
  refine lv_aload_n hx hb dX4_forget_27 rfl (lv_at hl 0 rfl) ?_
  refine va_get (D := D) (ci := 4) (v := .ref sa) (C := RX4) (T := TX4) (N := 9) hx hb hts izX4_forget_4 hown hK hP 0 rfl rfl 0 (by decide) (hm 1 (.fieldLink RX4 7 "TankFilterModel" "s" "[I") rfl) (fun _ h9 => h9) rfl dX4_forget_28 ?_
  refine lv_bipush (v := 19) hx hb dX4_forget_31 (by decide) ?_
  refine lv_iconst (v := 0) hx hb dX4_forget_33 (by decide) ?_
  refine ka_ist (D := D) (j := 19) (n := 71) (f := upd (upd (upd s 16 (-2000000001)) 17 (-2000000001)) 18 (-2000000001)) hx hb hK hP hD hS 1 0 rfl rfl (rfl) (by decide) (by decide) dX4_forget_34 (fun H locs hP hD hS => ?_)
  have hP : va_P D vwCl ([(h, .inr (4, [.ref sa, .ref pa, .int z, .ref er, .ref na, .long x1, .long x2, .long x3, .long hs])), (sa, .inl (cI, 71, .inl (upd (upd (upd (upd s 16 (-2000000001)) 17 (-2000000001)) 18 (-2000000001)) 19 0)))]) H := hP
  have hD : va_D A ([(h, .inr (4, [.ref sa, .ref pa, .int z, .ref er, .ref na, .long x1, .long x2, .long x3, .long hs])), (sa, .inl (cI, 71, .inl (upd (upd (upd (upd s 16 (-2000000001)) 17 (-2000000001)) 18 (-2000000001)) 19 0)))]) := hD
  refine lv_aload_n hx hb dX4_forget_35 rfl (lv_at hl 0 rfl) ?_
  refine va_get (D := D) (ci := 4) (v := .ref sa) (C := RX4) (T := TX4) (N := 9) hx hb hts izX4_forget_4 hown hK hP 0 rfl rfl 0 (by decide) (hm 1 (.fieldLink RX4 7 "TankFilterModel" "s" "[I") rfl) (fun _ h9 => h9) rfl dX4_forget_36 ?_
  refine lv_bipush (v := 20) hx hb dX4_forget_39 (by decide) ?_
  refine lv_iconst (v := 0) hx hb dX4_forget_41 (by decide) ?_
  refine ka_ist (D := D) (j := 20) (n := 71) (f := upd (upd (upd (upd s 16 (-2000000001)) 17 (-2000000001)) 18 (-2000000001)) 19 0) hx hb hK hP hD hS 1 0 rfl rfl (rfl) (by decide) (by decide) dX4_forget_42 (fun H locs hP hD hS => ?_)
  have hP : va_P D vwCl ([(h, .inr (4, [.ref sa, .ref pa, .int z, .ref er, .ref na, .long x1, .long x2, .long x3, .long hs])), (sa, .inl (cI, 71, .inl (upd (upd (upd (upd (upd s 16 (-2000000001)) 17 (-2000000001)) 18 (-2000000001)) 19 0) 20 0)))]) H := hP
  have hD : va_D A ([(h, .inr (4, [.ref sa, .ref pa, .int z, .ref er, .ref na, .long x1, .long x2, .long x3, .long hs])), (sa, .inl (cI, 71, .inl (upd (upd (upd (upd (upd s 16 (-2000000001)) 17 (-2000000001)) 18 (-2000000001)) 19 0) 20 0)))]) := hD
  refine lv_aload_n hx hb dX4_forget_43 rfl (lv_at hl 0 rfl) ?_
  refine va_get (D := D) (ci := 4) (v := .ref sa) (C := RX4) (T := TX4) (N := 9) hx hb hts izX4_forget_4 hown hK hP 0 rfl rfl 0 (by decide) (hm 1 (.fieldLink RX4 7 "TankFilterModel" "s" "[I") rfl) (fun _ h9 => h9) rfl dX4_forget_44 ?_
  refine lv_bipush (v := 21) hx hb dX4_forget_47 (by decide) ?_
  refine lv_iconst (v := 0) hx hb dX4_forget_49 (by decide) ?_
  refine ka_ist (D := D) (j := 21) (n := 71) (f := upd (upd (upd (upd (upd s 16 (-2000000001)) 17 (-2000000001)) 18 (-2000000001)) 19 0) 20 0) hx hb hK hP hD hS 1 0 rfl rfl (rfl) (by decide) (by decide) dX4_forget_50 (fun H locs hP hD hS => ?_)
  have hP : va_P D vwCl ([(h, .inr (4, [.ref sa, .ref pa, .int z, .ref er, .ref na, .long x1, .long x2, .long x3, .long hs])), (sa, .inl (cI, 71, .inl (upd (upd (upd (upd (upd (upd s 16 (-2000000001)) 17 (-2000000001)) 18 (-2000000001)) 19 0) 20 0) 21 0)))]) H := hP
  have hD : va_D A ([(h, .inr (4, [.ref sa, .ref pa, .int z, .ref er, .ref na, .long x1, .long x2, .long x3, .long hs])), (sa, .inl (cI, 71, .inl (upd (upd (upd (upd (upd (upd s 16 (-2000000001)) 17 (-2000000001)) 18 (-2000000001)) 19 0) 20 0) 21 0)))]) := hD
  refine lv_aload_n hx hb dX4_forget_51 rfl (lv_at hl 0 rfl) ?_
  refine va_get (D := D) (ci := 4) (v := .ref sa) (C := RX4) (T := TX4) (N := 9) hx hb hts izX4_forget_4 hown hK hP 0 rfl rfl 0 (by decide) (hm 1 (.fieldLink RX4 7 "TankFilterModel" "s" "[I") rfl) (fun _ h9 => h9) rfl dX4_forget_52 ?_
  refine lv_bipush (v := 22) hx hb dX4_forget_55 (by decide) ?_
  refine lv_iconst (v := 0) hx hb dX4_forget_57 (by decide) ?_
  refine ka_ist (D := D) (j := 22) (n := 71) (f := upd (upd (upd (upd (upd (upd s 16 (-2000000001)) 17 (-2000000001)) 18 (-2000000001)) 19 0) 20 0) 21 0) hx hb hK hP hD hS 1 0 rfl rfl (rfl) (by decide) (by decide) dX4_forget_58 (fun H locs hP hD hS => ?_)
  have hP : va_P D vwCl ([(h, .inr (4, [.ref sa, .ref pa, .int z, .ref er, .ref na, .long x1, .long x2, .long x3, .long hs])), (sa, .inl (cI, 71, .inl (upd (upd (upd (upd (upd (upd (upd s 16 (-2000000001)) 17 (-2000000001)) 18 (-2000000001)) 19 0) 20 0) 21 0) 22 0)))]) H := hP
  have hD : va_D A ([(h, .inr (4, [.ref sa, .ref pa, .int z, .ref er, .ref na, .long x1, .long x2, .long x3, .long hs])), (sa, .inl (cI, 71, .inl (upd (upd (upd (upd (upd (upd (upd s 16 (-2000000001)) 17 (-2000000001)) 18 (-2000000001)) 19 0) 20 0) 21 0) 22 0)))]) := hD
  refine lv_bipush (v := 23) hx hb dX4_forget_59 (by decide) ?_
  refine lv_istore_n (lv' := [(1, .int 23), (0, .ref h)]) hx hb dX4_forget_61 rfl hl (by decide) rfl (fun ls hl => ?_)
  refine kl_loop (fun (k : Nat) (H : Heap) (locs : List Loc) (ls : Array Slot) => ∃ (i : Nat) (Gf : Nat → Int32), (k + i = 71) ∧ (23 ≤ i) ∧ (∀ j, j < 71 → Gf j = if 23 ≤ j ∧ j < i then 0 else tk_fg0 s j) ∧ va_P D vwCl ([(h, .inr (4, [.ref sa, .ref pa, .int z, .ref er, .ref na, .long x1, .long x2, .long x3, .long hs])), (sa, .inl (cI, 71, .inl Gf))]) H ∧ va_D A ([(h, .inr (4, [.ref sa, .ref pa, .int z, .ref er, .ref na, .long x1, .long x2, .long x3, .long hs])), (sa, .inl (cI, 71, .inl Gf))]) ∧ va_S A zs.heap H locs ∧ lv_has ls 2 [(1, .int (nI i)), (0, .ref h)]) (48) ⟨23, upd (upd (upd (upd (upd (upd (upd s 16 (-2000000001)) 17 (-2000000001)) 18 (-2000000001)) 19 0) 20 0) 21 0) 22 0, by omega, by omega, fun j _ => by rw [if_neg (by omega)]; rfl, hP, hD, hS, lv_sub hl [0, 1] rfl⟩ ?_
  rintro k H locs ls ⟨i, Gf, hk, h23, hG, hP, hD, hS, hl⟩ ih
  refine lv_iload_n hx hb dX4_forget_62 rfl (lv_at hl 0 rfl) ?_
  refine lv_bipush (v := 71) hx hb dX4_forget_63 (by decide) ?_
  refine lv_icmp_ge (tgt := 81) hx hb dX4_forget_65 (by decide) (fun c_1 => ?_) (fun c_1 => ?_)
  · have c_1 := (nI_leI (a := 71) (b := i) (by omega) (by omega)).mp c_1
    obtain ⟨hP, hD⟩ := kp_arrI hP hD 1 rfl (tk_fg s) (fun j hj => by rw [hG j hj, show i = 71 from by omega]; rfl)
    have hP : va_P D vwCl ([(h, .inr (4, [.ref sa, .ref pa, .int z, .ref er, .ref na, .long x1, .long x2, .long x3, .long hs])), (sa, .inl (cI, 71, .inl (tk_fg s)))]) H := hP
    have hD : va_D A ([(h, .inr (4, [.ref sa, .ref pa, .int z, .ref er, .ref na, .long x1, .long x2, .long x3, .long hs])), (sa, .inl (cI, 71, .inl (tk_fg s)))]) := hD
    exact W.vret hx hb hr (fun zt ht hW => ⟨⟨(), rfl, trivial, KB.of hAe (by rw [ht]; exact hP) hD⟩, hS.F ht⟩) hS.2.2 dX4_forget_81
  · have c_1 := mt (nI_leI (a := 71) (b := i) (by omega) (by omega)).mpr c_1
    refine lv_aload_n hx hb dX4_forget_68 rfl (lv_at hl 1 rfl) ?_
    refine va_get (D := D) (ci := 4) (v := .ref sa) (C := RX4) (T := TX4) (N := 9) hx hb hts izX4_forget_4 hown hK hP 0 rfl rfl 0 (by decide) (hm 1 (.fieldLink RX4 7 "TankFilterModel" "s" "[I") rfl) (fun _ h9 => h9) rfl dX4_forget_69 ?_
    refine lv_iload_n hx hb dX4_forget_72 rfl (lv_at hl 0 rfl) ?_
    refine lv_iconst (v := 0) hx hb dX4_forget_73 (by decide) ?_
    refine ka_ist (D := D) (j := i) (n := 71) (f := Gf) hx hb hK hP hD hS 1 0 rfl rfl (rfl) (by omega) (by decide) dX4_forget_74 (fun H locs hP hD hS => ?_)
    have hP : va_P D vwCl ([(h, .inr (4, [.ref sa, .ref pa, .int z, .ref er, .ref na, .long x1, .long x2, .long x3, .long hs])), (sa, .inl (cI, 71, .inl (upd Gf i 0)))]) H := hP
    have hD : va_D A ([(h, .inr (4, [.ref sa, .ref pa, .int z, .ref er, .ref na, .long x1, .long x2, .long x3, .long hs])), (sa, .inl (cI, 71, .inl (upd Gf i 0)))]) := hD
    refine lv_iinc (v := nI (i + 1)) (lv' := [(1, .int (nI (i + 1))), (0, .ref h)]) hx hb dX4_forget_75 hl (k := 0) rfl (nI_1 _) (by decide) rfl (fun ls hl => ?_)
    refine lv_goto (tgt := 62) hx hb dX4_forget_78 (by decide) ?_
    exact ih (k - 1) _ _ _ (by omega) ⟨i + 1, upd Gf i 0, by omega, by omega, tk_fg_step hG h23, hP, hD, hS, lv_sub hl [0, 1] rfl⟩

def tk_sh2 (s : Nat → Int32) : Nat → Int32 := fun j => if 23 ≤ j ∧ j < 69 then s (j + 2) else s j
def tk_rec (s : Nat → Int32) (n : Nat) (x y : Int32) : Nat → Int32 := if n < 24 then upd (upd (upd s (23 + 2 * n) x) (23 + 2 * n + 1) y) 22 (nI (n + 1)) else upd (upd (upd (upd (tk_sh2 s) 22 23) 69 x) 70 y) 22 24
theorem tk_sh2_step {f F : Nat → Int32} {i : Nat} (h : ∀ j, j < 71 → F j = if 23 ≤ j ∧ j < i then f (j + 2) else f j) (hi : 23 ≤ i) (hi2 : i < 69) : ∀ j, j < 71 → upd F i (F (i + 2)) j = if 23 ≤ j ∧ j < i + 1 then f (j + 2) else f j := by
  intro j hj
  by_cases e : j = i
  · subst e
    rw [pk_us, h (j + 2) (by omega), if_neg (by omega), if_pos (by omega)]
  · rw [pk_un e, h j hj]
    by_cases e2 : 23 ≤ j ∧ j < i
    · rw [if_pos e2, if_pos (by omega)]
    · rw [if_neg e2, if_neg (by omega)]

theorem izX4_record_4 : ∀ w ∈ wsX40, w ∈ wsX4_record := fun _ h => List.mem_cons_of_mem _ (List.mem_append_right _ h)
set_option maxHeartbeats 4000000 in
set_option maxRecDepth 100000 in
/-- record -/
theorem k_X4_record (l : Launch) (D : va_G) (cI cM cJ : ClassId) (sz : Nat) (h sa pa er na : Nat) (z : Int32) (x1 x2 x3 hs : Int64) (s : Nat → Int32) (n : Nat) (x y : Int32) (hn : n ≤ 24) (h22 : s 22 = nI n) : Met l yX4_record wsX4_record ({ frames := 0, cells := 0, slots := 0, locals := 0 }) (va_Pc [.ref h, .int x, .int y] (KP D (tk_T cI cM cJ) ([(h, .inr (4, [.ref sa, .ref pa, .int z, .ref er, .ref na, .long x1, .long x2, .long x3, .long hs])), (sa, .inl (cI, 71, .inl s))]) sz)) (va_Qv (fun (u : Unit) => True) (fun u zt => KB D ([(h, .inr (4, [.ref sa, .ref pa, .int z, .ref er, .ref na, .long x1, .long x2, .long x3, .long hs])), (sa, .inl (cI, 71, .inl s))]) ([(h, .inr (4, [.ref sa, .ref pa, .int z, .ref er, .ref na, .long x1, .long x2, .long x3, .long hs])), (sa, .inl (cI, 71, .inl (tk_rec s n x y)))]) sz zt) (va_A ([(h, .inr (4, [.ref sa, .ref pa, .int z, .ref er, .ref na, .long x1, .long x2, .long x3, .long hs])), (sa, .inl (cI, 71, .inl s))]) sz)) 0 0 (va_A ([(h, .inr (4, [.ref sa, .ref pa, .int z, .ref er, .ref na, .long x1, .long x2, .long x3, .long hs])), (sa, .inl (cI, 71, .inl s))]) sz) := by
  refine Met.ofW (cc := cX4_record) (maxL := 4) (ret := none) (by decide) rfl ?_
  intro zp ze zs zm zargs zbelow zmeth zc zs1 B hml hv
  obtain ⟨rfl, hsz, hP, hK, hD0, hN⟩ := hv
  have hx := B.exec
  have hb := B.bytes
  have hr := B.returns
  have hts := atoms_spec (ws := wsX4_record) B.pre
  have hm : ∀ (i : Nat) (w : Cond), wsX4_record[i]? = some w → w.before _ zs = true := fun i w h => hts w (List.mem_of_getElem? h)
  have hown : zs.vm.findClass RX4 = some zm.cls := findClass_of_methodNamed B.named
  have hlocks := B.notSynchronized
  subst hsz
  have hD := hD0.self (sz := zs.heap.size)
  generalize hAe : va_A ([(h, .inr (4, [.ref sa, .ref pa, .int z, .ref er, .ref na, .long x1, .long x2, .long x3, .long hs])), (sa, .inl (cI, 71, .inl s))]) zs.heap.size = A at hD ⊢
  have hA : ∀ q : Nat, zs.heap.size ≤ q → A q := fun q h => by rw [← hAe]; exact Or.inr h
  have hS : va_S A zs.heap zs.heap [] := va_S.rf
  have hP : va_P D vwCl ([(h, .inr (4, [.ref sa, .ref pa, .int z, .ref er, .ref na, .long x1, .long x2, .long x3, .long hs])), (sa, .inl (cI, 71, .inl s))]) zs.heap := hP
  have hl := lv_entry ([.ref h, .int x, .int y]) (n := 4) (Nat.le_of_ble_eq_true rfl)
  rw [lg_entry_eq]
  generalize (lg_sl ([.ref h, .int x, .int y]) ++ List.replicate (4 - (lg_sl ([.ref h, .int x, .int y])).length) Slot.unset).toArray = ls at hl ⊢
  have hl : lv_has ls 4 [(0, .ref h), (1, .int x), (2, .int y)] := hl
  refine lv_aload_n hx hb dX4_record_0 rfl (lv_at hl 0 rfl) ?_
  refine va_get (D := D) (ci := 4) (v := .ref sa) (C := RX4) (T := TX4) (N := 9) hx hb hts izX4_record_4 hown hK hP 0 rfl rfl 0 (by decide) (hm 1 (.fieldLink RX4 7 "TankFilterModel" "s" "[I") rfl) (fun _ h9 => h9) rfl dX4_record_1 ?_
  refine lv_bipush (v := 22) hx hb dX4_record_4 (by decide) ?_
  refine ka_ild (D := D) (j := 22) (n := 71) (f := s) hx hb hK hP 1 0 rfl rfl (rfl) (by decide) (by decide) dX4_record_6 ?_
  refine ka_fold (y := nI n) h22 ?_
  refine lv_bipush (v := 24) hx hb dX4_record_7 (by decide) ?_
  refine lv_icmp_ne (tgt := 54) hx hb dX4_record_9 (by decide) (fun c_1 => ?_) (fun c_1 => ?_)
  · have c_1 := mt (nI_eq (a := n) (b := 24) (by omega) (by omega)).mpr c_1
    refine lv_aload_n hx hb dX4_record_54 rfl (lv_at hl 0 rfl) ?_
    refine va_get (D := D) (ci := 4) (v := .ref sa) (C := RX4) (T := TX4) (N := 9) hx hb hts izX4_record_4 hown hK hP 0 rfl rfl 0 (by decide) (hm 1 (.fieldLink RX4 7 "TankFilterModel" "s" "[I") rfl) (fun _ h9 => h9) rfl dX4_record_55 ?_
    refine lv_bipush (v := 23) hx hb dX4_record_58 (by decide) ?_
    refine lv_iconst (v := 2) hx hb dX4_record_60 (by decide) ?_
    refine lv_aload_n hx hb dX4_record_61 rfl (lv_at hl 0 rfl) ?_
    refine va_get (D := D) (ci := 4) (v := .ref sa) (C := RX4) (T := TX4) (N := 9) hx hb hts izX4_record_4 hown hK hP 0 rfl rfl 0 (by decide) (hm 1 (.fieldLink RX4 7 "TankFilterModel" "s" "[I") rfl) (fun _ h9 => h9) rfl dX4_record_62 ?_
    refine lv_bipush (v := 22) hx hb dX4_record_65 (by decide) ?_
    refine ka_ild (D := D) (j := 22) (n := 71) (f := s) hx hb hK hP 1 0 rfl rfl (rfl) (by decide) (by decide) dX4_record_67 ?_
    refine ka_fold (y := nI n) h22 ?_
    refine lv_imul hx hb dX4_record_68 ?_
    refine ka_fold (y := nI (2 * n)) (pk_mul 2 n) ?_
    refine lv_iadd hx hb dX4_record_69 ?_
    refine ka_fold (y := nI (23 + (2 * n))) (nI_add 23 (2 * n)) ?_
    refine lv_iload_n hx hb dX4_record_70 rfl (lv_at hl 1 rfl) ?_
    refine ka_ist (D := D) (j := (23 + (2 * n))) (n := 71) (f := s) hx hb hK hP hD hS 1 0 rfl rfl (rfl) (by omega) (by decide) dX4_record_71 (fun H locs hP hD hS => ?_)
    have hP : va_P D vwCl ([(h, .inr (4, [.ref sa, .ref pa, .int z, .ref er, .ref na, .long x1, .long x2, .long x3, .long hs])), (sa, .inl (cI, 71, .inl (upd s (23 + (2 * n)) x)))]) H := hP
    have hD : va_D A ([(h, .inr (4, [.ref sa, .ref pa, .int z, .ref er, .ref na, .long x1, .long x2, .long x3, .long hs])), (sa, .inl (cI, 71, .inl (upd s (23 + (2 * n)) x)))]) := hD
    refine lv_aload_n hx hb dX4_record_72 rfl (lv_at hl 0 rfl) ?_
    refine va_get (D := D) (ci := 4) (v := .ref sa) (C := RX4) (T := TX4) (N := 9) hx hb hts izX4_record_4 hown hK hP 0 rfl rfl 0 (by decide) (hm 1 (.fieldLink RX4 7 "TankFilterModel" "s" "[I") rfl) (fun _ h9 => h9) rfl dX4_record_73 ?_
    refine lv_bipush (v := 23) hx hb dX4_record_76 (by decide) ?_
    refine lv_iconst (v := 2) hx hb dX4_record_78 (by decide) ?_
    refine lv_aload_n hx hb dX4_record_79 rfl (lv_at hl 0 rfl) ?_
    refine va_get (D := D) (ci := 4) (v := .ref sa) (C := RX4) (T := TX4) (N := 9) hx hb hts izX4_record_4 hown hK hP 0 rfl rfl 0 (by decide) (hm 1 (.fieldLink RX4 7 "TankFilterModel" "s" "[I") rfl) (fun _ h9 => h9) rfl dX4_record_80 ?_
    refine lv_bipush (v := 22) hx hb dX4_record_83 (by decide) ?_
    refine ka_ild (D := D) (j := 22) (n := 71) (f := upd s (23 + (2 * n)) x) hx hb hK hP 1 0 rfl rfl (rfl) (by decide) (by decide) dX4_record_85 ?_
    refine ka_fold (y := nI n) ((pk_un (by omega)).trans h22) ?_
    refine lv_imul hx hb dX4_record_86 ?_
    refine ka_fold (y := nI (2 * n)) (pk_mul 2 n) ?_
    refine lv_iadd hx hb dX4_record_87 ?_
    refine ka_fold (y := nI (23 + (2 * n))) (nI_add 23 (2 * n)) ?_
    refine lv_iconst (v := 1) hx hb dX4_record_88 (by decide) ?_
    refine lv_iadd hx hb dX4_record_89 ?_
    refine ka_fold (y := nI ((23 + (2 * n)) + 1)) (nI_add (23 + (2 * n)) 1) ?_
    refine lv_iload_n hx hb dX4_record_90 rfl (lv_at hl 2 rfl) ?_
    refine ka_ist (D := D) (j := ((23 + (2 * n)) + 1)) (n := 71) (f := upd s (23 + (2 * n)) x) hx hb hK hP hD hS 1 0 rfl rfl (rfl) (by omega) (by decide) dX4_record_91 (fun H locs hP hD hS => ?_)
    have hP : va_P D vwCl ([(h, .inr (4, [.ref sa, .ref pa, .int z, .ref er, .ref na, .long x1, .long x2, .long x3, .long hs])), (sa, .inl (cI, 71, .inl (upd (upd s (23 + (2 * n)) x) ((23 + (2 * n)) + 1) y)))]) H := hP
    have hD : va_D A ([(h, .inr (4, [.ref sa, .ref pa, .int z, .ref er, .ref na, .long x1, .long x2, .long x3, .long hs])), (sa, .inl (cI, 71, .inl (upd (upd s (23 + (2 * n)) x) ((23 + (2 * n)) + 1) y)))]) := hD
    refine lv_aload_n hx hb dX4_record_92 rfl (lv_at hl 0 rfl) ?_
    refine va_get (D := D) (ci := 4) (v := .ref sa) (C := RX4) (T := TX4) (N := 9) hx hb hts izX4_record_4 hown hK hP 0 rfl rfl 0 (by decide) (hm 1 (.fieldLink RX4 7 "TankFilterModel" "s" "[I") rfl) (fun _ h9 => h9) rfl dX4_record_93 ?_
    refine lv_bipush (v := 22) hx hb dX4_record_96 (by decide) ?_
    refine lv_dup2_11 hx hb dX4_record_98 rfl rfl ?_
    refine ka_ild (D := D) (j := 22) (n := 71) (f := upd (upd s (23 + (2 * n)) x) ((23 + (2 * n)) + 1) y) hx hb hK hP 1 0 rfl rfl (rfl) (by decide) (by decide) dX4_record_99 ?_
    refine ka_fold (y := nI n) ((pk_un (by omega)).trans ((pk_un (by omega)).trans h22)) ?_
    refine lv_iconst (v := 1) hx hb dX4_record_100 (by decide) ?_
    refine lv_iadd hx hb dX4_record_101 ?_
    refine ka_fold (y := nI (n + 1)) (nI_add n 1) ?_
    refine ka_ist (D := D) (j := 22) (n := 71) (f := upd (upd s (23 + (2 * n)) x) ((23 + (2 * n)) + 1) y) hx hb hK hP hD hS 1 0 rfl rfl (rfl) (by decide) (by decide) dX4_record_102 (fun H locs hP hD hS => ?_)
    have hP : va_P D vwCl ([(h, .inr (4, [.ref sa, .ref pa, .int z, .ref er, .ref na, .long x1, .long x2, .long x3, .long hs])), (sa, .inl (cI, 71, .inl (upd (upd (upd s (23 + (2 * n)) x) ((23 + (2 * n)) + 1) y) 22 (nI (n + 1)))))]) H := hP
    have hD : va_D A ([(h, .inr (4, [.ref sa, .ref pa, .int z, .ref er, .ref na, .long x1, .long x2, .long x3, .long hs])), (sa, .inl (cI, 71, .inl (upd (upd (upd s (23 + (2 * n)) x) ((23 + (2 * n)) + 1) y) 22 (nI (n + 1)))))]) := hD
    have e1 : tk_rec s n x y = upd (upd (upd s (23 + (2 * n)) x) ((23 + (2 * n)) + 1) y) 22 (nI (n + 1)) := if_pos (by omega)
    rw [← e1] at hP hD
    have hP : va_P D vwCl ([(h, .inr (4, [.ref sa, .ref pa, .int z, .ref er, .ref na, .long x1, .long x2, .long x3, .long hs])), (sa, .inl (cI, 71, .inl (tk_rec s n x y)))]) H := hP
    have hD : va_D A ([(h, .inr (4, [.ref sa, .ref pa, .int z, .ref er, .ref na, .long x1, .long x2, .long x3, .long hs])), (sa, .inl (cI, 71, .inl (tk_rec s n x y)))]) := hD
    exact W.vret hx hb hr (fun zt ht hW => ⟨⟨(), rfl, trivial, KB.of hAe (by rw [ht]; exact hP) hD⟩, hS.F ht⟩) hS.2.2 dX4_record_103
  · have c_1 := (nI_eq (a := n) (b := 24) (by omega) (by omega)).mp c_1
    refine lv_bipush (v := 23) hx hb dX4_record_12 (by decide) ?_
    refine lv_istore_n (lv' := [(3, .int 23), (0, .ref h), (1, .int x), (2, .int y)]) hx hb dX4_record_14 rfl hl (by decide) rfl (fun ls hl => ?_)
    refine kl_loop (fun (k : Nat) (H : Heap) (locs : List Loc) (ls : Array Slot) => ∃ (i : Nat) (Gf : Nat → Int32), (k + i = 69) ∧ (23 ≤ i) ∧ (∀ j, j < 71 → Gf j = if 23 ≤ j ∧ j < i then s (j + 2) else s j) ∧ va_P D vwCl ([(h, .inr (4, [.ref sa, .ref pa, .int z, .ref er, .ref na, .long x1, .long x2, .long x3, .long hs])), (sa, .inl (cI, 71, .inl Gf))]) H ∧ va_D A ([(h, .inr (4, [.ref sa, .ref pa, .int z, .ref er, .ref na, .long x1, .long x2, .long x3, .long hs])), (sa, .inl (cI, 71, .inl Gf))]) ∧ va_S A zs.heap H locs ∧ lv_has ls 4 [(3, .int (nI i)), (0, .ref h), (1, .int x), (2, .int y)]) (46) ⟨23, s, by omega, by omega, fun j _ => by rw [if_neg (by omega)], hP, hD, hS, lv_sub hl [0, 1, 2, 3] rfl⟩ ?_
    rintro k H locs ls ⟨i, Gf, hk, h23, hG, hP, hD, hS, hl⟩ ih
    refine lv_iload_n hx hb dX4_record_15 rfl (lv_at hl 0 rfl) ?_
    refine lv_iconst (v := 2) hx hb dX4_record_16 (by decide) ?_
    refine lv_iadd hx hb dX4_record_17 ?_
    refine ka_fold (y := nI (i + 2)) (nI_add i 2) ?_
    refine lv_bipush (v := 71) hx hb dX4_record_18 (by decide) ?_
    refine lv_icmp_ge (tgt := 43) hx hb dX4_record_20 (by decide) (fun c_2 => ?_) (fun c_2 => ?_)
    · have c_2 := (nI_leI (a := 71) (b := (i + 2)) (by omega) (by omega)).mp c_2
      obtain ⟨hP, hD⟩ := kp_arrI hP hD 1 rfl (tk_sh2 s) (fun j hj => by rw [hG j hj, show i = 69 from by omega]; rfl)
      have hP : va_P D vwCl ([(h, .inr (4, [.ref sa, .ref pa, .int z, .ref er, .ref na, .long x1, .long x2, .long x3, .long hs])), (sa, .inl (cI, 71, .inl (tk_sh2 s)))]) H := hP
      have hD : va_D A ([(h, .inr (4, [.ref sa, .ref pa, .int z, .ref er, .ref na, .long x1, .long x2, .long x3, .long hs])), (sa, .inl (cI, 71, .inl (tk_sh2 s)))]) := hD
      refine lv_aload_n hx hb dX4_record_43 rfl (lv_at hl 1 rfl) ?_
      refine va_get (D := D) (ci := 4) (v := .ref sa) (C := RX4) (T := TX4) (N := 9) hx hb hts izX4_record_4 hown hK hP 0 rfl rfl 0 (by decide) (hm 1 (.fieldLink RX4 7 "TankFilterModel" "s" "[I") rfl) (fun _ h9 => h9) rfl dX4_record_44 ?_
      refine lv_bipush (v := 22) hx hb dX4_record_47 (by decide) ?_
      refine lv_dup2_11 hx hb dX4_record_49 rfl rfl ?_
      refine ka_ild (D := D) (j := 22) (n := 71) (f := tk_sh2 s) hx hb hK hP 1 0 rfl rfl (rfl) (by decide) (by decide) dX4_record_50 ?_
      refine ka_fold (y := 24) (by show s 22 = 24; rw [h22, c_1]; rfl) ?_
      refine lv_iconst (v := 1) hx hb dX4_record_51 (by decide) ?_
      refine lv_isub hx hb dX4_record_52 ?_
      refine ka_fold (y := 23) (by decide) ?_
      refine ka_ist (D := D) (j := 22) (n := 71) (f := tk_sh2 s) hx hb hK hP hD hS 1 0 rfl rfl (rfl) (by decide) (by decide) dX4_record_53 (fun H locs hP hD hS => ?_)
      have hP : va_P D vwCl ([(h, .inr (4, [.ref sa, .ref pa, .int z, .ref er, .ref na, .long x1, .long x2, .long x3, .long hs])), (sa, .inl (cI, 71, .inl (upd (tk_sh2 s) 22 23)))]) H := hP
      have hD : va_D A ([(h, .inr (4, [.ref sa, .ref pa, .int z, .ref er, .ref na, .long x1, .long x2, .long x3, .long hs])), (sa, .inl (cI, 71, .inl (upd (tk_sh2 s) 22 23)))]) := hD
      refine lv_aload_n hx hb dX4_record_54 rfl (lv_at hl 1 rfl) ?_
      refine va_get (D := D) (ci := 4) (v := .ref sa) (C := RX4) (T := TX4) (N := 9) hx hb hts izX4_record_4 hown hK hP 0 rfl rfl 0 (by decide) (hm 1 (.fieldLink RX4 7 "TankFilterModel" "s" "[I") rfl) (fun _ h9 => h9) rfl dX4_record_55 ?_
      refine lv_bipush (v := 23) hx hb dX4_record_58 (by decide) ?_
      refine lv_iconst (v := 2) hx hb dX4_record_60 (by decide) ?_
      refine lv_aload_n hx hb dX4_record_61 rfl (lv_at hl 1 rfl) ?_
      refine va_get (D := D) (ci := 4) (v := .ref sa) (C := RX4) (T := TX4) (N := 9) hx hb hts izX4_record_4 hown hK hP 0 rfl rfl 0 (by decide) (hm 1 (.fieldLink RX4 7 "TankFilterModel" "s" "[I") rfl) (fun _ h9 => h9) rfl dX4_record_62 ?_
      refine lv_bipush (v := 22) hx hb dX4_record_65 (by decide) ?_
      refine ka_ild (D := D) (j := 22) (n := 71) (f := upd (tk_sh2 s) 22 23) hx hb hK hP 1 0 rfl rfl (rfl) (by decide) (by decide) dX4_record_67 ?_
      refine ka_fold (y := 23) rfl ?_
      refine lv_imul hx hb dX4_record_68 ?_
      refine ka_fold (y := 46) (by decide) ?_
      refine lv_iadd hx hb dX4_record_69 ?_
      refine ka_fold (y := 69) (by decide) ?_
      refine lv_iload_n hx hb dX4_record_70 rfl (lv_at hl 2 rfl) ?_
      refine ka_ist (D := D) (j := 69) (n := 71) (f := upd (tk_sh2 s) 22 23) hx hb hK hP hD hS 1 0 rfl rfl (rfl) (by decide) (by decide) dX4_record_71 (fun H locs hP hD hS => ?_)
      have hP : va_P D vwCl ([(h, .inr (4, [.ref sa, .ref pa, .int z, .ref er, .ref na, .long x1, .long x2, .long x3, .long hs])), (sa, .inl (cI, 71, .inl (upd (upd (tk_sh2 s) 22 23) 69 x)))]) H := hP
      have hD : va_D A ([(h, .inr (4, [.ref sa, .ref pa, .int z, .ref er, .ref na, .long x1, .long x2, .long x3, .long hs])), (sa, .inl (cI, 71, .inl (upd (upd (tk_sh2 s) 22 23) 69 x)))]) := hD
      refine lv_aload_n hx hb dX4_record_72 rfl (lv_at hl 1 rfl) ?_
      refine va_get (D := D) (ci := 4) (v := .ref sa) (C := RX4) (T := TX4) (N := 9) hx hb hts izX4_record_4 hown hK hP 0 rfl rfl 0 (by decide) (hm 1 (.fieldLink RX4 7 "TankFilterModel" "s" "[I") rfl) (fun _ h9 => h9) rfl dX4_record_73 ?_
      refine lv_bipush (v := 23) hx hb dX4_record_76 (by decide) ?_
      refine lv_iconst (v := 2) hx hb dX4_record_78 (by decide) ?_
      refine lv_aload_n hx hb dX4_record_79 rfl (lv_at hl 1 rfl) ?_
      refine va_get (D := D) (ci := 4) (v := .ref sa) (C := RX4) (T := TX4) (N := 9) hx hb hts izX4_record_4 hown hK hP 0 rfl rfl 0 (by decide) (hm 1 (.fieldLink RX4 7 "TankFilterModel" "s" "[I") rfl) (fun _ h9 => h9) rfl dX4_record_80 ?_
      refine lv_bipush (v := 22) hx hb dX4_record_83 (by decide) ?_
      refine ka_ild (D := D) (j := 22) (n := 71) (f := upd (upd (tk_sh2 s) 22 23) 69 x) hx hb hK hP 1 0 rfl rfl (rfl) (by decide) (by decide) dX4_record_85 ?_
      refine ka_fold (y := 23) rfl ?_
      refine lv_imul hx hb dX4_record_86 ?_
      refine ka_fold (y := 46) (by decide) ?_
      refine lv_iadd hx hb dX4_record_87 ?_
      refine ka_fold (y := 69) (by decide) ?_
      refine lv_iconst (v := 1) hx hb dX4_record_88 (by decide) ?_
      refine lv_iadd hx hb dX4_record_89 ?_
      refine ka_fold (y := 70) (by decide) ?_
      refine lv_iload_n hx hb dX4_record_90 rfl (lv_at hl 3 rfl) ?_
      refine ka_ist (D := D) (j := 70) (n := 71) (f := upd (upd (tk_sh2 s) 22 23) 69 x) hx hb hK hP hD hS 1 0 rfl rfl (rfl) (by decide) (by decide) dX4_record_91 (fun H locs hP hD hS => ?_)
      have hP : va_P D vwCl ([(h, .inr (4, [.ref sa, .ref pa, .int z, .ref er, .ref na, .long x1, .long x2, .long x3, .long hs])), (sa, .inl (cI, 71, .inl (upd (upd (upd (tk_sh2 s) 22 23) 69 x) 70 y)))]) H := hP
      have hD : va_D A ([(h, .inr (4, [.ref sa, .ref pa, .int z, .ref er, .ref na, .long x1, .long x2, .long x3, .long hs])), (sa, .inl (cI, 71, .inl (upd (upd (upd (tk_sh2 s) 22 23) 69 x) 70 y)))]) := hD
      refine lv_aload_n hx hb dX4_record_92 rfl (lv_at hl 1 rfl) ?_
      refine va_get (D := D) (ci := 4) (v := .ref sa) (C := RX4) (T := TX4) (N := 9) hx hb hts izX4_record_4 hown hK hP 0 rfl rfl 0 (by decide) (hm 1 (.fieldLink RX4 7 "TankFilterModel" "s" "[I") rfl) (fun _ h9 => h9) rfl dX4_record_93 ?_
      refine lv_bipush (v := 22) hx hb dX4_record_96 (by decide) ?_
      refine lv_dup2_11 hx hb dX4_record_98 rfl rfl ?_
      refine ka_ild (D := D) (j := 22) (n := 71) (f := upd (upd (upd (tk_sh2 s) 22 23) 69 x) 70 y) hx hb hK hP 1 0 rfl rfl (rfl) (by decide) (by decide) dX4_record_99 ?_
      refine ka_fold (y := 23) rfl ?_
      refine lv_iconst (v := 1) hx hb dX4_record_100 (by decide) ?_
      refine lv_iadd hx hb dX4_record_101 ?_
      refine ka_fold (y := 24) (by decide) ?_
      refine ka_ist (D := D) (j := 22) (n := 71) (f := upd (upd (upd (tk_sh2 s) 22 23) 69 x) 70 y) hx hb hK hP hD hS 1 0 rfl rfl (rfl) (by decide) (by decide) dX4_record_102 (fun H locs hP hD hS => ?_)
      have hP : va_P D vwCl ([(h, .inr (4, [.ref sa, .ref pa, .int z, .ref er, .ref na, .long x1, .long x2, .long x3, .long hs])), (sa, .inl (cI, 71, .inl (upd (upd (upd (upd (tk_sh2 s) 22 23) 69 x) 70 y) 22 24)))]) H := hP
      have hD : va_D A ([(h, .inr (4, [.ref sa, .ref pa, .int z, .ref er, .ref na, .long x1, .long x2, .long x3, .long hs])), (sa, .inl (cI, 71, .inl (upd (upd (upd (upd (tk_sh2 s) 22 23) 69 x) 70 y) 22 24)))]) := hD
      have e1 : tk_rec s n x y = upd (upd (upd (upd (tk_sh2 s) 22 23) 69 x) 70 y) 22 24 := if_neg (by omega)
      rw [← e1] at hP hD
      have hP : va_P D vwCl ([(h, .inr (4, [.ref sa, .ref pa, .int z, .ref er, .ref na, .long x1, .long x2, .long x3, .long hs])), (sa, .inl (cI, 71, .inl (tk_rec s n x y)))]) H := hP
      have hD : va_D A ([(h, .inr (4, [.ref sa, .ref pa, .int z, .ref er, .ref na, .long x1, .long x2, .long x3, .long hs])), (sa, .inl (cI, 71, .inl (tk_rec s n x y)))]) := hD
      exact W.vret hx hb hr (fun zt ht hW => ⟨⟨(), rfl, trivial, KB.of hAe (by rw [ht]; exact hP) hD⟩, hS.F ht⟩) hS.2.2 dX4_record_103
    · have c_2 := mt (nI_leI (a := 71) (b := (i + 2)) (by omega) (by omega)).mpr c_2
      refine lv_aload_n hx hb dX4_record_23 rfl (lv_at hl 1 rfl) ?_
      refine va_get (D := D) (ci := 4) (v := .ref sa) (C := RX4) (T := TX4) (N := 9) hx hb hts izX4_record_4 hown hK hP 0 rfl rfl 0 (by decide) (hm 1 (.fieldLink RX4 7 "TankFilterModel" "s" "[I") rfl) (fun _ h9 => h9) rfl dX4_record_24 ?_
      refine lv_iload_n hx hb dX4_record_27 rfl (lv_at hl 0 rfl) ?_
      refine lv_aload_n hx hb dX4_record_28 rfl (lv_at hl 1 rfl) ?_
      refine va_get (D := D) (ci := 4) (v := .ref sa) (C := RX4) (T := TX4) (N := 9) hx hb hts izX4_record_4 hown hK hP 0 rfl rfl 0 (by decide) (hm 1 (.fieldLink RX4 7 "TankFilterModel" "s" "[I") rfl) (fun _ h9 => h9) rfl dX4_record_29 ?_
      refine lv_iload_n hx hb dX4_record_32 rfl (lv_at hl 0 rfl) ?_
      refine lv_iconst (v := 2) hx hb dX4_record_33 (by decide) ?_
      refine lv_iadd hx hb dX4_record_34 ?_
      refine ka_fold (y := nI (i + 2)) (nI_add i 2) ?_
      refine ka_ild (D := D) (j := (i + 2)) (n := 71) (f := Gf) hx hb hK hP 1 0 rfl rfl (rfl) (by omega) (by decide) dX4_record_35 ?_
      refine ka_ist (D := D) (j := i) (n := 71) (f := Gf) hx hb hK hP hD hS 1 0 rfl rfl (rfl) (by omega) (by decide) dX4_record_36 (fun H locs hP hD hS => ?_)
      have hP : va_P D vwCl ([(h, .inr (4, [.ref sa, .ref pa, .int z, .ref er, .ref na, .long x1, .long x2, .long x3, .long hs])), (sa, .inl (cI, 71, .inl (upd Gf i (Gf (i + 2)))))]) H := hP
      have hD : va_D A ([(h, .inr (4, [.ref sa, .ref pa, .int z, .ref er, .ref na, .long x1, .long x2, .long x3, .long hs])), (sa, .inl (cI, 71, .inl (upd Gf i (Gf (i + 2)))))]) := hD
      refine lv_iinc (v := nI (i + 1)) (lv' := [(3, .int (nI (i + 1))), (0, .ref h), (1, .int x), (2, .int y)]) hx hb dX4_record_37 hl (k := 0) rfl (nI_1 _) (by decide) rfl (fun ls hl => ?_)
      refine lv_goto (tgt := 15) hx hb dX4_record_40 (by decide) ?_
      exact ih (k - 1) _ _ _ (by omega) ⟨i + 1, upd Gf i (Gf (i + 2)), by omega, by omega, tk_sh2_step hG h23 (by omega), hP, hD, hS, lv_sub hl [0, 1, 2, 3] rfl⟩
