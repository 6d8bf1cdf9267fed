abbrev ag5 (e f : Nat → Int64) : Prop := ∀ k, k < 5 → e k = f k
theorem ag_mok {x v a b c x' v' a' b' c' : Int64} (h1 : x = x') (h2 : v = v') (h3 : a = a') (h4 : b = b') (h5 : c = c') : tk_mok x v a b c = tk_mok x' v' a' b' c' := by subst h1; subst h2; subst h3; subst h4; subst h5; rfl
theorem ag_mv {e f : Nat → Int64} {x v a b c x' v' a' b' c' : Int64} (h1 : x = x') (h2 : v = v') (h3 : a = a') (h4 : b = b') (h5 : c = c') : ag5 (tk_mv e x v a b c) (tk_mv f x' v' a' b' c') := by
  subst h1; subst h2; subst h3; subst h4; subst h5
  exact tk_five rfl rfl rfl rfl rfl
theorem ag_ad_ok {e f : Nat → Int64} (h : ag5 e f) (u q w : Int64) : ad_ok e u q w = ad_ok f u q w := by
  have h0 := h 0 (by decide); have h1 := h 1 (by decide); have h2 := h 2 (by decide); have h3 := h 3 (by decide); have h4 := h 4 (by decide)
  exact ag_mok (by rw [h0, h1]) h1 (by rw [h2, h3, h4]) (by rw [h3, h4]) (by rw [h4])
theorem ag_ad_e {e f : Nat → Int64} (h : ag5 e f) (u q w : Int64) : ag5 (ad_e e u q w) (ad_e f u q w) := by
  have h0 := h 0 (by decide); have h1 := h 1 (by decide); have h2 := h 2 (by decide); have h3 := h 3 (by decide); have h4 := h 4 (by decide)
  exact ag_mv (by rw [h0, h1]) h1 (by rw [h2, h3, h4]) (by rw [h3, h4]) (by rw [h4])
theorem ag_co_m {e f : Nat → Int64} (h : ag5 e f) (kd : Int32) : co_m e kd = co_m f kd := by rw [co_m, co_m, h 0 (by decide), h 1 (by decide)]
theorem ag_co_p {e f : Nat → Int64} (h : ag5 e f) (kd : Int32) : co_p e kd = co_p f kd := by rw [co_p, co_p, h 2 (by decide), h 4 (by decide)]
theorem ag_cq_ok {e f : Nat → Int64} (h : ag5 e f) (a b p m z r : Int64) : cq_ok e a b p m z r = cq_ok f a b p m z r := by
  rw [cq_ok, cq_ok, h 0 (by decide), h 1 (by decide), h 2 (by decide), h 3 (by decide), h 4 (by decide)]
theorem ag_cq_e {e f : Nat → Int64} (h : ag5 e f) (a b p m z r : Int64) : ∀ k, k < 8 → cq_e e a b p m z r k = cq_e f a b p m z r k := by
  have h5 : ag5 (cq_e e a b p m z r) (cq_e f a b p m z r) := by
    rw [cq_e, cq_e, h 0 (by decide), h 1 (by decide), h 2 (by decide), h 3 (by decide), h 4 (by decide)]
    exact tk_five rfl rfl rfl rfl rfl
  intro k hk
  by_cases z1 : k < 5
  · exact h5 k z1
  · rcases (show k = 5 ∨ k = 6 ∨ k = 7 by omega) with rfl | rfl | rfl
    · exact (rfl : cq_e e a b p m z r 5 = z - m).trans (rfl : z - m = cq_e f a b p m z r 5)
    · exact (rfl : cq_e e a b p m z r 6 = tk_div a (p + r)).trans (rfl : tk_div a (p + r) = cq_e f a b p m z r 6)
    · exact (rfl : cq_e e a b p m z r 7 = tk_div b (p + r)).trans (rfl : tk_div b (p + r) = cq_e f a b p m z r 7)
theorem ag_co_ok {e f : Nat → Int64} (h : ag5 e f) (kd : Int32) (z r : Int64) : co_ok e kd z r = co_ok f kd z r := by
  have h0 := h 0 (by decide); have h1 := h 1 (by decide); have h2 := h 2 (by decide); have h3 := h 3 (by decide); have h4 := h 4 (by decide)
  by_cases k : kd = 0
  · rw [co_ok0 k, co_ok0 k, ag_cq_ok h, h0, h2, h3]
  · rw [co_ok1 k, co_ok1 k, ag_cq_ok h, h1, h3, h4]
theorem ag_co_e {e f : Nat → Int64} (h : ag5 e f) (kd : Int32) (z r : Int64) : ∀ k, k < 8 → co_e e kd z r k = co_e f kd z r k := by
  have h0 := h 0 (by decide); have h1 := h 1 (by decide); have h2 := h 2 (by decide); have h3 := h 3 (by decide); have h4 := h 4 (by decide)
  intro j hj
  by_cases k : kd = 0
  · rw [co_e0 k, co_e0 k, ag_cq_e h _ _ _ _ _ _ j hj, h0, h2, h3]
  · rw [co_e1 k, co_e1 k, ag_cq_e h _ _ _ _ _ _ j hj, h1, h3, h4]
theorem ag_co_e5 {e f : Nat → Int64} (h : ag5 e f) (kd : Int32) (z r : Int64) : ag5 (co_e e kd z r) (co_e f kd z r) := fun k hk => ag_co_e h kd z r k (by omega)
theorem ag_rp {K V S G : Nat → Int32} {q w : Int64} : ∀ (k i : Nat) (e f : Nat → Int64) (sum : Int64), ag5 e f → rp_go K V S G q w k i e sum = rp_go K V S G q w k i f sum := by
  intro k
  induction k with
  | zero => intro i e f sum h; rfl
  | succ k ih =>
    intro i e f sum h
    rw [rp_go, rp_go, ag_co_ok h, ag_ad_ok h, ag_co_m h, ih _ _ _ _ (ag_co_e5 h _ _ _), ih _ _ _ sum (ag_ad_e h _ _ _)]
theorem ag_s5 (s : Nat → Int32) (e f : Nat → Int64) : ag5 (tk_s5 s e) (tk_s5 s f) := tk_five rfl rfl rfl rfl rfl
def tk_cd : Nat → Int32
  | 0 => 0
  | n + 1 => if tk_cd n = 0 then 1 else 4 * tk_cd n
theorem tk_cd_r : ∀ i, i < 12 → tk_rng 0 4096000 (tk_cd i) := by decide +kernel
theorem tk_cd_0 {i : Nat} (h : tk_cd i = 0) : tk_cd (i + 1) = 1 := by rw [tk_cd, if_pos h]
theorem tk_cd_1 {i : Nat} (h : ¬ tk_cd i = 0) : tk_cd (i + 1) = 4 * tk_cd i := by rw [tk_cd, if_neg h]
def bf_y (r : Int32 → Int64) : Nat → Nat → Int32 → Int64 → Int32
  | 0, _, b, _ => b
  | k + 1, i, b, m => if 0 ≤ r (tk_cd i) ∧ r (tk_cd i) < m then bf_y r k (i + 1) (tk_cd i) (r (tk_cd i)) else bf_y r k (i + 1) b m
theorem bf_y_t {r : Int32 → Int64} {k i : Nat} {b : Int32} {m : Int64} (h1 : 0 ≤ r (tk_cd i)) (h2 : r (tk_cd i) < m) (hk : 0 < k) : bf_y r k i b m = bf_y r (k - 1) (i + 1) (tk_cd i) (r (tk_cd i)) := by
  obtain ⟨j, rfl⟩ : ∃ j, k = j + 1 := ⟨k - 1, by omega⟩
  rw [bf_y, if_pos ⟨h1, h2⟩]
  rfl
theorem bf_y_f {r : Int32 → Int64} {k i : Nat} {b : Int32} {m : Int64} (h : ¬ (0 ≤ r (tk_cd i) ∧ r (tk_cd i) < m)) (hk : 0 < k) : bf_y r k i b m = bf_y r (k - 1) (i + 1) b m := by
  obtain ⟨j, rfl⟩ : ∃ j, k = j + 1 := ⟨k - 1, by omega⟩
  rw [bf_y, if_neg h]
  rfl
def bf_x (r : Int32 → Int32) : Nat → Nat → Int32 → Int64 → Int32
  | 0, _, b, _ => b
  | k + 1, i, b, m => if ¬ r (tk_cd i) = -2000000004 ∧ (r (tk_cd i)).toInt64 < m then bf_x r k (i + 1) (tk_cd i) (r (tk_cd i)).toInt64 else bf_x r k (i + 1) b m
theorem bf_x_t {r : Int32 → Int32} {k i : Nat} {b : Int32} {m : Int64} (h1 : ¬ r (tk_cd i) = -2000000004) (h2 : (r (tk_cd i)).toInt64 < m) (hk : 0 < k) : bf_x r k i b m = bf_x r (k - 1) (i + 1) (tk_cd i) (r (tk_cd i)).toInt64 := by
  obtain ⟨j, rfl⟩ : ∃ j, k = j + 1 := ⟨k - 1, by omega⟩
  rw [bf_x, if_pos ⟨h1, h2⟩]
  rfl
theorem bf_x_f {r : Int32 → Int32} {k i : Nat} {b : Int32} {m : Int64} (h : ¬ (¬ r (tk_cd i) = -2000000004 ∧ (r (tk_cd i)).toInt64 < m)) (hk : 0 < k) : bf_x r k i b m = bf_x r (k - 1) (i + 1) b m := by
  obtain ⟨j, rfl⟩ : ∃ j, k = j + 1 := ⟨k - 1, by omega⟩
  rw [bf_x, if_neg h]
  rfl

def yf_bestFlowNoise (Y : tk_Y) (n : Nat) (E : Nat → Int64) : Int32 × tk_Y := if tk_hb (tk_yS Y.2.1) n = true then (bf_y (fun fw => tk_ro (rp_go (tk_yK Y.2.1) (tk_yV Y.2.1) (tk_yS Y.2.1) (tk_yG Y.2.1) (Y.2.1 5).toInt64 fw.toInt64 n 0 E 0)) 12 0 (-2000000001) 1000000001, Y) else (-2000000003, tk_yl Y 1)

theorem izX4_bestFlowNoise_4 : ∀ w ∈ wsX40, w ∈ wsX4_bestFlowNoise := fun _ h => List.mem_cons_of_mem _ (List.mem_append_right _ h)
set_option maxHeartbeats 4000000 in
set_option maxRecDepth 100000 in
/-- bestFlowNoise -/
theorem k_X4_bestFlowNoise (l : Launch) (D : va_G) (cI cM cJ : ClassId) (sz : Nat) (h sa pa er na : Nat) (p : Nat) (s past err : Nat → Int32) (e : Nat → Int64) (hs : Int64) (n : Nat) (hn : n ≤ 24) (h22 : s 22 = nI n) (hj : tk_jv (tk_s5 s e)) (hV : ∀ j, j < 4 → tk_rv (s (12 + j))) (hSr : ∀ i, i < n → s (23 + 2 * i) = -1 ∨ tk_rng 0 3 (s (23 + 2 * i))) : Met l yX4_bestFlowNoise wsX4_bestFlowNoise ({ frames := 4, cells := 0, slots := 0, locals := 118 }) (va_Pc [.ref h] (KP D (tk_T cI cM cJ) ([(h, .inr (4, [.ref sa, .ref pa, .int (nI p), .ref er, .ref na, .long (e 5), .long (e 6), .long (e 7), .long hs])), (sa, .inl (cI, 71, .inl s)), (pa, .inl (cI, 284, .inl past)), (er, .inl (cI, 3, .inl err)), (na, .inl (cJ, 5, .inr (.inl e)))]) sz)) (va_Qi (fun (r : Int32) (u : tk_Y × (Nat → Int64) × Int64) => r = (yf_bestFlowNoise (p, s, past, err) n (tk_s5 s e)).1 ∧ u.1 = (yf_bestFlowNoise (p, s, past, err) n (tk_s5 s e)).2) (fun u zt => KB D ([(h, .inr (4, [.ref sa, .ref pa, .int (nI p), .ref er, .ref na, .long (e 5), .long (e 6), .long (e 7), .long hs])), (sa, .inl (cI, 71, .inl s)), (pa, .inl (cI, 284, .inl past)), (er, .inl (cI, 3, .inl err)), (na, .inl (cJ, 5, .inr (.inl e)))]) ([(h, .inr (4, [.ref sa, .ref pa, .int (nI u.1.1), .ref er, .ref na, .long (u.2.1 5), .long (u.2.1 6), .long (u.2.1 7), .long u.2.2])), (sa, .inl (cI, 71, .inl u.1.2.1)), (pa, .inl (cI, 284, .inl u.1.2.2.1)), (er, .inl (cI, 3, .inl u.1.2.2.2)), (na, .inl (cJ, 5, .inr (.inl u.2.1)))]) sz zt) (va_A ([(h, .inr (4, [.ref sa, .ref pa, .int (nI p), .ref er, .ref na, .long (e 5), .long (e 6), .long (e 7), .long hs])), (sa, .inl (cI, 71, .inl s)), (pa, .inl (cI, 284, .inl past)), (er, .inl (cI, 3, .inl err)), (na, .inl (cJ, 5, .inr (.inl e)))]) sz)) 0 0 (va_A ([(h, .inr (4, [.ref sa, .ref pa, .int (nI p), .ref er, .ref na, .long (e 5), .long (e 6), .long (e 7), .long hs])), (sa, .inl (cI, 71, .inl s)), (pa, .inl (cI, 284, .inl past)), (er, .inl (cI, 3, .inl err)), (na, .inl (cJ, 5, .inr (.inl e)))]) sz) := by
  refine Met.ofW (cc := cX4_bestFlowNoise) (maxL := 8) (ret := (some .int)) (by decide) rfl ?_
  intro zp ze zs zm zargs zbelow zmeth zc zs1 B hml hv
  obtain ⟨rfl, hsz, hP, hK, hD0, hN⟩ := hv
  have hx := B.exec
  have hb := B.bytes
  have hr := B.returns
  have hts := atoms_spec (ws := wsX4_bestFlowNoise) B.pre
  have hm : ∀ (i : Nat) (w : Cond), wsX4_bestFlowNoise[i]? = some w → w.before _ zs = true := fun i w h => hts w (List.mem_of_getElem? h)
  have hown : zs.vm.findClass RX4 = some zm.cls := findClass_of_methodNamed B.named
  have hlocks := B.notSynchronized
  subst hsz
  have hD := hD0.self (sz := zs.heap.size)
  generalize hAe : va_A ([(h, .inr (4, [.ref sa, .ref pa, .int (nI p), .ref er, .ref na, .long (e 5), .long (e 6), .long (e 7), .long hs])), (sa, .inl (cI, 71, .inl s)), (pa, .inl (cI, 284, .inl past)), (er, .inl (cI, 3, .inl err)), (na, .inl (cJ, 5, .inr (.inl e)))]) zs.heap.size = A at hD ⊢
  have hA : ∀ q : Nat, zs.heap.size ≤ q → A q := fun q h => by rw [← hAe]; exact Or.inr h
  have hS : va_S A zs.heap zs.heap [] := va_S.rf
  have hP : va_P D vwCl ([(h, .inr (4, [.ref sa, .ref pa, .int (nI p), .ref er, .ref na, .long (e 5), .long (e 6), .long (e 7), .long hs])), (sa, .inl (cI, 71, .inl s)), (pa, .inl (cI, 284, .inl past)), (er, .inl (cI, 3, .inl err)), (na, .inl (cJ, 5, .inr (.inl e)))]) zs.heap := hP
  have hl := lv_entry ([.ref h]) (n := 8) (Nat.le_of_ble_eq_true rfl)
  rw [lg_entry_eq]
  generalize (lg_sl ([.ref h]) ++ List.replicate (8 - (lg_sl ([.ref h])).length) Slot.unset).toArray = ls at hl ⊢
  have hl : lv_has ls 8 [(0, .ref h)] := hl
  refine lv_aload_n hx hb dX4_bestFlowNoise_0 rfl (lv_at hl 0 rfl) ?_
  refine kc_i (wc := [(h, .inr (4, [.ref sa, .ref pa, .int (nI p), .ref er, .ref na, .long (e 5), .long (e 6), .long (e 7), .long hs])), (sa, .inl (cI, 71, .inl s))]) (wr := [(pa, .inl (cI, 284, .inl past)), (er, .inl (cI, 3, .inl err)), (na, .inl (cJ, 5, .inr (.inl e)))]) (va_runV (As := []) (rest := []) ⟨hx, hb, hml, hown, hts⟩ (k_X4_hasReading l D cI cM cJ _ h sa pa er na (nI p) (e 5) (e 6) (e 7) hs s n hn h22) (cwV 0 hts gX4_bestFlowNoise_X4_hasReading rfl rfl rfl (by decide +kernel) ⟨Nat.le_of_ble_eq_true rfl, Nat.le_of_ble_eq_true rfl⟩) (kp_preV (q := (RX4, TX4, 9)) (wc := [(h, .inr (4, [.ref sa, .ref pa, .int (nI p), .ref er, .ref na, .long (e 5), .long (e 6), .long (e 7), .long hs])), (sa, .inl (cI, 71, .inl s))]) (wr := [(pa, .inl (cI, 284, .inl past)), (er, .inl (cI, 3, .inl err)), (na, .inl (cJ, 5, .inr (.inl e)))]) hN hK hP hD 0 rfl rfl) rfl rfl hl.1 rfl (lv_room (Nat.le_of_ble_eq_true rfl)) dX4_bestFlowNoise_1 ⟨Nat.le_of_ble_eq_true rfl, Nat.le_of_ble_eq_true rfl⟩) hP hD hS hA (fun r_1 u_1 H locs p_1 hP hD hS => ?_)
  rcases p_1 with ⟨p_1, rfl⟩ | ⟨p_1, rfl⟩
  · have hP : va_P D vwCl ([(h, .inr (4, [.ref sa, .ref pa, .int (nI p), .ref er, .ref na, .long (e 5), .long (e 6), .long (e 7), .long hs])), (sa, .inl (cI, 71, .inl s)), (pa, .inl (cI, 284, .inl past)), (er, .inl (cI, 3, .inl err)), (na, .inl (cJ, 5, .inr (.inl e)))]) H := hP
    have hD : va_D A ([(h, .inr (4, [.ref sa, .ref pa, .int (nI p), .ref er, .ref na, .long (e 5), .long (e 6), .long (e 7), .long hs])), (sa, .inl (cI, 71, .inl s)), (pa, .inl (cI, 284, .inl past)), (er, .inl (cI, 3, .inl err)), (na, .inl (cJ, 5, .inr (.inl e)))]) := hD
    refine lv_if_ne (tgt := 14) hx hb dX4_bestFlowNoise_4 (by decide) (fun c_2 => ?_) (fun c_2 => ?_)
    · skip
      refine lv_ldc (v := -2000000001) hx hb hown (hm 2 (.constant RX4 27 (-2000000001)) rfl) dX4_bestFlowNoise_14 ?_
      refine lv_istore_n (lv' := [(1, .int (-2000000001)), (0, .ref h)]) hx hb dX4_bestFlowNoise_16 rfl hl (by decide) rfl (fun ls hl => ?_)
      refine lv_ldc2 (v := 1000000001) hx hb hown (hm 3 (.constantLong RX4 121 (1000000001)) rfl) dX4_bestFlowNoise_17 ?_
      refine lv_lstore_n (lv' := [(2, .long 1000000001), (1, .int (-2000000001)), (0, .ref h)]) hx hb dX4_bestFlowNoise_20 rfl hl (by decide) rfl (fun ls hl => ?_)
      refine lv_iconst (v := 0) hx hb dX4_bestFlowNoise_21 (by decide) ?_
      refine lv_istore (lv' := [(4, .int 0), (2, .long 1000000001), (1, .int (-2000000001)), (0, .ref h)]) hx hb dX4_bestFlowNoise_22 hl (by decide) rfl (fun ls hl => ?_)
      refine lv_iconst (v := 0) hx hb dX4_bestFlowNoise_24 (by decide) ?_
      refine lv_istore (lv' := [(5, .int 0), (4, .int 0), (2, .long 1000000001), (1, .int (-2000000001)), (0, .ref h)]) hx hb dX4_bestFlowNoise_25 hl (by decide) rfl (fun ls hl => ?_)
      refine kl_loop (fun (k : Nat) (H : Heap) (locs : List Loc) (ls : Array Slot) => ∃ (i : Nat) (E : Nat → Int64) (b : Int32) (mm : Int64), (k + i = 12) ∧ (bf_y (fun fw => tk_ro (rp_go (tk_yK s) (tk_yV s) (tk_yS s) (tk_yG s) (s 5).toInt64 fw.toInt64 n 0 (tk_s5 s e) 0)) k i b mm = bf_y (fun fw => tk_ro (rp_go (tk_yK s) (tk_yV s) (tk_yS s) (tk_yG s) (s 5).toInt64 fw.toInt64 n 0 (tk_s5 s e) 0)) 12 0 (-2000000001) 1000000001) ∧ va_P D vwCl ([(h, .inr (4, [.ref sa, .ref pa, .int (nI p), .ref er, .ref na, .long (E 5), .long (E 6), .long (E 7), .long hs])), (sa, .inl (cI, 71, .inl s)), (pa, .inl (cI, 284, .inl past)), (er, .inl (cI, 3, .inl err)), (na, .inl (cJ, 5, .inr (.inl E)))]) H ∧ va_D A ([(h, .inr (4, [.ref sa, .ref pa, .int (nI p), .ref er, .ref na, .long (E 5), .long (E 6), .long (E 7), .long hs])), (sa, .inl (cI, 71, .inl s)), (pa, .inl (cI, 284, .inl past)), (er, .inl (cI, 3, .inl err)), (na, .inl (cJ, 5, .inr (.inl E)))]) ∧ va_S A zs.heap H locs ∧ lv_has ls 8 [(5, .int (nI i)), (4, .int (tk_cd i)), (2, .long mm), (1, .int b), (0, .ref h)]) (12) ⟨0, e, (-2000000001), 1000000001, by omega, rfl, hP, hD, hS, lv_sub hl [0, 1, 2, 3, 4] rfl⟩ ?_
      rintro k H locs ls ⟨i, E, b, mm, hk, hE, hP, hD, hS, hl⟩ ih
      refine lv_iload hx hb dX4_bestFlowNoise_27 (lv_at hl 0 rfl) ?_
      refine lv_bipush (v := 12) hx hb dX4_bestFlowNoise_29 (by decide) ?_
      refine lv_icmp_ge (tgt := 83) hx hb dX4_bestFlowNoise_31 (by decide) (fun c_3 => ?_) (fun c_3 => ?_)
      · have c_3 := (nI_leI (a := 12) (b := i) (by omega) (by omega)).mp c_3
        refine lv_iload_n hx hb dX4_bestFlowNoise_83 rfl (lv_at hl 3 rfl) ?_
        have hyf : yf_bestFlowNoise (p, s, past, err) n (tk_s5 s e) = (b, (p, s, past, err)) := by rw [yf_bestFlowNoise, if_pos p_1, ← hE, show k = 0 from by omega, bf_y]
        exact W.iret (v := b) hx hb hr (fun zt ht hW => ⟨⟨b, ((p, s, past, err), E, hs), rfl, ⟨by rw [hyf], by rw [hyf]⟩, KB.of hAe (by rw [ht]; exact hP) hD⟩, hS.F ht⟩) hS.2.2 dX4_bestFlowNoise_84
      · have c_3 := mt (nI_leI (a := 12) (b := i) (by omega) (by omega)).mpr c_3
        refine lv_aload_n hx hb dX4_bestFlowNoise_34 rfl (lv_at hl 4 rfl) ?_
        refine lv_iload hx hb dX4_bestFlowNoise_35 (lv_at hl 1 rfl) ?_
        obtain ⟨hP, hD⟩ := kp_sub (ws' := [(h, .inr (4, [.ref sa, .ref pa, .int (nI p), .ref er, .ref na, .long (E 5), .long (E 6), .long (E 7), .long hs])), (sa, .inl (cI, 71, .inl s)), (na, .inl (cJ, 5, .inr (.inl E))), (pa, .inl (cI, 284, .inl past)), (er, .inl (cI, 3, .inl err))]) hP hD [0, 1, 4, 2, 3] (by decide) rfl
        refine kc_l (wc := [(h, .inr (4, [.ref sa, .ref pa, .int (nI p), .ref er, .ref na, .long (E 5), .long (E 6), .long (E 7), .long hs])), (sa, .inl (cI, 71, .inl s)), (na, .inl (cJ, 5, .inr (.inl E)))]) (wr := [(pa, .inl (cI, 284, .inl past)), (er, .inl (cI, 3, .inl err))]) (va_runV (As := [.int (tk_cd i)]) (rest := []) ⟨hx, hb, hml, hown, hts⟩ (k_X4_errorOf l D cI cM cJ _ h sa pa er na (nI p) hs s E (tk_cd i) n hn h22 (hj) (tk_cd_r i (by omega)) hV hSr) (cwV 1 hts gX4_bestFlowNoise_X4_errorOf rfl rfl rfl (by decide +kernel) ⟨Nat.le_of_ble_eq_true rfl, Nat.le_of_ble_eq_true rfl⟩) (kp_preV (q := (RX4, TX4, 9)) (wc := [(h, .inr (4, [.ref sa, .ref pa, .int (nI p), .ref er, .ref na, .long (E 5), .long (E 6), .long (E 7), .long hs])), (sa, .inl (cI, 71, .inl s)), (na, .inl (cJ, 5, .inr (.inl E)))]) (wr := [(pa, .inl (cI, 284, .inl past)), (er, .inl (cI, 3, .inl err))]) hN hK hP hD 0 rfl rfl) rfl rfl hl.1 rfl (lv_room (Nat.le_of_ble_eq_true rfl)) dX4_bestFlowNoise_37 ⟨Nat.le_of_ble_eq_true rfl, Nat.le_of_ble_eq_true rfl⟩) hP hD hS hA (fun r_4 u_4 H locs p_4 hP hD hS => ?_)
        obtain rfl : r_4 = tk_ro (rp_go (tk_yK s) (tk_yV s) (tk_yS s) (tk_yG s) (s 5).toInt64 (tk_cd i).toInt64 n 0 (tk_s5 s E) 0) := p_4
        obtain ⟨hP, hD⟩ := kp_sub (ws' := [(h, .inr (4, [.ref sa, .ref pa, .int (nI p), .ref er, .ref na, .long (u_4 5), .long (u_4 6), .long (u_4 7), .long hs])), (sa, .inl (cI, 71, .inl s)), (pa, .inl (cI, 284, .inl past)), (er, .inl (cI, 3, .inl err)), (na, .inl (cJ, 5, .inr (.inl u_4)))]) (ws := [(h, .inr (4, [.ref sa, .ref pa, .int (nI p), .ref er, .ref na, .long (u_4 5), .long (u_4 6), .long (u_4 7), .long hs])), (sa, .inl (cI, 71, .inl s)), (na, .inl (cJ, 5, .inr (.inl u_4))), (pa, .inl (cI, 284, .inl past)), (er, .inl (cI, 3, .inl err))]) hP hD [0, 1, 3, 4, 2] (by decide) rfl
        have hP : va_P D vwCl ([(h, .inr (4, [.ref sa, .ref pa, .int (nI p), .ref er, .ref na, .long (u_4 5), .long (u_4 6), .long (u_4 7), .long hs])), (sa, .inl (cI, 71, .inl s)), (pa, .inl (cI, 284, .inl past)), (er, .inl (cI, 3, .inl err)), (na, .inl (cJ, 5, .inr (.inl u_4)))]) H := hP
        have hD : va_D A ([(h, .inr (4, [.ref sa, .ref pa, .int (nI p), .ref er, .ref na, .long (u_4 5), .long (u_4 6), .long (u_4 7), .long hs])), (sa, .inl (cI, 71, .inl s)), (pa, .inl (cI, 284, .inl past)), (er, .inl (cI, 3, .inl err)), (na, .inl (cJ, 5, .inr (.inl u_4)))]) := hD
        refine ka_foldl (y := tk_ro (rp_go (tk_yK s) (tk_yV s) (tk_yS s) (tk_yG s) (s 5).toInt64 (tk_cd i).toInt64 n 0 (tk_s5 s e) 0)) (by rw [ag_rp n 0 _ _ 0 (ag_s5 s E e)]) ?_
        refine lv_lstore (lv' := [(6, .long (tk_ro (rp_go (tk_yK s) (tk_yV s) (tk_yS s) (tk_yG s) (s 5).toInt64 (tk_cd i).toInt64 n 0 (tk_s5 s e) 0))), (5, .int (nI i)), (4, .int (tk_cd i)), (2, .long mm), (1, .int b), (0, .ref h)]) hx hb dX4_bestFlowNoise_40 hl (by decide) rfl (fun ls hl => ?_)
        refine lv_lload hx hb dX4_bestFlowNoise_42 (lv_at hl 0 rfl) ?_
        refine lv_lconst (v := 0) hx hb dX4_bestFlowNoise_44 (by decide) ?_
        refine W.lcmp hx hb dX4_bestFlowNoise_45 ?_
        refine lv_if_lt (tgt := 62) hx hb dX4_bestFlowNoise_46 (by decide) (fun c_5 => ?_) (fun c_5 => ?_)
        · have c_5 := (lg_cmp_lt _ _).mp c_5
          refine lv_iload hx hb dX4_bestFlowNoise_62 (lv_at hl 2 rfl) ?_
          refine lv_if_ne (tgt := 71) hx hb dX4_bestFlowNoise_64 (by decide) (fun c_6 => ?_) (fun c_6 => ?_)
          · skip
            refine lv_iconst (v := 4) hx hb dX4_bestFlowNoise_71 (by decide) ?_
            refine lv_iload hx hb dX4_bestFlowNoise_72 (lv_at hl 2 rfl) ?_
            refine lv_imul hx hb dX4_bestFlowNoise_74 ?_
            refine ka_fold (y := tk_cd (i + 1)) ((tk_cd_1 c_6).symm) ?_
            refine lv_istore (lv' := [(4, .int (tk_cd (i + 1))), (6, .long (tk_ro (rp_go (tk_yK s) (tk_yV s) (tk_yS s) (tk_yG s) (s 5).toInt64 (tk_cd i).toInt64 n 0 (tk_s5 s e) 0))), (5, .int (nI i)), (2, .long mm), (1, .int b), (0, .ref h)]) hx hb dX4_bestFlowNoise_75 hl (by decide) rfl (fun ls hl => ?_)
            refine lv_iinc (v := nI (i + 1)) (lv' := [(5, .int (nI (i + 1))), (4, .int (tk_cd (i + 1))), (6, .long (tk_ro (rp_go (tk_yK s) (tk_yV s) (tk_yS s) (tk_yG s) (s 5).toInt64 (tk_cd i).toInt64 n 0 (tk_s5 s e) 0))), (2, .long mm), (1, .int b), (0, .ref h)]) hx hb dX4_bestFlowNoise_77 hl (k := 2) rfl (nI_1 _) (by decide) rfl (fun ls hl => ?_)
            refine lv_goto (tgt := 27) hx hb dX4_bestFlowNoise_80 (by decide) ?_
            exact ih (k - 1) _ _ _ (by omega) ⟨i + 1, u_4, b, mm, by omega, (bf_y_f (r := (fun fw => tk_ro (rp_go (tk_yK s) (tk_yV s) (tk_yS s) (tk_yG s) (s 5).toInt64 fw.toInt64 n 0 (tk_s5 s e) 0))) (fun z => absurd c_5 (Int64.not_lt.mpr z.1)) (by omega)).symm.trans hE, hP, hD, hS, lv_sub hl [0, 1, 3, 4, 5] rfl⟩
          · skip
            refine lv_iconst (v := 1) hx hb dX4_bestFlowNoise_67 (by decide) ?_
            refine lv_goto (tgt := 75) hx hb dX4_bestFlowNoise_68 (by decide) ?_
            refine ka_fold (y := tk_cd (i + 1)) ((tk_cd_0 c_6).symm) ?_
            refine lv_istore (lv' := [(4, .int (tk_cd (i + 1))), (6, .long (tk_ro (rp_go (tk_yK s) (tk_yV s) (tk_yS s) (tk_yG s) (s 5).toInt64 (tk_cd i).toInt64 n 0 (tk_s5 s e) 0))), (5, .int (nI i)), (2, .long mm), (1, .int b), (0, .ref h)]) hx hb dX4_bestFlowNoise_75 hl (by decide) rfl (fun ls hl => ?_)
            refine lv_iinc (v := nI (i + 1)) (lv' := [(5, .int (nI (i + 1))), (4, .int (tk_cd (i + 1))), (6, .long (tk_ro (rp_go (tk_yK s) (tk_yV s) (tk_yS s) (tk_yG s) (s 5).toInt64 (tk_cd i).toInt64 n 0 (tk_s5 s e) 0))), (2, .long mm), (1, .int b), (0, .ref h)]) hx hb dX4_bestFlowNoise_77 hl (k := 2) rfl (nI_1 _) (by decide) rfl (fun ls hl => ?_)
            refine lv_goto (tgt := 27) hx hb dX4_bestFlowNoise_80 (by decide) ?_
            exact ih (k - 1) _ _ _ (by omega) ⟨i + 1, u_4, b, mm, by omega, (bf_y_f (r := (fun fw => tk_ro (rp_go (tk_yK s) (tk_yV s) (tk_yS s) (tk_yG s) (s 5).toInt64 fw.toInt64 n 0 (tk_s5 s e) 0))) (fun z => absurd c_5 (Int64.not_lt.mpr z.1)) (by omega)).symm.trans hE, hP, hD, hS, lv_sub hl [0, 1, 3, 4, 5] rfl⟩
        · have c_5 := mt (lg_cmp_lt _ _).mpr c_5
          refine lv_lload hx hb dX4_bestFlowNoise_49 (lv_at hl 0 rfl) ?_
          refine lv_lload_n hx hb dX4_bestFlowNoise_51 rfl (lv_at hl 3 rfl) ?_
          refine W.lcmp hx hb dX4_bestFlowNoise_52 ?_
          refine lv_if_ge (tgt := 62) hx hb dX4_bestFlowNoise_53 (by decide) (fun c_7 => ?_) (fun c_7 => ?_)
          · have c_7 := (lg_cmp_ge _ _).mp c_7
            refine lv_iload hx hb dX4_bestFlowNoise_62 (lv_at hl 2 rfl) ?_
            refine lv_if_ne (tgt := 71) hx hb dX4_bestFlowNoise_64 (by decide) (fun c_8 => ?_) (fun c_8 => ?_)
            · skip
              refine lv_iconst (v := 4) hx hb dX4_bestFlowNoise_71 (by decide) ?_
              refine lv_iload hx hb dX4_bestFlowNoise_72 (lv_at hl 2 rfl) ?_
              refine lv_imul hx hb dX4_bestFlowNoise_74 ?_
              refine ka_fold (y := tk_cd (i + 1)) ((tk_cd_1 c_8).symm) ?_
              refine lv_istore (lv' := [(4, .int (tk_cd (i + 1))), (6, .long (tk_ro (rp_go (tk_yK s) (tk_yV s) (tk_yS s) (tk_yG s) (s 5).toInt64 (tk_cd i).toInt64 n 0 (tk_s5 s e) 0))), (5, .int (nI i)), (2, .long mm), (1, .int b), (0, .ref h)]) hx hb dX4_bestFlowNoise_75 hl (by decide) rfl (fun ls hl => ?_)
              refine lv_iinc (v := nI (i + 1)) (lv' := [(5, .int (nI (i + 1))), (4, .int (tk_cd (i + 1))), (6, .long (tk_ro (rp_go (tk_yK s) (tk_yV s) (tk_yS s) (tk_yG s) (s 5).toInt64 (tk_cd i).toInt64 n 0 (tk_s5 s e) 0))), (2, .long mm), (1, .int b), (0, .ref h)]) hx hb dX4_bestFlowNoise_77 hl (k := 2) rfl (nI_1 _) (by decide) rfl (fun ls hl => ?_)
              refine lv_goto (tgt := 27) hx hb dX4_bestFlowNoise_80 (by decide) ?_
              exact ih (k - 1) _ _ _ (by omega) ⟨i + 1, u_4, b, mm, by omega, (bf_y_f (r := (fun fw => tk_ro (rp_go (tk_yK s) (tk_yV s) (tk_yS s) (tk_yG s) (s 5).toInt64 fw.toInt64 n 0 (tk_s5 s e) 0))) (fun z => absurd z.2 (Int64.not_lt.mpr c_7)) (by omega)).symm.trans hE, hP, hD, hS, lv_sub hl [0, 1, 3, 4, 5] rfl⟩
            · skip
              refine lv_iconst (v := 1) hx hb dX4_bestFlowNoise_67 (by decide) ?_
              refine lv_goto (tgt := 75) hx hb dX4_bestFlowNoise_68 (by decide) ?_
              refine ka_fold (y := tk_cd (i + 1)) ((tk_cd_0 c_8).symm) ?_
              refine lv_istore (lv' := [(4, .int (tk_cd (i + 1))), (6, .long (tk_ro (rp_go (tk_yK s) (tk_yV s) (tk_yS s) (tk_yG s) (s 5).toInt64 (tk_cd i).toInt64 n 0 (tk_s5 s e) 0))), (5, .int (nI i)), (2, .long mm), (1, .int b), (0, .ref h)]) hx hb dX4_bestFlowNoise_75 hl (by decide) rfl (fun ls hl => ?_)
              refine lv_iinc (v := nI (i + 1)) (lv' := [(5, .int (nI (i + 1))), (4, .int (tk_cd (i + 1))), (6, .long (tk_ro (rp_go (tk_yK s) (tk_yV s) (tk_yS s) (tk_yG s) (s 5).toInt64 (tk_cd i).toInt64 n 0 (tk_s5 s e) 0))), (2, .long mm), (1, .int b), (0, .ref h)]) hx hb dX4_bestFlowNoise_77 hl (k := 2) rfl (nI_1 _) (by decide) rfl (fun ls hl => ?_)
              refine lv_goto (tgt := 27) hx hb dX4_bestFlowNoise_80 (by decide) ?_
              exact ih (k - 1) _ _ _ (by omega) ⟨i + 1, u_4, b, mm, by omega, (bf_y_f (r := (fun fw => tk_ro (rp_go (tk_yK s) (tk_yV s) (tk_yS s) (tk_yG s) (s 5).toInt64 fw.toInt64 n 0 (tk_s5 s e) 0))) (fun z => absurd z.2 (Int64.not_lt.mpr c_7)) (by omega)).symm.trans hE, hP, hD, hS, lv_sub hl [0, 1, 3, 4, 5] rfl⟩
          · have c_7 := mt (lg_cmp_ge _ _).mpr c_7
            refine lv_iload hx hb dX4_bestFlowNoise_56 (lv_at hl 2 rfl) ?_
            refine lv_istore_n (lv' := [(1, .int (tk_cd i)), (6, .long (tk_ro (rp_go (tk_yK s) (tk_yV s) (tk_yS s) (tk_yG s) (s 5).toInt64 (tk_cd i).toInt64 n 0 (tk_s5 s e) 0))), (5, .int (nI i)), (4, .int (tk_cd i)), (2, .long mm), (0, .ref h)]) hx hb dX4_bestFlowNoise_58 rfl hl (by decide) rfl (fun ls hl => ?_)
            refine lv_lload hx hb dX4_bestFlowNoise_59 (lv_at hl 1 rfl) ?_
            refine lv_lstore_n (lv' := [(2, .long (tk_ro (rp_go (tk_yK s) (tk_yV s) (tk_yS s) (tk_yG s) (s 5).toInt64 (tk_cd i).toInt64 n 0 (tk_s5 s e) 0))), (1, .int (tk_cd i)), (6, .long (tk_ro (rp_go (tk_yK s) (tk_yV s) (tk_yS s) (tk_yG s) (s 5).toInt64 (tk_cd i).toInt64 n 0 (tk_s5 s e) 0))), (5, .int (nI i)), (4, .int (tk_cd i)), (0, .ref h)]) hx hb dX4_bestFlowNoise_61 rfl hl (by decide) rfl (fun ls hl => ?_)
            refine lv_iload hx hb dX4_bestFlowNoise_62 (lv_at hl 4 rfl) ?_
            refine lv_if_ne (tgt := 71) hx hb dX4_bestFlowNoise_64 (by decide) (fun c_9 => ?_) (fun c_9 => ?_)
            · skip
              refine lv_iconst (v := 4) hx hb dX4_bestFlowNoise_71 (by decide) ?_
              refine lv_iload hx hb dX4_bestFlowNoise_72 (lv_at hl 4 rfl) ?_
              refine lv_imul hx hb dX4_bestFlowNoise_74 ?_
              refine ka_fold (y := tk_cd (i + 1)) ((tk_cd_1 c_9).symm) ?_
              refine lv_istore (lv' := [(4, .int (tk_cd (i + 1))), (2, .long (tk_ro (rp_go (tk_yK s) (tk_yV s) (tk_yS s) (tk_yG s) (s 5).toInt64 (tk_cd i).toInt64 n 0 (tk_s5 s e) 0))), (1, .int (tk_cd i)), (6, .long (tk_ro (rp_go (tk_yK s) (tk_yV s) (tk_yS s) (tk_yG s) (s 5).toInt64 (tk_cd i).toInt64 n 0 (tk_s5 s e) 0))), (5, .int (nI i)), (0, .ref h)]) hx hb dX4_bestFlowNoise_75 hl (by decide) rfl (fun ls hl => ?_)
              refine lv_iinc (v := nI (i + 1)) (lv' := [(5, .int (nI (i + 1))), (4, .int (tk_cd (i + 1))), (2, .long (tk_ro (rp_go (tk_yK s) (tk_yV s) (tk_yS s) (tk_yG s) (s 5).toInt64 (tk_cd i).toInt64 n 0 (tk_s5 s e) 0))), (1, .int (tk_cd i)), (6, .long (tk_ro (rp_go (tk_yK s) (tk_yV s) (tk_yS s) (tk_yG s) (s 5).toInt64 (tk_cd i).toInt64 n 0 (tk_s5 s e) 0))), (0, .ref h)]) hx hb dX4_bestFlowNoise_77 hl (k := 4) rfl (nI_1 _) (by decide) rfl (fun ls hl => ?_)
              refine lv_goto (tgt := 27) hx hb dX4_bestFlowNoise_80 (by decide) ?_
              exact ih (k - 1) _ _ _ (by omega) ⟨i + 1, u_4, tk_cd i, tk_ro (rp_go (tk_yK s) (tk_yV s) (tk_yS s) (tk_yG s) (s 5).toInt64 (tk_cd i).toInt64 n 0 (tk_s5 s e) 0), by omega, (bf_y_t (r := (fun fw => tk_ro (rp_go (tk_yK s) (tk_yV s) (tk_yS s) (tk_yG s) (s 5).toInt64 fw.toInt64 n 0 (tk_s5 s e) 0))) (Int64.not_lt.mp c_5) (Int64.not_le.mp c_7) (by omega)).symm.trans hE, hP, hD, hS, lv_sub hl [0, 1, 2, 3, 5] rfl⟩
            · skip
              refine lv_iconst (v := 1) hx hb dX4_bestFlowNoise_67 (by decide) ?_
              refine lv_goto (tgt := 75) hx hb dX4_bestFlowNoise_68 (by decide) ?_
              refine ka_fold (y := tk_cd (i + 1)) ((tk_cd_0 c_9).symm) ?_
              refine lv_istore (lv' := [(4, .int (tk_cd (i + 1))), (2, .long (tk_ro (rp_go (tk_yK s) (tk_yV s) (tk_yS s) (tk_yG s) (s 5).toInt64 (tk_cd i).toInt64 n 0 (tk_s5 s e) 0))), (1, .int (tk_cd i)), (6, .long (tk_ro (rp_go (tk_yK s) (tk_yV s) (tk_yS s) (tk_yG s) (s 5).toInt64 (tk_cd i).toInt64 n 0 (tk_s5 s e) 0))), (5, .int (nI i)), (0, .ref h)]) hx hb dX4_bestFlowNoise_75 hl (by decide) rfl (fun ls hl => ?_)
              refine lv_iinc (v := nI (i + 1)) (lv' := [(5, .int (nI (i + 1))), (4, .int (tk_cd (i + 1))), (2, .long (tk_ro (rp_go (tk_yK s) (tk_yV s) (tk_yS s) (tk_yG s) (s 5).toInt64 (tk_cd i).toInt64 n 0 (tk_s5 s e) 0))), (1, .int (tk_cd i)), (6, .long (tk_ro (rp_go (tk_yK s) (tk_yV s) (tk_yS s) (tk_yG s) (s 5).toInt64 (tk_cd i).toInt64 n 0 (tk_s5 s e) 0))), (0, .ref h)]) hx hb dX4_bestFlowNoise_77 hl (k := 4) rfl (nI_1 _) (by decide) rfl (fun ls hl => ?_)
              refine lv_goto (tgt := 27) hx hb dX4_bestFlowNoise_80 (by decide) ?_
              exact ih (k - 1) _ _ _ (by omega) ⟨i + 1, u_4, tk_cd i, tk_ro (rp_go (tk_yK s) (tk_yV s) (tk_yS s) (tk_yG s) (s 5).toInt64 (tk_cd i).toInt64 n 0 (tk_s5 s e) 0), by omega, (bf_y_t (r := (fun fw => tk_ro (rp_go (tk_yK s) (tk_yV s) (tk_yS s) (tk_yG s) (s 5).toInt64 fw.toInt64 n 0 (tk_s5 s e) 0))) (Int64.not_lt.mp c_5) (Int64.not_le.mp c_7) (by omega)).symm.trans hE, hP, hD, hS, lv_sub hl [0, 1, 2, 3, 5] rfl⟩
    · exact absurd c_2 (by decide)
  · have hP : va_P D vwCl ([(h, .inr (4, [.ref sa, .ref pa, .int (nI p), .ref er, .ref na, .long (e 5), .long (e 6), .long (e 7), .long hs])), (sa, .inl (cI, 71, .inl s)), (pa, .inl (cI, 284, .inl past)), (er, .inl (cI, 3, .inl err)), (na, .inl (cJ, 5, .inr (.inl e)))]) H := hP
    have hD : va_D A ([(h, .inr (4, [.ref sa, .ref pa, .int (nI p), .ref er, .ref na, .long (e 5), .long (e 6), .long (e 7), .long hs])), (sa, .inl (cI, 71, .inl s)), (pa, .inl (cI, 284, .inl past)), (er, .inl (cI, 3, .inl err)), (na, .inl (cJ, 5, .inr (.inl e)))]) := hD
    refine lv_if_ne (tgt := 14) hx hb dX4_bestFlowNoise_4 (by decide) (fun c_10 => ?_) (fun c_10 => ?_)
    · exact absurd c_10 (by decide)
    · skip
      refine lv_aload_n hx hb dX4_bestFlowNoise_7 rfl (lv_at hl 0 rfl) ?_
      refine lv_ldc (v := -2000000003) hx hb hown (hm 1 (.constant RX4 116 (-2000000003)) rfl) dX4_bestFlowNoise_8 ?_
      obtain ⟨hP, hD⟩ := kp_sub (ws' := [(h, .inr (4, [.ref sa, .ref pa, .int (nI p), .ref er, .ref na, .long (e 5), .long (e 6), .long (e 7), .long hs])), (er, .inl (cI, 3, .inl err)), (sa, .inl (cI, 71, .inl s)), (pa, .inl (cI, 284, .inl past)), (na, .inl (cJ, 5, .inr (.inl e)))]) hP hD [0, 3, 1, 2, 4] (by decide) rfl
      refine kc_i (wc := [(h, .inr (4, [.ref sa, .ref pa, .int (nI p), .ref er, .ref na, .long (e 5), .long (e 6), .long (e 7), .long hs])), (er, .inl (cI, 3, .inl err))]) (wr := [(sa, .inl (cI, 71, .inl s)), (pa, .inl (cI, 284, .inl past)), (na, .inl (cJ, 5, .inr (.inl e)))]) (va_runV (As := [.int (-2000000003)]) (rest := []) ⟨hx, hb, hml, hown, hts⟩ (k_X4_fail l D cI cM cJ _ h sa pa er na (nI p) (e 5) (e 6) (e 7) hs err (-2000000003) 1 (by decide) (by decide)) (cwV 1 hts gX4_bestFlowNoise_X4_fail rfl rfl rfl (by decide +kernel) ⟨Nat.le_of_ble_eq_true rfl, Nat.le_of_ble_eq_true rfl⟩) (kp_preV (q := (RX4, TX4, 9)) (wc := [(h, .inr (4, [.ref sa, .ref pa, .int (nI p), .ref er, .ref na, .long (e 5), .long (e 6), .long (e 7), .long hs])), (er, .inl (cI, 3, .inl err))]) (wr := [(sa, .inl (cI, 71, .inl s)), (pa, .inl (cI, 284, .inl past)), (na, .inl (cJ, 5, .inr (.inl e)))]) hN hK hP hD 0 rfl rfl) rfl rfl hl.1 rfl (lv_room (Nat.le_of_ble_eq_true rfl)) dX4_bestFlowNoise_10 ⟨Nat.le_of_ble_eq_true rfl, Nat.le_of_ble_eq_true rfl⟩) hP hD hS hA (fun r_11 u_11 H locs p_11 hP hD hS => ?_)
      obtain rfl : r_11 = (-2000000003) := p_11
      obtain ⟨hP, hD⟩ := kp_sub (ws' := [(h, .inr (4, [.ref sa, .ref pa, .int (nI p), .ref er, .ref na, .long (e 5), .long (e 6), .long (e 7), .long hs])), (sa, .inl (cI, 71, .inl s)), (pa, .inl (cI, 284, .inl past)), (er, .inl (cI, 3, .inl (upd err 1 (err 1 + 1)))), (na, .inl (cJ, 5, .inr (.inl e)))]) (ws := [(h, .inr (4, [.ref sa, .ref pa, .int (nI p), .ref er, .ref na, .long (e 5), .long (e 6), .long (e 7), .long hs])), (er, .inl (cI, 3, .inl (upd err 1 (err 1 + 1)))), (sa, .inl (cI, 71, .inl s)), (pa, .inl (cI, 284, .inl past)), (na, .inl (cJ, 5, .inr (.inl e)))]) hP hD [0, 2, 3, 1, 4] (by decide) rfl
      have hP : va_P D vwCl ([(h, .inr (4, [.ref sa, .ref pa, .int (nI p), .ref er, .ref na, .long (e 5), .long (e 6), .long (e 7), .long hs])), (sa, .inl (cI, 71, .inl s)), (pa, .inl (cI, 284, .inl past)), (er, .inl (cI, 3, .inl (upd err 1 (err 1 + 1)))), (na, .inl (cJ, 5, .inr (.inl e)))]) H := hP
      have hD : va_D A ([(h, .inr (4, [.ref sa, .ref pa, .int (nI p), .ref er, .ref na, .long (e 5), .long (e 6), .long (e 7), .long hs])), (sa, .inl (cI, 71, .inl s)), (pa, .inl (cI, 284, .inl past)), (er, .inl (cI, 3, .inl (upd err 1 (err 1 + 1)))), (na, .inl (cJ, 5, .inr (.inl e)))]) := hD
      have hyf : yf_bestFlowNoise (p, s, past, err) n (tk_s5 s e) = ((-2000000003), tk_yl (p, s, past, err) 1) := by rw [yf_bestFlowNoise, if_neg (by rw [p_1]; decide)]
      exact W.iret (v := (-2000000003)) hx hb hr (fun zt ht hW => ⟨⟨(-2000000003), (tk_yl (p, s, past, err) 1, e, hs), rfl, ⟨by rw [hyf], by rw [hyf]⟩, KB.of hAe (by rw [ht]; exact hP) hD⟩, hS.F ht⟩) hS.2.2 dX4_bestFlowNoise_13
