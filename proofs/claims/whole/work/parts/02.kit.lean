/-! ===== KIT OF THIS CLAIM: links of nest mates, worlds around a call ===== -/
def nxl : List Cond := [.methodLinkNest RX3 9 yX2_init "TankFilter",
  .methodLinkNest RX2 11 yX0_init "TankFilter",
  .fieldLinkNest RX3 111 "TankFilter$Estimate" "level" "J" "TankFilter",
  .fieldLinkNest RX3 119 "TankFilter$Estimate" "flow" "J" "TankFilter",
  .fieldLinkNest RX3 122 "TankFilter$Estimate" "levelVariance" "J" "TankFilter",
  .fieldLinkNest RX3 125 "TankFilter$Estimate" "covariance" "J" "TankFilter",
  .fieldLinkNest RX3 128 "TankFilter$Estimate" "flowVariance" "J" "TankFilter",
  .fieldLinkNest RX3 131 "TankFilter$Estimate" "innovation" "J" "TankFilter",
  .fieldLinkNest RX3 134 "TankFilter$Estimate" "levelGain" "J" "TankFilter",
  .fieldLinkNest RX3 137 "TankFilter$Estimate" "flowGain" "J" "TankFilter",
  .methodLinkNest RX2 46 yX1_init "TankFilter",
  .fieldLinkNest RX3 198 "TankFilter$History" "sources" "[I" "TankFilter",
  .fieldLinkNest RX3 201 "TankFilter$History" "values" "[I" "TankFilter",
  .fieldLinkNest RX3 55 "TankFilter$History" "size" "I" "TankFilter",
  .fieldLinkNest RX2 73 "TankFilter$History" "size" "I" "TankFilter",
  .fieldLinkNest RX3 60 "TankFilter$Memory" "estimate" "LTankFilter$Estimate;" "TankFilter",
  .fieldLinkNest RX3 79 "TankFilter$Memory" "levelNoise" "I" "TankFilter",
  .fieldLinkNest RX3 76 "TankFilter$Memory" "flowNoise" "I" "TankFilter",
  .fieldLinkNest RX3 95 "TankFilter$Memory" "gate" "I" "TankFilter",
  .fieldLinkNest RX3 92 "TankFilter$Memory" "sensorKinds" "[I" "TankFilter",
  .fieldLinkNest RX3 89 "TankFilter$Memory" "sensorVariances" "[I" "TankFilter",
  .fieldLinkNest RX3 67 "TankFilter$Memory" "acceptedCount" "I" "TankFilter",
  .fieldLinkNest RX3 70 "TankFilter$Memory" "rejectedCount" "I" "TankFilter",
  .fieldLinkNest RX3 73 "TankFilter$Memory" "missedCount" "I" "TankFilter",
  .fieldLinkNest RX3 51 "TankFilter$Memory" "history" "LTankFilter$History;" "TankFilter",
  .methodLinkNest RX3 30 yX0_init "TankFilter",
  .methodLinkNest RX3 161 yX2_copyFrom "TankFilter",
  .methodLinkNest RX2 51 yX0_copyFrom "TankFilter",
  .methodLinkNest RX2 55 yX3_copyRow "TankFilter",
  .methodLinkNest RX2 59 yX1_copyFrom "TankFilter",
  .methodLinkNest RX1 25 yX3_copyRow "TankFilter",
  .methodLinkNest RX3 63 yX0_startFrom "TankFilter",
  .methodLinkNest RX3 98 yX0_copyFrom "TankFilter",
  .methodLinkNest RX3 102 yX0_advance "TankFilter",
  .methodLinkNest RX0 54 yX3_isInLimit "TankFilter",
  .methodLinkNest RX3 107 yX1_append "TankFilter",
  .methodLinkNest RX3 115 yX0_take "TankFilter",
  .methodLinkNest RX0 50 yX3_dividedBy "TankFilter",
  .methodLinkNest RX0 59 yX3_times "TankFilter",
  .methodLinkNest RX3 194 yX0_mean "TankFilter",
  .methodLinkNest RX3 148 yX1_hasReading "TankFilter",
  .methodLinkNest RX3 170 yX2_mixInto "TankFilter",
  .methodLinkNest RX2 62 yX0_mixStateInto "TankFilter",
  .methodLinkNest RX0 67 yX3_mix "TankFilter",
  .methodLinkNest RX2 66 yX3_mix "TankFilter",
  .methodLinkNest RX2 70 yX0_mixLatestReadingInto "TankFilter",
  .methodLinkNest RX2 76 yX1_mixInto "TankFilter",
  .methodLinkNest RX1 29 yX3_mix "TankFilter"]
def nxb (w : Cond) : Bool := match w with
  | .fieldLinkNest _ _ _ _ _ _ => true
  | .methodLinkNest _ _ _ _ => true
  | _ => false
def NX (U : State) : Prop := ∀ w ∈ nxl, va_Nw w U
theorem nxl_ok : nxl.all nxb = true := by rfl
theorem NX.warm {s U : State} (hW : s.WarmedH U.vm) (h : NX s) : NX U := by
  intro w hw
  have h1 := List.all_eq_true.mp nxl_ok w hw
  have h2 := h w hw
  cases w <;> first | exact va_Nw.warmF hW h2 | exact va_Nw.warmM hW h2 | (simp [nxb] at h1)
theorem NX.same {s U : State} (hv : s.vm = U.vm) (h : NX s) : NX U := by
  intro w hw
  have h1 := List.all_eq_true.mp nxl_ok w hw
  have h2 := h w hw
  cases w <;> first | exact va_Nw.same rfl hv h2 | (simp [nxb] at h1)
theorem NX.at {s : State} (h : NX s) {w : Cond} (i : Nat) (hi : nxl[i]? = some w) : va_Nw w s := h w (List.mem_of_getElem? hi)
/-- a method's start: the heap's size, its world, the tables, the nest's links -/
def KP (D : va_G) (T : List (ClassId × FieldType)) (wc : va_W) (sz : Nat) (U : State) : Prop := U.heap.size = sz ∧ va_P D vwCl wc U.heap ∧ va_K D vwCl T U ∧ va_D (fun _ => True) wc ∧ NX U
/-- its end: the new world -/
def KB (D : va_G) (wc w1 : va_W) (sz : Nat) (t : State) : Prop := va_P D vwCl w1 t.heap ∧ va_D (va_A wc sz) w1
theorem kp_blind {D : va_G} {T : List (ClassId × FieldType)} {wc : va_W} {sz : Nat} {As : List Value} : FrameBlind (va_Pc As (KP D T wc sz)) := by
  intro a U g mk h
  obtain ⟨h0, h1, h2, h3, h4, h5⟩ := h
  exact ⟨h0, h1, h2, va_K.moved (u := U) (U := U.calling g mk a) (Vm.Alike.refl U.vm) h3, h4, NX.same (s := U) (U := U.calling g mk a) rfl h5⟩
theorem kp_go {D : va_G} {T : List (ClassId × FieldType)} {A : Nat → Prop} {wc wr : va_W} {s U : State} {H : Heap} {As : List Value} (hN : NX s) (hK : va_K D vwCl T s) (hP : va_P D vwCl (wc ++ wr) H) (hD : va_D A (wc ++ wr)) (hU : U.heap = H) (hW : s.WarmedH U.vm) : va_Pc As (KP D T wc H.size) As.toArray U := by
  refine ⟨rfl, by rw [hU], ?_, va_K.moved hW.alike hK, ?_, NX.warm hW hN⟩
  · intro k q hk
    rw [hU]
    exact hP k q (by rw [List.getElem?_append_left (List.getElem?_eq_some_iff.mp hk).1]; exact hk)
  · refine ⟨fun i j x y hx hy e => ?_, fun _ _ _ => trivial⟩
    have gx : (wc ++ wr)[i]? = some x := by rw [List.getElem?_append_left (List.getElem?_eq_some_iff.mp hx).1]; exact hx
    have gy : (wc ++ wr)[j]? = some y := by rw [List.getElem?_append_left (List.getElem?_eq_some_iff.mp hy).1]; exact hy
    exact hD.1 i j x y gx gy e
theorem kp_preV {D : va_G} {T : List (ClassId × FieldType)} {A : Nat → Prop} {wc wr : va_W} {s : State} {H : Heap} {b : Addr} {As : List Value} {q : vw_C} {ci : Nat} {fs : List Value} (hN : NX s) (hK : va_K D vwCl T s) (hP : va_P D vwCl (wc ++ wr) H) (hD : va_D A (wc ++ wr)) (k : Nat) (hk : (wc ++ wr)[k]? = some (b, .inr (ci, fs))) (hc : vwCl[ci]? = some q) : PreV s H q.1 b (va_Pc (.ref b :: As) (KP D T wc H.size)) As :=
  ⟨kp_blind, va_recv hK hP hc hk, fun _ hU hW => kp_go hN hK hP hD hU hW⟩
theorem kp_preS {D : va_G} {T : List (ClassId × FieldType)} {A : Nat → Prop} {wc wr : va_W} {s : State} {H : Heap} {As : List Value} (hN : NX s) (hK : va_K D vwCl T s) (hP : va_P D vwCl (wc ++ wr) H) (hD : va_D A (wc ++ wr)) : PreS s H (va_Pc As (KP D T wc H.size)) As :=
  ⟨kp_blind, fun _ hU hW => kp_go hN hK hP hD hU hW⟩
theorem kp_free {A0 : Nat → Prop} {wc wr : va_W} {H0 H : Heap} {locs : List Loc} (hD : va_D A0 (wc ++ wr)) (hS : va_S A0 H0 H locs) (hA : ∀ q, H0.size ≤ q → A0 q) : ∀ q, va_A wc H.size q → A0 q := by
  intro q h
  rcases h with ⟨k, e, h⟩ | h
  · exact hD.2 k (q, e) (by rw [List.getElem?_append_left (List.getElem?_eq_some_iff.mp h).1]; exact h)
  · exact hA q (Nat.le_trans hS.1 h)
/-- behind a call: the callee's world, and the caller's rest -/
theorem kp_join {A0 : Nat → Prop} {D : va_G} {wc wr w1 : va_W} {H H1 : Heap} (hP : va_P D vwCl (wc ++ wr) H) (hD : va_D A0 (wc ++ wr))
    (hk : ∀ q : Nat, q < H.size → ¬ va_A wc H.size q → H1[q]? = H[q]?) (hF : ∀ q, va_A wc H.size q → A0 q) (hP1 : va_P D vwCl w1 H1) (hD1 : va_D (va_A wc H.size) w1) : va_P D vwCl (w1 ++ wr) H1 ∧ va_D A0 (w1 ++ wr) := by
  have gR : ∀ (k : Nat) (q : Nat × va_E), wr[k]? = some q → (wc ++ wr)[wc.length + k]? = some q := fun k q h => by
    rw [List.getElem?_append_right (Nat.le_add_right _ _), Nat.add_sub_cancel_left]; exact h
  have apart : ∀ (k : Nat) (q : Nat × va_E), wr[k]? = some q → q.1 < H.size ∧ ¬ va_A wc H.size q.1 := by
    intro k q hq
    have hl := (hP _ q (gR k q hq)).lt
    refine ⟨hl, fun h => ?_⟩
    rcases h with ⟨k2, e, h⟩ | h
    · have hk2 : k2 < wc.length := (List.getElem?_eq_some_iff.mp h).1
      have g2 : (wc ++ wr)[k2]? = some (q.1, e) := by rw [List.getElem?_append_left hk2]; exact h
      have := hD.1 _ _ _ _ (gR k q hq) g2 rfl
      omega
    · omega
  refine ⟨va_P.app hP1 (fun k q hq => ?_), va_D.app (hD1.weaken (fun k q _ h => hF q.1 h)) ⟨fun i j x y hx hy e => ?_, fun k q hq => hD.2 _ q (gR k q hq)⟩ (fun i j x y hx hy hxy => ?_)⟩
  · exact (hP _ q (gR k q hq)).kept (hk q.1 (apart k q hq).1 (apart k q hq).2)
  · have := hD.1 _ _ _ _ (gR i x hx) (gR j y hy) e
    omega
  · exact (apart j y hy).2 (by rw [← hxy]; exact hD1.2 i x hx)
/-- the same world in another order, or fewer of its cells -/
theorem kp_sub {A0 : Nat → Prop} {D : va_G} {ws ws' : va_W} {H : Heap} (hP : va_P D vwCl ws H) (hD : va_D A0 ws) (is : List Nat) (hn : va_nd is = true) (hs : is.map (fun i => ws[i]?) = ws'.map some) : va_P D vwCl ws' H ∧ va_D A0 ws' := by
  refine ⟨fun k q hq => ?_, hD.sub is hn hs⟩
  have h1 : (is.map (fun i => ws[i]?))[k]? = some (some q) := by rw [hs, List.getElem?_map, hq]; rfl
  rw [List.getElem?_map] at h1
  cases hi : is[k]? with
  | none => rw [hi] at h1; cases h1
  | some i => rw [hi] at h1; exact hP i q (Option.some.inj h1)
/-- the same, with a rest that stays -/
theorem kp_subF {A0 : Nat → Prop} {D : va_G} {ws ws' F : va_W} {H : Heap} (hP : va_P D vwCl (ws ++ F) H) (hD : va_D A0 (ws ++ F)) (is : List Nat) (hn : va_nd is = true) (hs : is.map (fun i => ws[i]?) = ws'.map some) : va_P D vwCl (ws' ++ F) H ∧ va_D A0 (ws' ++ F) := by
  have gL : ∀ (k : Nat) (q : Nat × va_E), ws[k]? = some q → (ws ++ F)[k]? = some q := fun k q h => by
    rw [List.getElem?_append_left (List.getElem?_eq_some_iff.mp h).1]; exact h
  have gR : ∀ (k : Nat) (q : Nat × va_E), F[k]? = some q → (ws ++ F)[ws.length + k]? = some q := fun k q h => by
    rw [List.getElem?_append_right (Nat.le_add_right _ _), Nat.add_sub_cancel_left]; exact h
  have hP1 : va_P D vwCl ws H := fun k q hq => hP k q (gL k q hq)
  have hD1 : va_D A0 ws := ⟨fun i j x y hx hy e => hD.1 i j x y (gL i x hx) (gL j y hy) e, fun k q hq => hD.2 k q (gL k q hq)⟩
  obtain ⟨hP2, hD2⟩ := kp_sub hP1 hD1 is hn hs
  have at' : ∀ (k : Nat) (q : Nat × va_E), ws'[k]? = some q → ∃ i : Nat, ws[i]? = some q := by
    intro k q hq
    have h1 : (is.map (fun i => ws[i]?))[k]? = some (some q) := by rw [hs, List.getElem?_map, hq]; rfl
    rw [List.getElem?_map] at h1
    cases hi : is[k]? with
    | none => rw [hi] at h1; cases h1
    | some i => rw [hi] at h1; exact ⟨i, Option.some.inj h1⟩
  refine ⟨va_P.app hP2 (fun k q hq => hP _ q (gR k q hq)), va_D.app hD2 ⟨fun i j x y hx hy e => ?_, fun k q hq => hD.2 _ q (gR k q hq)⟩ (fun i j x y hx hy hxy => ?_)⟩
  · have := hD.1 _ _ _ _ (gR i x hx) (gR j y hy) e
    omega
  · obtain ⟨i', hi'⟩ := at' i x hx
    have h1 := hD.1 _ _ _ _ (gL i' x hi') (gR j y hy) hxy
    have h2 : i' < ws.length := (List.getElem?_eq_some_iff.mp hi').1
    omega
/-- an array's contents count below its length alone -/
theorem kp_arr {D : va_G} {ws : va_W} {H : Heap} {a : Nat} {e e' : va_E} (hP : va_P D vwCl ws H) (k : Nat) (hk : ws[k]? = some (a, e)) (he : va_at D vwCl (a, e) H → va_at D vwCl (a, e') H) : va_P D vwCl (ws.set k (a, e')) H := by
  intro j q hj
  rw [List.getElem?_set] at hj
  by_cases h : k = j
  · subst h
    rw [if_pos rfl] at hj
    by_cases h2 : k < ws.length
    · rw [if_pos h2] at hj
      cases hj
      exact he (hP k _ hk)
    · rw [if_neg h2] at hj; cases hj
  · rw [if_neg h] at hj
    exact hP j q hj
theorem kp_ofn {n : Nat} {f g : Nat → Value} (cA : ClassId) (h : ∀ j, j < n → f j = g j) : arrV cA n f = arrV cA n g := by
  unfold arrV
  congr 1
  exact Array.ext (by simp) (fun i h1 h2 => by simp at h1 ⊢; exact h i h1)
theorem kp_arrI {D : va_G} {ws : va_W} {A0 : Nat → Prop} {H : Heap} {a n : Nat} {cA : ClassId} {f : Nat → Int32} (hP : va_P D vwCl ws H) (hD : va_D A0 ws) (k : Nat) (hk : ws[k]? = some (a, .inl (cA, n, .inl f))) (g : Nat → Int32) (h : ∀ j, j < n → f j = g j) : va_P D vwCl (ws.set k (a, .inl (cA, n, .inl g))) H ∧ va_D A0 (ws.set k (a, .inl (cA, n, .inl g))) := by
  refine ⟨kp_arr hP k hk (fun z => ?_), hD.set hk⟩
  show H[a]? = some (vp_cell cA (n, .inl g))
  have z : H[a]? = some (vp_cell cA (n, .inl f)) := z
  rw [z, vp_cell_i, vp_cell_i, kp_ofn cA (fun j hj => by rw [h j hj])]
theorem kp_arrJ {D : va_G} {ws : va_W} {A0 : Nat → Prop} {H : Heap} {a n : Nat} {cA : ClassId} {f : Nat → Int64} (hP : va_P D vwCl ws H) (hD : va_D A0 ws) (k : Nat) (hk : ws[k]? = some (a, .inl (cA, n, .inr (.inl f)))) (g : Nat → Int64) (h : ∀ j, j < n → f j = g j) : va_P D vwCl (ws.set k (a, .inl (cA, n, .inr (.inl g)))) H ∧ va_D A0 (ws.set k (a, .inl (cA, n, .inr (.inl g)))) := by
  refine ⟨kp_arr hP k hk (fun z => ?_), hD.set hk⟩
  show H[a]? = some (vp_cell cA (n, .inr (.inl g)))
  have z : H[a]? = some (vp_cell cA (n, .inr (.inl f))) := z
  rw [z, vp_cell_l, vp_cell_l, kp_ofn cA (fun j hj => by rw [h j hj])]
theorem kp_arrQ {D : va_G} {ws : va_W} {A0 : Nat → Prop} {H : Heap} {a n : Nat} {cA : ClassId} {f : Nat → Option Nat} (hP : va_P D vwCl ws H) (hD : va_D A0 ws) (k : Nat) (hk : ws[k]? = some (a, .inl (cA, n, .inr (.inr (.inr (.inr f)))))) (g : Nat → Option Nat) (h : ∀ j, j < n → f j = g j) : va_P D vwCl (ws.set k (a, .inl (cA, n, .inr (.inr (.inr (.inr g)))))) H ∧ va_D A0 (ws.set k (a, .inl (cA, n, .inr (.inr (.inr (.inr g)))))) := by
  refine ⟨kp_arr hP k hk (fun z => ?_), hD.set hk⟩
  show H[a]? = some (vp_cell cA (n, .inr (.inr (.inr (.inr g)))))
  have z : H[a]? = some (vp_cell cA (n, .inr (.inr (.inr (.inr f))))) := z
  rw [z, vp_cell_q, vp_cell_q, kp_ofn cA (fun j hj => by rw [h j hj])]
section KC
variable {p : Program} {l : Launch} {e : Env} {R : Room} {s : State} {m : MethodId} {args : Array Value} {below : List Frame} {meth : Method} {c : Code} {H : Heap} {locs : List Loc} {cells slots : Nat} {Q : State → Prop}
variable {pc : Nat} {ls : Array Slot} {rest st0 : List Value} {a : Array Value} {A : Nat → Prop} {H0 : Heap} {D : va_G} {wc wr : va_W}
theorem kc_i {S : Type} {post : Int32 → S → Prop} {w1 : S → va_W} (hr : va_Run p l e R s m args below meth c H locs cells slots 0 0 (F0 m pc ls st0) rest (va_Qi post (fun u t => KB D wc (w1 u) H.size t) (va_A wc H.size) a) (va_A wc H.size)) (hP : va_P D vwCl (wc ++ wr) H) (hD : va_D A (wc ++ wr)) (hS : va_S A H0 H locs) (hA : ∀ q, H0.size ≤ q → A q)
    (kk : ∀ (r : Int32) (u : S) (H1 : Heap) (locs1 : List Loc), post r u → va_P D vwCl (w1 u ++ wr) H1 → va_D A (w1 u ++ wr) → va_S A H0 H1 locs1 → W p l e R s m args below meth c H1 locs1 cells slots Q (F0 m (pc + 3) ls (.int r :: rest))) : W p l e R s m args below meth c H locs cells slots Q (F0 m pc ls st0) := by
  have hF := kp_free (wc := wc) hD hS hA
  refine va_calli hr hS (fun q _ h => hF q h) hF (fun r u t H1 locs1 ht _ hp hB _ hk hS1 => ?_)
  obtain ⟨hP1, hD1⟩ := hB
  rw [ht] at hP1
  obtain ⟨hP2, hD2⟩ := kp_join hP hD hk hF hP1 hD1
  exact kk r u H1 locs1 hp hP2 hD2 hS1
theorem kc_l {S : Type} {post : Int64 → S → Prop} {w1 : S → va_W} (hr : va_Run p l e R s m args below meth c H locs cells slots 0 0 (F0 m pc ls st0) rest (va_Ql post (fun u t => KB D wc (w1 u) H.size t) (va_A wc H.size) a) (va_A wc H.size)) (hP : va_P D vwCl (wc ++ wr) H) (hD : va_D A (wc ++ wr)) (hS : va_S A H0 H locs) (hA : ∀ q, H0.size ≤ q → A q)
    (kk : ∀ (r : Int64) (u : S) (H1 : Heap) (locs1 : List Loc), post r u → va_P D vwCl (w1 u ++ wr) H1 → va_D A (w1 u ++ wr) → va_S A H0 H1 locs1 → W p l e R s m args below meth c H1 locs1 cells slots Q (F0 m (pc + 3) ls (.long r :: rest))) : W p l e R s m args below meth c H locs cells slots Q (F0 m pc ls st0) := by
  have hF := kp_free (wc := wc) hD hS hA
  refine va_calll hr hS (fun q _ h => hF q h) hF (fun r u t H1 locs1 ht _ hp hB _ hk hS1 => ?_)
  obtain ⟨hP1, hD1⟩ := hB
  rw [ht] at hP1
  obtain ⟨hP2, hD2⟩ := kp_join hP hD hk hF hP1 hD1
  exact kk r u H1 locs1 hp hP2 hD2 hS1
theorem kc_v {S : Type} {post : S → Prop} {w1 : S → va_W} {mc ms : Nat} (hr : va_Run p l e R s m args below meth c H locs cells slots mc ms (F0 m pc ls st0) rest (va_Qv post (fun u t => KB D wc (w1 u) H.size t) (va_A wc H.size) a) (va_A wc H.size)) (hP : va_P D vwCl (wc ++ wr) H) (hD : va_D A (wc ++ wr)) (hS : va_S A H0 H locs) (hA : ∀ q, H0.size ≤ q → A q)
    (kk : ∀ (u : S) (H1 : Heap) (locs1 : List Loc), post u → va_P D vwCl (w1 u ++ wr) H1 → va_D A (w1 u ++ wr) → va_S A H0 H1 locs1 → W p l e R s m args below meth c H1 locs1 (cells + mc) (slots + ms) Q (F0 m (pc + 3) ls rest)) : W p l e R s m args below meth c H locs cells slots Q (F0 m pc ls st0) := by
  have hF := kp_free (wc := wc) hD hS hA
  refine va_callv hr hS (fun q _ h => hF q h) hF (fun u t H1 locs1 ht _ hp hB _ hk hS1 => ?_)
  obtain ⟨hP1, hD1⟩ := hB
  rw [ht] at hP1
  obtain ⟨hP2, hD2⟩ := kp_join hP hD hk hF hP1 hD1
  exact kk u H1 locs1 hp hP2 hD2 hS1
end KC
abbrev tk_T (cI cM cJ : ClassId) : List (ClassId × FieldType) := [(cI, .int), (cM, .object "TankFilter$Memory"), (cJ, .long)]
abbrev tk_ev (e : Nat → Int64) : List Value := [.long (e 0), .long (e 1), .long (e 2), .long (e 3), .long (e 4), .long (e 5), .long (e 6), .long (e 7)]
theorem KB.of {D : va_G} {wc w1 : va_W} {sz : Nat} {t : State} {A : Nat → Prop} (hA : va_A wc sz = A) (hP : va_P D vwCl w1 t.heap) (hD : va_D A w1) : KB D wc w1 sz t := ⟨hP, by rw [hA]; exact hD⟩
section KA
variable {p : Program} {l : Launch} {e : Env} {R : Room} {s : State} {m : MethodId} {args : Array Value} {below : List Frame} {meth : Method} {c : Code} {H : Heap} {locs : List Loc} {cells slots : Nat} {Q : State → Prop}
variable {cc : ByteArray} {pc : Nat} {ls : Array Slot} {rest : List Value} {D : va_G} {A : Nat → Prop} {a : Nat} {tys : List (ClassId × FieldType)} {ws : va_W} {H0 : Heap}
theorem ka_ild (hexec : p.tables.exec = Jvm.exec) (hb : c.code = cc) (hK : va_K D vwCl tys s) (hP : va_P D vwCl ws H) (q0 t0 : Nat) {cA : ClassId} {n : Nat} {f : Nat → Int32} (ha : ws[q0]? = some (a, .inl (cA, n, .inl f))) (ht : tys[t0]? = some (cA, .int)) {i : Int32} {j : Nat} (hi : i = nI j) (hj : j < n) (hn : n < 2 ^ 31) (hdg : decode cc pc = .ok (.iaload, 1))
    (kk : W p l e R s m args below meth c H locs cells slots Q (F0 m (pc + 1) ls (.int (f j) :: rest))) : W p l e R s m args below meth c H locs cells slots Q (F0 m pc ls (.int i :: .ref a :: rest)) := by
  subst hi
  refine va_iald hexec hb hK hP q0 t0 ha ht (vp_in_nI hj hn) hdg ?_
  rw [nI_clamp (Nat.lt_trans hj hn)]
  exact kk
theorem ka_lld (hexec : p.tables.exec = Jvm.exec) (hb : c.code = cc) (hK : va_K D vwCl tys s) (hP : va_P D vwCl ws H) (q0 t0 : Nat) {cA : ClassId} {n : Nat} {f : Nat → Int64} (ha : ws[q0]? = some (a, .inl (cA, n, .inr (.inl f)))) (ht : tys[t0]? = some (cA, .long)) {i : Int32} {j : Nat} (hi : i = nI j) (hj : j < n) (hn : n < 2 ^ 31) (hdg : decode cc pc = .ok (.laload, 1))
    (kk : W p l e R s m args below meth c H locs cells slots Q (F0 m (pc + 1) ls (.long (f j) :: rest))) : W p l e R s m args below meth c H locs cells slots Q (F0 m pc ls (.int i :: .ref a :: rest)) := by
  subst hi
  refine va_lald hexec hb hK hP q0 t0 ha ht (vp_in_nI hj hn) hdg ?_
  rw [nI_clamp (Nat.lt_trans hj hn)]
  exact kk
theorem ka_qld (hexec : p.tables.exec = Jvm.exec) (hb : c.code = cc) (hK : va_K D vwCl tys s) (hP : va_P D vwCl ws H) (q0 t0 : Nat) {cA : ClassId} {C : String} {n : Nat} {f : Nat → Option Nat} (ha : ws[q0]? = some (a, .inl (cA, n, .inr (.inr (.inr (.inr f)))))) (ht : tys[t0]? = some (cA, .object C)) {i : Int32} {j : Nat} (hi : i = nI j) (hj : j < n) (hn : n < 2 ^ 31) {r : Nat} (hr : f j = some r) (hdg : decode cc pc = .ok (.aaload, 1))
    (kk : W p l e R s m args below meth c H locs cells slots Q (F0 m (pc + 1) ls (.ref r :: rest))) : W p l e R s m args below meth c H locs cells slots Q (F0 m pc ls (.int i :: .ref a :: rest)) := by
  subst hi
  refine va_aldq hexec hb hK hP q0 t0 ha ht (vp_in_nI hj hn) hdg ?_
  rw [nI_clamp (Nat.lt_trans hj hn), hr]
  exact kk
theorem ka_ist (hexec : p.tables.exec = Jvm.exec) (hb : c.code = cc) (hK : va_K D vwCl tys s) (hP : va_P D vwCl ws H) (hD : va_D A ws) (hS : va_S A H0 H locs) (q0 t0 : Nat) {cA : ClassId} {n : Nat} {f : Nat → Int32} (ha : ws[q0]? = some (a, .inl (cA, n, .inl f))) (ht : tys[t0]? = some (cA, .int)) {i x : Int32} {j : Nat} (hi : i = nI j) (hj : j < n) (hn : n < 2 ^ 31) (hdg : decode cc pc = .ok (.iastore, 1))
    (kk : ∀ (H1 : Heap) (locs1 : List Loc), va_P D vwCl (ws.set q0 (a, .inl (cA, n, .inl (upd f j x)))) H1 → va_D A (ws.set q0 (a, .inl (cA, n, .inl (upd f j x)))) → va_S A H0 H1 locs1 → W p l e R s m args below meth c H1 locs1 cells slots Q (F0 m (pc + 1) ls rest)) : W p l e R s m args below meth c H locs cells slots Q (F0 m pc ls (.int x :: .int i :: .ref a :: rest)) := by
  subst hi
  refine va_iast hexec hb hK hP hD hS q0 t0 ha ht (vp_in_nI hj hn) hdg ?_
  rw [nI_clamp (Nat.lt_trans hj hn)]
  exact kk
theorem ka_lst (hexec : p.tables.exec = Jvm.exec) (hb : c.code = cc) (hK : va_K D vwCl tys s) (hP : va_P D vwCl ws H) (hD : va_D A ws) (hS : va_S A H0 H locs) (q0 t0 : Nat) {cA : ClassId} {n : Nat} {f : Nat → Int64} (ha : ws[q0]? = some (a, .inl (cA, n, .inr (.inl f)))) (ht : tys[t0]? = some (cA, .long)) {i : Int32} {x : Int64} {j : Nat} (hi : i = nI j) (hj : j < n) (hn : n < 2 ^ 31) (hdg : decode cc pc = .ok (.lastore, 1))
    (kk : ∀ (H1 : Heap) (locs1 : List Loc), va_P D vwCl (ws.set q0 (a, .inl (cA, n, .inr (.inl (vp_updL f j x))))) H1 → va_D A (ws.set q0 (a, .inl (cA, n, .inr (.inl (vp_updL f j x))))) → va_S A H0 H1 locs1 → W p l e R s m args below meth c H1 locs1 cells slots Q (F0 m (pc + 1) ls rest)) : W p l e R s m args below meth c H locs cells slots Q (F0 m pc ls (.long x :: .int i :: .ref a :: rest)) := by
  subst hi
  refine va_last hexec hb hK hP hD hS q0 t0 ha ht (vp_in_nI hj hn) hdg ?_
  rw [nI_clamp (Nat.lt_trans hj hn)]
  exact kk
end KA
section KW
variable {p : Program} {l : Launch} {e : Env} {R : Room} {s : State} {m : MethodId} {args : Array Value} {below : List Frame} {meth : Method} {c : Code} {H : Heap} {locs : List Loc} {cells slots : Nat} {Q : State → Prop}
/-- a call of a nest mate's static method, with up to w words left on the stack -/
theorem kw_runSN (w : Nat) {y : MethodName} {bytes cc : ByteArray} {maxL nL mc ms index : Nat} {ret : Option FieldType} {ws ws' : List Cond} {rm : Room} {Pc : Array Value → State → Prop} {Qc : Array Value → State → Outcome → State → Prop} {free : Addr → Prop} {Ts : List Cond} {own host : String} {As rest : List Value} {g : JFrame}
    (n : Nat) (S : CallFix p m c cc nL s args Ts own) (hM : Met l y ws rm Pc Qc mc ms free) (hG : GoodIn Ts ws) (hw : ws = Cond.code y bytes maxL ret :: ws') (hrc : rm.cells = mc) (hrs : rm.slots = ms) (hl : va_Nw (.methodLinkNest own index y host) s) (hini : (Cond.initialized y.cls).before args s = true) (hst : (Cond.static y).before args s = true)
    (hd : y.cls ≠ "java/lang/invoke/MethodHandle" ∧ y.cls ≠ "java/lang/invoke/VarHandle" ∧ (parseMethodDescriptor y.desc).map (fun d => d.parameters.length) = some n) (hR : rm.frames + 1 ≤ R.frames ∧ w + (maxL + 11) + rm.locals ≤ R.locals) (hp : PreS s H Pc As)
    (hg : g.method = m) (hn : As.length = n) (hsize : g.locals.size = nL) (hstack : g.stack = As.reverse ++ rest) (hW : 2 * g.monitorRoom + (rest.map fun v => v.category).sum ≤ w) (hdg : decode cc g.pc = .ok (.invokestatic index, 3)) (hf : cells + mc ≤ R.cells ∧ slots + ms ≤ R.slots) :
    va_Run p l e R s m args below meth c H locs cells slots mc ms g rest (Qc As.toArray) (free) := by
  obtain ⟨hx, hb, hml, ho, ht⟩ := S
  have hc : Cond.code y bytes maxL ret ∈ ws := by rw [hw]; exact List.mem_cons_self
  have hcode := ht _ (hG _ hc).1
  have hK : Back l R p e below s args y 3 w (PreOf R mc ms Pc) (PostOf Qc mc ms free) := back_of (bytes := bytes) (maxL := maxL) (ret := ret) hM hp.1 hrc hrs hR.1 hR.2 (pay_in ht hG) hc (fun a' U hW => word_at hW (Or.inl (by first | rfl | simp [Cond.onTables, Cond.keeps, Cond.steady])) hini)
  have hlen : ∀ sig, parseMethodDescriptor y.desc = some sig → As.length = sig.parameters.length := fun sig h => by
    have h2 := hd.2.2
    rw [h] at h2
    exact hn.trans (Option.some.inj h2).symm
  intro T hT X
  obtain ⟨v, vm₁, ⟨U', l2, c2, s2⟩, hW₁, X', ⟨g', mk, t, L, e1, e2, hq, h1, hL, h2, h3⟩, st⟩ := va_callSN X hx (bytes := bytes) (maxL := maxL) (ret := ret) ho (va_Nw.use rfl hl) hst hini hcode ⟨hd.1, hd.2.1⟩ hK hg (hsize.trans hml.symm) (argsL := As) (rest := rest) hlen hstack hW (by rw [hb]; exact hdg)
    (fun vm₁ hW₁ => ⟨hf.1, hf.2, hp.2 (T.setVm vm₁) hT hW₁⟩)
  dsimp only [Pt.U, Pt.locs, Pt.cells, Pt.slots] at X' e1 e2 h1 h2 h3 st
  subst h1; subst h2; subst h3
  exact ⟨v, (T.setVm vm₁).calling g' mk As.toArray, t, U', L, hT, X', hL, e1, e2, hq, st⟩
theorem kw_room {pc : Nat} {ls : Array Slot} {rest st : List Value} {w : Nat} {m : MethodId} (h : (st.map fun v => v.category).sum ≤ w) : 2 * (F0 m pc ls rest).monitorRoom + (st.map fun v => v.category).sum ≤ w := by
  have e : (F0 m pc ls rest).monitorRoom = 0 := rfl
  rw [e]
  omega
end KW
section KL
variable {p : Program} {l : Launch} {e : Env} {R : Room} {s : State} {m : MethodId} {args : Array Value} {below : List Frame} {meth : Method} {c : Code} {cells slots : Nat} {Q : State → Prop}
/-- a loop: an invariant, and a number that falls -/
theorem kl_loop {pc : Nat} {st : List Value} (Inv : Nat → Heap → List Loc → Array Slot → Prop) {H : Heap} {locs : List Loc} {ls : Array Slot} (k0 : Nat) (h0 : Inv k0 H locs ls)
    (hs : ∀ (k : Nat) (H : Heap) (locs : List Loc) (ls : Array Slot), Inv k H locs ls → (∀ (k' : Nat) (H' : Heap) (locs' : List Loc) (ls' : Array Slot), k' < k → Inv k' H' locs' ls' → W p l e R s m args below meth c H' locs' cells slots Q (F0 m pc ls' st)) → W p l e R s m args below meth c H locs cells slots Q (F0 m pc ls st)) :
    W p l e R s m args below meth c H locs cells slots Q (F0 m pc ls st) := by
  have key : ∀ (n k : Nat), k < n → ∀ (H : Heap) (locs : List Loc) (ls : Array Slot), Inv k H locs ls → W p l e R s m args below meth c H locs cells slots Q (F0 m pc ls st) := by
    intro n
    induction n with
    | zero => intro k hk; omega
    | succ n ih =>
      intro k hk H locs ls h
      exact hs k H locs ls h (fun k' H' locs' ls' hk' h' => ih k' (by omega) H' locs' ls' h')
  exact key (k0 + 1) k0 (by omega) H locs ls h0
end KL
/-- a contract out of a walk, for a method of a class whose name has a '/' and that no native row names -/
theorem kw_ofW {l : Launch} {y : MethodName} {ws ws' : List Cond} {rm : Room} {Pc : Array Value → State → Prop} {Qc : Array Value → State → Outcome → State → Prop} {mc ms : Nat} {free : Addr → Prop} {cc : ByteArray} {maxL : Nat} {ret : Option FieldType}
    (hy : plainFor y = true) (hw : ws = Cond.code y cc maxL ret :: ws')
    (body : ∀ p e s m args below meth c s₁, BodyLoose p l y (headSpec ws rm) cc maxL ret e s m args below meth c s₁ → c.maxLocals = maxL → Pc args s →
      W p l e (headSpec ws rm).room s m args below meth c s.heap [] 0 0 (MQ below Qc args s mc ms free) (entryFrame m args maxL)) : Met l y ws rm Pc Qc mc ms free := by
  refine MetFree.of_bodySF (code := cc) (maxLocals := maxL) (ret := ret) hy ?_ ?_
  · intro args s m h hn
    obtain ⟨meth, c, h1, h2, h3, h4, h5, h6, -, -⟩ := Cond.code_spec hn (atoms_spec (ws := ws) h _ (by rw [hw]; exact List.mem_cons_self))
    exact ⟨meth, c, h1, h2, h3, h4, h5, h6⟩
  · intro p e s m args below meth c s₁ B hml hP _
    have hh0 : s₁.heap = s.heap := by rw [B.state]; rfl
    obtain ⟨t, a1, o, b1, b2, b3⟩ := body p e s m args below meth c s₁ B hml hP s₁ hh0 (Stand.of_body B)
    exact ⟨t, o, a1, b1, b2, ⟨b3.1, b3.2⟩⟩
section KC0
variable {p : Program} {l : Launch} {e : Env} {R : Room} {s : State} {m : MethodId} {args : Array Value} {below : List Frame} {meth : Method} {c : Code} {H : Heap} {locs : List Loc} {cells slots : Nat} {Q : State → Prop}
variable {pc : Nat} {ls : Array Slot} {rest st0 : List Value} {a : Array Value} {A : Nat → Prop} {H0 : Heap} {D : va_G} {wc : va_W}
/-- the same calls, where the callee's world is the caller's whole world -/
theorem kc_i0 {S : Type} {post : Int32 → S → Prop} {w1 : S → va_W} (hr : va_Run p l e R s m args below meth c H locs cells slots 0 0 (F0 m pc ls st0) rest (va_Qi post (fun u t => KB D wc (w1 u) H.size t) (va_A wc H.size) a) (va_A wc H.size)) (hP : va_P D vwCl wc H) (hD : va_D A wc) (hS : va_S A H0 H locs) (hA : ∀ q, H0.size ≤ q → A q)
    (kk : ∀ (r : Int32) (u : S) (H1 : Heap) (locs1 : List Loc), post r u → va_P D vwCl (w1 u) H1 → va_D A (w1 u) → va_S A H0 H1 locs1 → W p l e R s m args below meth c H1 locs1 cells slots Q (F0 m (pc + 3) ls (.int r :: rest))) : W p l e R s m args below meth c H locs cells slots Q (F0 m pc ls st0) :=
  kc_i (wr := []) hr (by rw [List.append_nil]; exact hP) (by rw [List.append_nil]; exact hD) hS hA (fun r u H1 locs1 h0 h1 h2 h3 => kk r u H1 locs1 h0 (by rw [List.append_nil] at h1; exact h1) (by rw [List.append_nil] at h2; exact h2) h3)
theorem kc_l0 {S : Type} {post : Int64 → S → Prop} {w1 : S → va_W} (hr : va_Run p l e R s m args below meth c H locs cells slots 0 0 (F0 m pc ls st0) rest (va_Ql post (fun u t => KB D wc (w1 u) H.size t) (va_A wc H.size) a) (va_A wc H.size)) (hP : va_P D vwCl wc H) (hD : va_D A wc) (hS : va_S A H0 H locs) (hA : ∀ q, H0.size ≤ q → A q)
    (kk : ∀ (r : Int64) (u : S) (H1 : Heap) (locs1 : List Loc), post r u → va_P D vwCl (w1 u) H1 → va_D A (w1 u) → va_S A H0 H1 locs1 → W p l e R s m args below meth c H1 locs1 cells slots Q (F0 m (pc + 3) ls (.long r :: rest))) : W p l e R s m args below meth c H locs cells slots Q (F0 m pc ls st0) :=
  kc_l (wr := []) hr (by rw [List.append_nil]; exact hP) (by rw [List.append_nil]; exact hD) hS hA (fun r u H1 locs1 h0 h1 h2 h3 => kk r u H1 locs1 h0 (by rw [List.append_nil] at h1; exact h1) (by rw [List.append_nil] at h2; exact h2) h3)
theorem kc_v0 {S : Type} {post : S → Prop} {w1 : S → va_W} {mc ms : Nat} (hr : va_Run p l e R s m args below meth c H locs cells slots mc ms (F0 m pc ls st0) rest (va_Qv post (fun u t => KB D wc (w1 u) H.size t) (va_A wc H.size) a) (va_A wc H.size)) (hP : va_P D vwCl wc H) (hD : va_D A wc) (hS : va_S A H0 H locs) (hA : ∀ q, H0.size ≤ q → A q)
    (kk : ∀ (u : S) (H1 : Heap) (locs1 : List Loc), post u → va_P D vwCl (w1 u) H1 → va_D A (w1 u) → va_S A H0 H1 locs1 → W p l e R s m args below meth c H1 locs1 (cells + mc) (slots + ms) Q (F0 m (pc + 3) ls rest)) : W p l e R s m args below meth c H locs cells slots Q (F0 m pc ls st0) :=
  kc_v (wr := []) hr (by rw [List.append_nil]; exact hP) (by rw [List.append_nil]; exact hD) hS hA (fun u H1 locs1 h0 h1 h2 h3 => kk u H1 locs1 h0 (by rw [List.append_nil] at h1; exact h1) (by rw [List.append_nil] at h2; exact h2) h3)
end KC0
theorem kp_preV0 {D : va_G} {T : List (ClassId × FieldType)} {A : Nat → Prop} {wc : va_W} {s : State} {H : Heap} {b : Addr} {As : List Value} {q : vw_C} {ci : Nat} {fs : List Value} (hN : NX s) (hK : va_K D vwCl T s) (hP : va_P D vwCl wc H) (hD : va_D A wc) (k : Nat) (hk : wc[k]? = some (b, .inr (ci, fs))) (hc : vwCl[ci]? = some q) : PreV s H q.1 b (va_Pc (.ref b :: As) (KP D T wc H.size)) As :=
  ⟨kp_blind, va_recv hK hP hc hk, fun _ hU hW => kp_go (wr := []) hN hK (by rw [List.append_nil]; exact hP) (by rw [List.append_nil]; exact hD) hU hW⟩
theorem kp_preS0 {D : va_G} {T : List (ClassId × FieldType)} {A : Nat → Prop} {wc : va_W} {s : State} {H : Heap} {As : List Value} (hN : NX s) (hK : va_K D vwCl T s) (hP : va_P D vwCl wc H) (hD : va_D A wc) : PreS s H (va_Pc As (KP D T wc H.size)) As :=
  ⟨kp_blind, fun _ hU hW => kp_go (wr := []) hN hK (by rw [List.append_nil]; exact hP) (by rw [List.append_nil]; exact hD) hU hW⟩
