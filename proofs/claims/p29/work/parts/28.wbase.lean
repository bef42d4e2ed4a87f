/-! the law's own methods: one call each, its exceptions caught; two worlds side by side -/
def N9 : Int64 := -9000000000000000
/-- what a wrapper answers: the answer, or the number that stands for a throw -/
def wv (k : Nat) (v : Int64) : Int64 := if k = 0 then v else N9
theorem sp_i {α : Type} {c : Prop} {ic : Decidable c} {A : Option α} {r : α} (hs : (@ite _ c ic A none) = some r) : c ∧ A = some r := by
  by_cases h : c
  · rw [if_pos h] at hs; exact ⟨h, hs⟩
  · rw [if_neg h] at hs; cases hs
theorem app_l {D : va_G} {cl : List vw_C} {w w2 : va_W} {H : Heap} (h : va_P D cl (w ++ w2) H) : va_P D cl w H := fun k q hq => h k q (by rw [List.getElem?_append_left (List.getElem?_eq_some_iff.mp hq).1]; exact hq)
theorem app_r {D : va_G} {cl : List vw_C} {w w2 : va_W} {H : Heap} (h : va_P D cl (w ++ w2) H) : va_P D cl w2 H := fun k q hq => h (w.length + k) q (la_get hq)
theorem appD_l {A : Nat → Prop} {w w2 : va_W} (h : va_D A (w ++ w2)) : va_D A w :=
  ⟨fun i j p q hi hj e => h.1 i j p q (by rw [List.getElem?_append_left (List.getElem?_eq_some_iff.mp hi).1]; exact hi) (by rw [List.getElem?_append_left (List.getElem?_eq_some_iff.mp hj).1]; exact hj) e,
   fun k q hq => h.2 k q (by rw [List.getElem?_append_left (List.getElem?_eq_some_iff.mp hq).1]; exact hq)⟩
theorem appD_r {A : Nat → Prop} {w w2 : va_W} (h : va_D A (w ++ w2)) : va_D A w2 :=
  ⟨fun i j p q hi hj e => by have := h.1 _ _ p q (la_get hi) (la_get hj) e; omega, fun k q hq => h.2 _ q (la_get hq)⟩
theorem appD_x {A : Nat → Prop} {w w2 : va_W} (h : va_D A (w ++ w2)) {i j : Nat} {p q : Nat × va_E} (hi : w[i]? = some p) (hj : w2[j]? = some q) : p.1 ≠ q.1 := by
  intro e
  have hl := (List.getElem?_eq_some_iff.mp hi).1
  have := h.1 _ _ p q (by rw [List.getElem?_append_left hl]; exact hi) (la_get hj) e
  omega
/-- a callee's world comes first, the rest stays -/
theorem join_l {D : va_G} {cl : List vw_C} {w w' w2 : va_W} {H H1 : Heap} {A : Nat → Prop} (hP : va_P D cl (w ++ w2) H) (hD : va_D A (w ++ w2)) (hk : ∀ q : Nat, q < H.size → ¬ va_A w H.size q → H1[q]? = H[q]?) (hF : ∀ q, va_A w H.size q → A q) (hP1 : va_P D cl w' H1) (hD1 : va_D (va_A w H.size) w') : va_P D cl (w' ++ w2) H1 ∧ va_D A (w' ++ w2) := by
  have out : ∀ (j : Nat) (q : Nat × va_E), w2[j]? = some q → q.1 < H.size ∧ ¬ va_A w H.size q.1 := by
    intro j q hq
    have hl := (app_r hP j q hq).lt
    refine ⟨hl, fun h => ?_⟩
    rcases h with ⟨i, e, h⟩ | h
    · exact appD_x hD h hq rfl
    · omega
  refine ⟨hP1.app ((app_r hP).kept (fun j q hq => hk _ (out j q hq).1 (out j q hq).2)), (hD1.weaken (fun _ q _ h => hF q.1 h)).app (appD_r hD) (fun i j p q hi hj e => ?_)⟩
  exact (out j q hj).2 (by rw [← e]; exact hD1.2 i p hi)
/-- a callee's world comes last -/
theorem join_r {D : va_G} {cl : List vw_C} {w w' w2 : va_W} {H H1 : Heap} {A : Nat → Prop} (hP : va_P D cl (w2 ++ w) H) (hD : va_D A (w2 ++ w)) (hk : ∀ q : Nat, q < H.size → ¬ va_A w H.size q → H1[q]? = H[q]?) (hF : ∀ q, va_A w H.size q → A q) (hP1 : va_P D cl w' H1) (hD1 : va_D (va_A w H.size) w') : va_P D cl (w2 ++ w') H1 ∧ va_D A (w2 ++ w') := by
  have out : ∀ (j : Nat) (q : Nat × va_E), w2[j]? = some q → q.1 < H.size ∧ ¬ va_A w H.size q.1 := by
    intro j q hq
    have hl := (app_l hP j q hq).lt
    refine ⟨hl, fun h => ?_⟩
    rcases h with ⟨i, e, h⟩ | h
    · exact appD_x hD hq h rfl
    · omega
  refine ⟨((app_l hP).kept (fun j q hq => hk _ (out j q hq).1 (out j q hq).2)).app hP1, (appD_l hD).app (hD1.weaken (fun _ q _ h => hF q.1 h)) (fun i j p q hi hj e => ?_)⟩
  exact (out i p hi).2 (by rw [e]; exact hD1.2 j q hj)
/-- the post of a long answer whose world may have grown by a projector -/
def pQl (v : Int64) (D : va_G) (w : va_W) (g ca : Nat → Nat) (x' : XS) (sz : Nat) : Array Value → State → Outcome → State → Prop := va_Ql (S := Nat → Nat) (fun z g' => z = v ∧ g' 0 = g 0) (fun g' t => va_P D vwCl (wX g' ca x') t.heap ∧ va_D (va_A w sz) (wX g' ca x')) (va_A w sz)
section WBR
variable {p : Program} {l : Launch} {e : Env} {R : Room} {s : State} {m : MethodId} {args : Array Value} {below : List Frame} {meth : Method} {c : Code} {H : Heap} {locs : List Loc} {cells slots : Nat} {Q : State → Prop}
variable {cc : ByteArray} {pc : Nat} {ls : Array Slot} {rest st0 : List Value} {a : Array Value}
theorem tP_S {D : va_G} {ca : Nat → ClassId} {w : va_W} {A : Nat → Prop} (hP : va_P D vwCl w H) (hC : cx D ca s) (hD : va_D A w) (hz : zz A s) (hS : va_S A s.heap H locs) (hA : ∀ q, s.heap.size ≤ q → A q) {As : List Value} : PreS s H (tP As D ca w H.size) As :=
  ⟨tP_blind, fun U hU hW => ⟨rfl, by rw [hU], by rw [hU]; exact hP, hC.warm hW, hD.weaken (fun _ _ _ _ => trivial), by
    rw [zz, hU]
    exact ⟨(vx_Zq.moved hW.alike (hz.1.kept hS.2.1)).narrow (va_A_in hD hS hA), (vx_Zq.moved hW.alike (hz.2.kept hS.2.1)).narrow (va_A_in hD hS hA)⟩⟩⟩
theorem wc_i {r : Nat × Int32 × XS} {D : va_G} {g ca : Nat → Nat} {w : va_W} {A : Nat → Prop} {H0 : Heap} {mc ms : Nat} (hr : vx_Run p l e R s m args below meth c H locs cells slots mc ms (F0 m pc ls st0) rest (tQi r D w (wX g ca) H.size a) (tX r.1 r.2.2 D w (wX g ca) H.size) (va_A w H.size)) (hD : va_D A w) (hS : va_S A H0 H locs) (hA : ∀ q, H0.size ≤ q → A q)
    (kx : ∀ (ce : Cell) (q9 : Addr) (H1 : Heap) (locs1 : List Loc), (r.1 = 1 ∨ r.1 = 2 ∨ r.1 = 3) → va_P D vwCl (wX g ca r.2.2) H1 → va_D A (wX g ca r.2.2) → va_S A H0 H1 locs1 → H1[q9]? = some ce → ce.vm = .none → s.vm.findClass (exn r.1) = some ce.cls → vx_W p l e R s m args below meth c H1 locs1 (cells + mc) (slots + ms) Q (F0 m pc ls rest) q9)
    (kk : ∀ (H1 : Heap) (locs1 : List Loc), r.1 = 0 → va_P D vwCl (wX g ca r.2.2) H1 → va_D A (wX g ca r.2.2) → va_S A H0 H1 locs1 → W p l e R s m args below meth c H1 locs1 (cells + mc) (slots + ms) Q (F0 m (pc + 3) ls (.int r.2.1 :: rest))) : W p l e R s m args below meth c H locs cells slots Q (F0 m pc ls st0) := by
  have hF := va_A_in hD hS hA
  refine vx_calli hr hS (fun q _ h => hF q h) hF (fun q _ h => hF q h) (fun E ce q9 u t H1 locs1 ht _ _ hB _ hk1 hS1 hce hcv hcl => ?_) (fun z u t H1 locs1 ht _ hp hB _ hk1 hS1 => ?_)
  · obtain ⟨hk, hE, hB⟩ := hB
    subst hE
    exact kx ce q9 H1 locs1 hk (ht ▸ hB.1) (hB.2.weaken (fun _ _ _ h => hF _ h)) hS1 hce hcv hcl
  · obtain ⟨h0, hz⟩ := hp
    rw [hz]
    exact kk H1 locs1 h0 (ht ▸ hB.1) (hB.2.weaken (fun _ _ _ h => hF _ h)) hS1
theorem wc_l {r : Nat × Int64 × XS} {D : va_G} {g ca : Nat → Nat} {w : va_W} {A : Nat → Prop} {H0 : Heap} {mc ms : Nat} (hr : vx_Run p l e R s m args below meth c H locs cells slots mc ms (F0 m pc ls st0) rest (tQl r D w (wX g ca) H.size a) (tX r.1 r.2.2 D w (wX g ca) H.size) (va_A w H.size)) (hD : va_D A w) (hS : va_S A H0 H locs) (hA : ∀ q, H0.size ≤ q → A q)
    (kx : ∀ (ce : Cell) (q9 : Addr) (H1 : Heap) (locs1 : List Loc), (r.1 = 1 ∨ r.1 = 2 ∨ r.1 = 3) → va_P D vwCl (wX g ca r.2.2) H1 → va_D A (wX g ca r.2.2) → va_S A H0 H1 locs1 → H1[q9]? = some ce → ce.vm = .none → s.vm.findClass (exn r.1) = some ce.cls → vx_W p l e R s m args below meth c H1 locs1 (cells + mc) (slots + ms) Q (F0 m pc ls rest) q9)
    (kk : ∀ (H1 : Heap) (locs1 : List Loc), r.1 = 0 → va_P D vwCl (wX g ca r.2.2) H1 → va_D A (wX g ca r.2.2) → va_S A H0 H1 locs1 → W p l e R s m args below meth c H1 locs1 (cells + mc) (slots + ms) Q (F0 m (pc + 3) ls (.long r.2.1 :: rest))) : W p l e R s m args below meth c H locs cells slots Q (F0 m pc ls st0) := by
  have hF := va_A_in hD hS hA
  refine vx_calll hr hS (fun q _ h => hF q h) hF (fun q _ h => hF q h) (fun E ce q9 u t H1 locs1 ht _ _ hB _ hk1 hS1 hce hcv hcl => ?_) (fun z u t H1 locs1 ht _ hp hB _ hk1 hS1 => ?_)
  · obtain ⟨hk, hE, hB⟩ := hB
    subst hE
    exact kx ce q9 H1 locs1 hk (ht ▸ hB.1) (hB.2.weaken (fun _ _ _ h => hF _ h)) hS1 hce hcv hcl
  · obtain ⟨h0, hz⟩ := hp
    rw [hz]
    exact kk H1 locs1 h0 (ht ▸ hB.1) (hB.2.weaken (fun _ _ _ h => hF _ h)) hS1
theorem wc_v {r : Nat × Int32 × XS} {D : va_G} {g ca : Nat → Nat} {w : va_W} {A : Nat → Prop} {H0 : Heap} {mc ms : Nat} (hr : vx_Run p l e R s m args below meth c H locs cells slots mc ms (F0 m pc ls st0) rest (tQv r D w (wX g ca) H.size a) (tX r.1 r.2.2 D w (wX g ca) H.size) (va_A w H.size)) (hD : va_D A w) (hS : va_S A H0 H locs) (hA : ∀ q, H0.size ≤ q → A q)
    (kx : ∀ (ce : Cell) (q9 : Addr) (H1 : Heap) (locs1 : List Loc), (r.1 = 1 ∨ r.1 = 2 ∨ r.1 = 3) → va_P D vwCl (wX g ca r.2.2) H1 → va_D A (wX g ca r.2.2) → va_S A H0 H1 locs1 → H1[q9]? = some ce → ce.vm = .none → s.vm.findClass (exn r.1) = some ce.cls → vx_W p l e R s m args below meth c H1 locs1 (cells + mc) (slots + ms) Q (F0 m pc ls rest) q9)
    (kk : ∀ (H1 : Heap) (locs1 : List Loc), r.1 = 0 → va_P D vwCl (wX g ca r.2.2) H1 → va_D A (wX g ca r.2.2) → va_S A H0 H1 locs1 → W p l e R s m args below meth c H1 locs1 (cells + mc) (slots + ms) Q (F0 m (pc + 3) ls rest)) : W p l e R s m args below meth c H locs cells slots Q (F0 m pc ls st0) := by
  have hF := va_A_in hD hS hA
  refine vx_callv hr hS (fun q _ h => hF q h) hF (fun q _ h => hF q h) (fun E ce q9 u t H1 locs1 ht _ _ hB _ hk1 hS1 hce hcv hcl => ?_) (fun u t H1 locs1 ht _ hp hB _ hk1 hS1 => ?_)
  · obtain ⟨hk, hE, hB⟩ := hB
    subst hE
    exact kx ce q9 H1 locs1 hk (ht ▸ hB.1) (hB.2.weaken (fun _ _ _ h => hF _ h)) hS1 hce hcv hcl
  · exact kk H1 locs1 hp (ht ▸ hB.1) (hB.2.weaken (fun _ _ _ h => hF _ h)) hS1
theorem wc_p {r : Nat × Int32 × XS} {D : va_G} {g ca : Nat → Nat} {w : va_W} {A : Nat → Prop} {H0 : Heap} {mc ms : Nat} (hr : vx_Run p l e R s m args below meth c H locs cells slots mc ms (F0 m pc ls st0) rest (tQp r D w g ca H.size a) (tX r.1 r.2.2 D w (wX g ca) H.size) (va_A w H.size)) (hD : va_D A w) (hS : va_S A H0 H locs) (hA : ∀ q, H0.size ≤ q → A q)
    (kx : ∀ (ce : Cell) (q9 : Addr) (H1 : Heap) (locs1 : List Loc), (r.1 = 1 ∨ r.1 = 2 ∨ r.1 = 3) → va_P D vwCl (wX g ca r.2.2) H1 → va_D A (wX g ca r.2.2) → va_S A H0 H1 locs1 → H1[q9]? = some ce → ce.vm = .none → s.vm.findClass (exn r.1) = some ce.cls → vx_W p l e R s m args below meth c H1 locs1 (cells + mc) (slots + ms) Q (F0 m pc ls rest) q9)
    (kk : ∀ (g' : Nat → Nat) (H1 : Heap) (locs1 : List Loc), r.1 = 0 → g' 0 = g 0 → va_P D vwCl (wX g' ca r.2.2) H1 → va_D A (wX g' ca r.2.2) → va_S A H0 H1 locs1 → W p l e R s m args below meth c H1 locs1 (cells + mc) (slots + ms) Q (F0 m (pc + 3) ls (.int r.2.1 :: rest))) : W p l e R s m args below meth c H locs cells slots Q (F0 m pc ls st0) := by
  have hF := va_A_in hD hS hA
  refine vx_calli hr hS (fun q _ h => hF q h) hF (fun q _ h => hF q h) (fun E ce q9 u t H1 locs1 ht _ _ hB _ hk1 hS1 hce hcv hcl => ?_) (fun z u t H1 locs1 ht _ hp hB _ hk1 hS1 => ?_)
  · obtain ⟨hk, hE, hB⟩ := hB
    subst hE
    exact kx ce q9 H1 locs1 hk (ht ▸ hB.1) (hB.2.weaken (fun _ _ _ h => hF _ h)) hS1 hce hcv hcl
  · obtain ⟨h0, hz, hg⟩ := hp
    rw [hz]
    exact kk u H1 locs1 h0 hg (ht ▸ hB.1) (hB.2.weaken (fun _ _ _ h => hF _ h)) hS1
theorem wl_l {v v9 : Int64} {x' : XS} {g ca : Nat → Nat} {D : va_G} {w : va_W} {A : Nat → Prop} {mc ms : Nat} (hx : p.tables.exec = Jvm.exec) (hb : c.code = cc) (hr : meth.sig.returnType = some .long) (hA : va_A w s.heap.size = A) (hv : v = v9) (hP : va_P D vwCl (wX g ca x') H) (hD : va_D A (wX g ca x')) (hS : va_S A s.heap H locs) (h1 : cells ≤ mc) (h2 : slots ≤ ms) (hdg : decode cc pc = .ok (.lreturn, 1)) (hlocks : meth.locks = false) :
    W p l e R s m args below meth c H locs cells slots (MQ below (wQl v9 D w (wX g ca x') s.heap.size) args s mc ms A) (F0 m pc ls [.long v]) := by
  subst hA
  exact W.widen h1 h2 (W.lret (v := v) hx hb hr (fun t ht _ => ⟨⟨v, (), rfl, hv, by rw [ht]; exact hP, hD⟩, hS.F ht⟩) hS.2.2 hdg hlocks)
theorem wl_p {v v9 : Int64} {x' : XS} {g g' ca : Nat → Nat} {D : va_G} {w : va_W} {A : Nat → Prop} {mc ms : Nat} (hg : g' 0 = g 0) (hx : p.tables.exec = Jvm.exec) (hb : c.code = cc) (hr : meth.sig.returnType = some .long) (hA : va_A w s.heap.size = A) (hv : v = v9) (hP : va_P D vwCl (wX g' ca x') H) (hD : va_D A (wX g' ca x')) (hS : va_S A s.heap H locs) (h1 : cells ≤ mc) (h2 : slots ≤ ms) (hdg : decode cc pc = .ok (.lreturn, 1)) (hlocks : meth.locks = false) :
    W p l e R s m args below meth c H locs cells slots (MQ below (pQl v9 D w g ca x' s.heap.size) args s mc ms A) (F0 m pc ls [.long v]) := by
  subst hA
  exact W.widen h1 h2 (W.lret (v := v) hx hb hr (fun t ht _ => ⟨⟨v, g', rfl, ⟨hv, hg⟩, by rw [ht]; exact hP, hD⟩, hS.F ht⟩) hS.2.2 hdg hlocks)
/-- the call of a method with a long answer -/
theorem wr_l {v : Int64} {D : va_G} {w w' : va_W} {A : Nat → Prop} {H0 : Heap} {mc ms : Nat} (hr : va_Run p l e R s m args below meth c H locs cells slots mc ms (F0 m pc ls st0) rest (wQl v D w w' H.size a) (va_A w H.size)) (hD : va_D A w) (hS : va_S A H0 H locs) (hA : ∀ q, H0.size ≤ q → A q)
    (kk : ∀ (H1 : Heap) (locs1 : List Loc), va_P D vwCl w' H1 → va_D A w' → va_S A H0 H1 locs1 → W p l e R s m args below meth c H1 locs1 (cells + mc) (slots + ms) Q (F0 m (pc + 3) ls (.long v :: rest))) : W p l e R s m args below meth c H locs cells slots Q (F0 m pc ls st0) :=
  va_calll hr hS (fun q _ h => va_A_in hD hS hA q h) (va_A_in hD hS hA) (fun z u t H1 locs1 ht _ hp hB _ _ hS1 => by
    rw [hp]
    exact kk H1 locs1 (ht ▸ hB.1) (hB.2.weaken (fun _ _ _ h => va_A_in hD hS hA _ h)) hS1)
theorem wr_p {v : Int64} {D : va_G} {w : va_W} {g ca : Nat → Nat} {x' : XS} {A : Nat → Prop} {H0 : Heap} {mc ms : Nat} (hr : va_Run p l e R s m args below meth c H locs cells slots mc ms (F0 m pc ls st0) rest (pQl v D w g ca x' H.size a) (va_A w H.size)) (hD : va_D A w) (hS : va_S A H0 H locs) (hA : ∀ q, H0.size ≤ q → A q)
    (kk : ∀ (g' : Nat → Nat) (H1 : Heap) (locs1 : List Loc), g' 0 = g 0 → va_P D vwCl (wX g' ca x') H1 → va_D A (wX g' ca x') → va_S A H0 H1 locs1 → W p l e R s m args below meth c H1 locs1 (cells + mc) (slots + ms) Q (F0 m (pc + 3) ls (.long v :: rest))) : W p l e R s m args below meth c H locs cells slots Q (F0 m pc ls st0) :=
  va_calll hr hS (fun q _ h => va_A_in hD hS hA q h) (va_A_in hD hS hA) (fun z u t H1 locs1 ht _ hp hB _ _ hS1 => by
    rw [hp.1]
    exact kk u H1 locs1 hp.2 (ht ▸ hB.1) (hB.2.weaken (fun _ _ _ h => va_A_in hD hS hA _ h)) hS1)
end WBR
