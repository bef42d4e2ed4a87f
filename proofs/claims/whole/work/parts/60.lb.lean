/-! rows for the law's walk: worlds side by side -/
section LBR
variable {p : Program} {l : Launch} {e : Env} {R : Room} {s : State} {m : MethodId} {args : Array Value} {below : List Frame} {meth : Method} {c : Code} {H : Heap} {locs : List Loc} {cells slots : Nat} {Q : State → Prop}
variable {cc : ByteArray} {pc : Nat} {ls : Array Slot} {rest st0 : List Value} {a : Array Value}
theorem lv_lcmpE (hexec : p.tables.exec = Jvm.exec) (hb : c.code = cc) {z : Int64} (hdg : decode cc pc = .ok (.lcmp, 1))
    (k : W p l e R s m args below meth c H locs cells slots Q (F0 m (pc + 1) ls (.int 0 :: rest))) : W p l e R s m args below meth c H locs cells slots Q (F0 m pc ls (.long z :: .long z :: rest)) := by
  intro T hT X
  obtain ⟨t, a, b⟩ := k T hT X
  refine ⟨t, ?_, b⟩
  have h1 : ¬ z > z := fun h => by have := Int64.lt_iff_toInt_lt.mp h; omega
  jvm_step X.here [X.here.top, hexec, hb, hdg, h1]
  exact a
theorem lv_bool (hx : p.tables.exec = Jvm.exec) (hb : c.code = cc) {z : Int32} (d1 : decode cc pc = .ok (.ifCond .eq 7, 3)) (d2 : decode cc (pc + 3) = .ok (.iconst 1, 1)) (d3 : decode cc (pc + 3 + 1) = .ok (.goto 4, 3)) (d4 : decode cc (pc + 7) = .ok (.iconst 0, 1))
    (k : W p l e R s m args below meth c H locs cells slots Q (F0 m (pc + 8) ls (.int (b2i (decide (¬ z = 0))) :: rest))) : W p l e R s m args below meth c H locs cells slots Q (F0 m pc ls (.int z :: rest)) := by
  refine lv_if_eq (tgt := pc + 7) hx hb d1 (by omega) (fun h => ?_) (fun h => ?_)
  · refine lv_iconst (v := 0) hx hb d4 (by decide) ?_
    rw [decide_eq_false (fun q => q h)] at k
    exact k
  · refine lv_iconst (v := 1) hx hb d2 (by decide) ?_
    refine lv_goto (tgt := pc + 8) hx hb d3 (by omega) ?_
    rw [decide_eq_true h] at k
    exact k
theorem lv_boolL (hx : p.tables.exec = Jvm.exec) (hb : c.code = cc) {z : Int32} (d1 : decode cc pc = .ok (.ifCond .eq 7, 3)) (d2 : decode cc (pc + 3) = .ok (.lconst 1, 1)) (d3 : decode cc (pc + 3 + 1) = .ok (.goto 4, 3)) (d4 : decode cc (pc + 7) = .ok (.lconst 0, 1))
    (k : W p l e R s m args below meth c H locs cells slots Q (F0 m (pc + 8) ls (.long (if z = 0 then 0 else 1) :: rest))) : W p l e R s m args below meth c H locs cells slots Q (F0 m pc ls (.int z :: rest)) := by
  refine lv_if_eq (tgt := pc + 7) hx hb d1 (by omega) (fun h => ?_) (fun h => ?_)
  · refine lv_lconst (v := 0) hx hb d4 (by decide) ?_
    rw [if_pos h] at k
    exact k
  · refine lv_lconst (v := 1) hx hb d2 (by decide) ?_
    refine lv_goto (tgt := pc + 8) hx hb d3 (by omega) ?_
    rw [if_neg h] at k
    exact k
theorem mr_i {v : Int32} {D : va_G} {w w' w2 : va_W} {A : Nat → Prop} {H0 : Heap} {mc ms : Nat} (hr : va_Run p l e R s m args below meth c H locs cells slots mc ms (F0 m pc ls st0) rest (wQi v D w w' H.size a) (va_A w H.size)) (hP : va_P D vwCl (w2 ++ w) H) (hD : va_D A (w2 ++ w)) (hS : va_S A H0 H locs) (hA : ∀ q, H0.size ≤ q → A q)
    (kk : ∀ (H1 : Heap) (locs1 : List Loc), va_P D vwCl (w2 ++ w') H1 → va_D A (w2 ++ w') → va_S A H0 H1 locs1 → W p l e R s m args below meth c H1 locs1 (cells + mc) (slots + ms) Q (F0 m (pc + 3) ls (.int v :: rest))) : W p l e R s m args below meth c H locs cells slots Q (F0 m pc ls st0) := by
  have hF := va_A_in (appD_r hD) hS hA
  refine va_calli hr hS (fun q _ h => hF q h) hF (fun z u t H1 locs1 ht _ hp hB _ hk1 hS1 => ?_)
  obtain ⟨j1, j2⟩ := join_r hP hD hk1 hF (ht ▸ hB.1) hB.2
  rw [hp]
  exact kk H1 locs1 j1 j2 hS1
theorem mr_l {v : Int64} {D : va_G} {w w' w2 : va_W} {A : Nat → Prop} {H0 : Heap} {mc ms : Nat} (hr : va_Run p l e R s m args below meth c H locs cells slots mc ms (F0 m pc ls st0) rest (wQl v D w w' H.size a) (va_A w H.size)) (hP : va_P D vwCl (w2 ++ w) H) (hD : va_D A (w2 ++ w)) (hS : va_S A H0 H locs) (hA : ∀ q, H0.size ≤ q → A q)
    (kk : ∀ (H1 : Heap) (locs1 : List Loc), va_P D vwCl (w2 ++ w') H1 → va_D A (w2 ++ w') → va_S A H0 H1 locs1 → W p l e R s m args below meth c H1 locs1 (cells + mc) (slots + ms) Q (F0 m (pc + 3) ls (.long v :: rest))) : W p l e R s m args below meth c H locs cells slots Q (F0 m pc ls st0) := by
  have hF := va_A_in (appD_r hD) hS hA
  refine va_calll hr hS (fun q _ h => hF q h) hF (fun z u t H1 locs1 ht _ hp hB _ hk1 hS1 => ?_)
  obtain ⟨j1, j2⟩ := join_r hP hD hk1 hF (ht ▸ hB.1) hB.2
  rw [hp]
  exact kk H1 locs1 j1 j2 hS1
theorem mr_v {D : va_G} {w w' w2 : va_W} {A : Nat → Prop} {H0 : Heap} {mc ms : Nat} (hr : va_Run p l e R s m args below meth c H locs cells slots mc ms (F0 m pc ls st0) rest (wQv D w w' H.size a) (va_A w H.size)) (hP : va_P D vwCl (w2 ++ w) H) (hD : va_D A (w2 ++ w)) (hS : va_S A H0 H locs) (hA : ∀ q, H0.size ≤ q → A q)
    (kk : ∀ (H1 : Heap) (locs1 : List Loc), va_P D vwCl (w2 ++ w') H1 → va_D A (w2 ++ w') → va_S A H0 H1 locs1 → W p l e R s m args below meth c H1 locs1 (cells + mc) (slots + ms) Q (F0 m (pc + 3) ls rest)) : W p l e R s m args below meth c H locs cells slots Q (F0 m pc ls st0) := by
  have hF := va_A_in (appD_r hD) hS hA
  refine va_callv hr hS (fun q _ h => hF q h) hF (fun u t H1 locs1 ht _ _ hB _ hk1 hS1 => ?_)
  obtain ⟨j1, j2⟩ := join_r hP hD hk1 hF (ht ▸ hB.1) hB.2
  exact kk H1 locs1 j1 j2 hS1
theorem xr_i {v : Int32} {D : va_G} {w w' w2 : va_W} {A : Nat → Prop} {H0 : Heap} {mc ms : Nat} (hr : va_Run p l e R s m args below meth c H locs cells slots mc ms (F0 m pc ls st0) rest (wQi v D w w' H.size a) (va_A w H.size)) (hP : va_P D vwCl (w ++ w2) H) (hD : va_D A (w ++ w2)) (hS : va_S A H0 H locs) (hA : ∀ q, H0.size ≤ q → A q)
    (kk : ∀ (H1 : Heap) (locs1 : List Loc), va_P D vwCl (w' ++ w2) H1 → va_D A (w' ++ w2) → va_S A H0 H1 locs1 → W p l e R s m args below meth c H1 locs1 (cells + mc) (slots + ms) Q (F0 m (pc + 3) ls (.int v :: rest))) : W p l e R s m args below meth c H locs cells slots Q (F0 m pc ls st0) := by
  have hF := va_A_in (appD_l hD) hS hA
  refine va_calli hr hS (fun q _ h => hF q h) hF (fun z u t H1 locs1 ht _ hp hB _ hk1 hS1 => ?_)
  obtain ⟨j1, j2⟩ := join_l hP hD hk1 hF (ht ▸ hB.1) hB.2
  rw [hp]
  exact kk H1 locs1 j1 j2 hS1
theorem lr_i {kc : Int32} {D : va_G} {w w2 : va_W} {g ca : Nat → Nat} {x' : XS} {tl : va_W} {A : Nat → Prop} {H0 : Heap} {mc ms : Nat} (hr : va_Run p l e R s m args below meth c H locs cells slots mc ms (F0 m pc ls st0) rest (lQi kc D w g ca x' tl H.size a) (va_A w H.size)) (hP : va_P D vwCl (w ++ w2) H) (hD : va_D A (w ++ w2)) (hS : va_S A H0 H locs) (hA : ∀ q, H0.size ≤ q → A q)
    (kk : ∀ (g' : Nat → Nat) (H1 : Heap) (locs1 : List Loc), g' 0 = g 0 → va_P D vwCl ((wX g' ca x' ++ tl) ++ w2) H1 → va_D A ((wX g' ca x' ++ tl) ++ w2) → va_S A H0 H1 locs1 → W p l e R s m args below meth c H1 locs1 (cells + mc) (slots + ms) Q (F0 m (pc + 3) ls (.int kc :: rest))) : W p l e R s m args below meth c H locs cells slots Q (F0 m pc ls st0) := by
  have hF := va_A_in (appD_l hD) hS hA
  refine va_calli hr hS (fun q _ h => hF q h) hF (fun z u t H1 locs1 ht _ hp hB _ hk1 hS1 => ?_)
  obtain ⟨j1, j2⟩ := join_l hP hD hk1 hF (ht ▸ hB.1) hB.2
  rw [hp.1]
  exact kk u H1 locs1 hp.2 j1 j2 hS1
end LBR
theorem wfo_0 {k : Nat} {fo : Nat → Int64} {v : Int64} (h : k = 0) : wfo k fo v (0 : Int32).toNatClampNeg = v := by unfold wfo; rw [if_pos h]; rfl
/-- what stays through the law -/
def LC (p : Program) (l : Launch) (s : State) (m : MethodId) (c : Code) (b L : Nat) (xs : Nat → Int32) (D : va_G) (ca : Nat → ClassId) : Prop :=
  p.tables.exec = Jvm.exec ∧ c.code = cL_law ∧ c.maxLocals = 8 ∧ s.vm.findClass RL = some m.cls ∧ (∀ w ∈ wsL_law, w.before #[Value.ref b] s = true) ∧ va_X b L xs s s.heap ∧ b < s.heap.size ∧ cx D ca s ∧ zz (fun q => s.heap.size ≤ q) s ∧ l.stackTraces = false ∧ L ≤ 3072
/-- what is kept at the head of the loop -/
def LI (D : va_G) (ca : Nat → ClassId) (s : State) (b i : Nat) (g h : Nat → Nat) (o : Nat) (fo : Nat → Int64) (x y : XS) (H : Heap) (locs : List Loc) (ls : Array Slot) : Prop :=
  Rel x y ∧ va_P D vwCl ((wX g ca x ++ [oC o ca fo]) ++ wM h ca y) H ∧ va_D (fun q => s.heap.size ≤ q) ((wX g ca x ++ [oC o ca fo]) ++ wM h ca y) ∧ va_S (fun q => s.heap.size ≤ q) s.heap H locs ∧ lv_has ls 8 [(0, .ref b), (1, .ref (g 0)), (2, .ref (h 0)), (3, .ref o), (4, .int (nI i))]
