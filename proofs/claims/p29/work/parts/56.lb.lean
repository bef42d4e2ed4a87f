/-! rows for the law's walk: worlds side by side -/
/-- the post of the last question: it answers 1 -/
def oQ (w : va_W) (sz : Nat) : Array Value → State → Outcome → State → Prop := va_Qi (S := Unit) (fun z _ => z = 1) (fun _ _ => True) (va_A w sz)
section LBR
variable {p : Program} {l : Launch} {e : Env} {R : Room} {s : State} {m : MethodId} {args : Array Value} {below : List Frame} {meth : Method} {c : Code} {H : Heap} {locs : List Loc} {cells slots : Nat} {Q : State → Prop}
variable {cc : ByteArray} {pc : Nat} {ls : Array Slot} {rest st0 : List Value} {a : Array Value}
theorem lv_lcmpE (hexec : p.tables.exec = Jvm.exec) (hb : c.code = cc) {z : Int64} (hdg : decode cc pc = .ok (.lcmp, 1))
    (k : W p l e R s m args below meth c H locs cells slots Q (F0 m (pc + 1) ls (.int 0 :: rest))) : W p l e R s m args below meth c H locs cells slots Q (F0 m pc ls (.long z :: .long z :: rest)) := by
  intro T hT X
  obtain ⟨t, a, b⟩ := k T hT X
  refine ⟨t, ?_, b⟩
  have h1 : ¬ z > z := fun h => by have := Int64.lt_iff_toInt_lt.mp h; omega
  jvm_step X.here [X.here.top, hexec, hb, hdg, h1]
  exact a
theorem lv_boolZ (hx : p.tables.exec = Jvm.exec) (hb : c.code = cc) {z : Int32} (d1 : decode cc pc = .ok (.ifCond .eq 7, 3)) (d2 : decode cc (pc + 3) = .ok (.iconst 1, 1)) (d3 : decode cc (pc + 3 + 1) = .ok (.goto 4, 3)) (d4 : decode cc (pc + 7) = .ok (.iconst 0, 1))
    (k : W p l e R s m args below meth c H locs cells slots Q (F0 m (pc + 8) ls (.int (b2i (decide (¬ z = 0))) :: rest))) : W p l e R s m args below meth c H locs cells slots Q (F0 m pc ls (.int z :: rest)) := by
  refine lv_if_eq (tgt := pc + 7) hx hb d1 (by omega) (fun h => ?_) (fun h => ?_)
  · refine lv_iconst (v := 0) hx hb d4 (by decide) ?_
    rw [decide_eq_false (fun q => q h)] at k
    exact k
  · refine lv_iconst (v := 1) hx hb d2 (by decide) ?_
    refine lv_goto (tgt := pc + 8) hx hb d3 (by omega) ?_
    rw [decide_eq_true h] at k
    exact k
theorem lv_boolL (hx : p.tables.exec = Jvm.exec) (hb : c.code = cc) {z : Int32} (d1 : decode cc pc = .ok (.ifCond .eq 7, 3)) (d2 : decode cc (pc + 3) = .ok (.lconst 1, 1)) (d3 : decode cc (pc + 3 + 1) = .ok (.goto 4, 3)) (d4 : decode cc (pc + 7) = .ok (.lconst 0, 1))
    (k : W p l e R s m args below meth c H locs cells slots Q (F0 m (pc + 8) ls (.long (if z = 0 then 0 else 1) :: rest))) : W p l e R s m args below meth c H locs cells slots Q (F0 m pc ls (.int z :: rest)) := by
  refine lv_if_eq (tgt := pc + 7) hx hb d1 (by omega) (fun h => ?_) (fun h => ?_)
  · refine lv_lconst (v := 0) hx hb d4 (by decide) ?_
    rw [if_pos h] at k
    exact k
  · refine lv_lconst (v := 1) hx hb d2 (by decide) ?_
    refine lv_goto (tgt := pc + 8) hx hb d3 (by omega) ?_
    rw [if_neg h] at k
    exact k
theorem mr_i {v : Int32} {D : va_G} {w w' w2 : va_W} {A : Nat → Prop} {H0 : Heap} {mc ms : Nat} (hr : va_Run p l e R s m args below meth c H locs cells slots mc ms (F0 m pc ls st0) rest (wQi v D w w' H.size a) (va_A w H.size)) (hP : va_P D vwCl (w2 ++ w) H) (hD : va_D A (w2 ++ w)) (hS : va_S A H0 H locs) (hA : ∀ q, H0.size ≤ q → A q)
    (kk : ∀ (H1 : Heap) (locs1 : List Loc), va_P D vwCl (w2 ++ w') H1 → va_D A (w2 ++ w') → va_S A H0 H1 locs1 → W p l e R s m args below meth c H1 locs1 (cells + mc) (slots + ms) Q (F0 m (pc + 3) ls (.int v :: rest))) : W p l e R s m args below meth c H locs cells slots Q (F0 m pc ls st0) := by
  have hF := va_A_in (appD_r hD) hS hA
  refine va_calli hr hS (fun q _ h => hF q h) hF (fun z u t H1 locs1 ht _ hp hB _ hk1 hS1 => ?_)
  obtain ⟨j1, j2⟩ := join_r hP hD hk1 hF (ht ▸ hB.1) hB.2
  rw [hp]
  exact kk H1 locs1 j1 j2 hS1
theorem mr_l {v : Int64} {D : va_G} {w w' w2 : va_W} {A : Nat → Prop} {H0 : Heap} {mc ms : Nat} (hr : va_Run p l e R s m args below meth c H locs cells slots mc ms (F0 m pc ls st0) rest (wQl v D w w' H.size a) (va_A w H.size)) (hP : va_P D vwCl (w2 ++ w) H) (hD : va_D A (w2 ++ w)) (hS : va_S A H0 H locs) (hA : ∀ q, H0.size ≤ q → A q)
    (kk : ∀ (H1 : Heap) (locs1 : List Loc), va_P D vwCl (w2 ++ w') H1 → va_D A (w2 ++ w') → va_S A H0 H1 locs1 → W p l e R s m args below meth c H1 locs1 (cells + mc) (slots + ms) Q (F0 m (pc + 3) ls (.long v :: rest))) : W p l e R s m args below meth c H locs cells slots Q (F0 m pc ls st0) := by
  have hF := va_A_in (appD_r hD) hS hA
  refine va_calll hr hS (fun q _ h => hF q h) hF (fun z u t H1 locs1 ht _ hp hB _ hk1 hS1 => ?_)
  obtain ⟨j1, j2⟩ := join_r hP hD hk1 hF (ht ▸ hB.1) hB.2
  rw [hp]
  exact kk H1 locs1 j1 j2 hS1
theorem mr_v {D : va_G} {w w' w2 : va_W} {A : Nat → Prop} {H0 : Heap} {mc ms : Nat} (hr : va_Run p l e R s m args below meth c H locs cells slots mc ms (F0 m pc ls st0) rest (wQv D w w' H.size a) (va_A w H.size)) (hP : va_P D vwCl (w2 ++ w) H) (hD : va_D A (w2 ++ w)) (hS : va_S A H0 H locs) (hA : ∀ q, H0.size ≤ q → A q)
    (kk : ∀ (H1 : Heap) (locs1 : List Loc), va_P D vwCl (w2 ++ w') H1 → va_D A (w2 ++ w') → va_S A H0 H1 locs1 → W p l e R s m args below meth c H1 locs1 (cells + mc) (slots + ms) Q (F0 m (pc + 3) ls rest)) : W p l e R s m args below meth c H locs cells slots Q (F0 m pc ls st0) := by
  have hF := va_A_in (appD_r hD) hS hA
  refine va_callv hr hS (fun q _ h => hF q h) hF (fun u t H1 locs1 ht _ _ hB _ hk1 hS1 => ?_)
  obtain ⟨j1, j2⟩ := join_r hP hD hk1 hF (ht ▸ hB.1) hB.2
  exact kk H1 locs1 j1 j2 hS1
theorem xr_i {v : Int32} {D : va_G} {w w' w2 : va_W} {A : Nat → Prop} {H0 : Heap} {mc ms : Nat} (hr : va_Run p l e R s m args below meth c H locs cells slots mc ms (F0 m pc ls st0) rest (wQi v D w w' H.size a) (va_A w H.size)) (hP : va_P D vwCl (w ++ w2) H) (hD : va_D A (w ++ w2)) (hS : va_S A H0 H locs) (hA : ∀ q, H0.size ≤ q → A q)
    (kk : ∀ (H1 : Heap) (locs1 : List Loc), va_P D vwCl (w' ++ w2) H1 → va_D A (w' ++ w2) → va_S A H0 H1 locs1 → W p l e R s m args below meth c H1 locs1 (cells + mc) (slots + ms) Q (F0 m (pc + 3) ls (.int v :: rest))) : W p l e R s m args below meth c H locs cells slots Q (F0 m pc ls st0) := by
  have hF := va_A_in (appD_l hD) hS hA
  refine va_calli hr hS (fun q _ h => hF q h) hF (fun z u t H1 locs1 ht _ hp hB _ hk1 hS1 => ?_)
  obtain ⟨j1, j2⟩ := join_l hP hD hk1 hF (ht ▸ hB.1) hB.2
  rw [hp]
  exact kk H1 locs1 j1 j2 hS1
theorem xr_l {v : Int64} {D : va_G} {w w' w2 : va_W} {A : Nat → Prop} {H0 : Heap} {mc ms : Nat} (hr : va_Run p l e R s m args below meth c H locs cells slots mc ms (F0 m pc ls st0) rest (wQl v D w w' H.size a) (va_A w H.size)) (hP : va_P D vwCl (w ++ w2) H) (hD : va_D A (w ++ w2)) (hS : va_S A H0 H locs) (hA : ∀ q, H0.size ≤ q → A q)
    (kk : ∀ (H1 : Heap) (locs1 : List Loc), va_P D vwCl (w' ++ w2) H1 → va_D A (w' ++ w2) → va_S A H0 H1 locs1 → W p l e R s m args below meth c H1 locs1 (cells + mc) (slots + ms) Q (F0 m (pc + 3) ls (.long v :: rest))) : W p l e R s m args below meth c H locs cells slots Q (F0 m pc ls st0) := by
  have hF := va_A_in (appD_l hD) hS hA
  refine va_calll hr hS (fun q _ h => hF q h) hF (fun z u t H1 locs1 ht _ hp hB _ hk1 hS1 => ?_)
  obtain ⟨j1, j2⟩ := join_l hP hD hk1 hF (ht ▸ hB.1) hB.2
  rw [hp]
  exact kk H1 locs1 j1 j2 hS1
/-- act, of the first object -/
theorem xr_p {v : Int64} {D : va_G} {w w2 : va_W} {g ca : Nat → Nat} {x' : XS} {A : Nat → Prop} {H0 : Heap} {mc ms : Nat} (hr : va_Run p l e R s m args below meth c H locs cells slots mc ms (F0 m pc ls st0) rest (pQl v D w g ca x' H.size a) (va_A w H.size)) (hP : va_P D vwCl (w ++ w2) H) (hD : va_D A (w ++ w2)) (hS : va_S A H0 H locs) (hA : ∀ q, H0.size ≤ q → A q)
    (kk : ∀ (g' : Nat → Nat) (H1 : Heap) (locs1 : List Loc), g' 0 = g 0 → va_P D vwCl (wX g' ca x' ++ w2) H1 → va_D A (wX g' ca x' ++ w2) → va_S A H0 H1 locs1 → W p l e R s m args below meth c H1 locs1 (cells + mc) (slots + ms) Q (F0 m (pc + 3) ls (.long v :: rest))) : W p l e R s m args below meth c H locs cells slots Q (F0 m pc ls st0) := by
  have hF := va_A_in (appD_l hD) hS hA
  refine va_calll hr hS (fun q _ h => hF q h) hF (fun z u t H1 locs1 ht _ hp hB _ hk1 hS1 => ?_)
  obtain ⟨j1, j2⟩ := join_l hP hD hk1 hF (ht ▸ hB.1) hB.2
  rw [hp.1]
  exact kk u H1 locs1 hp.2 j1 j2 hS1
/-- act, of the second -/
theorem mr_p {v : Int64} {D : va_G} {w w2 : va_W} {g ca : Nat → Nat} {x' : XS} {A : Nat → Prop} {H0 : Heap} {mc ms : Nat} (hr : va_Run p l e R s m args below meth c H locs cells slots mc ms (F0 m pc ls st0) rest (pQl v D w g ca x' H.size a) (va_A w H.size)) (hP : va_P D vwCl (w2 ++ w) H) (hD : va_D A (w2 ++ w)) (hS : va_S A H0 H locs) (hA : ∀ q, H0.size ≤ q → A q)
    (kk : ∀ (g' : Nat → Nat) (H1 : Heap) (locs1 : List Loc), g' 0 = g 0 → va_P D vwCl (w2 ++ wX g' ca x') H1 → va_D A (w2 ++ wX g' ca x') → va_S A H0 H1 locs1 → W p l e R s m args below meth c H1 locs1 (cells + mc) (slots + ms) Q (F0 m (pc + 3) ls (.long v :: rest))) : W p l e R s m args below meth c H locs cells slots Q (F0 m pc ls st0) := by
  have hF := va_A_in (appD_r hD) hS hA
  refine va_calll hr hS (fun q _ h => hF q h) hF (fun z u t H1 locs1 ht _ hp hB _ hk1 hS1 => ?_)
  obtain ⟨j1, j2⟩ := join_r hP hD hk1 hF (ht ▸ hB.1) hB.2
  rw [hp.1]
  exact kk u H1 locs1 hp.2 j1 j2 hS1
theorem lv_boolI (hx : p.tables.exec = Jvm.exec) (hb : c.code = cc) {x y : Int32} (d1 : decode cc pc = .ok (.if_icmp .ne 7, 3)) (d2 : decode cc (pc + 3) = .ok (.iconst 1, 1)) (d3 : decode cc (pc + 3 + 1) = .ok (.goto 4, 3)) (d4 : decode cc (pc + 7) = .ok (.iconst 0, 1))
    (k : W p l e R s m args below meth c H locs cells slots Q (F0 m (pc + 8) ls (.int (b2i (decide (x = y))) :: rest))) : W p l e R s m args below meth c H locs cells slots Q (F0 m pc ls (.int y :: .int x :: rest)) := by
  refine lv_icmp_ne (tgt := pc + 7) hx hb d1 (by omega) (fun h => ?_) (fun h => ?_)
  · refine lv_iconst (v := 0) hx hb d4 (by decide) ?_
    rw [decide_eq_false h] at k
    exact k
  · refine lv_iconst (v := 1) hx hb d2 (by decide) ?_
    refine lv_goto (tgt := pc + 8) hx hb d3 (by omega) ?_
    rw [decide_eq_true h] at k
    exact k
theorem lgc (x y : Int64) : (y < x ∧ lg_cmp x y = 1) ∨ (x = y ∧ ¬ y < x ∧ lg_cmp x y = 0) ∨ (¬ y < x ∧ ¬ x = y ∧ lg_cmp x y = -1) := by
  unfold lg_cmp
  by_cases h1 : y < x
  · exact Or.inl ⟨h1, if_pos h1⟩
  · by_cases h2 : x = y
    · exact Or.inr (Or.inl ⟨h2, h1, by rw [if_neg h1, if_pos h2]⟩)
    · exact Or.inr (Or.inr ⟨h1, h2, by rw [if_neg h1, if_neg h2]⟩)
theorem lv_lc_eq (hx : p.tables.exec = Jvm.exec) (hb : c.code = cc) {x y : Int64} {off : Int} {tgt : Nat} (hdg : decode cc pc = .ok (.lcmp, 1)) (hd2 : decode cc (pc + 1) = .ok (.ifCond .eq off, 3)) (ht : ((pc + 1 : Nat) : Int) + off = (tgt : Int))
    (kt : x = y → W p l e R s m args below meth c H locs cells slots Q (F0 m tgt ls rest)) (kf : ¬ x = y → W p l e R s m args below meth c H locs cells slots Q (F0 m (pc + 1 + 3) ls rest)) : W p l e R s m args below meth c H locs cells slots Q (F0 m pc ls (.long y :: .long x :: rest)) := by
  refine W.lcmp hx hb hdg (lv_if_eq (tgt := tgt) hx hb hd2 ht (fun h => ?_) (fun h => ?_))
  · rcases lgc x y with ⟨_, q⟩ | ⟨q1, _, _⟩ | ⟨_, _, q⟩
    · rw [q] at h; exact absurd h (by decide)
    · exact kt q1
    · rw [q] at h; exact absurd h (by decide)
  · refine kf (fun q => ?_)
    rcases lgc x y with ⟨q1, _⟩ | ⟨_, _, q1⟩ | ⟨_, q1, _⟩
    · rw [q] at q1; exact absurd q1 (Int64.lt_irrefl)
    · exact h q1
    · exact q1 q
theorem lv_lc_ne (hx : p.tables.exec = Jvm.exec) (hb : c.code = cc) {x y : Int64} {off : Int} {tgt : Nat} (hdg : decode cc pc = .ok (.lcmp, 1)) (hd2 : decode cc (pc + 1) = .ok (.ifCond .ne off, 3)) (ht : ((pc + 1 : Nat) : Int) + off = (tgt : Int))
    (kt : ¬ x = y → W p l e R s m args below meth c H locs cells slots Q (F0 m tgt ls rest)) (kf : x = y → W p l e R s m args below meth c H locs cells slots Q (F0 m (pc + 1 + 3) ls rest)) : W p l e R s m args below meth c H locs cells slots Q (F0 m pc ls (.long y :: .long x :: rest)) := by
  refine W.lcmp hx hb hdg (lv_if_ne (tgt := tgt) hx hb hd2 ht (fun h => ?_) (fun h => ?_))
  · refine kt (fun q => ?_)
    rcases lgc x y with ⟨q1, _⟩ | ⟨_, _, q1⟩ | ⟨_, q1, _⟩
    · rw [q] at q1; exact absurd q1 (Int64.lt_irrefl)
    · exact h q1
    · exact q1 q
  · rcases lgc x y with ⟨_, q⟩ | ⟨q1, _, _⟩ | ⟨_, _, q⟩
    · exact absurd h (by rw [q]; decide)
    · exact kf q1
    · exact absurd h (by rw [q]; decide)
theorem lv_lc_gt (hx : p.tables.exec = Jvm.exec) (hb : c.code = cc) {x y : Int64} {off : Int} {tgt : Nat} (hdg : decode cc pc = .ok (.lcmp, 1)) (hd2 : decode cc (pc + 1) = .ok (.ifCond .gt off, 3)) (ht : ((pc + 1 : Nat) : Int) + off = (tgt : Int))
    (kt : y < x → W p l e R s m args below meth c H locs cells slots Q (F0 m tgt ls rest)) (kf : ¬ y < x → W p l e R s m args below meth c H locs cells slots Q (F0 m (pc + 1 + 3) ls rest)) : W p l e R s m args below meth c H locs cells slots Q (F0 m pc ls (.long y :: .long x :: rest)) := by
  refine W.lcmp hx hb hdg (lv_if_gt (tgt := tgt) hx hb hd2 ht (fun h => ?_) (fun h => ?_))
  · rcases lgc x y with ⟨q, _⟩ | ⟨_, _, q⟩ | ⟨_, _, q⟩
    · exact kt q
    · rw [q] at h; exact absurd h (by decide)
    · rw [q] at h; exact absurd h (by decide)
  · rcases lgc x y with ⟨_, q⟩ | ⟨_, q, _⟩ | ⟨q, _, _⟩
    · exact absurd (by rw [q]; decide) h
    · exact kf q
    · exact kf q
theorem lv_lc_le (hx : p.tables.exec = Jvm.exec) (hb : c.code = cc) {x y : Int64} {off : Int} {tgt : Nat} (hdg : decode cc pc = .ok (.lcmp, 1)) (hd2 : decode cc (pc + 1) = .ok (.ifCond .le off, 3)) (ht : ((pc + 1 : Nat) : Int) + off = (tgt : Int))
    (kt : ¬ y < x → W p l e R s m args below meth c H locs cells slots Q (F0 m tgt ls rest)) (kf : y < x → W p l e R s m args below meth c H locs cells slots Q (F0 m (pc + 1 + 3) ls rest)) : W p l e R s m args below meth c H locs cells slots Q (F0 m pc ls (.long y :: .long x :: rest)) := by
  refine W.lcmp hx hb hdg (lv_if_le (tgt := tgt) hx hb hd2 ht (fun h => ?_) (fun h => ?_))
  · rcases lgc x y with ⟨_, q⟩ | ⟨_, q, _⟩ | ⟨q, _, _⟩
    · rw [q] at h; exact absurd h (by decide)
    · exact kt q
    · exact kt q
  · rcases lgc x y with ⟨q, _⟩ | ⟨_, _, q⟩ | ⟨_, _, q⟩
    · exact kf q
    · exact absurd (by rw [q]; decide) h
    · exact absurd (by rw [q]; decide) h
theorem wd_i {v : Int32} {x' : XS} {D : va_G} {g ca : Nat → Nat} {w : va_W} {A : Nat → Prop} {H0 : Heap} {mc ms : Nat} (hr : vx_Run p l e R s m args below meth c H locs cells slots mc ms (F0 m pc ls st0) rest (tQi (0, v, x') D w (wX g ca) H.size a) (tX 0 x' D w (wX g ca) H.size) (va_A w H.size)) (hD : va_D A w) (hS : va_S A H0 H locs) (hA : ∀ q, H0.size ≤ q → A q)
    (kk : ∀ (H1 : Heap) (locs1 : List Loc), va_P D vwCl (wX g ca x') H1 → va_D A (wX g ca x') → va_S A H0 H1 locs1 → W p l e R s m args below meth c H1 locs1 (cells + mc) (slots + ms) Q (F0 m (pc + 3) ls (.int v :: rest))) : W p l e R s m args below meth c H locs cells slots Q (F0 m pc ls st0) :=
  wc_i (r := (0, v, x')) hr hD hS hA (fun _ _ _ _ h => absurd h (show ¬ ((0 : Nat) = 1 ∨ (0 : Nat) = 2 ∨ (0 : Nat) = 3) by decide)) (fun H locs _ hP hD hS => kk H locs hP hD hS)
theorem ri_w {v : Int32} {w : va_W} {A : Nat → Prop} {mc ms : Nat} (hx : p.tables.exec = Jvm.exec) (hb : c.code = cc) (hr : meth.sig.returnType = some .boolean) (hA : va_A w s.heap.size = A) (hv : v = 1) (hS : va_S A s.heap H locs) (h1 : cells ≤ mc) (h2 : slots ≤ ms) (hdg : decode cc pc = .ok (.ireturn, 1)) (hlocks : meth.locks = false) :
    W p l e R s m args below meth c H locs cells slots (MQ below (oQ w s.heap.size) args s mc ms A) (F0 m pc ls [.int v]) := by
  subst hA
  exact W.widen h1 h2 (W.zret (v := v) hx hb hr (nz_b (Or.inr hv)) (fun t ht _ => ⟨⟨v, (), rfl, hv, trivial⟩, hS.F ht⟩) hS.2.2 hdg hlocks)
end LBR
/-! the script, by the law's method cell -/
def sP (b L : Nat) (xs : Nat → Int32) (k : Int32) : Array Value → State → Prop := va_Pc [.ref b, .int k] (fun U => va_X b L xs U U.heap ∧ b < U.heap.size)
theorem sP_blind {b L : Nat} {xs : Nat → Int32} {k : Int32} : FrameBlind (sP b L xs k) := by
  intro a U g mk h
  obtain ⟨h1, h2, h3⟩ := h
  exact ⟨h1, va_X.moved (u := U) (U := U.calling g mk a) (Vm.Alike.refl U.vm) h2, h3⟩
theorem sP_S {s : State} {H : Heap} {locs : List Loc} {A : Nat → Prop} {b L : Nat} {xs : Nat → Int32} {k : Int32} (hX : va_X b L xs s s.heap) (hbl : b < s.heap.size) (hbA : ¬ A b) (hS : va_S A s.heap H locs) : PreS s H (sP b L xs k) [.ref b, .int k] :=
  ⟨sP_blind, fun U hU hW => ⟨rfl, by rw [hU]; exact va_X.moved hW.alike (va_X.kept hX (hS.2.1 b hbl hbA)), by rw [hU]; exact Nat.lt_of_lt_of_le hbl hS.1⟩⟩
def cl (xs : Nat → Int32) (L e : Nat) : Int32 := if e < L then xs e else 7919 * (nI e + 2729) * (nI e + 461)
