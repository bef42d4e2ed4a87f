/-! methods that return or throw: a result is (0, answer, state) or (k, _, state) with k the exception -/
def exn (k : Nat) : String := if k = 1 then "java/lang/IndexOutOfBoundsException" else if k = 2 then "java/lang/IllegalArgumentException" else "java/lang/IllegalStateException"
def exNames : List String := ["java/lang/RuntimeException", "java/lang/Exception"]
def zz (A : Nat → Prop) (U : State) : Prop := vx_Zq Bundle.tN "UNASSIGNED_STACK" Bundle.steD A U U.heap ∧ vx_Zq Bundle.tN "SUPPRESSED_SENTINEL" Bundle.listD A U U.heap
theorem zz_with {A : Nat → Prop} {u U : State} (hvm : u.vm.Alike U.vm) (hh : U.heap = u.heap) (h : zz A u) : zz A U := by
  obtain ⟨h1, h2⟩ := h
  exact ⟨by rw [hh]; exact vx_Zq.moved hvm h1, by rw [hh]; exact vx_Zq.moved hvm h2⟩
def tP (av : List Value) (D : va_G) (ca : Nat → ClassId) (w : va_W) (sz : Nat) : Array Value → State → Prop := va_Pc av (fun U => U.heap.size = sz ∧ va_P D vwCl w U.heap ∧ cx D ca U ∧ va_D (fun _ => True) w ∧ zz (va_A w sz) U)
theorem tP_blind {av : List Value} {D : va_G} {ca : Nat → ClassId} {w : va_W} {sz : Nat} : FrameBlind (tP av D ca w sz) := by
  intro a U g mk h
  obtain ⟨h1, h0, h2, h3, h4, h5⟩ := h
  exact ⟨h1, h0, h2, cx.warm (s := U) (U := U.calling g mk a) (State.WarmedH.refl U) h3, h4, zz_with (u := U) (U := U.calling g mk a) (Vm.Alike.refl U.vm) rfl h5⟩
def tQi (r : Nat × Int32 × XS) (D : va_G) (w : va_W) (f : XS → va_W) (sz : Nat) : Array Value → State → Outcome → State → Prop := va_Qi (S := Unit) (fun z _ => r.1 = 0 ∧ z = r.2.1) (wB D w (f r.2.2) sz) (va_A w sz)
def tQl (r : Nat × Int64 × XS) (D : va_G) (w : va_W) (f : XS → va_W) (sz : Nat) : Array Value → State → Outcome → State → Prop := va_Ql (S := Unit) (fun z _ => r.1 = 0 ∧ z = r.2.1) (wB D w (f r.2.2) sz) (va_A w sz)
def tQv (r : Nat × Int32 × XS) (D : va_G) (w : va_W) (f : XS → va_W) (sz : Nat) : Array Value → State → Outcome → State → Prop := va_Qv (S := Unit) (fun _ => r.1 = 0) (wB D w (f r.2.2) sz) (va_A w sz)
def tX (k : Nat) (x : XS) (D : va_G) (w : va_W) (f : XS → va_W) (sz : Nat) : String → State → State → Prop := vx_X (S := Unit) (fun _ => True) (fun E _ t => (k = 1 ∨ k = 2 ∨ k = 3) ∧ E = exn k ∧ wB D w (f x) sz () t) (va_A w sz)
section TRW
variable {p : Program} {l : Launch} {e : Env} {R : Room} {s : State} {m : MethodId} {args : Array Value} {below : List Frame} {meth : Method} {c : Code} {H : Heap} {locs : List Loc} {cells slots : Nat} {Q : State → Prop}
variable {cc : ByteArray} {pc : Nat} {ls : Array Slot} {rest st0 : List Value} {a : Array Value}
theorem tP_V {D : va_G} {ca : Nat → ClassId} {w : va_W} {A : Nat → Prop} {H0 : Heap} (hP : va_P D vwCl w H) (hC : cx D ca s) (hD : va_D A w) (hz : zz A s) (hS : va_S A s.heap H locs) (hA : ∀ q, s.heap.size ≤ q → A q) (q0 : Nat) {b ci : Nat} {fs : List Value} {q : vw_C} {As : List Value} (he : w[q0]? = some (b, .inr (ci, fs))) (hc : vwCl[ci]? = some q) : PreV s H q.1 b (tP (.ref b :: As) D ca w H.size) As :=
  ⟨tP_blind, va_recv hC.1 hP hc he, fun U hU hW => ⟨rfl, by rw [hU], by rw [hU]; exact hP, hC.warm hW, hD.weaken (fun _ _ _ _ => trivial), by
    rw [zz, hU]
    exact ⟨(vx_Zq.moved hW.alike (hz.1.kept hS.2.1)).narrow (va_A_in hD hS hA), (vx_Zq.moved hW.alike (hz.2.kept hS.2.1)).narrow (va_A_in hD hS hA)⟩⟩⟩
theorem tt_i {v : Int32} {xe : XS} {r : Nat × Int32 × XS} {f : XS → va_W} {D : va_G} {w : va_W} {A : Nat → Prop} {mc ms : Nat} {XC : String → State → State → Prop} (hx : p.tables.exec = Jvm.exec) (hb : c.code = cc) (hr : meth.sig.returnType = some .int) (hA : va_A w s.heap.size = A) (hv : some (0, v, xe) = some r) (hP : va_P D vwCl (f xe) H) (hD : va_D A (f xe)) (hS : va_S A s.heap H locs) (h1 : cells ≤ mc) (h2 : slots ≤ ms) (hdg : decode cc pc = .ok (.ireturn, 1)) (hlocks : meth.locks = false) :
    W p l e R s m args below meth c H locs cells slots (vx_MQ below (tQi r D w f s.heap.size) XC args s mc ms A) (F0 m pc ls [.int v]) := by
  subst hA
  cases hv
  exact W.widen h1 h2 (vx_ret (W.iret (v := v) hx hb hr (fun t ht _ => ⟨⟨v, (), rfl, ⟨rfl, rfl⟩, by rw [ht]; exact hP, hD⟩, hS.F ht⟩) hS.2.2 hdg hlocks))
theorem tt_z {v : Int32} {xe : XS} {r : Nat × Int32 × XS} {f : XS → va_W} {D : va_G} {w : va_W} {A : Nat → Prop} {mc ms : Nat} {XC : String → State → State → Prop} (hx : p.tables.exec = Jvm.exec) (hb : c.code = cc) (hr : meth.sig.returnType = some .boolean) (hA : va_A w s.heap.size = A) (hz : v = 0 ∨ v = 1) (hv : some (0, v, xe) = some r) (hP : va_P D vwCl (f xe) H) (hD : va_D A (f xe)) (hS : va_S A s.heap H locs) (h1 : cells ≤ mc) (h2 : slots ≤ ms) (hdg : decode cc pc = .ok (.ireturn, 1)) (hlocks : meth.locks = false) :
    W p l e R s m args below meth c H locs cells slots (vx_MQ below (tQi r D w f s.heap.size) XC args s mc ms A) (F0 m pc ls [.int v]) := by
  subst hA
  cases hv
  exact W.widen h1 h2 (vx_ret (W.zret (v := v) hx hb hr (nz_b hz) (fun t ht _ => ⟨⟨v, (), rfl, ⟨rfl, rfl⟩, by rw [ht]; exact hP, hD⟩, hS.F ht⟩) hS.2.2 hdg hlocks))
theorem tt_l {v : Int64} {xe : XS} {r : Nat × Int64 × XS} {f : XS → va_W} {D : va_G} {w : va_W} {A : Nat → Prop} {mc ms : Nat} {XC : String → State → State → Prop} (hx : p.tables.exec = Jvm.exec) (hb : c.code = cc) (hr : meth.sig.returnType = some .long) (hA : va_A w s.heap.size = A) (hv : some (0, v, xe) = some r) (hP : va_P D vwCl (f xe) H) (hD : va_D A (f xe)) (hS : va_S A s.heap H locs) (h1 : cells ≤ mc) (h2 : slots ≤ ms) (hdg : decode cc pc = .ok (.lreturn, 1)) (hlocks : meth.locks = false) :
    W p l e R s m args below meth c H locs cells slots (vx_MQ below (tQl r D w f s.heap.size) XC args s mc ms A) (F0 m pc ls [.long v]) := by
  subst hA
  cases hv
  exact W.widen h1 h2 (vx_ret (W.lret (v := v) hx hb hr (fun t ht _ => ⟨⟨v, (), rfl, ⟨rfl, rfl⟩, by rw [ht]; exact hP, hD⟩, hS.F ht⟩) hS.2.2 hdg hlocks))
theorem tt_v {v : Int32} {xe : XS} {r : Nat × Int32 × XS} {f : XS → va_W} {D : va_G} {w : va_W} {A : Nat → Prop} {mc ms : Nat} {XC : String → State → State → Prop} (hx : p.tables.exec = Jvm.exec) (hb : c.code = cc) (hr : meth.sig.returnType = none) (hA : va_A w s.heap.size = A) (hv : some (0, v, xe) = some r) (hP : va_P D vwCl (f xe) H) (hD : va_D A (f xe)) (hS : va_S A s.heap H locs) (h1 : cells ≤ mc) (h2 : slots ≤ ms) (hdg : decode cc pc = .ok (.return_, 1)) (hlocks : meth.locks = false) :
    W p l e R s m args below meth c H locs cells slots (vx_MQ below (tQv r D w f s.heap.size) XC args s mc ms A) (F0 m pc ls []) := by
  subst hA
  cases hv
  exact W.widen h1 h2 (vx_ret (W.vret hx hb hr (fun t ht _ => ⟨⟨(), rfl, rfl, by rw [ht]; exact hP, hD⟩, hS.F ht⟩) hS.2.2 hdg hlocks))
/-- 'throw new E(text)': the world stays, a new cell comes -/
theorem th_row {α : Type} {z : α} {xe : XS} {r : Nat × α × XS} {f : XS → va_W} {D : va_G} {ca : Nat → ClassId} {w : va_W} {A : Nat → Prop} {mc ms : Nat} {Qc : Array Value → State → Outcome → State → Prop} (k : Nat) (hk : k = 1 ∨ k = 2 ∨ k = 3) {ik is ic : Nat} {text : String}
    (hx : p.tables.exec = Jvm.exec) (hb : c.code = cc) (hl : l.stackTraces = false) (hown : s.vm.findClass RX4 = some m.cls)
    (hk1 : (Cond.classLink RX4 ik (exn k)).before args s = true) (hini : (Cond.initialized (exn k)).before args s = true) (htx : (is, text) ∈ texts) (hC : cx D ca s)
    (hat : ∀ w ∈ (vx_atS RX4 ic (exn k) exNames).filter goodWord, w.before args s = true) (hat2 : ∀ w ∈ (vx_atS RX4 ic (exn k) exNames).filter (fun w => !goodWord w), w ∈ nests)
    (hgood : ∀ w ∈ Cond.classLink RX4 ik (exn k) :: Cond.initialized (exn k) :: vx_atS RX4 ic (exn k) exNames, vx_ot w = true)
    (hz : zz A s) (hA : va_A w s.heap.size = A) (hv : some (k, z, xe) = some r) (hP : va_P D vwCl (f xe) H) (hD : va_D A (f xe)) (hS : va_S A s.heap H locs) (hsize : ls.size = c.maxLocals)
    (d0 : decode cc pc = .ok (.new ik, 3)) (d3 : decode cc (pc + 3) = .ok (.dup, 1)) (d4 : decode cc (pc + 4) = .ok (.ldc is, 2)) (d6 : decode cc (pc + 6) = .ok (.invokespecial ic, 3)) (d9 : decode cc (pc + 9) = .ok (.athrow, 1))
    (hout : ∀ x ∈ c.exceptionTable.toList, False)
    (hRframes : 6 ≤ R.frames) (hRlocals : (rest.map fun v => v.category).sum + 82 ≤ R.locals) (hRcells : cells + 1 ≤ R.cells) (hRslots : slots + 6 ≤ R.slots) (hlocks : meth.locks = false) (hc : cells + 1 ≤ mc) (hs : slots + 6 ≤ ms) :
    W p l e R s m args below meth c H locs cells slots (vx_MQ below Qc (tX r.1 r.2.2 D w f s.heap.size) args s mc ms A) (F0 m pc ls rest) := by
  subst hA
  cases hv
  obtain ⟨sa, hsa⟩ := hC.2.2.1 (is, text) htx
  have hf : Bundle.fit (exn k) = true := by
    rcases hk with rfl | rfl | rfl <;> decide +kernel
  refine vx_throwS (names := exNames) hx hb hl hown hf (by decide +kernel) hk1 hini hsa (vx_hat hat hat2 hC.use) hgood hz.1 hz.2 hS hsize d0 d3 d4 d6 d9 (fun x hx => (hout x hx).elim) hRframes hRlocals hRcells hRslots hlocks (fun t hal h1 h2 => ⟨(), trivial, ⟨hk, rfl, hP.kept (fun j q hq => h2 _ (hP j q hq).lt), hD⟩, ?_⟩) hS.2.2 hc hs
  exact ⟨Nat.le_trans hS.1 h1, fun q h3 h4 => (h2 q (Nat.lt_of_lt_of_le h3 hS.1)).trans (hS.2.1 q h3 h4)⟩
end TRW
theorem xg_1 : ∀ w ∈ (vx_atS RX4 83 (exn 1) exNames).filter (fun w => !goodWord w), w ∈ nests := by decide +kernel
theorem xg_2 : ∀ w ∈ (vx_atS RX4 90 (exn 2) exNames).filter (fun w => !goodWord w), w ∈ nests := by decide +kernel
theorem xg_3 : ∀ w ∈ (vx_atS RX4 112 (exn 3) exNames).filter (fun w => !goodWord w), w ∈ nests := by decide +kernel
theorem xo_1 : ∀ w ∈ Cond.classLink RX4 79 (exn 1) :: Cond.initialized (exn 1) :: vx_atS RX4 83 (exn 1) exNames, vx_ot w = true := by decide +kernel
theorem xo_2 : ∀ w ∈ Cond.classLink RX4 86 (exn 2) :: Cond.initialized (exn 2) :: vx_atS RX4 90 (exn 2) exNames, vx_ot w = true := by decide +kernel
theorem xo_3 : ∀ w ∈ Cond.classLink RX4 108 (exn 3) :: Cond.initialized (exn 3) :: vx_atS RX4 112 (exn 3) exNames, vx_ot w = true := by decide +kernel
