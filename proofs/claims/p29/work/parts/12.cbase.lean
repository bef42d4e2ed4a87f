/-! worlds that grow at their end: constructors -/
theorem la_get {α : Type} {w L : List α} {k : Nat} {c : α} (h : L[k]? = some c) : (w ++ L)[w.length + k]? = some c := by
  rw [List.getElem?_append_right (Nat.le_add_right _ _), Nat.add_sub_cancel_left]
  exact h
theorem la_set {α : Type} {w L : List α} {k : Nat} {c : α} : (w ++ L).set (w.length + k) c = w ++ L.set k c := by
  rw [List.set_append_right _ _ (Nat.le_add_right _ _), Nat.add_sub_cancel_left]
section CBR
variable {p : Program} {l : Launch} {e : Env} {R : Room} {s : State} {m : MethodId} {args : Array Value} {below : List Frame} {meth : Method} {c : Code} {H : Heap} {locs : List Loc} {cells slots : Nat} {Q : State → Prop}
variable {cc : ByteArray} {pc : Nat} {ls : Array Slot} {rest : List Value} {D : va_G} {ca : Nat → ClassId} {A : Nat → Prop} {ws : va_W} {H0 : Heap}
theorem cA_same {cl : List vw_C} {tys : List (ClassId × FieldType)} {cA cB : ClassId} {ty : FieldType} {t : Nat} (h1 : va_K D cl (tys ++ [(cA, ty)]) s) (h2 : tys[t]? = some (cB, ty)) : cA = cB := by
  have e1 : (tys ++ [(cA, ty)])[tys.length]? = some (cA, ty) := by simp
  have hl := (List.getElem?_eq_some_iff.mp h2).1
  have e2 : (tys ++ [(cA, ty)])[t]? = some (cB, ty) := by rw [List.getElem?_append_left hl]; exact h2
  have r1 := (h1.2 _ _ e1).2
  have r2 := (h1.2 _ _ e2).2
  unfold va_RA at r1 r2
  cases ty with
  | object C =>
    obtain ⟨_, _, _, _, _, f1⟩ := r1
    obtain ⟨_, _, _, _, _, f2⟩ := r2
    exact Option.some.inj (f1.symm.trans f2)
  | _ => exact Option.some.inj (r1.symm.trans r2)
theorem nw_i (hx : p.tables.exec = Jvm.exec) (hb : c.code = cc) (harr : (Cond.arrayClass .int).before args s = true) (hK : va_K D vwCl (tyA ca) s) (hP : va_P D vwCl ws H) (hD : va_D A ws) (hS : va_S A H0 H locs) (hA : ∀ q, H0.size ≤ q → A q)
    {n : Int32} {N : Nat} (hn : ¬ n < 0) (hN : n.toNatClampNeg = N) (hbytes : N * componentBytes .int ≤ 536870912) (hcells : cells + 1 ≤ R.cells) (hslots : slots + N ≤ R.slots) (hdg : decode cc pc = .ok (.newarray .int, 2))
    (kk : ∀ (q : Nat) (H1 : Heap), va_P D vwCl (ws ++ [(q, .inl (ca 0, N, .inl (fun _ => 0)))]) H1 → va_D A (ws ++ [(q, .inl (ca 0, N, .inl (fun _ => 0)))]) → va_S A H0 H1 locs →
      W p l e R s m args below meth c H1 locs (cells + 1) (slots + N) Q (F0 m (pc + 2) ls (.ref q :: rest))) : W p l e R s m args below meth c H locs cells slots Q (F0 m pc ls (.int n :: rest)) := by
  refine va_newa (atype := .int) (ty := .int) (a0 := (N, .inl (fun _ => 0))) hx hb harr rfl hK hP hD hS hA (fun _ => rfl) hn hN hbytes hcells hslots hdg (fun q cA H1 hK1 hP hD hS => ?_)
  have h := cA_same (t := 0) hK1 rfl
  subst h
  exact kk q H1 hP hD hS
theorem nw_q {own C : String} {index t : Nat} (ht : (tyA ca)[t]? = some (ca t, .object C)) (hx : p.tables.exec = Jvm.exec) (hb : c.code = cc) (hown : s.vm.findClass own = some m.cls) (hclink : (Cond.classLink own index C).before args s = true) (hover : va_AO C s) (hK : va_K D vwCl (tyA ca) s) (hP : va_P D vwCl ws H) (hD : va_D A ws) (hS : va_S A H0 H locs) (hA : ∀ q, H0.size ≤ q → A q)
    {n : Int32} {N : Nat} (hn : ¬ n < 0) (hN : n.toNatClampNeg = N) (hbytes : N * 4 ≤ 536870912) (hcells : cells + 1 ≤ R.cells) (hslots : slots + N ≤ R.slots) (hdg : decode cc pc = .ok (.anewarray index, 3))
    (kk : ∀ (q : Nat) (H1 : Heap), va_P D vwCl (ws ++ [(q, .inl (ca t, N, .inr (.inr (.inr (.inr (fun _ => none))))))]) H1 → va_D A (ws ++ [(q, .inl (ca t, N, .inr (.inr (.inr (.inr (fun _ => none))))))]) → va_S A H0 H1 locs →
      W p l e R s m args below meth c H1 locs (cells + 1) (slots + N) Q (F0 m (pc + 3) ls (.ref q :: rest))) : W p l e R s m args below meth c H locs cells slots Q (F0 m pc ls (.int n :: rest)) := by
  refine va_newq hx hb hown hclink hover hK hP hD hS hA hn hN hbytes hcells hslots hdg (fun q cA H1 hK1 hP hD hS => ?_)
  have h := cA_same (t := t) hK1 ht
  subst h
  exact kk q H1 hP hD hS
def cQv {S : Type} (D : va_G) (w : va_W) (px : S → Prop) (W' : S → va_W) (sz : Nat) : Array Value → State → Outcome → State → Prop := va_Qv (S := S) px (fun u t => va_P D vwCl (W' u) t.heap ∧ va_D (va_A w sz) (W' u)) (va_A w sz)
theorem wr_s {S : Type} {px : S → Prop} {W' : S → va_W} {w : va_W} {A : Nat → Prop} {mc ms : Nat} {st0 : List Value} {a : Array Value} (hr : va_Run p l e R s m args below meth c H locs cells slots mc ms (F0 m pc ls st0) rest (cQv D w px W' H.size a) (va_A w H.size)) (hD : va_D A w) (hS : va_S A H0 H locs) (hA : ∀ q, H0.size ≤ q → A q)
    (kk : ∀ (u : S) (H1 : Heap) (locs1 : List Loc), va_P D vwCl (W' u) H1 → va_D A (W' u) → va_S A H0 H1 locs1 → px u → W p l e R s m args below meth c H1 locs1 (cells + mc) (slots + ms) Q (F0 m (pc + 3) ls rest)) : W p l e R s m args below meth c H locs cells slots Q (F0 m pc ls st0) :=
  va_callv hr hS (fun q _ h => va_A_in hD hS hA q h) (va_A_in hD hS hA) (fun u t H1 locs1 ht _ hp hB _ _ hS1 =>
    kk u H1 locs1 (ht ▸ hB.1) (hB.2.weaken (fun _ _ _ h => va_A_in hD hS hA _ h)) hS1 hp)
theorem ct_v {S : Type} {px : S → Prop} {W' : S → va_W} {w : va_W} {mc ms : Nat} (u : S) (hp : px u) (hx : p.tables.exec = Jvm.exec) (hb : c.code = cc) (hr : meth.sig.returnType = none) (hA : va_A w s.heap.size = A) (hP : va_P D vwCl (W' u) H) (hD : va_D A (W' u)) (hS : va_S A s.heap H locs) (h1 : cells ≤ mc) (h2 : slots ≤ ms) (hdg : decode cc pc = .ok (.return_, 1)) (hlocks : meth.locks = false) :
    W p l e R s m args below meth c H locs cells slots (MQ below (cQv D w px W' s.heap.size) args s mc ms A) (F0 m pc ls []) := by
  subst hA
  exact W.widen h1 h2 (W.vret hx hb hr (fun t ht _ => ⟨⟨u, rfl, hp, by rw [ht]; exact hP, hD⟩, hS.F ht⟩) hS.2.2 hdg hlocks)
end CBR
