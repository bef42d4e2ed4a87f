/-! setting up a projector: a cell comes to the world's end, the addresses grow by one -/
def pjG (g : Nat → Nat) (n q : Nat) : Nat → Nat := fun k => if k = 15 + n then q else g k
def pjX (x : XS) (a1 a2 a3 a4 a5 v : Int32) : XS := (fun a => if a = 0 then upd (x.1 0) 2 v else if a = 20 then upd (x.1 20) x.2.2 a1 else if a = 21 then upd (x.1 21) x.2.2 a2 else if a = 22 then upd (x.1 22) x.2.2 a3 else if a = 23 then upd (x.1 23) x.2.2 a4 else if a = 24 then upd (x.1 24) x.2.2 a5 else if a = 25 then upd (x.1 25) x.2.2 (-1) else if a = 26 then upd (x.1 26) x.2.2 (-1) else if a = 27 then upd (x.1 27) x.2.2 0 else if a = 28 then upd (x.1 28) x.2.2 0 else if a = 29 then upd (x.1 29) x.2.2 0 else x.1 a, x.2.1, x.2.2 + 1)
def pjC (q : Nat) (a1 a2 a3 a4 a5 : Int32) : Nat × va_E := (q, .inr (0, [.int a1, .int a2, .int a3, .int a4, .int a5, .int (-1), .int (-1), .int 0, .int 0, .int 0]))
theorem pjG_lt {g : Nat → Nat} {n q k : Nat} (h : k < 15 + n) : pjG g n q k = g k := by
  unfold pjG
  rw [if_neg (by omega)]
theorem sp_e {α : Type} {j n : Nat} {B : Option α} {r : α} (hs : (if j = n then B else none) = some r) : j = n ∧ B = some r := by
  by_cases h : j = n
  · rw [if_pos h] at hs; exact ⟨h, hs⟩
  · rw [if_neg h] at hs; cases hs
theorem pj_world {g : Nat → Nat} {ca : Nat → ClassId} {x : XS} {q k : Nat} {a1 a2 a3 a4 a5 v : Int32} (hn : k = x.2.2) :
    ((wX g ca x ++ [pjC q a1 a2 a3 a4 a5]).set 5 (g 2, .inl (ca 3, 10, .inr (.inr (.inr (.inr (va_up (plX g x.2.2) k (some q)))))))).set 0 (g 0, .inr (4, (fsX g x).set 2 (.int v))) = wX (pjG g x.2.2 q) ca (pjX x a1 a2 a3 a4 a5 v) := by
  subst hn
  have e2 : (pjX x a1 a2 a3 a4 a5 v).2.2 = x.2.2 + 1 := rfl
  have ep : plX (pjG g x.2.2 q) (x.2.2 + 1) = va_up (plX g x.2.2) x.2.2 (some q) := by
    funext j
    unfold plX va_up adP
    by_cases h : j = x.2.2
    · subst h
      simp [pjG]
    · by_cases h2 : j < x.2.2
      · rw [if_pos (by omega), if_neg h, pjG_lt (by omega)]
        exact (if_pos h2).symm
      · rw [if_neg (by omega), if_neg h]
        exact (if_neg h2).symm
  have es : plS (pjG g x.2.2 q) = plS g := by
    funext j
    unfold plS adS
    by_cases h : j < 4
    · rw [if_pos h, if_pos h, pjG_lt (by omega)]
    · rw [if_neg h, if_neg h]
  have ef : wXf (pjG g x.2.2 q) ca (pjX x a1 a2 a3 a4 a5 v) = ((wXf g ca x).set 5 (g 2, .inl (ca 3, 10, .inr (.inr (.inr (.inr (va_up (plX g x.2.2) x.2.2 (some q)))))))).set 0 (g 0, .inr (4, (fsX g x).set 2 (.int v))) := by
    unfold wXf
    rw [e2, ep, es]
    have k0 : ∀ k, k < 15 → pjG g x.2.2 q k = g k := fun k h => pjG_lt (by omega)
    simp only [fsX, k0 0 (by decide), k0 1 (by decide), k0 2 (by decide), k0 3 (by decide), k0 4 (by decide), k0 5 (by decide), k0 6 (by decide), k0 7 (by decide), k0 8 (by decide), k0 9 (by decide), k0 10 (by decide)]
    rfl
  have e3 : wXs (pjG g x.2.2 q) (pjX x a1 a2 a3 a4 a5 v) = wXs g x := by
    unfold wXs
    apply List.map_congr_left
    intro j hj
    have h : j < 4 := List.mem_range.mp hj
    have e : adS (pjG g x.2.2 q) j = adS g j := pjG_lt (by omega)
    rw [e]
    rfl
  have e4 : wXp (pjG g x.2.2 q) (pjX x a1 a2 a3 a4 a5 v) = wXp g x ++ [pjC q a1 a2 a3 a4 a5] := by
    unfold wXp
    rw [e2, List.range_succ, List.map_append]
    congr 1
    · apply List.map_congr_left
      intro j hj
      have h : j < x.2.2 := List.mem_range.mp hj
      have h2 : j ≠ x.2.2 := by omega
      have e : adP (pjG g x.2.2 q) j = adP g j := pjG_lt (by omega)
      rw [e]
      simp [fsP, pjX, upd, h2]
    · have e : adP (pjG g x.2.2 q) x.2.2 = q := by simp [adP, pjG]
      simp [e, pjC, fsP, pjX, upd]
  unfold wX
  rw [ef, e3, e4, List.append_assoc, List.append_assoc, List.set_append_left _ _ (by simp [wXf]), List.set_append_left _ _ (by simp [wXf])]
def tQp (r : Nat × Int32 × XS) (D : va_G) (w : va_W) (g : Nat → Nat) (ca : Nat → ClassId) (sz : Nat) : Array Value → State → Outcome → State → Prop := va_Qi (S := Nat → Nat) (fun z g' => r.1 = 0 ∧ z = r.2.1 ∧ g' 0 = g 0) (fun g' t => va_P D vwCl (wX g' ca r.2.2) t.heap ∧ va_D (va_A w sz) (wX g' ca r.2.2)) (va_A w sz)
section PJR
variable {p : Program} {l : Launch} {e : Env} {R : Room} {s : State} {m : MethodId} {args : Array Value} {below : List Frame} {meth : Method} {c : Code} {H : Heap} {locs : List Loc} {cells slots : Nat} {Q : State → Prop}
variable {cc : ByteArray} {pc : Nat} {ls : Array Slot} {rest st0 : List Value} {a : Array Value}
theorem tp_i {v : Int32} {xe : XS} {r : Nat × Int32 × XS} {g g' : Nat → Nat} {ca : Nat → ClassId} {D : va_G} {w : va_W} {A : Nat → Prop} {mc ms : Nat} {XC : String → State → State → Prop} (hg : g' 0 = g 0) (hx : p.tables.exec = Jvm.exec) (hb : c.code = cc) (hr : meth.sig.returnType = some .int) (hA : va_A w s.heap.size = A) (hv : some (0, v, xe) = some r) (hP : va_P D vwCl (wX g' ca xe) H) (hD : va_D A (wX g' ca xe)) (hS : va_S A s.heap H locs) (h1 : cells ≤ mc) (h2 : slots ≤ ms) (hdg : decode cc pc = .ok (.ireturn, 1)) (hlocks : meth.locks = false) :
    W p l e R s m args below meth c H locs cells slots (vx_MQ below (tQp r D w g ca s.heap.size) XC args s mc ms A) (F0 m pc ls [.int v]) := by
  subst hA
  cases hv
  exact W.widen h1 h2 (vx_ret (W.iret (v := v) hx hb hr (fun t ht _ => ⟨⟨v, g', rfl, ⟨rfl, rfl, hg⟩, by rw [ht]; exact hP, hD⟩, hS.F ht⟩) hS.2.2 hdg hlocks))
end PJR
