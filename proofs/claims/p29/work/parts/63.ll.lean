/-! the law's loop -/
theorem xr_o {p : Program} {l : Launch} {e : Env} {R : Room} {s : State} {m : MethodId} {args : Array Value} {below : List Frame} {meth : Method} {c : Code} {H : Heap} {locs : List Loc} {cells slots : Nat} {Q : State → Prop} {pc : Nat} {ls : Array Slot} {rest st0 : List Value} {a : Array Value} {w w2 : va_W} {A : Nat → Prop} {H0 : Heap} {mc ms : Nat} (hr : va_Run p l e R s m args below meth c H locs cells slots mc ms (F0 m pc ls st0) rest (oQ w H.size a) (va_A w H.size)) (hD : va_D A (w ++ w2)) (hS : va_S A H0 H locs) (hA : ∀ q, H0.size ≤ q → A q)
    (kk : ∀ (H1 : Heap) (locs1 : List Loc), va_S A H0 H1 locs1 → W p l e R s m args below meth c H1 locs1 (cells + mc) (slots + ms) Q (F0 m (pc + 3) ls (.int 1 :: rest))) : W p l e R s m args below meth c H locs cells slots Q (F0 m pc ls st0) := by
  have hF := va_A_in (appD_l hD) hS hA
  refine va_calli hr hS (fun q _ h => hF q h) hF (fun z u t H1 locs1 ht _ hp hB _ hk1 hS1 => ?_)
  rw [hp]
  exact kk H1 locs1 hS1
theorem cN9 : (Cond.constantLong RL 16 (-9000000000000000)) ∈ wsL_law := by unfold wsL_law wsL_law0; simp only [List.mem_append]; exact Or.inl (Or.inl (Or.inl (by first | exact Or.inl (by decide +kernel) | exact Or.inl (Or.inl (by decide +kernel)) | exact Or.inl (Or.inl (Or.inl (by decide +kernel))) | exact Or.inl (Or.inl (Or.inl (Or.inl (by decide +kernel)))) | exact Or.inl (Or.inl (Or.inl (Or.inl (Or.inl (by decide +kernel))))) | exact Or.inl (Or.inl (Or.inl (Or.inl (Or.inl (Or.inl (by decide +kernel)))))))))
/-- what stays through the law -/
def LC (p : Program) (l : Launch) (s : State) (m : MethodId) (c : Code) (b L : Nat) (xs : Nat → Int32) (D : va_G) (ca : Nat → ClassId) : Prop :=
  p.tables.exec = Jvm.exec ∧ c.code = cL_law ∧ c.maxLocals = 12 ∧ s.vm.findClass RL = some m.cls ∧ (∀ w ∈ wsL_law, w.before #[Value.ref b] s = true) ∧ va_X b L xs s s.heap ∧ b < s.heap.size ∧ cx D ca s ∧ zz (fun q => s.heap.size ≤ q) s ∧ l.stackTraces = false ∧ L ≤ 260
theorem told_0 {a : Int64} {x : XS} {r : Int64 × XS} {v : Int32} (h : Gd x v r) : r.1 = N9 → r.2 = x := h.1
/-- what is kept at the head of the loop -/
def LI (D : va_G) (ca : Nat → ClassId) (s : State) (b k : Nat) (g h : Nat → Nat) (x : XS) (H : Heap) (locs : List Loc) (ls : Array Slot) : Prop :=
  (∃ y, Rel x y) ∧ va_P D vwCl (wX g ca x ++ wX h ca x) H ∧ va_D (fun q => s.heap.size ≤ q) (wX g ca x ++ wX h ca x) ∧ va_S (fun q => s.heap.size ≤ q) s.heap H locs ∧ lv_has ls 12 [(0, .ref (b)), (1, .ref (g 0)), (2, .ref (h 0)), (3, .int (x.1 0 5)), (4, .int (x.1 0 6)), (5, .int (nI k))]
set_option maxHeartbeats 4000000 in
set_option maxRecDepth 100000 in
theorem tail_0 {p : Program} {l : Launch} {e : Env} {s : State} {m : MethodId} {below : List Frame} {meth : Method} {c : Code} {b L : Nat} {xs : Nat → Int32} {D : va_G} {ca : Nat → ClassId} (C : LC p l s m c b L xs D ca) {g h : Nat → Nat} {x x1 : XS} {v : Int32} {z : Int64} {k : Nat} (hk : k < 110) (f5 : x1.1 0 5 = x.1 0 5) (f6 : x1.1 0 6 = x.1 0 6) {H : Heap} {locs : List Loc} {ls : Array Slot} {cells slots : Nat} {Q : State → Prop} (hl : lv_has ls 12 [(0, .ref (b)), (1, .ref (g 0)), (2, .ref (h 0)), (3, .int (x.1 0 5)), (4, .int (x.1 0 6)), (5, .int (nI k)), (6, .int (v)), (7, .long (z))]) (rmc : cells + 200 ≤ room_1.cells) (rms : slots + 2000 ≤ room_1.slots)
    (kk : ∀ (ls : Array Slot), lv_has ls 12 [(0, .ref (b)), (1, .ref (g 0)), (2, .ref (h 0)), (3, .int (x1.1 0 5)), (4, .int (x1.1 0 6)), (5, .int (nI (k + 1)))] → W p l e room_1 s m #[Value.ref b] below meth c H locs cells slots Q (F0 m 25 ls [])) : W p l e room_1 s m #[Value.ref b] below meth c H locs cells slots Q (F0 m 116 ls [.int 0]) := by
  obtain ⟨hx, hb, hml, hown, hts, hX, hbl, hC, hz, hl9, hL⟩ := C
  refine lv_istore (lv' := [(9, .int (0)), (0, .ref (b)), (1, .ref (g 0)), (2, .ref (h 0)), (3, .int (x.1 0 5)), (4, .int (x.1 0 6)), (5, .int (nI k)), (6, .int (v)), (7, .long (z))]) hx hb dL_law_116 hl (by decide) rfl (fun ls hl => ?_)
  refine lv_iload hx hb dL_law_118 (lv_at hl 7 rfl) ?_
  refine lv_bipush (v := 26) hx hb dL_law_120 (by decide) ?_
  refine lv_ishr hx hb dL_law_122 ?_
  refine lv_bipush (v := 14) hx hb dL_law_123 (by decide) ?_
  refine rd_i (va_runS (As := [.int (v >>> (26 &&& 31)), .int (14)]) (rest := []) ⟨hx, hb, hml, hown, hts⟩ (c_L_low l D ca (v >>> (26 &&& 31)) 14 (low_e (by decide))) (va_cwS 2 hts gL_law_L_low rfl rfl rfl (by decide +kernel) ⟨Nat.le_of_ble_eq_true rfl, Nat.le_of_ble_eq_true rfl⟩) (rP_S va_P_nil hC) rfl rfl hl.1 rfl (lv_room (Nat.le_of_ble_eq_true rfl)) dL_law_125 ⟨Nat.le_trans (by omega) rmc, Nat.le_trans (by omega) rms⟩) ?_
  by_cases odd : lw (v >>> (26 &&& 31)) 14 = 0
  · skip
    refine lv_if_ne (tgt := 135) hx hb dL_law_128 (by decide) (fun c9 => absurd odd c9) (fun _ => ?_)
    refine lv_iconst (v := 1) hx hb dL_law_131 (by decide) ?_
    refine lv_goto (tgt := 136) hx hb dL_law_132 (by decide) ?_
    refine lv_istore (lv' := [(10, .int (1)), (9, .int (0)), (0, .ref (b)), (1, .ref (g 0)), (2, .ref (h 0)), (3, .int (x.1 0 5)), (4, .int (x.1 0 6)), (5, .int (nI k)), (6, .int (v)), (7, .long (z))]) hx hb dL_law_136 hl (by decide) rfl (fun ls hl => ?_)
    refine lv_iload hx hb dL_law_138 (lv_at hl 0 rfl) ?_
    refine lv_if_eq (tgt := 158) hx hb dL_law_140 (by decide) (fun c9 => absurd c9 (by decide)) (fun _ => ?_)
    refine lv_iload hx hb dL_law_143 (lv_at hl 8 rfl) ?_
    refine lv_bipush (v := 7) hx hb dL_law_145 (by decide) ?_
    refine lv_ishr hx hb dL_law_147 ?_
    refine lv_bipush (v := 20) hx hb dL_law_148 (by decide) ?_
    refine rd_i (va_runS (As := [.int (v >>> (7 &&& 31)), .int (20)]) (rest := []) ⟨hx, hb, hml, hown, hts⟩ (c_L_low l D ca (v >>> (7 &&& 31)) 20 (low_e (by decide))) (va_cwS 2 hts gL_law_L_low rfl rfl rfl (by decide +kernel) ⟨Nat.le_of_ble_eq_true rfl, Nat.le_of_ble_eq_true rfl⟩) (rP_S va_P_nil hC) rfl rfl hl.1 rfl (lv_room (Nat.le_of_ble_eq_true rfl)) dL_law_150 ⟨Nat.le_trans (by omega) rmc, Nat.le_trans (by omega) rms⟩) ?_
    refine lv_iconst (v := 2) hx hb dL_law_153 (by decide) ?_
    refine lv_isub hx hb dL_law_154 ?_
    refine lv_goto (tgt := 168) hx hb dL_law_155 (by decide) ?_
    refine lv_istore (lv' := [(11, .int ((lw (v >>> (7 &&& 31)) 20) - 2)), (10, .int (1)), (9, .int (0)), (0, .ref (b)), (1, .ref (g 0)), (2, .ref (h 0)), (3, .int (x.1 0 5)), (4, .int (x.1 0 6)), (5, .int (nI k)), (6, .int (v)), (7, .long (z))]) hx hb dL_law_168 hl (by decide) rfl (fun ls hl => ?_)
    refine lv_iload hx hb dL_law_170 (lv_at hl 2 rfl) ?_
    refine lv_if_ne (tgt := 179) hx hb dL_law_172 (by decide) (fun c9 => absurd c9 (by decide)) (fun _ => ?_)
    refine lv_iload_n hx hb dL_law_175 rfl (lv_at hl 6 rfl) ?_
    refine lv_goto (tgt := 205) hx hb dL_law_176 (by decide) ?_
    rw [← f5]
    refine lv_istore_n (lv' := [(3, .int (x1.1 0 5)), (11, .int ((lw (v >>> (7 &&& 31)) 20) - 2)), (10, .int (1)), (9, .int (0)), (0, .ref (b)), (1, .ref (g 0)), (2, .ref (h 0)), (4, .int (x.1 0 6)), (5, .int (nI k)), (6, .int (v)), (7, .long (z))]) hx hb dL_law_205 rfl hl (by decide) rfl (fun ls hl => ?_)
    refine lv_iload hx hb dL_law_206 (lv_at hl 3 rfl) ?_
    refine lv_if_ne (tgt := 216) hx hb dL_law_208 (by decide) (fun c9 => absurd c9 (by decide)) (fun _ => ?_)
    refine lv_iload hx hb dL_law_211 (lv_at hl 7 rfl) ?_
    refine lv_goto (tgt := 243) hx hb dL_law_213 (by decide) ?_
    rw [← f6]
    refine lv_istore (lv' := [(4, .int (x1.1 0 6)), (3, .int (x1.1 0 5)), (11, .int ((lw (v >>> (7 &&& 31)) 20) - 2)), (10, .int (1)), (9, .int (0)), (0, .ref (b)), (1, .ref (g 0)), (2, .ref (h 0)), (5, .int (nI k)), (6, .int (v)), (7, .long (z))]) hx hb dL_law_243 hl (by decide) rfl (fun ls hl => ?_)
    refine lv_iinc (v := nI (k + 1)) (lv' := [(5, .int (nI (k + 1))), (4, .int (x1.1 0 6)), (3, .int (x1.1 0 5)), (11, .int ((lw (v >>> (7 &&& 31)) 20) - 2)), (10, .int (1)), (9, .int (0)), (0, .ref (b)), (1, .ref (g 0)), (2, .ref (h 0)), (6, .int (v)), (7, .long (z))]) hx hb dL_law_245 hl (k := 8) rfl (nI_1 k) (by decide) rfl (fun ls hl => ?_)
    refine lv_goto (tgt := 25) hx hb dL_law_248 (by decide) ?_
    exact kk ls (lv_sub hl [6, 7, 8, 2, 1, 0] rfl)
  · skip
    refine lv_if_ne (tgt := 135) hx hb dL_law_128 (by decide) (fun _ => ?_) (fun c9 => absurd c9 odd)
    refine lv_iconst (v := 0) hx hb dL_law_135 (by decide) ?_
    refine lv_istore (lv' := [(10, .int (0)), (9, .int (0)), (0, .ref (b)), (1, .ref (g 0)), (2, .ref (h 0)), (3, .int (x.1 0 5)), (4, .int (x.1 0 6)), (5, .int (nI k)), (6, .int (v)), (7, .long (z))]) hx hb dL_law_136 hl (by decide) rfl (fun ls hl => ?_)
    refine lv_iload hx hb dL_law_138 (lv_at hl 0 rfl) ?_
    refine lv_if_eq (tgt := 158) hx hb dL_law_140 (by decide) (fun _ => ?_) (fun c9 => absurd c9 (by decide))
    refine lv_iload hx hb dL_law_158 (lv_at hl 8 rfl) ?_
    refine lv_bipush (v := 7) hx hb dL_law_160 (by decide) ?_
    refine lv_ishr hx hb dL_law_162 ?_
    refine lv_bipush (v := 16) hx hb dL_law_163 (by decide) ?_
    refine rd_i (va_runS (As := [.int (v >>> (7 &&& 31)), .int (16)]) (rest := []) ⟨hx, hb, hml, hown, hts⟩ (c_L_low l D ca (v >>> (7 &&& 31)) 16 (low_e (by decide))) (va_cwS 2 hts gL_law_L_low rfl rfl rfl (by decide +kernel) ⟨Nat.le_of_ble_eq_true rfl, Nat.le_of_ble_eq_true rfl⟩) (rP_S va_P_nil hC) rfl rfl hl.1 rfl (lv_room (Nat.le_of_ble_eq_true rfl)) dL_law_165 ⟨Nat.le_trans (by omega) rmc, Nat.le_trans (by omega) rms⟩) ?_
    refine lv_istore (lv' := [(11, .int (lw (v >>> (7 &&& 31)) 16)), (10, .int (0)), (9, .int (0)), (0, .ref (b)), (1, .ref (g 0)), (2, .ref (h 0)), (3, .int (x.1 0 5)), (4, .int (x.1 0 6)), (5, .int (nI k)), (6, .int (v)), (7, .long (z))]) hx hb dL_law_168 hl (by decide) rfl (fun ls hl => ?_)
    refine lv_iload hx hb dL_law_170 (lv_at hl 2 rfl) ?_
    refine lv_if_ne (tgt := 179) hx hb dL_law_172 (by decide) (fun c9 => absurd c9 (by decide)) (fun _ => ?_)
    refine lv_iload_n hx hb dL_law_175 rfl (lv_at hl 6 rfl) ?_
    refine lv_goto (tgt := 205) hx hb dL_law_176 (by decide) ?_
    rw [← f5]
    refine lv_istore_n (lv' := [(3, .int (x1.1 0 5)), (11, .int (lw (v >>> (7 &&& 31)) 16)), (10, .int (0)), (9, .int (0)), (0, .ref (b)), (1, .ref (g 0)), (2, .ref (h 0)), (4, .int (x.1 0 6)), (5, .int (nI k)), (6, .int (v)), (7, .long (z))]) hx hb dL_law_205 rfl hl (by decide) rfl (fun ls hl => ?_)
    refine lv_iload hx hb dL_law_206 (lv_at hl 3 rfl) ?_
    refine lv_if_ne (tgt := 216) hx hb dL_law_208 (by decide) (fun c9 => absurd c9 (by decide)) (fun _ => ?_)
    refine lv_iload hx hb dL_law_211 (lv_at hl 7 rfl) ?_
    refine lv_goto (tgt := 243) hx hb dL_law_213 (by decide) ?_
    rw [← f6]
    refine lv_istore (lv' := [(4, .int (x1.1 0 6)), (3, .int (x1.1 0 5)), (11, .int (lw (v >>> (7 &&& 31)) 16)), (10, .int (0)), (9, .int (0)), (0, .ref (b)), (1, .ref (g 0)), (2, .ref (h 0)), (5, .int (nI k)), (6, .int (v)), (7, .long (z))]) hx hb dL_law_243 hl (by decide) rfl (fun ls hl => ?_)
    refine lv_iinc (v := nI (k + 1)) (lv' := [(5, .int (nI (k + 1))), (4, .int (x1.1 0 6)), (3, .int (x1.1 0 5)), (11, .int (lw (v >>> (7 &&& 31)) 16)), (10, .int (0)), (9, .int (0)), (0, .ref (b)), (1, .ref (g 0)), (2, .ref (h 0)), (6, .int (v)), (7, .long (z))]) hx hb dL_law_245 hl (k := 8) rfl (nI_1 k) (by decide) rfl (fun ls hl => ?_)
    refine lv_goto (tgt := 25) hx hb dL_law_248 (by decide) ?_
    exact kk ls (lv_sub hl [6, 7, 8, 2, 1, 0] rfl)
set_option maxHeartbeats 4000000 in
set_option maxRecDepth 100000 in
theorem tail_1 {p : Program} {l : Launch} {e : Env} {s : State} {m : MethodId} {below : List Frame} {meth : Method} {c : Code} {b L : Nat} {xs : Nat → Int32} {D : va_G} {ca : Nat → ClassId} (C : LC p l s m c b L xs D ca) {g h : Nat → Nat} {x x1 : XS} {v : Int32} {z : Int64} {k : Nat} (hk : k < 110) (f5 : x1.1 0 5 = nA v) (f6 : x1.1 0 6 = nB v) {H : Heap} {locs : List Loc} {ls : Array Slot} {cells slots : Nat} {Q : State → Prop} (hl : lv_has ls 12 [(0, .ref (b)), (1, .ref (g 0)), (2, .ref (h 0)), (3, .int (x.1 0 5)), (4, .int (x.1 0 6)), (5, .int (nI k)), (6, .int (v)), (7, .long (z))]) (rmc : cells + 200 ≤ room_1.cells) (rms : slots + 2000 ≤ room_1.slots)
    (kk : ∀ (ls : Array Slot), lv_has ls 12 [(0, .ref (b)), (1, .ref (g 0)), (2, .ref (h 0)), (3, .int (x1.1 0 5)), (4, .int (x1.1 0 6)), (5, .int (nI (k + 1)))] → W p l e room_1 s m #[Value.ref b] below meth c H locs cells slots Q (F0 m 25 ls [])) : W p l e room_1 s m #[Value.ref b] below meth c H locs cells slots Q (F0 m 116 ls [.int 1]) := by
  obtain ⟨hx, hb, hml, hown, hts, hX, hbl, hC, hz, hl9, hL⟩ := C
  refine lv_istore (lv' := [(9, .int (1)), (0, .ref (b)), (1, .ref (g 0)), (2, .ref (h 0)), (3, .int (x.1 0 5)), (4, .int (x.1 0 6)), (5, .int (nI k)), (6, .int (v)), (7, .long (z))]) hx hb dL_law_116 hl (by decide) rfl (fun ls hl => ?_)
  refine lv_iload hx hb dL_law_118 (lv_at hl 7 rfl) ?_
  refine lv_bipush (v := 26) hx hb dL_law_120 (by decide) ?_
  refine lv_ishr hx hb dL_law_122 ?_
  refine lv_bipush (v := 14) hx hb dL_law_123 (by decide) ?_
  refine rd_i (va_runS (As := [.int (v >>> (26 &&& 31)), .int (14)]) (rest := []) ⟨hx, hb, hml, hown, hts⟩ (c_L_low l D ca (v >>> (26 &&& 31)) 14 (low_e (by decide))) (va_cwS 2 hts gL_law_L_low rfl rfl rfl (by decide +kernel) ⟨Nat.le_of_ble_eq_true rfl, Nat.le_of_ble_eq_true rfl⟩) (rP_S va_P_nil hC) rfl rfl hl.1 rfl (lv_room (Nat.le_of_ble_eq_true rfl)) dL_law_125 ⟨Nat.le_trans (by omega) rmc, Nat.le_trans (by omega) rms⟩) ?_
  by_cases odd : lw (v >>> (26 &&& 31)) 14 = 0
  · skip
    refine lv_if_ne (tgt := 135) hx hb dL_law_128 (by decide) (fun c9 => absurd odd c9) (fun _ => ?_)
    refine lv_iconst (v := 1) hx hb dL_law_131 (by decide) ?_
    refine lv_goto (tgt := 136) hx hb dL_law_132 (by decide) ?_
    refine lv_istore (lv' := [(10, .int (1)), (9, .int (1)), (0, .ref (b)), (1, .ref (g 0)), (2, .ref (h 0)), (3, .int (x.1 0 5)), (4, .int (x.1 0 6)), (5, .int (nI k)), (6, .int (v)), (7, .long (z))]) hx hb dL_law_136 hl (by decide) rfl (fun ls hl => ?_)
    refine lv_iload hx hb dL_law_138 (lv_at hl 0 rfl) ?_
    refine lv_if_eq (tgt := 158) hx hb dL_law_140 (by decide) (fun c9 => absurd c9 (by decide)) (fun _ => ?_)
    refine lv_iload hx hb dL_law_143 (lv_at hl 8 rfl) ?_
    refine lv_bipush (v := 7) hx hb dL_law_145 (by decide) ?_
    refine lv_ishr hx hb dL_law_147 ?_
    refine lv_bipush (v := 20) hx hb dL_law_148 (by decide) ?_
    refine rd_i (va_runS (As := [.int (v >>> (7 &&& 31)), .int (20)]) (rest := []) ⟨hx, hb, hml, hown, hts⟩ (c_L_low l D ca (v >>> (7 &&& 31)) 20 (low_e (by decide))) (va_cwS 2 hts gL_law_L_low rfl rfl rfl (by decide +kernel) ⟨Nat.le_of_ble_eq_true rfl, Nat.le_of_ble_eq_true rfl⟩) (rP_S va_P_nil hC) rfl rfl hl.1 rfl (lv_room (Nat.le_of_ble_eq_true rfl)) dL_law_150 ⟨Nat.le_trans (by omega) rmc, Nat.le_trans (by omega) rms⟩) ?_
    refine lv_iconst (v := 2) hx hb dL_law_153 (by decide) ?_
    refine lv_isub hx hb dL_law_154 ?_
    refine lv_goto (tgt := 168) hx hb dL_law_155 (by decide) ?_
    refine lv_istore (lv' := [(11, .int ((lw (v >>> (7 &&& 31)) 20) - 2)), (10, .int (1)), (9, .int (1)), (0, .ref (b)), (1, .ref (g 0)), (2, .ref (h 0)), (3, .int (x.1 0 5)), (4, .int (x.1 0 6)), (5, .int (nI k)), (6, .int (v)), (7, .long (z))]) hx hb dL_law_168 hl (by decide) rfl (fun ls hl => ?_)
    refine lv_iload hx hb dL_law_170 (lv_at hl 2 rfl) ?_
    refine lv_if_ne (tgt := 179) hx hb dL_law_172 (by decide) (fun _ => ?_) (fun c9 => absurd c9 (by decide))
    refine lv_iload hx hb dL_law_179 (lv_at hl 1 rfl) ?_
    refine lv_if_eq (tgt := 189) hx hb dL_law_181 (by decide) (fun c9 => absurd c9 (by decide)) (fun _ => ?_)
    refine lv_iload hx hb dL_law_184 (lv_at hl 9 rfl) ?_
    refine lv_goto (tgt := 205) hx hb dL_law_186 (by decide) ?_
    rw [show (v : Int32) = x1.1 0 5 by rw [f5]; unfold nA; rw [if_pos odd]]
    refine lv_istore_n (lv' := [(3, .int (x1.1 0 5)), (11, .int ((lw (v >>> (7 &&& 31)) 20) - 2)), (10, .int (1)), (9, .int (1)), (0, .ref (b)), (1, .ref (g 0)), (2, .ref (h 0)), (4, .int (x.1 0 6)), (5, .int (nI k)), (6, .int (v)), (7, .long (z))]) hx hb dL_law_205 rfl hl (by decide) rfl (fun ls hl => ?_)
    refine lv_iload hx hb dL_law_206 (lv_at hl 3 rfl) ?_
    refine lv_if_ne (tgt := 216) hx hb dL_law_208 (by decide) (fun _ => ?_) (fun c9 => absurd c9 (by decide))
    refine lv_iload hx hb dL_law_216 (lv_at hl 2 rfl) ?_
    refine lv_if_eq (tgt := 229) hx hb dL_law_218 (by decide) (fun c9 => absurd c9 (by decide)) (fun _ => ?_)
    refine lv_iload hx hb dL_law_221 (lv_at hl 9 rfl) ?_
    refine lv_bipush (v := 9) hx hb dL_law_223 (by decide) ?_
    refine lv_ishr hx hb dL_law_225 ?_
    refine lv_goto (tgt := 243) hx hb dL_law_226 (by decide) ?_
    rw [show ((v >>> (9 &&& 31)) : Int32) = x1.1 0 6 by rw [f6]; unfold nB; rw [if_pos odd]]
    refine lv_istore (lv' := [(4, .int (x1.1 0 6)), (3, .int (x1.1 0 5)), (11, .int ((lw (v >>> (7 &&& 31)) 20) - 2)), (10, .int (1)), (9, .int (1)), (0, .ref (b)), (1, .ref (g 0)), (2, .ref (h 0)), (5, .int (nI k)), (6, .int (v)), (7, .long (z))]) hx hb dL_law_243 hl (by decide) rfl (fun ls hl => ?_)
    refine lv_iinc (v := nI (k + 1)) (lv' := [(5, .int (nI (k + 1))), (4, .int (x1.1 0 6)), (3, .int (x1.1 0 5)), (11, .int ((lw (v >>> (7 &&& 31)) 20) - 2)), (10, .int (1)), (9, .int (1)), (0, .ref (b)), (1, .ref (g 0)), (2, .ref (h 0)), (6, .int (v)), (7, .long (z))]) hx hb dL_law_245 hl (k := 8) rfl (nI_1 k) (by decide) rfl (fun ls hl => ?_)
    refine lv_goto (tgt := 25) hx hb dL_law_248 (by decide) ?_
    exact kk ls (lv_sub hl [6, 7, 8, 2, 1, 0] rfl)
  · skip
    refine lv_if_ne (tgt := 135) hx hb dL_law_128 (by decide) (fun _ => ?_) (fun c9 => absurd c9 odd)
    refine lv_iconst (v := 0) hx hb dL_law_135 (by decide) ?_
    refine lv_istore (lv' := [(10, .int (0)), (9, .int (1)), (0, .ref (b)), (1, .ref (g 0)), (2, .ref (h 0)), (3, .int (x.1 0 5)), (4, .int (x.1 0 6)), (5, .int (nI k)), (6, .int (v)), (7, .long (z))]) hx hb dL_law_136 hl (by decide) rfl (fun ls hl => ?_)
    refine lv_iload hx hb dL_law_138 (lv_at hl 0 rfl) ?_
    refine lv_if_eq (tgt := 158) hx hb dL_law_140 (by decide) (fun _ => ?_) (fun c9 => absurd c9 (by decide))
    refine lv_iload hx hb dL_law_158 (lv_at hl 8 rfl) ?_
    refine lv_bipush (v := 7) hx hb dL_law_160 (by decide) ?_
    refine lv_ishr hx hb dL_law_162 ?_
    refine lv_bipush (v := 16) hx hb dL_law_163 (by decide) ?_
    refine rd_i (va_runS (As := [.int (v >>> (7 &&& 31)), .int (16)]) (rest := []) ⟨hx, hb, hml, hown, hts⟩ (c_L_low l D ca (v >>> (7 &&& 31)) 16 (low_e (by decide))) (va_cwS 2 hts gL_law_L_low rfl rfl rfl (by decide +kernel) ⟨Nat.le_of_ble_eq_true rfl, Nat.le_of_ble_eq_true rfl⟩) (rP_S va_P_nil hC) rfl rfl hl.1 rfl (lv_room (Nat.le_of_ble_eq_true rfl)) dL_law_165 ⟨Nat.le_trans (by omega) rmc, Nat.le_trans (by omega) rms⟩) ?_
    refine lv_istore (lv' := [(11, .int (lw (v >>> (7 &&& 31)) 16)), (10, .int (0)), (9, .int (1)), (0, .ref (b)), (1, .ref (g 0)), (2, .ref (h 0)), (3, .int (x.1 0 5)), (4, .int (x.1 0 6)), (5, .int (nI k)), (6, .int (v)), (7, .long (z))]) hx hb dL_law_168 hl (by decide) rfl (fun ls hl => ?_)
    refine lv_iload hx hb dL_law_170 (lv_at hl 2 rfl) ?_
    refine lv_if_ne (tgt := 179) hx hb dL_law_172 (by decide) (fun _ => ?_) (fun c9 => absurd c9 (by decide))
    refine lv_iload hx hb dL_law_179 (lv_at hl 1 rfl) ?_
    refine lv_if_eq (tgt := 189) hx hb dL_law_181 (by decide) (fun _ => ?_) (fun c9 => absurd c9 (by decide))
    refine lv_iconst (v := 1) hx hb dL_law_189 (by decide) ?_
    refine lv_iload hx hb dL_law_190 (lv_at hl 0 rfl) ?_
    refine lv_ishl hx hb dL_law_192 ?_
    refine lv_iconst (v := 1) hx hb dL_law_193 (by decide) ?_
    refine lv_iload hx hb dL_law_194 (lv_at hl 9 rfl) ?_
    refine lv_iconst (v := 3) hx hb dL_law_196 (by decide) ?_
    refine lv_ishr hx hb dL_law_197 ?_
    refine lv_bipush (v := 16) hx hb dL_law_198 (by decide) ?_
    refine rd_i (va_runS (As := [.int (v >>> (3 &&& 31)), .int (16)]) (rest := [.int (1), .int ((1 : Int32) <<< ((lw (v >>> (7 &&& 31)) 16) &&& 31))]) ⟨hx, hb, hml, hown, hts⟩ (c_L_low l D ca (v >>> (3 &&& 31)) 16 (low_e (by decide))) (va_cwS 2 hts gL_law_L_low rfl rfl rfl (by decide +kernel) ⟨Nat.le_of_ble_eq_true rfl, Nat.le_of_ble_eq_true rfl⟩) (rP_S va_P_nil hC) rfl rfl hl.1 rfl (lv_room (Nat.le_of_ble_eq_true rfl)) dL_law_200 ⟨Nat.le_trans (by omega) rmc, Nat.le_trans (by omega) rms⟩) ?_
    refine lv_ishl hx hb dL_law_203 ?_
    refine lv_ior hx hb dL_law_204 ?_
    rw [show ((((1 : Int32) <<< ((lw (v >>> (7 &&& 31)) 16) &&& 31)) ||| ((1 : Int32) <<< ((lw (v >>> (3 &&& 31)) 16) &&& 31))) : Int32) = x1.1 0 5 by rw [f5]; unfold nA; rw [if_neg odd]]
    refine lv_istore_n (lv' := [(3, .int (x1.1 0 5)), (11, .int (lw (v >>> (7 &&& 31)) 16)), (10, .int (0)), (9, .int (1)), (0, .ref (b)), (1, .ref (g 0)), (2, .ref (h 0)), (4, .int (x.1 0 6)), (5, .int (nI k)), (6, .int (v)), (7, .long (z))]) hx hb dL_law_205 rfl hl (by decide) rfl (fun ls hl => ?_)
    refine lv_iload hx hb dL_law_206 (lv_at hl 3 rfl) ?_
    refine lv_if_ne (tgt := 216) hx hb dL_law_208 (by decide) (fun _ => ?_) (fun c9 => absurd c9 (by decide))
    refine lv_iload hx hb dL_law_216 (lv_at hl 2 rfl) ?_
    refine lv_if_eq (tgt := 229) hx hb dL_law_218 (by decide) (fun _ => ?_) (fun c9 => absurd c9 (by decide))
    refine lv_iconst (v := 1) hx hb dL_law_229 (by decide) ?_
    refine lv_iconst (v := 2) hx hb dL_law_230 (by decide) ?_
    refine lv_iload hx hb dL_law_231 (lv_at hl 9 rfl) ?_
    refine lv_bipush (v := 9) hx hb dL_law_233 (by decide) ?_
    refine lv_ishr hx hb dL_law_235 ?_
    refine lv_bipush (v := 90) hx hb dL_law_236 (by decide) ?_
    refine rd_i (va_runS (As := [.int (v >>> (9 &&& 31)), .int (90)]) (rest := [.int (2), .int (1)]) ⟨hx, hb, hml, hown, hts⟩ (c_L_low l D ca (v >>> (9 &&& 31)) 90 (low_e (by decide))) (va_cwS 2 hts gL_law_L_low rfl rfl rfl (by decide +kernel) ⟨Nat.le_of_ble_eq_true rfl, Nat.le_of_ble_eq_true rfl⟩) (rP_S va_P_nil hC) rfl rfl hl.1 rfl (lv_room (Nat.le_of_ble_eq_true rfl)) dL_law_238 ⟨Nat.le_trans (by omega) rmc, Nat.le_trans (by omega) rms⟩) ?_
    refine lv_imul hx hb dL_law_241 ?_
    refine lv_iadd hx hb dL_law_242 ?_
    rw [show (((1 : Int32) + ((2 : Int32) * (lw (v >>> (9 &&& 31)) 90))) : Int32) = x1.1 0 6 by rw [f6]; unfold nB; rw [if_neg odd]]
    refine lv_istore (lv' := [(4, .int (x1.1 0 6)), (3, .int (x1.1 0 5)), (11, .int (lw (v >>> (7 &&& 31)) 16)), (10, .int (0)), (9, .int (1)), (0, .ref (b)), (1, .ref (g 0)), (2, .ref (h 0)), (5, .int (nI k)), (6, .int (v)), (7, .long (z))]) hx hb dL_law_243 hl (by decide) rfl (fun ls hl => ?_)
    refine lv_iinc (v := nI (k + 1)) (lv' := [(5, .int (nI (k + 1))), (4, .int (x1.1 0 6)), (3, .int (x1.1 0 5)), (11, .int (lw (v >>> (7 &&& 31)) 16)), (10, .int (0)), (9, .int (1)), (0, .ref (b)), (1, .ref (g 0)), (2, .ref (h 0)), (6, .int (v)), (7, .long (z))]) hx hb dL_law_245 hl (k := 8) rfl (nI_1 k) (by decide) rfl (fun ls hl => ?_)
    refine lv_goto (tgt := 25) hx hb dL_law_248 (by decide) ?_
    exact kk ls (lv_sub hl [6, 7, 8, 2, 1, 0] rfl)
set_option maxHeartbeats 4000000 in
set_option maxRecDepth 100000 in
theorem tail_93 {p : Program} {l : Launch} {e : Env} {s : State} {m : MethodId} {below : List Frame} {meth : Method} {c : Code} {b L : Nat} {xs : Nat → Int32} {D : va_G} {ca : Nat → ClassId} (C : LC p l s m c b L xs D ca) {g h : Nat → Nat} {x x1 : XS} {v : Int32} {z : Int64} {k : Nat} (hk : k < 110) (f0 : (¬ s_L_low v 38 = some 4 ∨ ¬ z = 0) → F56 x x1) (f1 : s_L_low v 38 = some 4 → z = 0 → x1.1 0 5 = nA v ∧ x1.1 0 6 = nB v) {H : Heap} {locs : List Loc} {ls : Array Slot} {cells slots : Nat} {Q : State → Prop} (hl : lv_has ls 12 [(0, .ref (b)), (1, .ref (g 0)), (2, .ref (h 0)), (3, .int (x.1 0 5)), (4, .int (x.1 0 6)), (5, .int (nI k)), (6, .int (v)), (7, .long (z))]) (rmc : cells + 200 ≤ room_1.cells) (rms : slots + 2000 ≤ room_1.slots)
    (kk : ∀ (ls : Array Slot), lv_has ls 12 [(0, .ref (b)), (1, .ref (g 0)), (2, .ref (h 0)), (3, .int (x1.1 0 5)), (4, .int (x1.1 0 6)), (5, .int (nI (k + 1)))] → W p l e room_1 s m #[Value.ref b] below meth c H locs cells slots Q (F0 m 25 ls [])) : W p l e room_1 s m #[Value.ref b] below meth c H locs cells slots Q (F0 m 93 ls []) := by
  have C0 := C
  obtain ⟨hx, hb, hml, hown, hts, hX, hbl, hC, hz, hl9, hL⟩ := C
  refine lv_iload hx hb dL_law_93 (lv_at hl 6 rfl) ?_
  refine lv_bipush (v := 38) hx hb dL_law_95 (by decide) ?_
  refine rd_i (va_runS (As := [.int (v), .int (38)]) (rest := []) ⟨hx, hb, hml, hown, hts⟩ (c_L_low l D ca v 38 (low_e (by decide))) (va_cwS 2 hts gL_law_L_low rfl rfl rfl (by decide +kernel) ⟨Nat.le_of_ble_eq_true rfl, Nat.le_of_ble_eq_true rfl⟩) (rP_S va_P_nil hC) rfl rfl hl.1 rfl (lv_room (Nat.le_of_ble_eq_true rfl)) dL_law_97 ⟨Nat.le_trans (by omega) rmc, Nat.le_trans (by omega) rms⟩) ?_
  refine lv_iconst (v := 4) hx hb dL_law_100 (by decide) ?_
  have no : F56 x x1 → W p l e room_1 s m #[Value.ref b] below meth c H locs cells slots Q (F0 m 115 ls []) := by
    intro f
    refine lv_iconst (v := 0) hx hb dL_law_115 (by decide) ?_
    exact tail_0 C0 hk f.1 f.2 hl rmc rms kk
  refine lv_icmp_ne (tgt := 115) hx hb dL_law_101 (by decide) (fun c9 => ?_) (fun c9 => ?_)
  · exact no (f0 (Or.inl (fun h => c9 (by rw [low_e (by decide)] at h; exact Option.some.inj h))))
  · have h4 : s_L_low v 38 = some 4 := by rw [low_e (by decide), c9]
    refine lv_lload hx hb dL_law_104 (lv_at hl 7 rfl) ?_
    refine lv_lconst (v := 0) hx hb dL_law_106 (by decide) ?_
    refine lv_lc_ne (tgt := 115) hx hb dL_law_107 dL_law_108 (by decide) (fun c9 => ?_) (fun c9 => ?_)
    · exact no (f0 (Or.inr c9))
    · skip
      refine lv_iconst (v := 1) hx hb dL_law_111 (by decide) ?_
      refine lv_goto (tgt := 116) hx hb dL_law_112 (by decide) ?_
      exact tail_1 C0 hk (f1 h4 c9).1 (f1 h4 c9).2 hl rmc rms kk
set_option maxHeartbeats 4000000 in
set_option maxRecDepth 100000 in
theorem tail_69 {p : Program} {l : Launch} {e : Env} {s : State} {m : MethodId} {below : List Frame} {meth : Method} {c : Code} {b L : Nat} {xs : Nat → Int32} {D : va_G} {ca : Nat → ClassId} (C : LC p l s m c b L xs D ca) {g h : Nat → Nat} {x x1 : XS} {v : Int32} {z : Int64} {k : Nat} (hk : k < 110) (hR : ∃ y, Rel x1 y) (f0 : (¬ s_L_low v 38 = some 4 ∨ ¬ z = 0) → F56 x x1) (f1 : s_L_low v 38 = some 4 → z = 0 → x1.1 0 5 = nA v ∧ x1.1 0 6 = nB v) {H : Heap} {locs : List Loc} {ls : Array Slot} {cells slots : Nat} {Q : State → Prop} (hP : va_P D vwCl (wX g ca x1 ++ wX h ca x1) H) (hD : va_D (fun q => s.heap.size ≤ q) (wX g ca x1 ++ wX h ca x1)) (hS : va_S (fun q => s.heap.size ≤ q) s.heap H locs) (hl : lv_has ls 12 [(0, .ref (b)), (1, .ref (g 0)), (2, .ref (h 0)), (3, .int (x.1 0 5)), (4, .int (x.1 0 6)), (5, .int (nI k)), (6, .int (v)), (7, .long (z))]) (rmc : cells + 330 ≤ room_1.cells) (rms : slots + 2780 ≤ room_1.slots)
    (kk : ∀ (x2 : XS) (H : Heap) (locs : List Loc) (ls : Array Slot), LI D ca s b (k + 1) g h x2 H locs ls → W p l e room_1 s m #[Value.ref b] below meth c H locs (cells + 130) (slots + 780) Q (F0 m 25 ls [])) : W p l e room_1 s m #[Value.ref b] below meth c H locs cells slots Q (F0 m 69 ls []) := by
  have C0 := C
  obtain ⟨hx, hb, hml, hown, hts, hX, hbl, hC, hz, hl9, hL⟩ := C
  obtain ⟨y, hR⟩ := hR
  have hA : ∀ q : Nat, s.heap.size ≤ q → (fun q => s.heap.size ≤ q) q := fun _ h => h
  refine lv_iload hx hb dL_law_69 (lv_at hl 5 rfl) ?_
  refine lv_bipush (v := 36) hx hb dL_law_71 (by decide) ?_
  refine lv_irem hx hb dL_law_73 (by decide) ?_
  refine lv_bipush (v := 35) hx hb dL_law_74 (by decide) ?_
  refine lv_icmp_ne (tgt := 93) hx hb dL_law_76 (by decide) (fun c9 => ?_) (fun c9 => ?_)
  · exact W.widen (k := cells + 130) (n := slots + 780) (Nat.le_add_right _ _) (Nat.le_add_right _ _) (tail_93 C0 hk f0 f1 hl (Nat.le_trans (by omega) rmc) (Nat.le_trans (by omega) rms) (fun ls hl => kk x1 H locs ls ⟨⟨y, hR⟩, hP, hD, hS, hl⟩))
  · obtain ⟨vb, lv, vs, x2, h1, h2, h3, h4, h5, h6, h7, hR2⟩ := alike_e hR (v >>> (3 &&& 31))
    refine lv_aload_n hx hb dL_law_79 rfl (lv_at hl 1 rfl) ?_
    refine lv_aload_n hx hb dL_law_80 rfl (lv_at hl 2 rfl) ?_
    refine lv_iload hx hb dL_law_81 (lv_at hl 6 rfl) ?_
    refine lv_iconst (v := 3) hx hb dL_law_83 (by decide) ?_
    refine lv_ishr hx hb dL_law_84 ?_
    refine wr_i (va_runS (As := [.ref (g 0), .ref (h 0), .int (v >>> (3 &&& 31))]) (rest := []) ⟨hx, hb, hml, hown, hts⟩ (c_L_areAlike l hl9 D ca g h x1 x2 (v >>> (3 &&& 31)) h1 h2 h3 h4 h5 h6 h7 H.size) (va_cwS 3 hts gL_law_L_areAlike rfl rfl rfl (by decide +kernel) ⟨Nat.le_of_ble_eq_true rfl, Nat.le_of_ble_eq_true rfl⟩) (tP_S hP hC hD hz hS hA) rfl rfl hl.1 rfl (lv_room (Nat.le_of_ble_eq_true rfl)) dL_law_85 ⟨Nat.le_trans (by omega) rmc, Nat.le_trans (by omega) rms⟩) hD hS hA (fun H locs hP hD hS => ?_)
    refine lv_if_ne (tgt := 93) hx hb dL_law_88 (by decide) (fun _ => ?_) (fun c9 => absurd c9 (by decide))
    have f12 := f56_of hR hR2
    refine tail_93 C0 hk (x1 := x2) (fun h => ⟨f12.1.trans (f0 h).1, f12.2.trans (f0 h).2⟩) (fun h h0 => ⟨f12.1.trans (f1 h h0).1, f12.2.trans (f1 h h0).2⟩) hl (Nat.le_trans (by omega) rmc) (Nat.le_trans (by omega) rms) (fun ls hl => kk x2 H locs ls ⟨⟨y, hR2⟩, hP, hD, hS, hl⟩)
set_option maxHeartbeats 4000000 in
set_option maxRecDepth 100000 in
theorem law_turn {p : Program} {l : Launch} {e : Env} {s : State} {m : MethodId} {below : List Frame} {meth : Method} {c : Code} {b L : Nat} {xs : Nat → Int32} {D : va_G} {ca : Nat → ClassId} (C : LC p l s m c b L xs D ca) {g h : Nat → Nat} {x : XS} {k : Nat} (hk : k < 110) {H : Heap} {locs : List Loc} {ls : Array Slot} {cells slots : Nat} {Q : State → Prop} (I : LI D ca s b k g h x H locs ls) (rmc : cells + 340 ≤ room_1.cells) (rms : slots + 2800 ≤ room_1.slots)
    (kk : ∀ (g' h' : Nat → Nat) (x2 : XS) (H : Heap) (locs : List Loc) (ls : Array Slot), LI D ca s b (k + 1) g' h' x2 H locs ls → W p l e room_1 s m #[Value.ref b] below meth c H locs (cells + 132) (slots + 800) Q (F0 m 25 ls [])) : W p l e room_1 s m #[Value.ref b] below meth c H locs cells slots Q (F0 m 25 ls []) := by
  have C0 := C
  obtain ⟨hx, hb, hml, hown, hts, hX, hbl, hC, hz, hl9, hL⟩ := C
  obtain ⟨⟨y, hR⟩, hP, hD, hS, hl⟩ := I
  have hA : ∀ q : Nat, s.heap.size ≤ q → (fun q => s.heap.size ≤ q) q := fun _ h => h
  have hbA : ¬ (fun q : Nat => s.heap.size ≤ q) b := Nat.not_le.mpr hbl
  refine lv_iload hx hb dL_law_25 (lv_at hl 5 rfl) ?_
  refine lv_bipush (v := 110) hx hb dL_law_27 (by decide) ?_
  refine lv_icmp_ge (tgt := 251) hx hb dL_law_29 (by decide) (fun c9 => absurd c9 (geL 110 hk (by decide))) (fun _ => ?_)
  refine lv_aload_n hx hb dL_law_32 rfl (lv_at hl 0 rfl) ?_
  refine lv_iload hx hb dL_law_33 (lv_at hl 5 rfl) ?_
  refine rd_i (va_runS (As := [.ref b, .int (nI k)]) (rest := []) ⟨hx, hb, hml, hown, hts⟩ (c_L_cell l b L xs hL k (by omega)) (va_cwS 2 hts gL_law_L_cell rfl rfl rfl (by decide +kernel) ⟨Nat.le_of_ble_eq_true rfl, Nat.le_of_ble_eq_true rfl⟩) (sP_S hX hbl hbA hS) rfl rfl hl.1 rfl (lv_room (Nat.le_of_ble_eq_true rfl)) dL_law_35 ⟨Nat.le_trans (by omega) rmc, Nat.le_trans (by omega) rms⟩) ?_
  generalize cl xs L k = v
  refine lv_istore (lv' := [(6, .int (v)), (0, .ref (b)), (1, .ref (g 0)), (2, .ref (h 0)), (3, .int (x.1 0 5)), (4, .int (x.1 0 6)), (5, .int (nI k))]) hx hb dL_law_38 hl (by decide) rfl (fun ls hl => ?_)
  refine lv_aload_n hx hb dL_law_40 rfl (lv_at hl 2 rfl) ?_
  refine lv_iload hx hb dL_law_41 (lv_at hl 0 rfl) ?_
  obtain ⟨r, hr9, hG⟩ := act_e hR v
  refine xr_p (va_runS (As := [.ref (g 0), .int v]) (rest := []) ⟨hx, hb, hml, hown, hts⟩ (c_L_act l hl9 D ca g x v hr9 H.size) (va_cwS 2 hts gL_law_L_act rfl rfl rfl (by decide +kernel) ⟨Nat.le_of_ble_eq_true rfl, Nat.le_of_ble_eq_true rfl⟩) (tP_S (app_l hP) hC (appD_l hD) hz hS hA) rfl rfl hl.1 rfl (lv_room (Nat.le_of_ble_eq_true rfl)) dL_law_43 ⟨Nat.le_trans (by omega) rmc, Nat.le_trans (by omega) rms⟩) hP hD hS hA (fun g' H locs hg hP hD hS => ?_)
  refine lv_lstore (lv' := [(7, .long (r.1)), (6, .int (v)), (0, .ref (b)), (1, .ref (g 0)), (2, .ref (h 0)), (3, .int (x.1 0 5)), (4, .int (x.1 0 6)), (5, .int (nI k))]) hx hb dL_law_46 hl (by decide) rfl (fun ls hl => ?_)
  have f1 : s_L_low v 38 = some 4 → r.1 = 0 → r.2.1 0 5 = nA v ∧ r.2.1 0 6 = nB v := fun h h0 => act_tells h hr9 h0
  refine lv_lload hx hb dL_law_48 (lv_at hl 0 rfl) ?_
  refine lv_ldc2 (v := -9000000000000000) hx hb hown (hts _ cN9) dL_law_50 ?_
  by_cases h9 : r.1 = N9
  · have e2 : r.2 = x := hG.1 h9
    rw [e2] at hP hD
    refine lv_lc_eq (tgt := 69) hx hb dL_law_53 dL_law_54 (by decide) (fun _ => ?_) (fun c9 => absurd h9 c9)
    refine tail_69 C0 hk ⟨y, hR⟩ (x1 := x) (g := g') (z := r.1) (fun _ => ⟨rfl, rfl⟩) (fun _ h0 => absurd (h9.symm.trans h0) (by decide)) hP hD hS (lv_sub (by rw [← hg] at hl; exact hl) [2, 3, 4, 5, 6, 7, 1, 0] rfl) (Nat.le_trans (by omega) rmc) (Nat.le_trans (by omega) rms) (fun x2 H locs ls I => W.widen (k := cells + 132) (n := slots + 800) (by omega) (by omega) (kk g' h x2 H locs ls I))
  · skip
    refine lv_lc_eq (tgt := 69) hx hb dL_law_53 dL_law_54 (by decide) (fun c9 => absurd c9 h9) (fun _ => ?_)
    refine lv_aload_n hx hb dL_law_57 rfl (lv_at hl 4 rfl) ?_
    refine lv_iload hx hb dL_law_58 (lv_at hl 1 rfl) ?_
    refine mr_p (va_runS (As := [.ref (h 0), .int v]) (rest := []) ⟨hx, hb, hml, hown, hts⟩ (c_L_act l hl9 D ca h x v hr9 H.size) (va_cwS 2 hts gL_law_L_act rfl rfl rfl (by decide +kernel) ⟨Nat.le_of_ble_eq_true rfl, Nat.le_of_ble_eq_true rfl⟩) (tP_S (app_r hP) hC (appD_r hD) hz hS hA) rfl rfl hl.1 rfl (lv_room (Nat.le_of_ble_eq_true rfl)) dL_law_60 ⟨Nat.le_trans (by omega) rmc, Nat.le_trans (by omega) rms⟩) hP hD hS hA (fun h' H locs hh hP hD hS => ?_)
    refine lv_lload hx hb dL_law_63 (lv_at hl 0 rfl) ?_
    refine lv_lc_ne (tgt := 91) hx hb dL_law_65 dL_law_66 (by decide) (fun c9 => absurd rfl c9) (fun _ => ?_)
    refine tail_69 C0 hk (x1 := r.2) (g := g') (h := h') (z := r.1) hG.2.1 hG.2.2 f1 hP hD hS (lv_sub (by rw [← hg, ← hh] at hl; exact hl) [2, 3, 4, 5, 6, 7, 1, 0] rfl) (Nat.le_trans (by omega) rmc) (Nat.le_trans (by omega) rms) (fun x2 H locs ls I => W.widen (k := cells + 132) (n := slots + 800) (by omega) (by omega) (kk g' h' x2 H locs ls I))
set_option maxHeartbeats 4000000 in
set_option maxRecDepth 100000 in
theorem law_loop {p : Program} {l : Launch} {e : Env} {s : State} {m : MethodId} {below : List Frame} {meth : Method} {c : Code} {b L : Nat} {xs : Nat → Int32} {D : va_G} {ca : Nat → ClassId} (C : LC p l s m c b L xs D ca) {Q : State → Prop} (kend : ∀ (H : Heap) (locs : List Loc) (ls : Array Slot), va_S (fun q => s.heap.size ≤ q) s.heap H locs → W p l e room_1 s m #[Value.ref b] below meth c H locs 670401 7090495 Q (F0 m 258 ls [.int 1])) :
    ∀ (n k : Nat), k + n = 110 → ∀ (g h : Nat → Nat) (x : XS) (H : Heap) (locs : List Loc) (ls : Array Slot) (cells slots : Nat), LI D ca s b k g h x H locs ls → cells ≤ 100 + 132 * k → slots ≤ 2000 + 800 * k → W p l e room_1 s m #[Value.ref b] below meth c H locs cells slots Q (F0 m 25 ls []) := by
  have C0 := C
  obtain ⟨hx, hb, hml, hown, hts, hX, hbl, hC, hz, hl9, hL⟩ := C
  have rc : room_1.cells = 670401 := rfl
  have rs : room_1.slots = 7090495 := rfl
  intro n
  induction n with
  | zero =>
    intro k hk g h x H locs ls cells slots I h1 h2
    have hk : k = 110 := hk
    subst hk
    obtain ⟨⟨y, hR⟩, hP, hD, hS, hl⟩ := I
    have hA : ∀ q : Nat, s.heap.size ≤ q → (fun q => s.heap.size ≤ q) q := fun _ h => h
    obtain ⟨d, Lv, hSo⟩ := initSo hR
    rw [hSo.2.2.2.2.1, hSo.2.2.2.2.2.2.2] at hl
    refine lv_iload hx hb dL_law_25 (lv_at hl 5 rfl) ?_
    refine lv_bipush (v := 110) hx hb dL_law_27 (by decide) ?_
    refine lv_icmp_ge (tgt := 251) hx hb dL_law_29 (by decide) (fun _ => ?_) (fun c9 => absurd (show (110 : Int32) ≤ nI 110 by decide) c9)
    refine lv_aload_n hx hb dL_law_251 rfl (lv_at hl 1 rfl) ?_
    refine lv_iload_n hx hb dL_law_252 rfl (lv_at hl 3 rfl) ?_
    refine lv_iload hx hb dL_law_253 (lv_at hl 4 rfl) ?_
    refine xr_o (va_runS (As := [.ref (g 0), .int (nI d), .int (nI Lv)]) (rest := []) ⟨hx, hb, hml, hown, hts⟩ (c_L_isSo l hl9 D ca g x y x.2.2 d Lv hSo H.size) (va_cwS 3 hts gL_law_L_isSo rfl rfl rfl (by decide +kernel) ⟨Nat.le_of_ble_eq_true rfl, Nat.le_of_ble_eq_true rfl⟩) (tP_S (app_l hP) hC (appD_l hD) hz hS hA) rfl rfl hl.1 rfl (lv_room (Nat.le_of_ble_eq_true rfl)) dL_law_255 ⟨by omega, by omega⟩) hD hS hA (fun H locs hS => ?_)
    exact W.widen (by omega) (by omega) (kend H locs ls hS)
  | succ n ih =>
    intro k hk g h x H locs ls cells slots I h1 h2
    exact law_turn C0 (show k < 110 by omega) I (by omega) (by omega) (fun g' h' x2 H locs ls I => ih (k + 1) (by omega) g' h' x2 H locs ls _ _ I (by omega) (by omega))
