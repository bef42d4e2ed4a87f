def s_L_low (a0 : Int32) (a1 : Int32) : Option Int32 := dvz a1 (some ((a0 &&& 2147483647) - (a0 &&& 2147483647) / a1 * a1))
set_option maxHeartbeats 4000000 in
set_option maxRecDepth 100000 in
theorem c_L_low (l : Launch) (D : va_G) (ca : Nat → ClassId) (a0 : Int32) (a1 : Int32) {r : Int32} (hs : s_L_low a0 a1 = some r) : Met l yL_low wsL_low ({ frames := 0, cells := 0, slots := 0, locals := 0 }) (rP [.int (a0), .int (a1)] D ca []) (vp_Si (fun z => z = r)) 0 0 (fun _ => False) := by
  refine Met.ofW (cc := cL_low) (maxL := 2) (ret := (some .int)) (by decide) rfl ?_
  intro p e s m args below meth c s₁ B hml hv
  obtain ⟨rfl, hP, hC⟩ := hv
  have hx := B.exec
  have hb := B.bytes
  have hr := B.returns
  have hts := atoms_spec (ws := wsL_low) B.pre
  have hown : s.vm.findClass RL = some m.cls := findClass_of_methodNamed B.named
  have hlocks := B.notSynchronized
  have hK := hC.1
  have hl := lv_entry ([.int (a0), .int (a1)]) (n := 2) (Nat.le_of_ble_eq_true rfl)
  rw [lg_entry_eq]
  generalize (lg_sl ([.int (a0), .int (a1)]) ++ List.replicate (2 - (lg_sl ([.int (a0), .int (a1)])).length) Slot.unset).toArray = ls at hl ⊢
  have hl : lv_has ls 2 [(0, .int (a0)), (1, .int (a1))] := hl
  unfold s_L_low at hs
  refine lv_iload_n hx hb dL_low_0 rfl (lv_at hl 0 rfl) ?_
  refine lv_ldc (v := 2147483647) hx hb hown (hts (.constant RL 7 (2147483647)) (by decide +kernel)) dL_low_1 ?_
  refine lv_iand hx hb dL_low_3 ?_
  refine lv_iload_n hx hb dL_low_4 rfl (lv_at hl 1 rfl) ?_
  obtain ⟨h_1, hs⟩ := sp_d hs
  refine lv_irem hx hb dL_low_5 h_1 ?_
  exact rt_i hx hb hr hs dL_low_6 hlocks
def s_L_column (x : XS) (a1 : Int32) (a2 : Int32) (a3 : Int32) : Option (Int64 × XS) := (s_X4_column x a1 a2 a3).bind fun r0 => if r0.1 = 0 ∨ r0.1 = 1 ∨ r0.1 = 2 then some (wv r0.1 0, r0.2.2) else none
set_option maxHeartbeats 4000000 in
set_option maxRecDepth 100000 in
theorem c_L_column (l : Launch) (hl9 : l.stackTraces = false) (D : va_G) (ca : Nat → ClassId) (g : Nat → Nat) (x : XS) (a1 : Int32) (a2 : Int32) (a3 : Int32) {r : (Int64 × XS)} (hs : s_L_column x a1 a2 a3 = some r) (sz : Nat) : Met l yL_column wsL_column ({ frames := 7, cells := 1, slots := 6, locals := 105 }) (tP [.ref (g 0), .int a1, .int a2, .int a3] D ca (wX g ca x) sz) (wQl r.1 D (wX g ca x) (wX g ca r.2) sz) 1 6 (va_A (wX g ca x) sz) := by
  unfold s_L_column at hs
  obtain ⟨r0, q0, hs⟩ := sp_b hs
  obtain ⟨hk, hs⟩ := sp_i hs
  cases hs
  refine va_MetW (cc := cL_column) (maxL := 5) (ret := (some .long)) (hh := [(0, 8, 9, 14), (0, 8, 15, 18)]) (by decide) rfl ?_
  intro p e s m args below meth c s₁ B hml hv
  obtain ⟨rfl, hsz, hP, hC, hD0, hz⟩ := hv
  have hx := B.exec
  have hb := B.bytes
  have hr := B.returns
  have hts := atoms_spec (ws := wsL_column) B.pre
  have hown : s.vm.findClass RL = some m.cls := findClass_of_methodNamed B.named
  have hlocks := B.notSynchronized
  have hK := hC.1
  have htab := vx_table (x := yL_column) B (hts (.codeWith yL_column cL_column 5 (some .long) [(0, 8, 9, 14), (0, 8, 15, 18)]) List.mem_cons_self)
  subst hsz
  have hD := hD0.self (sz := s.heap.size)
  generalize hAe : va_A (wX g ca x) s.heap.size = A at hD hz ⊢
  have hA : ∀ q : Nat, s.heap.size ≤ q → A q := fun q h => by rw [← hAe]; exact Or.inr h
  have hS : va_S A s.heap s.heap [] := va_S.rf
  have hl := lv_entry ([.ref (g 0), .int a1, .int a2, .int a3]) (n := 5) (Nat.le_of_ble_eq_true rfl)
  rw [lg_entry_eq]
  generalize (lg_sl ([.ref (g 0), .int a1, .int a2, .int a3]) ++ List.replicate (5 - (lg_sl ([.ref (g 0), .int a1, .int a2, .int a3])).length) Slot.unset).toArray = ls at hl ⊢
  have hl : lv_has ls 5 [(0, .ref (g 0)), (1, .int a1), (2, .int a2), (3, .int a3)] := hl
  obtain ⟨H, hHe⟩ : ∃ H, H = s.heap := ⟨_, rfl⟩
  obtain ⟨locs, hle⟩ : ∃ z : List Loc, z = [] := ⟨_, rfl⟩
  have hP : va_P D vwCl (wX g ca x) H := by rw [hHe]; exact hP
  have hS : va_S A s.heap H locs := by rw [hHe, hle]; exact hS
  have hgo : W p l e (headSpec wsL_column ({ frames := 7, cells := 1, slots := 6, locals := 105 })).room s m #[.ref (g 0), .int a1, .int a2, .int a3] below meth c H locs 0 0 (MQ below (wQl (wv r0.1 0) D (wX g ca x) (wX g ca r0.2.2) s.heap.size) #[.ref (g 0), .int a1, .int a2, .int a3] s 1 6 A) (F0 m 0 ls []) := by
    refine lv_aload_n hx hb dL_column_0 rfl (lv_at hl 0 rfl) ?_
    refine lv_iload_n hx hb dL_column_1 rfl (lv_at hl 1 rfl) ?_
    refine lv_iload_n hx hb dL_column_2 rfl (lv_at hl 2 rfl) ?_
    refine lv_iload_n hx hb dL_column_3 rfl (lv_at hl 3 rfl) ?_
    refine wc_v (vx_runV (As := [.int a1, .int a2, .int a3]) (rest := []) ⟨hx, hb, hml, hown, hts⟩ (c_X4_column l hl9 D ca g x a1 a2 a3 q0 H.size) (cwV 3 hts gL_column_X4_column rfl rfl rfl (by decide +kernel) ⟨Nat.le_of_ble_eq_true rfl, Nat.le_of_ble_eq_true rfl⟩) (tP_V (H0 := H) (q := (RX4, TX4, 16)) hP hC hD hz hS hA 0 rfl rfl) rfl rfl hl.1 rfl (lv_room (Nat.le_of_ble_eq_true rfl)) dL_column_4 ⟨Nat.le_of_ble_eq_true rfl, Nat.le_of_ble_eq_true rfl⟩) hD hS hA (fun ce q9 H locs hk3 hP hD hS hce hcv hcl => ?_) (fun H locs h0 hP hD hS => ?_)
    · rcases hk3 with e1 | e1 | e1
      · rw [e1] at hcl
        refine vx_catch (name := "java/lang/IndexOutOfBoundsException") (E := "java/lang/IndexOutOfBoundsException") hown [] ⟨0, 8, 9, 14⟩ [⟨0, 8, 15, 18⟩] (by rw [htab]; rfl) (fun z hz => nomatch hz) (by decide) (by decide) (hts (.classLink RL 14 "java/lang/IndexOutOfBoundsException") (by decide +kernel)) (hC.use (.castable "java/lang/IndexOutOfBoundsException" "java/lang/IndexOutOfBoundsException") (by decide +kernel)) hce hcv hcl ?_
        refine lv_astore (lv' := [(4, .ref q9), (0, .ref (g 0)), (1, .int a1), (2, .int a2), (3, .int a3)]) hx hb dL_column_9 hl (by decide) rfl (fun ls hl => ?_)
        refine lv_ldc2 (v := -9000000000000000) hx hb hown (hts (.constantLong RL 16 (-9000000000000000)) (by decide +kernel)) dL_column_11 ?_
        exact wl_l (g := g) hx hb hr hAe (by rw [e1]; rfl) hP hD hS (Nat.le_of_ble_eq_true rfl) (Nat.le_of_ble_eq_true rfl) dL_column_14 hlocks
      · rw [e1] at hcl
        have hpass : ∀ z ∈ ([⟨0, 8, 9, 14⟩] : List ExceptionTableEntry), covers z 4 = false ∨ (z.catchType ≠ 0 ∧ ∃ nm : String, (Cond.classLink RL z.catchType nm).before #[.ref (g 0), .int a1, .int a2, .int a3] s = true ∧ va_Nc "java/lang/IllegalArgumentException" nm s) := by
          intro z hz
          simp only [List.mem_cons, List.not_mem_nil, or_false] at hz
          rcases hz with rfl
          · exact Or.inr ⟨by decide, "java/lang/IndexOutOfBoundsException", hts (.classLink RL 14 "java/lang/IndexOutOfBoundsException") (by decide +kernel), hC.2.2.2.1 ("java/lang/IllegalArgumentException", "java/lang/IndexOutOfBoundsException") (by decide)⟩
        refine vx_catch (name := "java/lang/IllegalArgumentException") (E := "java/lang/IllegalArgumentException") hown [⟨0, 8, 9, 14⟩] ⟨0, 8, 15, 18⟩ [] (by rw [htab]; rfl) hpass (by decide) (by decide) (hts (.classLink RL 18 "java/lang/IllegalArgumentException") (by decide +kernel)) (hC.use (.castable "java/lang/IllegalArgumentException" "java/lang/IllegalArgumentException") (by decide +kernel)) hce hcv hcl ?_
        refine lv_astore (lv' := [(4, .ref q9), (0, .ref (g 0)), (1, .int a1), (2, .int a2), (3, .int a3)]) hx hb dL_column_15 hl (by decide) rfl (fun ls hl => ?_)
        refine lv_ldc2 (v := -9000000000000000) hx hb hown (hts (.constantLong RL 16 (-9000000000000000)) (by decide +kernel)) dL_column_17 ?_
        exact wl_l (g := g) hx hb hr hAe (by rw [e1]; rfl) hP hD hS (Nat.le_of_ble_eq_true rfl) (Nat.le_of_ble_eq_true rfl) dL_column_20 hlocks
      · exact absurd hk (by rw [e1]; decide)
    · refine lv_lconst (v := 0) hx hb dL_column_7 (by decide) ?_
      exact wl_l (g := g) hx hb hr hAe (by rw [h0]; rfl) hP hD hS (Nat.le_of_ble_eq_true rfl) (Nat.le_of_ble_eq_true rfl) dL_column_8 hlocks
  rw [hHe, hle] at hgo
  exact hgo
def s_L_tells (x : XS) (a1 : Int32) (a2 : Int32) (a3 : Int32) : Option (Int64 × XS) := (s_X4_cell x a1 a2 a3).bind fun r0 => if r0.1 = 0 ∨ r0.1 = 1 ∨ r0.1 = 2 ∨ r0.1 = 3 then some (wv r0.1 r0.2.1.toInt64, r0.2.2) else none
set_option maxHeartbeats 4000000 in
set_option maxRecDepth 100000 in
theorem c_L_tells (l : Launch) (hl9 : l.stackTraces = false) (D : va_G) (ca : Nat → ClassId) (g : Nat → Nat) (x : XS) (a1 : Int32) (a2 : Int32) (a3 : Int32) {r : (Int64 × XS)} (hs : s_L_tells x a1 a2 a3 = some r) (sz : Nat) : Met l yL_tells wsL_tells ({ frames := 7, cells := 1, slots := 6, locals := 106 }) (tP [.ref (g 0), .int a1, .int a2, .int a3] D ca (wX g ca x) sz) (wQl r.1 D (wX g ca x) (wX g ca r.2) sz) 1 6 (va_A (wX g ca x) sz) := by
  unfold s_L_tells at hs
  obtain ⟨r0, q0, hs⟩ := sp_b hs
  obtain ⟨hk, hs⟩ := sp_i hs
  cases hs
  refine va_MetW (cc := cL_tells) (maxL := 5) (ret := (some .long)) (hh := [(0, 8, 9, 14), (0, 8, 15, 18), (0, 8, 21, 24)]) (by decide) rfl ?_
  intro p e s m args below meth c s₁ B hml hv
  obtain ⟨rfl, hsz, hP, hC, hD0, hz⟩ := hv
  have hx := B.exec
  have hb := B.bytes
  have hr := B.returns
  have hts := atoms_spec (ws := wsL_tells) B.pre
  have hown : s.vm.findClass RL = some m.cls := findClass_of_methodNamed B.named
  have hlocks := B.notSynchronized
  have hK := hC.1
  have htab := vx_table (x := yL_tells) B (hts (.codeWith yL_tells cL_tells 5 (some .long) [(0, 8, 9, 14), (0, 8, 15, 18), (0, 8, 21, 24)]) List.mem_cons_self)
  subst hsz
  have hD := hD0.self (sz := s.heap.size)
  generalize hAe : va_A (wX g ca x) s.heap.size = A at hD hz ⊢
  have hA : ∀ q : Nat, s.heap.size ≤ q → A q := fun q h => by rw [← hAe]; exact Or.inr h
  have hS : va_S A s.heap s.heap [] := va_S.rf
  have hl := lv_entry ([.ref (g 0), .int a1, .int a2, .int a3]) (n := 5) (Nat.le_of_ble_eq_true rfl)
  rw [lg_entry_eq]
  generalize (lg_sl ([.ref (g 0), .int a1, .int a2, .int a3]) ++ List.replicate (5 - (lg_sl ([.ref (g 0), .int a1, .int a2, .int a3])).length) Slot.unset).toArray = ls at hl ⊢
  have hl : lv_has ls 5 [(0, .ref (g 0)), (1, .int a1), (2, .int a2), (3, .int a3)] := hl
  obtain ⟨H, hHe⟩ : ∃ H, H = s.heap := ⟨_, rfl⟩
  obtain ⟨locs, hle⟩ : ∃ z : List Loc, z = [] := ⟨_, rfl⟩
  have hP : va_P D vwCl (wX g ca x) H := by rw [hHe]; exact hP
  have hS : va_S A s.heap H locs := by rw [hHe, hle]; exact hS
  have hgo : W p l e (headSpec wsL_tells ({ frames := 7, cells := 1, slots := 6, locals := 106 })).room s m #[.ref (g 0), .int a1, .int a2, .int a3] below meth c H locs 0 0 (MQ below (wQl (wv r0.1 r0.2.1.toInt64) D (wX g ca x) (wX g ca r0.2.2) s.heap.size) #[.ref (g 0), .int a1, .int a2, .int a3] s 1 6 A) (F0 m 0 ls []) := by
    refine lv_aload_n hx hb dL_tells_0 rfl (lv_at hl 0 rfl) ?_
    refine lv_iload_n hx hb dL_tells_1 rfl (lv_at hl 1 rfl) ?_
    refine lv_iload_n hx hb dL_tells_2 rfl (lv_at hl 2 rfl) ?_
    refine lv_iload_n hx hb dL_tells_3 rfl (lv_at hl 3 rfl) ?_
    refine wc_i (vx_runV (As := [.int a1, .int a2, .int a3]) (rest := []) ⟨hx, hb, hml, hown, hts⟩ (c_X4_cell l hl9 D ca g x a1 a2 a3 q0 H.size) (cwV 3 hts gL_tells_X4_cell rfl rfl rfl (by decide +kernel) ⟨Nat.le_of_ble_eq_true rfl, Nat.le_of_ble_eq_true rfl⟩) (tP_V (H0 := H) (q := (RX4, TX4, 16)) hP hC hD hz hS hA 0 rfl rfl) rfl rfl hl.1 rfl (lv_room (Nat.le_of_ble_eq_true rfl)) dL_tells_4 ⟨Nat.le_of_ble_eq_true rfl, Nat.le_of_ble_eq_true rfl⟩) hD hS hA (fun ce q9 H locs hk3 hP hD hS hce hcv hcl => ?_) (fun H locs h0 hP hD hS => ?_)
    · rcases hk3 with e1 | e1 | e1
      · rw [e1] at hcl
        refine vx_catch (name := "java/lang/IndexOutOfBoundsException") (E := "java/lang/IndexOutOfBoundsException") hown [] ⟨0, 8, 9, 14⟩ [⟨0, 8, 15, 18⟩, ⟨0, 8, 21, 24⟩] (by rw [htab]; rfl) (fun z hz => nomatch hz) (by decide) (by decide) (hts (.classLink RL 14 "java/lang/IndexOutOfBoundsException") (by decide +kernel)) (hC.use (.castable "java/lang/IndexOutOfBoundsException" "java/lang/IndexOutOfBoundsException") (by decide +kernel)) hce hcv hcl ?_
        refine lv_astore (lv' := [(4, .ref q9), (0, .ref (g 0)), (1, .int a1), (2, .int a2), (3, .int a3)]) hx hb dL_tells_9 hl (by decide) rfl (fun ls hl => ?_)
        refine lv_ldc2 (v := -9000000000000000) hx hb hown (hts (.constantLong RL 16 (-9000000000000000)) (by decide +kernel)) dL_tells_11 ?_
        exact wl_l (g := g) hx hb hr hAe (by rw [e1]; rfl) hP hD hS (Nat.le_of_ble_eq_true rfl) (Nat.le_of_ble_eq_true rfl) dL_tells_14 hlocks
      · rw [e1] at hcl
        have hpass : ∀ z ∈ ([⟨0, 8, 9, 14⟩] : List ExceptionTableEntry), covers z 4 = false ∨ (z.catchType ≠ 0 ∧ ∃ nm : String, (Cond.classLink RL z.catchType nm).before #[.ref (g 0), .int a1, .int a2, .int a3] s = true ∧ va_Nc "java/lang/IllegalArgumentException" nm s) := by
          intro z hz
          simp only [List.mem_cons, List.not_mem_nil, or_false] at hz
          rcases hz with rfl
          · exact Or.inr ⟨by decide, "java/lang/IndexOutOfBoundsException", hts (.classLink RL 14 "java/lang/IndexOutOfBoundsException") (by decide +kernel), hC.2.2.2.1 ("java/lang/IllegalArgumentException", "java/lang/IndexOutOfBoundsException") (by decide)⟩
        refine vx_catch (name := "java/lang/IllegalArgumentException") (E := "java/lang/IllegalArgumentException") hown [⟨0, 8, 9, 14⟩] ⟨0, 8, 15, 18⟩ [⟨0, 8, 21, 24⟩] (by rw [htab]; rfl) hpass (by decide) (by decide) (hts (.classLink RL 18 "java/lang/IllegalArgumentException") (by decide +kernel)) (hC.use (.castable "java/lang/IllegalArgumentException" "java/lang/IllegalArgumentException") (by decide +kernel)) hce hcv hcl ?_
        refine lv_astore (lv' := [(4, .ref q9), (0, .ref (g 0)), (1, .int a1), (2, .int a2), (3, .int a3)]) hx hb dL_tells_15 hl (by decide) rfl (fun ls hl => ?_)
        refine lv_ldc2 (v := -9000000000000000) hx hb hown (hts (.constantLong RL 16 (-9000000000000000)) (by decide +kernel)) dL_tells_17 ?_
        exact wl_l (g := g) hx hb hr hAe (by rw [e1]; rfl) hP hD hS (Nat.le_of_ble_eq_true rfl) (Nat.le_of_ble_eq_true rfl) dL_tells_20 hlocks
      · rw [e1] at hcl
        have hpass : ∀ z ∈ ([⟨0, 8, 9, 14⟩, ⟨0, 8, 15, 18⟩] : List ExceptionTableEntry), covers z 4 = false ∨ (z.catchType ≠ 0 ∧ ∃ nm : String, (Cond.classLink RL z.catchType nm).before #[.ref (g 0), .int a1, .int a2, .int a3] s = true ∧ va_Nc "java/lang/IllegalStateException" nm s) := by
          intro z hz
          simp only [List.mem_cons, List.not_mem_nil, or_false] at hz
          rcases hz with rfl | rfl
          · exact Or.inr ⟨by decide, "java/lang/IndexOutOfBoundsException", hts (.classLink RL 14 "java/lang/IndexOutOfBoundsException") (by decide +kernel), hC.2.2.2.1 ("java/lang/IllegalStateException", "java/lang/IndexOutOfBoundsException") (by decide)⟩
          · exact Or.inr ⟨by decide, "java/lang/IllegalArgumentException", hts (.classLink RL 18 "java/lang/IllegalArgumentException") (by decide +kernel), hC.2.2.2.1 ("java/lang/IllegalStateException", "java/lang/IllegalArgumentException") (by decide)⟩
        refine vx_catch (name := "java/lang/IllegalStateException") (E := "java/lang/IllegalStateException") hown [⟨0, 8, 9, 14⟩, ⟨0, 8, 15, 18⟩] ⟨0, 8, 21, 24⟩ [] (by rw [htab]; rfl) hpass (by decide) (by decide) (hts (.classLink RL 24 "java/lang/IllegalStateException") (by decide +kernel)) (hC.use (.castable "java/lang/IllegalStateException" "java/lang/IllegalStateException") (by decide +kernel)) hce hcv hcl ?_
        refine lv_astore (lv' := [(4, .ref q9), (0, .ref (g 0)), (1, .int a1), (2, .int a2), (3, .int a3)]) hx hb dL_tells_21 hl (by decide) rfl (fun ls hl => ?_)
        refine lv_ldc2 (v := -9000000000000000) hx hb hown (hts (.constantLong RL 16 (-9000000000000000)) (by decide +kernel)) dL_tells_23 ?_
        exact wl_l (g := g) hx hb hr hAe (by rw [e1]; rfl) hP hD hS (Nat.le_of_ble_eq_true rfl) (Nat.le_of_ble_eq_true rfl) dL_tells_26 hlocks
    · refine lv_i2l hx hb dL_tells_7 rfl ?_
      exact wl_l (g := g) hx hb hr hAe (by rw [h0]; rfl) hP hD hS (Nat.le_of_ble_eq_true rfl) (Nat.le_of_ble_eq_true rfl) dL_tells_8 hlocks
  rw [hHe, hle] at hgo
  exact hgo
def s_L_need (x : XS) (a1 : Int32) (a2 : Int32) : Option (Int64 × XS) := (s_X4_need x a1 a2).bind fun r0 => if r0.1 = 0 ∨ r0.1 = 2 then some (wv r0.1 0, r0.2.2) else none
set_option maxHeartbeats 4000000 in
set_option maxRecDepth 100000 in
theorem c_L_need (l : Launch) (hl9 : l.stackTraces = false) (D : va_G) (ca : Nat → ClassId) (g : Nat → Nat) (x : XS) (a1 : Int32) (a2 : Int32) {r : (Int64 × XS)} (hs : s_L_need x a1 a2 = some r) (sz : Nat) : Met l yL_need wsL_need ({ frames := 7, cells := 1, slots := 6, locals := 104 }) (tP [.ref (g 0), .int a1, .int a2] D ca (wX g ca x) sz) (wQl r.1 D (wX g ca x) (wX g ca r.2) sz) 1 6 (va_A (wX g ca x) sz) := by
  unfold s_L_need at hs
  obtain ⟨r0, q0, hs⟩ := sp_b hs
  obtain ⟨hk, hs⟩ := sp_i hs
  cases hs
  refine va_MetW (cc := cL_need) (maxL := 4) (ret := (some .long)) (hh := [(0, 7, 8, 18)]) (by decide) rfl ?_
  intro p e s m args below meth c s₁ B hml hv
  obtain ⟨rfl, hsz, hP, hC, hD0, hz⟩ := hv
  have hx := B.exec
  have hb := B.bytes
  have hr := B.returns
  have hts := atoms_spec (ws := wsL_need) B.pre
  have hown : s.vm.findClass RL = some m.cls := findClass_of_methodNamed B.named
  have hlocks := B.notSynchronized
  have hK := hC.1
  have htab := vx_table (x := yL_need) B (hts (.codeWith yL_need cL_need 4 (some .long) [(0, 7, 8, 18)]) List.mem_cons_self)
  subst hsz
  have hD := hD0.self (sz := s.heap.size)
  generalize hAe : va_A (wX g ca x) s.heap.size = A at hD hz ⊢
  have hA : ∀ q : Nat, s.heap.size ≤ q → A q := fun q h => by rw [← hAe]; exact Or.inr h
  have hS : va_S A s.heap s.heap [] := va_S.rf
  have hl := lv_entry ([.ref (g 0), .int a1, .int a2]) (n := 4) (Nat.le_of_ble_eq_true rfl)
  rw [lg_entry_eq]
  generalize (lg_sl ([.ref (g 0), .int a1, .int a2]) ++ List.replicate (4 - (lg_sl ([.ref (g 0), .int a1, .int a2])).length) Slot.unset).toArray = ls at hl ⊢
  have hl : lv_has ls 4 [(0, .ref (g 0)), (1, .int a1), (2, .int a2)] := hl
  obtain ⟨H, hHe⟩ : ∃ H, H = s.heap := ⟨_, rfl⟩
  obtain ⟨locs, hle⟩ : ∃ z : List Loc, z = [] := ⟨_, rfl⟩
  have hP : va_P D vwCl (wX g ca x) H := by rw [hHe]; exact hP
  have hS : va_S A s.heap H locs := by rw [hHe, hle]; exact hS
  have hgo : W p l e (headSpec wsL_need ({ frames := 7, cells := 1, slots := 6, locals := 104 })).room s m #[.ref (g 0), .int a1, .int a2] below meth c H locs 0 0 (MQ below (wQl (wv r0.1 0) D (wX g ca x) (wX g ca r0.2.2) s.heap.size) #[.ref (g 0), .int a1, .int a2] s 1 6 A) (F0 m 0 ls []) := by
    refine lv_aload_n hx hb dL_need_0 rfl (lv_at hl 0 rfl) ?_
    refine lv_iload_n hx hb dL_need_1 rfl (lv_at hl 1 rfl) ?_
    refine lv_iload_n hx hb dL_need_2 rfl (lv_at hl 2 rfl) ?_
    refine wc_v (vx_runV (As := [.int a1, .int a2]) (rest := []) ⟨hx, hb, hml, hown, hts⟩ (c_X4_need l hl9 D ca g x a1 a2 q0 H.size) (cwV 2 hts gL_need_X4_need rfl rfl rfl (by decide +kernel) ⟨Nat.le_of_ble_eq_true rfl, Nat.le_of_ble_eq_true rfl⟩) (tP_V (H0 := H) (q := (RX4, TX4, 16)) hP hC hD hz hS hA 0 rfl rfl) rfl rfl hl.1 rfl (lv_room (Nat.le_of_ble_eq_true rfl)) dL_need_3 ⟨Nat.le_of_ble_eq_true rfl, Nat.le_of_ble_eq_true rfl⟩) hD hS hA (fun ce q9 H locs hk3 hP hD hS hce hcv hcl => ?_) (fun H locs h0 hP hD hS => ?_)
    · rcases hk3 with e1 | e1 | e1
      · exact absurd hk (by rw [e1]; decide)
      · rw [e1] at hcl
        refine vx_catch (name := "java/lang/IllegalArgumentException") (E := "java/lang/IllegalArgumentException") hown [] ⟨0, 7, 8, 18⟩ [] (by rw [htab]; rfl) (fun z hz => nomatch hz) (by decide) (by decide) (hts (.classLink RL 18 "java/lang/IllegalArgumentException") (by decide +kernel)) (hC.use (.castable "java/lang/IllegalArgumentException" "java/lang/IllegalArgumentException") (by decide +kernel)) hce hcv hcl ?_
        refine lv_astore_n (lv' := [(3, .ref q9), (0, .ref (g 0)), (1, .int a1), (2, .int a2)]) hx hb dL_need_8 rfl hl (by decide) rfl (fun ls hl => ?_)
        refine lv_ldc2 (v := -9000000000000000) hx hb hown (hts (.constantLong RL 16 (-9000000000000000)) (by decide +kernel)) dL_need_9 ?_
        exact wl_l (g := g) hx hb hr hAe (by rw [e1]; rfl) hP hD hS (Nat.le_of_ble_eq_true rfl) (Nat.le_of_ble_eq_true rfl) dL_need_12 hlocks
      · exact absurd hk (by rw [e1]; decide)
    · refine lv_lconst (v := 0) hx hb dL_need_6 (by decide) ?_
      exact wl_l (g := g) hx hb hr hAe (by rw [h0]; rfl) hP hD hS (Nat.le_of_ble_eq_true rfl) (Nat.le_of_ble_eq_true rfl) dL_need_7 hlocks
  rw [hHe, hle] at hgo
  exact hgo
def s_L_projector (x : XS) (a1 : Int32) (a2 : Int32) (a3 : Int32) (a4 : Int32) (a5 : Int32) : Option (Int64 × XS) := (s_X4_projector x a1 a2 a3 a4 a5).bind fun r0 => if r0.1 = 0 ∨ r0.1 = 1 ∨ r0.1 = 2 ∨ r0.1 = 3 then some (wv r0.1 r0.2.1.toInt64, r0.2.2) else none
set_option maxHeartbeats 4000000 in
set_option maxRecDepth 100000 in
theorem c_L_projector (l : Launch) (hl9 : l.stackTraces = false) (D : va_G) (ca : Nat → ClassId) (g : Nat → Nat) (x : XS) (a1 : Int32) (a2 : Int32) (a3 : Int32) (a4 : Int32) (a5 : Int32) {r : (Int64 × XS)} (hs : s_L_projector x a1 a2 a3 a4 a5 = some r) (sz : Nat) : Met l yL_projector wsL_projector ({ frames := 7, cells := 1, slots := 10, locals := 108 }) (tP [.ref (g 0), .int a1, .int a2, .int a3, .int a4, .int a5] D ca (wX g ca x) sz) (pQl r.1 D (wX g ca x) g ca r.2 sz) 1 10 (va_A (wX g ca x) sz) := by
  unfold s_L_projector at hs
  obtain ⟨r0, q0, hs⟩ := sp_b hs
  obtain ⟨hk, hs⟩ := sp_i hs
  cases hs
  refine va_MetW (cc := cL_projector) (maxL := 7) (ret := (some .long)) (hh := [(0, 12, 13, 14), (0, 12, 19, 18), (0, 12, 25, 24)]) (by decide) rfl ?_
  intro p e s m args below meth c s₁ B hml hv
  obtain ⟨rfl, hsz, hP, hC, hD0, hz⟩ := hv
  have hx := B.exec
  have hb := B.bytes
  have hr := B.returns
  have hts := atoms_spec (ws := wsL_projector) B.pre
  have hown : s.vm.findClass RL = some m.cls := findClass_of_methodNamed B.named
  have hlocks := B.notSynchronized
  have hK := hC.1
  have htab := vx_table (x := yL_projector) B (hts (.codeWith yL_projector cL_projector 7 (some .long) [(0, 12, 13, 14), (0, 12, 19, 18), (0, 12, 25, 24)]) List.mem_cons_self)
  subst hsz
  have hD := hD0.self (sz := s.heap.size)
  generalize hAe : va_A (wX g ca x) s.heap.size = A at hD hz ⊢
  have hA : ∀ q : Nat, s.heap.size ≤ q → A q := fun q h => by rw [← hAe]; exact Or.inr h
  have hS : va_S A s.heap s.heap [] := va_S.rf
  have hl := lv_entry ([.ref (g 0), .int a1, .int a2, .int a3, .int a4, .int a5]) (n := 7) (Nat.le_of_ble_eq_true rfl)
  rw [lg_entry_eq]
  generalize (lg_sl ([.ref (g 0), .int a1, .int a2, .int a3, .int a4, .int a5]) ++ List.replicate (7 - (lg_sl ([.ref (g 0), .int a1, .int a2, .int a3, .int a4, .int a5])).length) Slot.unset).toArray = ls at hl ⊢
  have hl : lv_has ls 7 [(0, .ref (g 0)), (1, .int a1), (2, .int a2), (3, .int a3), (4, .int a4), (5, .int a5)] := hl
  obtain ⟨H, hHe⟩ : ∃ H, H = s.heap := ⟨_, rfl⟩
  obtain ⟨locs, hle⟩ : ∃ z : List Loc, z = [] := ⟨_, rfl⟩
  have hP : va_P D vwCl (wX g ca x) H := by rw [hHe]; exact hP
  have hS : va_S A s.heap H locs := by rw [hHe, hle]; exact hS
  have hgo : W p l e (headSpec wsL_projector ({ frames := 7, cells := 1, slots := 10, locals := 108 })).room s m #[.ref (g 0), .int a1, .int a2, .int a3, .int a4, .int a5] below meth c H locs 0 0 (MQ below (pQl (wv r0.1 r0.2.1.toInt64) D (wX g ca x) g ca r0.2.2 s.heap.size) #[.ref (g 0), .int a1, .int a2, .int a3, .int a4, .int a5] s 1 10 A) (F0 m 0 ls []) := by
    refine lv_aload_n hx hb dL_projector_0 rfl (lv_at hl 0 rfl) ?_
    refine lv_iload_n hx hb dL_projector_1 rfl (lv_at hl 1 rfl) ?_
    refine lv_iload_n hx hb dL_projector_2 rfl (lv_at hl 2 rfl) ?_
    refine lv_iload_n hx hb dL_projector_3 rfl (lv_at hl 3 rfl) ?_
    refine lv_iload hx hb dL_projector_4 (lv_at hl 4 rfl) ?_
    refine lv_iload hx hb dL_projector_6 (lv_at hl 5 rfl) ?_
    refine wc_p (vx_runV (As := [.int a1, .int a2, .int a3, .int a4, .int a5]) (rest := []) ⟨hx, hb, hml, hown, hts⟩ (c_X4_projector l hl9 D ca g x a1 a2 a3 a4 a5 q0 H.size) (cwV 5 hts gL_projector_X4_projector rfl rfl rfl (by decide +kernel) ⟨Nat.le_of_ble_eq_true rfl, Nat.le_of_ble_eq_true rfl⟩) (tP_V (H0 := H) (q := (RX4, TX4, 16)) hP hC hD hz hS hA 0 rfl rfl) rfl rfl hl.1 rfl (lv_room (Nat.le_of_ble_eq_true rfl)) dL_projector_8 ⟨Nat.le_of_ble_eq_true rfl, Nat.le_of_ble_eq_true rfl⟩) hD hS hA (fun ce q9 H locs hk3 hP hD hS hce hcv hcl => ?_) (fun g' H locs h0 hg hP hD hS => ?_)
    · rcases hk3 with e1 | e1 | e1
      · rw [e1] at hcl
        refine vx_catch (name := "java/lang/IndexOutOfBoundsException") (E := "java/lang/IndexOutOfBoundsException") hown [] ⟨0, 12, 13, 14⟩ [⟨0, 12, 19, 18⟩, ⟨0, 12, 25, 24⟩] (by rw [htab]; rfl) (fun z hz => nomatch hz) (by decide) (by decide) (hts (.classLink RL 14 "java/lang/IndexOutOfBoundsException") (by decide +kernel)) (hC.use (.castable "java/lang/IndexOutOfBoundsException" "java/lang/IndexOutOfBoundsException") (by decide +kernel)) hce hcv hcl ?_
        refine lv_astore (lv' := [(6, .ref q9), (0, .ref (g 0)), (1, .int a1), (2, .int a2), (3, .int a3), (4, .int a4), (5, .int a5)]) hx hb dL_projector_13 hl (by decide) rfl (fun ls hl => ?_)
        refine lv_ldc2 (v := -9000000000000000) hx hb hown (hts (.constantLong RL 16 (-9000000000000000)) (by decide +kernel)) dL_projector_15 ?_
        exact wl_p (g := g) (g' := g) rfl hx hb hr hAe (by rw [e1]; rfl) hP hD hS (Nat.le_of_ble_eq_true rfl) (Nat.le_of_ble_eq_true rfl) dL_projector_18 hlocks
      · rw [e1] at hcl
        have hpass : ∀ z ∈ ([⟨0, 12, 13, 14⟩] : List ExceptionTableEntry), covers z 8 = false ∨ (z.catchType ≠ 0 ∧ ∃ nm : String, (Cond.classLink RL z.catchType nm).before #[.ref (g 0), .int a1, .int a2, .int a3, .int a4, .int a5] s = true ∧ va_Nc "java/lang/IllegalArgumentException" nm s) := by
          intro z hz
          simp only [List.mem_cons, List.not_mem_nil, or_false] at hz
          rcases hz with rfl
          · exact Or.inr ⟨by decide, "java/lang/IndexOutOfBoundsException", hts (.classLink RL 14 "java/lang/IndexOutOfBoundsException") (by decide +kernel), hC.2.2.2.1 ("java/lang/IllegalArgumentException", "java/lang/IndexOutOfBoundsException") (by decide)⟩
        refine vx_catch (name := "java/lang/IllegalArgumentException") (E := "java/lang/IllegalArgumentException") hown [⟨0, 12, 13, 14⟩] ⟨0, 12, 19, 18⟩ [⟨0, 12, 25, 24⟩] (by rw [htab]; rfl) hpass (by decide) (by decide) (hts (.classLink RL 18 "java/lang/IllegalArgumentException") (by decide +kernel)) (hC.use (.castable "java/lang/IllegalArgumentException" "java/lang/IllegalArgumentException") (by decide +kernel)) hce hcv hcl ?_
        refine lv_astore (lv' := [(6, .ref q9), (0, .ref (g 0)), (1, .int a1), (2, .int a2), (3, .int a3), (4, .int a4), (5, .int a5)]) hx hb dL_projector_19 hl (by decide) rfl (fun ls hl => ?_)
        refine lv_ldc2 (v := -9000000000000000) hx hb hown (hts (.constantLong RL 16 (-9000000000000000)) (by decide +kernel)) dL_projector_21 ?_
        exact wl_p (g := g) (g' := g) rfl hx hb hr hAe (by rw [e1]; rfl) hP hD hS (Nat.le_of_ble_eq_true rfl) (Nat.le_of_ble_eq_true rfl) dL_projector_24 hlocks
      · rw [e1] at hcl
        have hpass : ∀ z ∈ ([⟨0, 12, 13, 14⟩, ⟨0, 12, 19, 18⟩] : List ExceptionTableEntry), covers z 8 = false ∨ (z.catchType ≠ 0 ∧ ∃ nm : String, (Cond.classLink RL z.catchType nm).before #[.ref (g 0), .int a1, .int a2, .int a3, .int a4, .int a5] s = true ∧ va_Nc "java/lang/IllegalStateException" nm s) := by
          intro z hz
          simp only [List.mem_cons, List.not_mem_nil, or_false] at hz
          rcases hz with rfl | rfl
          · exact Or.inr ⟨by decide, "java/lang/IndexOutOfBoundsException", hts (.classLink RL 14 "java/lang/IndexOutOfBoundsException") (by decide +kernel), hC.2.2.2.1 ("java/lang/IllegalStateException", "java/lang/IndexOutOfBoundsException") (by decide)⟩
          · exact Or.inr ⟨by decide, "java/lang/IllegalArgumentException", hts (.classLink RL 18 "java/lang/IllegalArgumentException") (by decide +kernel), hC.2.2.2.1 ("java/lang/IllegalStateException", "java/lang/IllegalArgumentException") (by decide)⟩
        refine vx_catch (name := "java/lang/IllegalStateException") (E := "java/lang/IllegalStateException") hown [⟨0, 12, 13, 14⟩, ⟨0, 12, 19, 18⟩] ⟨0, 12, 25, 24⟩ [] (by rw [htab]; rfl) hpass (by decide) (by decide) (hts (.classLink RL 24 "java/lang/IllegalStateException") (by decide +kernel)) (hC.use (.castable "java/lang/IllegalStateException" "java/lang/IllegalStateException") (by decide +kernel)) hce hcv hcl ?_
        refine lv_astore (lv' := [(6, .ref q9), (0, .ref (g 0)), (1, .int a1), (2, .int a2), (3, .int a3), (4, .int a4), (5, .int a5)]) hx hb dL_projector_25 hl (by decide) rfl (fun ls hl => ?_)
        refine lv_ldc2 (v := -9000000000000000) hx hb hown (hts (.constantLong RL 16 (-9000000000000000)) (by decide +kernel)) dL_projector_27 ?_
        exact wl_p (g := g) (g' := g) rfl hx hb hr hAe (by rw [e1]; rfl) hP hD hS (Nat.le_of_ble_eq_true rfl) (Nat.le_of_ble_eq_true rfl) dL_projector_30 hlocks
    · refine lv_i2l hx hb dL_projector_11 rfl ?_
      exact wl_p (g := g) (g' := g') hg hx hb hr hAe (by rw [h0]; rfl) hP hD hS (Nat.le_of_ble_eq_true rfl) (Nat.le_of_ble_eq_true rfl) dL_projector_12 hlocks
  rw [hHe, hle] at hgo
  exact hgo
def s_L_aim (x : XS) (a1 : Int32) (a2 : Int32) (a3 : Int32) : Option (Int64 × XS) := (s_X4_aim x a1 a2 a3).bind fun r0 => if r0.1 = 0 ∨ r0.1 = 1 ∨ r0.1 = 2 then some (wv r0.1 0, r0.2.2) else none
set_option maxHeartbeats 4000000 in
set_option maxRecDepth 100000 in
theorem c_L_aim (l : Launch) (hl9 : l.stackTraces = false) (D : va_G) (ca : Nat → ClassId) (g : Nat → Nat) (x : XS) (a1 : Int32) (a2 : Int32) (a3 : Int32) {r : (Int64 × XS)} (hs : s_L_aim x a1 a2 a3 = some r) (sz : Nat) : Met l yL_aim wsL_aim ({ frames := 7, cells := 1, slots := 6, locals := 106 }) (tP [.ref (g 0), .int a1, .int a2, .int a3] D ca (wX g ca x) sz) (wQl r.1 D (wX g ca x) (wX g ca r.2) sz) 1 6 (va_A (wX g ca x) sz) := by
  unfold s_L_aim at hs
  obtain ⟨r0, q0, hs⟩ := sp_b hs
  obtain ⟨hk, hs⟩ := sp_i hs
  cases hs
  refine va_MetW (cc := cL_aim) (maxL := 5) (ret := (some .long)) (hh := [(0, 8, 9, 14), (0, 8, 15, 18)]) (by decide) rfl ?_
  intro p e s m args below meth c s₁ B hml hv
  obtain ⟨rfl, hsz, hP, hC, hD0, hz⟩ := hv
  have hx := B.exec
  have hb := B.bytes
  have hr := B.returns
  have hts := atoms_spec (ws := wsL_aim) B.pre
  have hown : s.vm.findClass RL = some m.cls := findClass_of_methodNamed B.named
  have hlocks := B.notSynchronized
  have hK := hC.1
  have htab := vx_table (x := yL_aim) B (hts (.codeWith yL_aim cL_aim 5 (some .long) [(0, 8, 9, 14), (0, 8, 15, 18)]) List.mem_cons_self)
  subst hsz
  have hD := hD0.self (sz := s.heap.size)
  generalize hAe : va_A (wX g ca x) s.heap.size = A at hD hz ⊢
  have hA : ∀ q : Nat, s.heap.size ≤ q → A q := fun q h => by rw [← hAe]; exact Or.inr h
  have hS : va_S A s.heap s.heap [] := va_S.rf
  have hl := lv_entry ([.ref (g 0), .int a1, .int a2, .int a3]) (n := 5) (Nat.le_of_ble_eq_true rfl)
  rw [lg_entry_eq]
  generalize (lg_sl ([.ref (g 0), .int a1, .int a2, .int a3]) ++ List.replicate (5 - (lg_sl ([.ref (g 0), .int a1, .int a2, .int a3])).length) Slot.unset).toArray = ls at hl ⊢
  have hl : lv_has ls 5 [(0, .ref (g 0)), (1, .int a1), (2, .int a2), (3, .int a3)] := hl
  obtain ⟨H, hHe⟩ : ∃ H, H = s.heap := ⟨_, rfl⟩
  obtain ⟨locs, hle⟩ : ∃ z : List Loc, z = [] := ⟨_, rfl⟩
  have hP : va_P D vwCl (wX g ca x) H := by rw [hHe]; exact hP
  have hS : va_S A s.heap H locs := by rw [hHe, hle]; exact hS
  have hgo : W p l e (headSpec wsL_aim ({ frames := 7, cells := 1, slots := 6, locals := 106 })).room s m #[.ref (g 0), .int a1, .int a2, .int a3] below meth c H locs 0 0 (MQ below (wQl (wv r0.1 0) D (wX g ca x) (wX g ca r0.2.2) s.heap.size) #[.ref (g 0), .int a1, .int a2, .int a3] s 1 6 A) (F0 m 0 ls []) := by
    refine lv_aload_n hx hb dL_aim_0 rfl (lv_at hl 0 rfl) ?_
    refine lv_iload_n hx hb dL_aim_1 rfl (lv_at hl 1 rfl) ?_
    refine lv_iload_n hx hb dL_aim_2 rfl (lv_at hl 2 rfl) ?_
    refine lv_iload_n hx hb dL_aim_3 rfl (lv_at hl 3 rfl) ?_
    refine wc_v (vx_runV (As := [.int a1, .int a2, .int a3]) (rest := []) ⟨hx, hb, hml, hown, hts⟩ (c_X4_aim l hl9 D ca g x a1 a2 a3 q0 H.size) (cwV 3 hts gL_aim_X4_aim rfl rfl rfl (by decide +kernel) ⟨Nat.le_of_ble_eq_true rfl, Nat.le_of_ble_eq_true rfl⟩) (tP_V (H0 := H) (q := (RX4, TX4, 16)) hP hC hD hz hS hA 0 rfl rfl) rfl rfl hl.1 rfl (lv_room (Nat.le_of_ble_eq_true rfl)) dL_aim_4 ⟨Nat.le_of_ble_eq_true rfl, Nat.le_of_ble_eq_true rfl⟩) hD hS hA (fun ce q9 H locs hk3 hP hD hS hce hcv hcl => ?_) (fun H locs h0 hP hD hS => ?_)
    · rcases hk3 with e1 | e1 | e1
      · rw [e1] at hcl
        refine vx_catch (name := "java/lang/IndexOutOfBoundsException") (E := "java/lang/IndexOutOfBoundsException") hown [] ⟨0, 8, 9, 14⟩ [⟨0, 8, 15, 18⟩] (by rw [htab]; rfl) (fun z hz => nomatch hz) (by decide) (by decide) (hts (.classLink RL 14 "java/lang/IndexOutOfBoundsException") (by decide +kernel)) (hC.use (.castable "java/lang/IndexOutOfBoundsException" "java/lang/IndexOutOfBoundsException") (by decide +kernel)) hce hcv hcl ?_
        refine lv_astore (lv' := [(4, .ref q9), (0, .ref (g 0)), (1, .int a1), (2, .int a2), (3, .int a3)]) hx hb dL_aim_9 hl (by decide) rfl (fun ls hl => ?_)
        refine lv_ldc2 (v := -9000000000000000) hx hb hown (hts (.constantLong RL 16 (-9000000000000000)) (by decide +kernel)) dL_aim_11 ?_
        exact wl_l (g := g) hx hb hr hAe (by rw [e1]; rfl) hP hD hS (Nat.le_of_ble_eq_true rfl) (Nat.le_of_ble_eq_true rfl) dL_aim_14 hlocks
      · rw [e1] at hcl
        have hpass : ∀ z ∈ ([⟨0, 8, 9, 14⟩] : List ExceptionTableEntry), covers z 4 = false ∨ (z.catchType ≠ 0 ∧ ∃ nm : String, (Cond.classLink RL z.catchType nm).before #[.ref (g 0), .int a1, .int a2, .int a3] s = true ∧ va_Nc "java/lang/IllegalArgumentException" nm s) := by
          intro z hz
          simp only [List.mem_cons, List.not_mem_nil, or_false] at hz
          rcases hz with rfl
          · exact Or.inr ⟨by decide, "java/lang/IndexOutOfBoundsException", hts (.classLink RL 14 "java/lang/IndexOutOfBoundsException") (by decide +kernel), hC.2.2.2.1 ("java/lang/IllegalArgumentException", "java/lang/IndexOutOfBoundsException") (by decide)⟩
        refine vx_catch (name := "java/lang/IllegalArgumentException") (E := "java/lang/IllegalArgumentException") hown [⟨0, 8, 9, 14⟩] ⟨0, 8, 15, 18⟩ [] (by rw [htab]; rfl) hpass (by decide) (by decide) (hts (.classLink RL 18 "java/lang/IllegalArgumentException") (by decide +kernel)) (hC.use (.castable "java/lang/IllegalArgumentException" "java/lang/IllegalArgumentException") (by decide +kernel)) hce hcv hcl ?_
        refine lv_astore (lv' := [(4, .ref q9), (0, .ref (g 0)), (1, .int a1), (2, .int a2), (3, .int a3)]) hx hb dL_aim_15 hl (by decide) rfl (fun ls hl => ?_)
        refine lv_ldc2 (v := -9000000000000000) hx hb hown (hts (.constantLong RL 16 (-9000000000000000)) (by decide +kernel)) dL_aim_17 ?_
        exact wl_l (g := g) hx hb hr hAe (by rw [e1]; rfl) hP hD hS (Nat.le_of_ble_eq_true rfl) (Nat.le_of_ble_eq_true rfl) dL_aim_20 hlocks
      · exact absurd hk (by rw [e1]; decide)
    · refine lv_lconst (v := 0) hx hb dL_aim_7 (by decide) ?_
      exact wl_l (g := g) hx hb hr hAe (by rw [h0]; rfl) hP hD hS (Nat.le_of_ble_eq_true rfl) (Nat.le_of_ble_eq_true rfl) dL_aim_8 hlocks
  rw [hHe, hle] at hgo
  exact hgo
def s_L_turn (x : XS) (a1 : Int32) (a2 : Int32) : Option (Int64 × XS) := (s_X4_turn x a1 a2).bind fun r0 => if r0.1 = 0 ∨ r0.1 = 1 ∨ r0.1 = 3 then some (wv r0.1 (if r0.2.1 = 0 then 0 else 1), r0.2.2) else none
set_option maxHeartbeats 4000000 in
set_option maxRecDepth 100000 in
theorem c_L_turn (l : Launch) (hl9 : l.stackTraces = false) (D : va_G) (ca : Nat → ClassId) (g : Nat → Nat) (x : XS) (a1 : Int32) (a2 : Int32) {r : (Int64 × XS)} (hs : s_L_turn x a1 a2 = some r) (sz : Nat) : Met l yL_turn wsL_turn ({ frames := 7, cells := 1, slots := 6, locals := 106 }) (tP [.ref (g 0), .int a1, .int a2] D ca (wX g ca x) sz) (wQl r.1 D (wX g ca x) (wX g ca r.2) sz) 1 6 (va_A (wX g ca x) sz) := by
  unfold s_L_turn at hs
  obtain ⟨r0, q0, hs⟩ := sp_b hs
  obtain ⟨hk, hs⟩ := sp_i hs
  cases hs
  refine va_MetW (cc := cL_turn) (maxL := 4) (ret := (some .long)) (hh := [(0, 14, 15, 14), (0, 14, 20, 24)]) (by decide) rfl ?_
  intro p e s m args below meth c s₁ B hml hv
  obtain ⟨rfl, hsz, hP, hC, hD0, hz⟩ := hv
  have hx := B.exec
  have hb := B.bytes
  have hr := B.returns
  have hts := atoms_spec (ws := wsL_turn) B.pre
  have hown : s.vm.findClass RL = some m.cls := findClass_of_methodNamed B.named
  have hlocks := B.notSynchronized
  have hK := hC.1
  have htab := vx_table (x := yL_turn) B (hts (.codeWith yL_turn cL_turn 4 (some .long) [(0, 14, 15, 14), (0, 14, 20, 24)]) List.mem_cons_self)
  subst hsz
  have hD := hD0.self (sz := s.heap.size)
  generalize hAe : va_A (wX g ca x) s.heap.size = A at hD hz ⊢
  have hA : ∀ q : Nat, s.heap.size ≤ q → A q := fun q h => by rw [← hAe]; exact Or.inr h
  have hS : va_S A s.heap s.heap [] := va_S.rf
  have hl := lv_entry ([.ref (g 0), .int a1, .int a2]) (n := 4) (Nat.le_of_ble_eq_true rfl)
  rw [lg_entry_eq]
  generalize (lg_sl ([.ref (g 0), .int a1, .int a2]) ++ List.replicate (4 - (lg_sl ([.ref (g 0), .int a1, .int a2])).length) Slot.unset).toArray = ls at hl ⊢
  have hl : lv_has ls 4 [(0, .ref (g 0)), (1, .int a1), (2, .int a2)] := hl
  obtain ⟨H, hHe⟩ : ∃ H, H = s.heap := ⟨_, rfl⟩
  obtain ⟨locs, hle⟩ : ∃ z : List Loc, z = [] := ⟨_, rfl⟩
  have hP : va_P D vwCl (wX g ca x) H := by rw [hHe]; exact hP
  have hS : va_S A s.heap H locs := by rw [hHe, hle]; exact hS
  have hgo : W p l e (headSpec wsL_turn ({ frames := 7, cells := 1, slots := 6, locals := 106 })).room s m #[.ref (g 0), .int a1, .int a2] below meth c H locs 0 0 (MQ below (wQl (wv r0.1 (if r0.2.1 = 0 then 0 else 1)) D (wX g ca x) (wX g ca r0.2.2) s.heap.size) #[.ref (g 0), .int a1, .int a2] s 1 6 A) (F0 m 0 ls []) := by
    refine lv_aload_n hx hb dL_turn_0 rfl (lv_at hl 0 rfl) ?_
    refine lv_iload_n hx hb dL_turn_1 rfl (lv_at hl 1 rfl) ?_
    refine lv_iload_n hx hb dL_turn_2 rfl (lv_at hl 2 rfl) ?_
    refine wc_i (vx_runV (As := [.int a1, .int a2]) (rest := []) ⟨hx, hb, hml, hown, hts⟩ (c_X4_turn l hl9 D ca g x a1 a2 q0 H.size) (cwV 2 hts gL_turn_X4_turn rfl rfl rfl (by decide +kernel) ⟨Nat.le_of_ble_eq_true rfl, Nat.le_of_ble_eq_true rfl⟩) (tP_V (H0 := H) (q := (RX4, TX4, 16)) hP hC hD hz hS hA 0 rfl rfl) rfl rfl hl.1 rfl (lv_room (Nat.le_of_ble_eq_true rfl)) dL_turn_3 ⟨Nat.le_of_ble_eq_true rfl, Nat.le_of_ble_eq_true rfl⟩) hD hS hA (fun ce q9 H locs hk3 hP hD hS hce hcv hcl => ?_) (fun H locs h0 hP hD hS => ?_)
    · rcases hk3 with e1 | e1 | e1
      · rw [e1] at hcl
        refine vx_catch (name := "java/lang/IndexOutOfBoundsException") (E := "java/lang/IndexOutOfBoundsException") hown [] ⟨0, 14, 15, 14⟩ [⟨0, 14, 20, 24⟩] (by rw [htab]; rfl) (fun z hz => nomatch hz) (by decide) (by decide) (hts (.classLink RL 14 "java/lang/IndexOutOfBoundsException") (by decide +kernel)) (hC.use (.castable "java/lang/IndexOutOfBoundsException" "java/lang/IndexOutOfBoundsException") (by decide +kernel)) hce hcv hcl ?_
        refine lv_astore_n (lv' := [(3, .ref q9), (0, .ref (g 0)), (1, .int a1), (2, .int a2)]) hx hb dL_turn_15 rfl hl (by decide) rfl (fun ls hl => ?_)
        refine lv_ldc2 (v := -9000000000000000) hx hb hown (hts (.constantLong RL 16 (-9000000000000000)) (by decide +kernel)) dL_turn_16 ?_
        exact wl_l (g := g) hx hb hr hAe (by rw [e1]; rfl) hP hD hS (Nat.le_of_ble_eq_true rfl) (Nat.le_of_ble_eq_true rfl) dL_turn_19 hlocks
      · exact absurd hk (by rw [e1]; decide)
      · rw [e1] at hcl
        have hpass : ∀ z ∈ ([⟨0, 14, 15, 14⟩] : List ExceptionTableEntry), covers z 3 = false ∨ (z.catchType ≠ 0 ∧ ∃ nm : String, (Cond.classLink RL z.catchType nm).before #[.ref (g 0), .int a1, .int a2] s = true ∧ va_Nc "java/lang/IllegalStateException" nm s) := by
          intro z hz
          simp only [List.mem_cons, List.not_mem_nil, or_false] at hz
          rcases hz with rfl
          · exact Or.inr ⟨by decide, "java/lang/IndexOutOfBoundsException", hts (.classLink RL 14 "java/lang/IndexOutOfBoundsException") (by decide +kernel), hC.2.2.2.1 ("java/lang/IllegalStateException", "java/lang/IndexOutOfBoundsException") (by decide)⟩
        refine vx_catch (name := "java/lang/IllegalStateException") (E := "java/lang/IllegalStateException") hown [⟨0, 14, 15, 14⟩] ⟨0, 14, 20, 24⟩ [] (by rw [htab]; rfl) hpass (by decide) (by decide) (hts (.classLink RL 24 "java/lang/IllegalStateException") (by decide +kernel)) (hC.use (.castable "java/lang/IllegalStateException" "java/lang/IllegalStateException") (by decide +kernel)) hce hcv hcl ?_
        refine lv_astore_n (lv' := [(3, .ref q9), (0, .ref (g 0)), (1, .int a1), (2, .int a2)]) hx hb dL_turn_20 rfl hl (by decide) rfl (fun ls hl => ?_)
        refine lv_ldc2 (v := -9000000000000000) hx hb hown (hts (.constantLong RL 16 (-9000000000000000)) (by decide +kernel)) dL_turn_21 ?_
        exact wl_l (g := g) hx hb hr hAe (by rw [e1]; rfl) hP hD hS (Nat.le_of_ble_eq_true rfl) (Nat.le_of_ble_eq_true rfl) dL_turn_24 hlocks
    · refine lv_if_eq (tgt := 13) hx hb dL_turn_6 (by decide) (fun c9 => ?_) (fun c9 => ?_)
      · refine lv_lconst (v := 0) hx hb dL_turn_13 (by decide) ?_
        exact wl_l (g := g) hx hb hr hAe (by rw [h0, if_pos c9]; rfl) hP hD hS (Nat.le_of_ble_eq_true rfl) (Nat.le_of_ble_eq_true rfl) dL_turn_14 hlocks
      · refine lv_lconst (v := 1) hx hb dL_turn_9 (by decide) ?_
        refine lv_goto (tgt := 14) hx hb dL_turn_10 (by decide) ?_
        exact wl_l (g := g) hx hb hr hAe (by rw [h0, if_neg c9]; rfl) hP hD hS (Nat.le_of_ble_eq_true rfl) (Nat.le_of_ble_eq_true rfl) dL_turn_14 hlocks
  rw [hHe, hle] at hgo
  exact hgo
def s_L_fail (x : XS) (a1 : Int32) (a2 : Int32) : Option (Int64 × XS) := (s_X4_fail x a1 a2).bind fun r0 => if r0.1 = 0 ∨ r0.1 = 1 then some (wv r0.1 (if r0.2.1 = 0 then 0 else 1), r0.2.2) else none
set_option maxHeartbeats 4000000 in
set_option maxRecDepth 100000 in
theorem c_L_fail (l : Launch) (hl9 : l.stackTraces = false) (D : va_G) (ca : Nat → ClassId) (g : Nat → Nat) (x : XS) (a1 : Int32) (a2 : Int32) {r : (Int64 × XS)} (hs : s_L_fail x a1 a2 = some r) (sz : Nat) : Met l yL_fail wsL_fail ({ frames := 7, cells := 1, slots := 6, locals := 106 }) (tP [.ref (g 0), .int a1, .int a2] D ca (wX g ca x) sz) (wQl r.1 D (wX g ca x) (wX g ca r.2) sz) 1 6 (va_A (wX g ca x) sz) := by
  unfold s_L_fail at hs
  obtain ⟨r0, q0, hs⟩ := sp_b hs
  obtain ⟨hk, hs⟩ := sp_i hs
  cases hs
  refine va_MetW (cc := cL_fail) (maxL := 4) (ret := (some .long)) (hh := [(0, 14, 15, 14)]) (by decide) rfl ?_
  intro p e s m args below meth c s₁ B hml hv
  obtain ⟨rfl, hsz, hP, hC, hD0, hz⟩ := hv
  have hx := B.exec
  have hb := B.bytes
  have hr := B.returns
  have hts := atoms_spec (ws := wsL_fail) B.pre
  have hown : s.vm.findClass RL = some m.cls := findClass_of_methodNamed B.named
  have hlocks := B.notSynchronized
  have hK := hC.1
  have htab := vx_table (x := yL_fail) B (hts (.codeWith yL_fail cL_fail 4 (some .long) [(0, 14, 15, 14)]) List.mem_cons_self)
  subst hsz
  have hD := hD0.self (sz := s.heap.size)
  generalize hAe : va_A (wX g ca x) s.heap.size = A at hD hz ⊢
  have hA : ∀ q : Nat, s.heap.size ≤ q → A q := fun q h => by rw [← hAe]; exact Or.inr h
  have hS : va_S A s.heap s.heap [] := va_S.rf
  have hl := lv_entry ([.ref (g 0), .int a1, .int a2]) (n := 4) (Nat.le_of_ble_eq_true rfl)
  rw [lg_entry_eq]
  generalize (lg_sl ([.ref (g 0), .int a1, .int a2]) ++ List.replicate (4 - (lg_sl ([.ref (g 0), .int a1, .int a2])).length) Slot.unset).toArray = ls at hl ⊢
  have hl : lv_has ls 4 [(0, .ref (g 0)), (1, .int a1), (2, .int a2)] := hl
  obtain ⟨H, hHe⟩ : ∃ H, H = s.heap := ⟨_, rfl⟩
  obtain ⟨locs, hle⟩ : ∃ z : List Loc, z = [] := ⟨_, rfl⟩
  have hP : va_P D vwCl (wX g ca x) H := by rw [hHe]; exact hP
  have hS : va_S A s.heap H locs := by rw [hHe, hle]; exact hS
  have hgo : W p l e (headSpec wsL_fail ({ frames := 7, cells := 1, slots := 6, locals := 106 })).room s m #[.ref (g 0), .int a1, .int a2] below meth c H locs 0 0 (MQ below (wQl (wv r0.1 (if r0.2.1 = 0 then 0 else 1)) D (wX g ca x) (wX g ca r0.2.2) s.heap.size) #[.ref (g 0), .int a1, .int a2] s 1 6 A) (F0 m 0 ls []) := by
    refine lv_aload_n hx hb dL_fail_0 rfl (lv_at hl 0 rfl) ?_
    refine lv_iload_n hx hb dL_fail_1 rfl (lv_at hl 1 rfl) ?_
    refine lv_iload_n hx hb dL_fail_2 rfl (lv_at hl 2 rfl) ?_
    refine wc_i (vx_runV (As := [.int a1, .int a2]) (rest := []) ⟨hx, hb, hml, hown, hts⟩ (c_X4_fail l hl9 D ca g x a1 a2 q0 H.size) (cwV 2 hts gL_fail_X4_fail rfl rfl rfl (by decide +kernel) ⟨Nat.le_of_ble_eq_true rfl, Nat.le_of_ble_eq_true rfl⟩) (tP_V (H0 := H) (q := (RX4, TX4, 16)) hP hC hD hz hS hA 0 rfl rfl) rfl rfl hl.1 rfl (lv_room (Nat.le_of_ble_eq_true rfl)) dL_fail_3 ⟨Nat.le_of_ble_eq_true rfl, Nat.le_of_ble_eq_true rfl⟩) hD hS hA (fun ce q9 H locs hk3 hP hD hS hce hcv hcl => ?_) (fun H locs h0 hP hD hS => ?_)
    · rcases hk3 with e1 | e1 | e1
      · rw [e1] at hcl
        refine vx_catch (name := "java/lang/IndexOutOfBoundsException") (E := "java/lang/IndexOutOfBoundsException") hown [] ⟨0, 14, 15, 14⟩ [] (by rw [htab]; rfl) (fun z hz => nomatch hz) (by decide) (by decide) (hts (.classLink RL 14 "java/lang/IndexOutOfBoundsException") (by decide +kernel)) (hC.use (.castable "java/lang/IndexOutOfBoundsException" "java/lang/IndexOutOfBoundsException") (by decide +kernel)) hce hcv hcl ?_
        refine lv_astore_n (lv' := [(3, .ref q9), (0, .ref (g 0)), (1, .int a1), (2, .int a2)]) hx hb dL_fail_15 rfl hl (by decide) rfl (fun ls hl => ?_)
        refine lv_ldc2 (v := -9000000000000000) hx hb hown (hts (.constantLong RL 16 (-9000000000000000)) (by decide +kernel)) dL_fail_16 ?_
        exact wl_l (g := g) hx hb hr hAe (by rw [e1]; rfl) hP hD hS (Nat.le_of_ble_eq_true rfl) (Nat.le_of_ble_eq_true rfl) dL_fail_19 hlocks
      · exact absurd hk (by rw [e1]; decide)
      · exact absurd hk (by rw [e1]; decide)
    · refine lv_if_eq (tgt := 13) hx hb dL_fail_6 (by decide) (fun c9 => ?_) (fun c9 => ?_)
      · refine lv_lconst (v := 0) hx hb dL_fail_13 (by decide) ?_
        exact wl_l (g := g) hx hb hr hAe (by rw [h0, if_pos c9]; rfl) hP hD hS (Nat.le_of_ble_eq_true rfl) (Nat.le_of_ble_eq_true rfl) dL_fail_14 hlocks
      · refine lv_lconst (v := 1) hx hb dL_fail_9 (by decide) ?_
        refine lv_goto (tgt := 14) hx hb dL_fail_10 (by decide) ?_
        exact wl_l (g := g) hx hb hr hAe (by rw [h0, if_neg c9]; rfl) hP hD hS (Nat.le_of_ble_eq_true rfl) (Nat.le_of_ble_eq_true rfl) dL_fail_14 hlocks
  rw [hHe, hle] at hgo
  exact hgo
def s_L_phase (x : XS) (a1 : Int32) (a2 : Int32) : Option (Int64 × XS) := (s_X4_phase x a1 a2).bind fun r0 => if r0.1 = 0 ∨ r0.1 = 2 then some (wv r0.1 r0.2.1.toInt64, r0.2.2) else none
set_option maxHeartbeats 4000000 in
set_option maxRecDepth 100000 in
theorem c_L_phase (l : Launch) (hl9 : l.stackTraces = false) (D : va_G) (ca : Nat → ClassId) (g : Nat → Nat) (x : XS) (a1 : Int32) (a2 : Int32) {r : (Int64 × XS)} (hs : s_L_phase x a1 a2 = some r) (sz : Nat) : Met l yL_phase wsL_phase ({ frames := 7, cells := 1, slots := 6, locals := 105 }) (tP [.ref (g 0), .int a1, .int a2] D ca (wX g ca x) sz) (wQl r.1 D (wX g ca x) (wX g ca r.2) sz) 1 6 (va_A (wX g ca x) sz) := by
  unfold s_L_phase at hs
  obtain ⟨r0, q0, hs⟩ := sp_b hs
  obtain ⟨hk, hs⟩ := sp_i hs
  cases hs
  refine va_MetW (cc := cL_phase) (maxL := 4) (ret := (some .long)) (hh := [(0, 7, 8, 18)]) (by decide) rfl ?_
  intro p e s m args below meth c s₁ B hml hv
  obtain ⟨rfl, hsz, hP, hC, hD0, hz⟩ := hv
  have hx := B.exec
  have hb := B.bytes
  have hr := B.returns
  have hts := atoms_spec (ws := wsL_phase) B.pre
  have hown : s.vm.findClass RL = some m.cls := findClass_of_methodNamed B.named
  have hlocks := B.notSynchronized
  have hK := hC.1
  have htab := vx_table (x := yL_phase) B (hts (.codeWith yL_phase cL_phase 4 (some .long) [(0, 7, 8, 18)]) List.mem_cons_self)
  subst hsz
  have hD := hD0.self (sz := s.heap.size)
  generalize hAe : va_A (wX g ca x) s.heap.size = A at hD hz ⊢
  have hA : ∀ q : Nat, s.heap.size ≤ q → A q := fun q h => by rw [← hAe]; exact Or.inr h
  have hS : va_S A s.heap s.heap [] := va_S.rf
  have hl := lv_entry ([.ref (g 0), .int a1, .int a2]) (n := 4) (Nat.le_of_ble_eq_true rfl)
  rw [lg_entry_eq]
  generalize (lg_sl ([.ref (g 0), .int a1, .int a2]) ++ List.replicate (4 - (lg_sl ([.ref (g 0), .int a1, .int a2])).length) Slot.unset).toArray = ls at hl ⊢
  have hl : lv_has ls 4 [(0, .ref (g 0)), (1, .int a1), (2, .int a2)] := hl
  obtain ⟨H, hHe⟩ : ∃ H, H = s.heap := ⟨_, rfl⟩
  obtain ⟨locs, hle⟩ : ∃ z : List Loc, z = [] := ⟨_, rfl⟩
  have hP : va_P D vwCl (wX g ca x) H := by rw [hHe]; exact hP
  have hS : va_S A s.heap H locs := by rw [hHe, hle]; exact hS
  have hgo : W p l e (headSpec wsL_phase ({ frames := 7, cells := 1, slots := 6, locals := 105 })).room s m #[.ref (g 0), .int a1, .int a2] below meth c H locs 0 0 (MQ below (wQl (wv r0.1 r0.2.1.toInt64) D (wX g ca x) (wX g ca r0.2.2) s.heap.size) #[.ref (g 0), .int a1, .int a2] s 1 6 A) (F0 m 0 ls []) := by
    refine lv_aload_n hx hb dL_phase_0 rfl (lv_at hl 0 rfl) ?_
    refine lv_iload_n hx hb dL_phase_1 rfl (lv_at hl 1 rfl) ?_
    refine lv_iload_n hx hb dL_phase_2 rfl (lv_at hl 2 rfl) ?_
    refine wc_i (vx_runV (As := [.int a1, .int a2]) (rest := []) ⟨hx, hb, hml, hown, hts⟩ (c_X4_phase l hl9 D ca g x a1 a2 q0 H.size) (cwV 2 hts gL_phase_X4_phase rfl rfl rfl (by decide +kernel) ⟨Nat.le_of_ble_eq_true rfl, Nat.le_of_ble_eq_true rfl⟩) (tP_V (H0 := H) (q := (RX4, TX4, 16)) hP hC hD hz hS hA 0 rfl rfl) rfl rfl hl.1 rfl (lv_room (Nat.le_of_ble_eq_true rfl)) dL_phase_3 ⟨Nat.le_of_ble_eq_true rfl, Nat.le_of_ble_eq_true rfl⟩) hD hS hA (fun ce q9 H locs hk3 hP hD hS hce hcv hcl => ?_) (fun H locs h0 hP hD hS => ?_)
    · rcases hk3 with e1 | e1 | e1
      · exact absurd hk (by rw [e1]; decide)
      · rw [e1] at hcl
        refine vx_catch (name := "java/lang/IllegalArgumentException") (E := "java/lang/IllegalArgumentException") hown [] ⟨0, 7, 8, 18⟩ [] (by rw [htab]; rfl) (fun z hz => nomatch hz) (by decide) (by decide) (hts (.classLink RL 18 "java/lang/IllegalArgumentException") (by decide +kernel)) (hC.use (.castable "java/lang/IllegalArgumentException" "java/lang/IllegalArgumentException") (by decide +kernel)) hce hcv hcl ?_
        refine lv_astore_n (lv' := [(3, .ref q9), (0, .ref (g 0)), (1, .int a1), (2, .int a2)]) hx hb dL_phase_8 rfl hl (by decide) rfl (fun ls hl => ?_)
        refine lv_ldc2 (v := -9000000000000000) hx hb hown (hts (.constantLong RL 16 (-9000000000000000)) (by decide +kernel)) dL_phase_9 ?_
        exact wl_l (g := g) hx hb hr hAe (by rw [e1]; rfl) hP hD hS (Nat.le_of_ble_eq_true rfl) (Nat.le_of_ble_eq_true rfl) dL_phase_12 hlocks
      · exact absurd hk (by rw [e1]; decide)
    · refine lv_i2l hx hb dL_phase_6 rfl ?_
      exact wl_l (g := g) hx hb hr hAe (by rw [h0]; rfl) hP hD hS (Nat.le_of_ble_eq_true rfl) (Nat.le_of_ble_eq_true rfl) dL_phase_7 hlocks
  rw [hHe, hle] at hgo
  exact hgo
def s_L_wind (x : XS) (a1 : Int32) : Option (Int64 × XS) := (s_X4_wind x a1).bind fun r0 => if r0.1 = 0 ∨ r0.1 = 2 then some (wv r0.1 r0.2.1.toInt64, r0.2.2) else none
set_option maxHeartbeats 4000000 in
set_option maxRecDepth 100000 in
theorem c_L_wind (l : Launch) (hl9 : l.stackTraces = false) (D : va_G) (ca : Nat → ClassId) (g : Nat → Nat) (x : XS) (a1 : Int32) {r : (Int64 × XS)} (hs : s_L_wind x a1 = some r) (sz : Nat) : Met l yL_wind wsL_wind ({ frames := 7, cells := 1, slots := 6, locals := 104 }) (tP [.ref (g 0), .int a1] D ca (wX g ca x) sz) (wQl r.1 D (wX g ca x) (wX g ca r.2) sz) 1 6 (va_A (wX g ca x) sz) := by
  unfold s_L_wind at hs
  obtain ⟨r0, q0, hs⟩ := sp_b hs
  obtain ⟨hk, hs⟩ := sp_i hs
  cases hs
  refine va_MetW (cc := cL_wind) (maxL := 3) (ret := (some .long)) (hh := [(0, 6, 7, 18)]) (by decide) rfl ?_
  intro p e s m args below meth c s₁ B hml hv
  obtain ⟨rfl, hsz, hP, hC, hD0, hz⟩ := hv
  have hx := B.exec
  have hb := B.bytes
  have hr := B.returns
  have hts := atoms_spec (ws := wsL_wind) B.pre
  have hown : s.vm.findClass RL = some m.cls := findClass_of_methodNamed B.named
  have hlocks := B.notSynchronized
  have hK := hC.1
  have htab := vx_table (x := yL_wind) B (hts (.codeWith yL_wind cL_wind 3 (some .long) [(0, 6, 7, 18)]) List.mem_cons_self)
  subst hsz
  have hD := hD0.self (sz := s.heap.size)
  generalize hAe : va_A (wX g ca x) s.heap.size = A at hD hz ⊢
  have hA : ∀ q : Nat, s.heap.size ≤ q → A q := fun q h => by rw [← hAe]; exact Or.inr h
  have hS : va_S A s.heap s.heap [] := va_S.rf
  have hl := lv_entry ([.ref (g 0), .int a1]) (n := 3) (Nat.le_of_ble_eq_true rfl)
  rw [lg_entry_eq]
  generalize (lg_sl ([.ref (g 0), .int a1]) ++ List.replicate (3 - (lg_sl ([.ref (g 0), .int a1])).length) Slot.unset).toArray = ls at hl ⊢
  have hl : lv_has ls 3 [(0, .ref (g 0)), (1, .int a1)] := hl
  obtain ⟨H, hHe⟩ : ∃ H, H = s.heap := ⟨_, rfl⟩
  obtain ⟨locs, hle⟩ : ∃ z : List Loc, z = [] := ⟨_, rfl⟩
  have hP : va_P D vwCl (wX g ca x) H := by rw [hHe]; exact hP
  have hS : va_S A s.heap H locs := by rw [hHe, hle]; exact hS
  have hgo : W p l e (headSpec wsL_wind ({ frames := 7, cells := 1, slots := 6, locals := 104 })).room s m #[.ref (g 0), .int a1] below meth c H locs 0 0 (MQ below (wQl (wv r0.1 r0.2.1.toInt64) D (wX g ca x) (wX g ca r0.2.2) s.heap.size) #[.ref (g 0), .int a1] s 1 6 A) (F0 m 0 ls []) := by
    refine lv_aload_n hx hb dL_wind_0 rfl (lv_at hl 0 rfl) ?_
    refine lv_iload_n hx hb dL_wind_1 rfl (lv_at hl 1 rfl) ?_
    refine wc_i (vx_runV (As := [.int a1]) (rest := []) ⟨hx, hb, hml, hown, hts⟩ (c_X4_wind l hl9 D ca g x a1 q0 H.size) (cwV 1 hts gL_wind_X4_wind rfl rfl rfl (by decide +kernel) ⟨Nat.le_of_ble_eq_true rfl, Nat.le_of_ble_eq_true rfl⟩) (tP_V (H0 := H) (q := (RX4, TX4, 16)) hP hC hD hz hS hA 0 rfl rfl) rfl rfl hl.1 rfl (lv_room (Nat.le_of_ble_eq_true rfl)) dL_wind_2 ⟨Nat.le_of_ble_eq_true rfl, Nat.le_of_ble_eq_true rfl⟩) hD hS hA (fun ce q9 H locs hk3 hP hD hS hce hcv hcl => ?_) (fun H locs h0 hP hD hS => ?_)
    · rcases hk3 with e1 | e1 | e1
      · exact absurd hk (by rw [e1]; decide)
      · rw [e1] at hcl
        refine vx_catch (name := "java/lang/IllegalArgumentException") (E := "java/lang/IllegalArgumentException") hown [] ⟨0, 6, 7, 18⟩ [] (by rw [htab]; rfl) (fun z hz => nomatch hz) (by decide) (by decide) (hts (.classLink RL 18 "java/lang/IllegalArgumentException") (by decide +kernel)) (hC.use (.castable "java/lang/IllegalArgumentException" "java/lang/IllegalArgumentException") (by decide +kernel)) hce hcv hcl ?_
        refine lv_astore_n (lv' := [(2, .ref q9), (0, .ref (g 0)), (1, .int a1)]) hx hb dL_wind_7 rfl hl (by decide) rfl (fun ls hl => ?_)
        refine lv_ldc2 (v := -9000000000000000) hx hb hown (hts (.constantLong RL 16 (-9000000000000000)) (by decide +kernel)) dL_wind_8 ?_
        exact wl_l (g := g) hx hb hr hAe (by rw [e1]; rfl) hP hD hS (Nat.le_of_ble_eq_true rfl) (Nat.le_of_ble_eq_true rfl) dL_wind_11 hlocks
      · exact absurd hk (by rw [e1]; decide)
    · refine lv_i2l hx hb dL_wind_5 rfl ?_
      exact wl_l (g := g) hx hb hr hAe (by rw [h0]; rfl) hP hD hS (Nat.le_of_ble_eq_true rfl) (Nat.le_of_ble_eq_true rfl) dL_wind_6 hlocks
  rw [hHe, hle] at hgo
  exact hgo
def s_L_through (x : XS) (a1 : Int32) (a2 : Int32) (a3 : Int32) : Option (Int64 × XS) := (s_X4_through x a1 a2 a3).bind fun r0 => if r0.1 = 0 ∨ r0.1 = 1 then some (wv r0.1 r0.2.1.toInt64, r0.2.2) else none
set_option maxHeartbeats 4000000 in
set_option maxRecDepth 100000 in
theorem c_L_through (l : Launch) (hl9 : l.stackTraces = false) (D : va_G) (ca : Nat → ClassId) (g : Nat → Nat) (x : XS) (a1 : Int32) (a2 : Int32) (a3 : Int32) {r : (Int64 × XS)} (hs : s_L_through x a1 a2 a3 = some r) (sz : Nat) : Met l yL_through wsL_through ({ frames := 7, cells := 1, slots := 6, locals := 106 }) (tP [.ref (g 0), .int a1, .int a2, .int a3] D ca (wX g ca x) sz) (wQl r.1 D (wX g ca x) (wX g ca r.2) sz) 1 6 (va_A (wX g ca x) sz) := by
  unfold s_L_through at hs
  obtain ⟨r0, q0, hs⟩ := sp_b hs
  obtain ⟨hk, hs⟩ := sp_i hs
  cases hs
  refine va_MetW (cc := cL_through) (maxL := 5) (ret := (some .long)) (hh := [(0, 8, 9, 14)]) (by decide) rfl ?_
  intro p e s m args below meth c s₁ B hml hv
  obtain ⟨rfl, hsz, hP, hC, hD0, hz⟩ := hv
  have hx := B.exec
  have hb := B.bytes
  have hr := B.returns
  have hts := atoms_spec (ws := wsL_through) B.pre
  have hown : s.vm.findClass RL = some m.cls := findClass_of_methodNamed B.named
  have hlocks := B.notSynchronized
  have hK := hC.1
  have htab := vx_table (x := yL_through) B (hts (.codeWith yL_through cL_through 5 (some .long) [(0, 8, 9, 14)]) List.mem_cons_self)
  subst hsz
  have hD := hD0.self (sz := s.heap.size)
  generalize hAe : va_A (wX g ca x) s.heap.size = A at hD hz ⊢
  have hA : ∀ q : Nat, s.heap.size ≤ q → A q := fun q h => by rw [← hAe]; exact Or.inr h
  have hS : va_S A s.heap s.heap [] := va_S.rf
  have hl := lv_entry ([.ref (g 0), .int a1, .int a2, .int a3]) (n := 5) (Nat.le_of_ble_eq_true rfl)
  rw [lg_entry_eq]
  generalize (lg_sl ([.ref (g 0), .int a1, .int a2, .int a3]) ++ List.replicate (5 - (lg_sl ([.ref (g 0), .int a1, .int a2, .int a3])).length) Slot.unset).toArray = ls at hl ⊢
  have hl : lv_has ls 5 [(0, .ref (g 0)), (1, .int a1), (2, .int a2), (3, .int a3)] := hl
  obtain ⟨H, hHe⟩ : ∃ H, H = s.heap := ⟨_, rfl⟩
  obtain ⟨locs, hle⟩ : ∃ z : List Loc, z = [] := ⟨_, rfl⟩
  have hP : va_P D vwCl (wX g ca x) H := by rw [hHe]; exact hP
  have hS : va_S A s.heap H locs := by rw [hHe, hle]; exact hS
  have hgo : W p l e (headSpec wsL_through ({ frames := 7, cells := 1, slots := 6, locals := 106 })).room s m #[.ref (g 0), .int a1, .int a2, .int a3] below meth c H locs 0 0 (MQ below (wQl (wv r0.1 r0.2.1.toInt64) D (wX g ca x) (wX g ca r0.2.2) s.heap.size) #[.ref (g 0), .int a1, .int a2, .int a3] s 1 6 A) (F0 m 0 ls []) := by
    refine lv_aload_n hx hb dL_through_0 rfl (lv_at hl 0 rfl) ?_
    refine lv_iload_n hx hb dL_through_1 rfl (lv_at hl 1 rfl) ?_
    refine lv_iload_n hx hb dL_through_2 rfl (lv_at hl 2 rfl) ?_
    refine lv_iload_n hx hb dL_through_3 rfl (lv_at hl 3 rfl) ?_
    refine wc_i (vx_runV (As := [.int a1, .int a2, .int a3]) (rest := []) ⟨hx, hb, hml, hown, hts⟩ (c_X4_through l hl9 D ca g x a1 a2 a3 q0 H.size) (cwV 3 hts gL_through_X4_through rfl rfl rfl (by decide +kernel) ⟨Nat.le_of_ble_eq_true rfl, Nat.le_of_ble_eq_true rfl⟩) (tP_V (H0 := H) (q := (RX4, TX4, 16)) hP hC hD hz hS hA 0 rfl rfl) rfl rfl hl.1 rfl (lv_room (Nat.le_of_ble_eq_true rfl)) dL_through_4 ⟨Nat.le_of_ble_eq_true rfl, Nat.le_of_ble_eq_true rfl⟩) hD hS hA (fun ce q9 H locs hk3 hP hD hS hce hcv hcl => ?_) (fun H locs h0 hP hD hS => ?_)
    · rcases hk3 with e1 | e1 | e1
      · rw [e1] at hcl
        refine vx_catch (name := "java/lang/IndexOutOfBoundsException") (E := "java/lang/IndexOutOfBoundsException") hown [] ⟨0, 8, 9, 14⟩ [] (by rw [htab]; rfl) (fun z hz => nomatch hz) (by decide) (by decide) (hts (.classLink RL 14 "java/lang/IndexOutOfBoundsException") (by decide +kernel)) (hC.use (.castable "java/lang/IndexOutOfBoundsException" "java/lang/IndexOutOfBoundsException") (by decide +kernel)) hce hcv hcl ?_
        refine lv_astore (lv' := [(4, .ref q9), (0, .ref (g 0)), (1, .int a1), (2, .int a2), (3, .int a3)]) hx hb dL_through_9 hl (by decide) rfl (fun ls hl => ?_)
        refine lv_ldc2 (v := -9000000000000000) hx hb hown (hts (.constantLong RL 16 (-9000000000000000)) (by decide +kernel)) dL_through_11 ?_
        exact wl_l (g := g) hx hb hr hAe (by rw [e1]; rfl) hP hD hS (Nat.le_of_ble_eq_true rfl) (Nat.le_of_ble_eq_true rfl) dL_through_14 hlocks
      · exact absurd hk (by rw [e1]; decide)
      · exact absurd hk (by rw [e1]; decide)
    · refine lv_i2l hx hb dL_through_7 rfl ?_
      exact wl_l (g := g) hx hb hr hAe (by rw [h0]; rfl) hP hD hS (Nat.le_of_ble_eq_true rfl) (Nat.le_of_ble_eq_true rfl) dL_through_8 hlocks
  rw [hHe, hle] at hgo
  exact hgo
def s_L_gives (x : XS) (a1 : Int32) (a2 : Int32) : Option (Int64 × XS) := (s_X4_gives x a1 a2).bind fun r0 => if r0.1 = 0 ∨ r0.1 = 1 then some (wv r0.1 r0.2.1.toInt64, r0.2.2) else none
set_option maxHeartbeats 4000000 in
set_option maxRecDepth 100000 in
theorem c_L_gives (l : Launch) (hl9 : l.stackTraces = false) (D : va_G) (ca : Nat → ClassId) (g : Nat → Nat) (x : XS) (a1 : Int32) (a2 : Int32) {r : (Int64 × XS)} (hs : s_L_gives x a1 a2 = some r) (sz : Nat) : Met l yL_gives wsL_gives ({ frames := 7, cells := 1, slots := 6, locals := 139 }) (tP [.ref (g 0), .int a1, .int a2] D ca (wX g ca x) sz) (wQl r.1 D (wX g ca x) (wX g ca r.2) sz) 1 6 (va_A (wX g ca x) sz) := by
  unfold s_L_gives at hs
  obtain ⟨r0, q0, hs⟩ := sp_b hs
  obtain ⟨hk, hs⟩ := sp_i hs
  cases hs
  refine va_MetW (cc := cL_gives) (maxL := 4) (ret := (some .long)) (hh := [(0, 7, 8, 14)]) (by decide) rfl ?_
  intro p e s m args below meth c s₁ B hml hv
  obtain ⟨rfl, hsz, hP, hC, hD0, hz⟩ := hv
  have hx := B.exec
  have hb := B.bytes
  have hr := B.returns
  have hts := atoms_spec (ws := wsL_gives) B.pre
  have hown : s.vm.findClass RL = some m.cls := findClass_of_methodNamed B.named
  have hlocks := B.notSynchronized
  have hK := hC.1
  have htab := vx_table (x := yL_gives) B (hts (.codeWith yL_gives cL_gives 4 (some .long) [(0, 7, 8, 14)]) List.mem_cons_self)
  subst hsz
  have hD := hD0.self (sz := s.heap.size)
  generalize hAe : va_A (wX g ca x) s.heap.size = A at hD hz ⊢
  have hA : ∀ q : Nat, s.heap.size ≤ q → A q := fun q h => by rw [← hAe]; exact Or.inr h
  have hS : va_S A s.heap s.heap [] := va_S.rf
  have hl := lv_entry ([.ref (g 0), .int a1, .int a2]) (n := 4) (Nat.le_of_ble_eq_true rfl)
  rw [lg_entry_eq]
  generalize (lg_sl ([.ref (g 0), .int a1, .int a2]) ++ List.replicate (4 - (lg_sl ([.ref (g 0), .int a1, .int a2])).length) Slot.unset).toArray = ls at hl ⊢
  have hl : lv_has ls 4 [(0, .ref (g 0)), (1, .int a1), (2, .int a2)] := hl
  obtain ⟨H, hHe⟩ : ∃ H, H = s.heap := ⟨_, rfl⟩
  obtain ⟨locs, hle⟩ : ∃ z : List Loc, z = [] := ⟨_, rfl⟩
  have hP : va_P D vwCl (wX g ca x) H := by rw [hHe]; exact hP
  have hS : va_S A s.heap H locs := by rw [hHe, hle]; exact hS
  have hgo : W p l e (headSpec wsL_gives ({ frames := 7, cells := 1, slots := 6, locals := 139 })).room s m #[.ref (g 0), .int a1, .int a2] below meth c H locs 0 0 (MQ below (wQl (wv r0.1 r0.2.1.toInt64) D (wX g ca x) (wX g ca r0.2.2) s.heap.size) #[.ref (g 0), .int a1, .int a2] s 1 6 A) (F0 m 0 ls []) := by
    refine lv_aload_n hx hb dL_gives_0 rfl (lv_at hl 0 rfl) ?_
    refine lv_iload_n hx hb dL_gives_1 rfl (lv_at hl 1 rfl) ?_
    refine lv_iload_n hx hb dL_gives_2 rfl (lv_at hl 2 rfl) ?_
    refine wc_i (vx_runV (As := [.int a1, .int a2]) (rest := []) ⟨hx, hb, hml, hown, hts⟩ (c_X4_gives l hl9 D ca g x a1 a2 q0 H.size) (cwV 2 hts gL_gives_X4_gives rfl rfl rfl (by decide +kernel) ⟨Nat.le_of_ble_eq_true rfl, Nat.le_of_ble_eq_true rfl⟩) (tP_V (H0 := H) (q := (RX4, TX4, 16)) hP hC hD hz hS hA 0 rfl rfl) rfl rfl hl.1 rfl (lv_room (Nat.le_of_ble_eq_true rfl)) dL_gives_3 ⟨Nat.le_of_ble_eq_true rfl, Nat.le_of_ble_eq_true rfl⟩) hD hS hA (fun ce q9 H locs hk3 hP hD hS hce hcv hcl => ?_) (fun H locs h0 hP hD hS => ?_)
    · rcases hk3 with e1 | e1 | e1
      · rw [e1] at hcl
        refine vx_catch (name := "java/lang/IndexOutOfBoundsException") (E := "java/lang/IndexOutOfBoundsException") hown [] ⟨0, 7, 8, 14⟩ [] (by rw [htab]; rfl) (fun z hz => nomatch hz) (by decide) (by decide) (hts (.classLink RL 14 "java/lang/IndexOutOfBoundsException") (by decide +kernel)) (hC.use (.castable "java/lang/IndexOutOfBoundsException" "java/lang/IndexOutOfBoundsException") (by decide +kernel)) hce hcv hcl ?_
        refine lv_astore_n (lv' := [(3, .ref q9), (0, .ref (g 0)), (1, .int a1), (2, .int a2)]) hx hb dL_gives_8 rfl hl (by decide) rfl (fun ls hl => ?_)
        refine lv_ldc2 (v := -9000000000000000) hx hb hown (hts (.constantLong RL 16 (-9000000000000000)) (by decide +kernel)) dL_gives_9 ?_
        exact wl_l (g := g) hx hb hr hAe (by rw [e1]; rfl) hP hD hS (Nat.le_of_ble_eq_true rfl) (Nat.le_of_ble_eq_true rfl) dL_gives_12 hlocks
      · exact absurd hk (by rw [e1]; decide)
      · exact absurd hk (by rw [e1]; decide)
    · refine lv_i2l hx hb dL_gives_6 rfl ?_
      exact wl_l (g := g) hx hb hr hAe (by rw [h0]; rfl) hP hD hS (Nat.le_of_ble_eq_true rfl) (Nat.le_of_ble_eq_true rfl) dL_gives_7 hlocks
  rw [hHe, hle] at hgo
  exact hgo
def s_L_sharp (x : XS) (a1 : Int32) (a2 : Int32) : Option (Int64 × XS) := (s_X4_isSharp x a1 a2).bind fun r0 => if r0.1 = 0 ∨ r0.1 = 1 then some (wv r0.1 (if r0.2.1 = 0 then 0 else 1), r0.2.2) else none
set_option maxHeartbeats 4000000 in
set_option maxRecDepth 100000 in
theorem c_L_sharp (l : Launch) (hl9 : l.stackTraces = false) (D : va_G) (ca : Nat → ClassId) (g : Nat → Nat) (x : XS) (a1 : Int32) (a2 : Int32) {r : (Int64 × XS)} (hs : s_L_sharp x a1 a2 = some r) (sz : Nat) : Met l yL_sharp wsL_sharp ({ frames := 7, cells := 1, slots := 6, locals := 105 }) (tP [.ref (g 0), .int a1, .int a2] D ca (wX g ca x) sz) (wQl r.1 D (wX g ca x) (wX g ca r.2) sz) 1 6 (va_A (wX g ca x) sz) := by
  unfold s_L_sharp at hs
  obtain ⟨r0, q0, hs⟩ := sp_b hs
  obtain ⟨hk, hs⟩ := sp_i hs
  cases hs
  refine va_MetW (cc := cL_sharp) (maxL := 4) (ret := (some .long)) (hh := [(0, 14, 15, 14)]) (by decide) rfl ?_
  intro p e s m args below meth c s₁ B hml hv
  obtain ⟨rfl, hsz, hP, hC, hD0, hz⟩ := hv
  have hx := B.exec
  have hb := B.bytes
  have hr := B.returns
  have hts := atoms_spec (ws := wsL_sharp) B.pre
  have hown : s.vm.findClass RL = some m.cls := findClass_of_methodNamed B.named
  have hlocks := B.notSynchronized
  have hK := hC.1
  have htab := vx_table (x := yL_sharp) B (hts (.codeWith yL_sharp cL_sharp 4 (some .long) [(0, 14, 15, 14)]) List.mem_cons_self)
  subst hsz
  have hD := hD0.self (sz := s.heap.size)
  generalize hAe : va_A (wX g ca x) s.heap.size = A at hD hz ⊢
  have hA : ∀ q : Nat, s.heap.size ≤ q → A q := fun q h => by rw [← hAe]; exact Or.inr h
  have hS : va_S A s.heap s.heap [] := va_S.rf
  have hl := lv_entry ([.ref (g 0), .int a1, .int a2]) (n := 4) (Nat.le_of_ble_eq_true rfl)
  rw [lg_entry_eq]
  generalize (lg_sl ([.ref (g 0), .int a1, .int a2]) ++ List.replicate (4 - (lg_sl ([.ref (g 0), .int a1, .int a2])).length) Slot.unset).toArray = ls at hl ⊢
  have hl : lv_has ls 4 [(0, .ref (g 0)), (1, .int a1), (2, .int a2)] := hl
  obtain ⟨H, hHe⟩ : ∃ H, H = s.heap := ⟨_, rfl⟩
  obtain ⟨locs, hle⟩ : ∃ z : List Loc, z = [] := ⟨_, rfl⟩
  have hP : va_P D vwCl (wX g ca x) H := by rw [hHe]; exact hP
  have hS : va_S A s.heap H locs := by rw [hHe, hle]; exact hS
  have hgo : W p l e (headSpec wsL_sharp ({ frames := 7, cells := 1, slots := 6, locals := 105 })).room s m #[.ref (g 0), .int a1, .int a2] below meth c H locs 0 0 (MQ below (wQl (wv r0.1 (if r0.2.1 = 0 then 0 else 1)) D (wX g ca x) (wX g ca r0.2.2) s.heap.size) #[.ref (g 0), .int a1, .int a2] s 1 6 A) (F0 m 0 ls []) := by
    refine lv_aload_n hx hb dL_sharp_0 rfl (lv_at hl 0 rfl) ?_
    refine lv_iload_n hx hb dL_sharp_1 rfl (lv_at hl 1 rfl) ?_
    refine lv_iload_n hx hb dL_sharp_2 rfl (lv_at hl 2 rfl) ?_
    refine wc_i (vx_runV (As := [.int a1, .int a2]) (rest := []) ⟨hx, hb, hml, hown, hts⟩ (c_X4_isSharp l hl9 D ca g x a1 a2 q0 H.size) (cwV 2 hts gL_sharp_X4_isSharp rfl rfl rfl (by decide +kernel) ⟨Nat.le_of_ble_eq_true rfl, Nat.le_of_ble_eq_true rfl⟩) (tP_V (H0 := H) (q := (RX4, TX4, 16)) hP hC hD hz hS hA 0 rfl rfl) rfl rfl hl.1 rfl (lv_room (Nat.le_of_ble_eq_true rfl)) dL_sharp_3 ⟨Nat.le_of_ble_eq_true rfl, Nat.le_of_ble_eq_true rfl⟩) hD hS hA (fun ce q9 H locs hk3 hP hD hS hce hcv hcl => ?_) (fun H locs h0 hP hD hS => ?_)
    · rcases hk3 with e1 | e1 | e1
      · rw [e1] at hcl
        refine vx_catch (name := "java/lang/IndexOutOfBoundsException") (E := "java/lang/IndexOutOfBoundsException") hown [] ⟨0, 14, 15, 14⟩ [] (by rw [htab]; rfl) (fun z hz => nomatch hz) (by decide) (by decide) (hts (.classLink RL 14 "java/lang/IndexOutOfBoundsException") (by decide +kernel)) (hC.use (.castable "java/lang/IndexOutOfBoundsException" "java/lang/IndexOutOfBoundsException") (by decide +kernel)) hce hcv hcl ?_
        refine lv_astore_n (lv' := [(3, .ref q9), (0, .ref (g 0)), (1, .int a1), (2, .int a2)]) hx hb dL_sharp_15 rfl hl (by decide) rfl (fun ls hl => ?_)
        refine lv_ldc2 (v := -9000000000000000) hx hb hown (hts (.constantLong RL 16 (-9000000000000000)) (by decide +kernel)) dL_sharp_16 ?_
        exact wl_l (g := g) hx hb hr hAe (by rw [e1]; rfl) hP hD hS (Nat.le_of_ble_eq_true rfl) (Nat.le_of_ble_eq_true rfl) dL_sharp_19 hlocks
      · exact absurd hk (by rw [e1]; decide)
      · exact absurd hk (by rw [e1]; decide)
    · refine lv_if_eq (tgt := 13) hx hb dL_sharp_6 (by decide) (fun c9 => ?_) (fun c9 => ?_)
      · refine lv_lconst (v := 0) hx hb dL_sharp_13 (by decide) ?_
        exact wl_l (g := g) hx hb hr hAe (by rw [h0, if_pos c9]; rfl) hP hD hS (Nat.le_of_ble_eq_true rfl) (Nat.le_of_ble_eq_true rfl) dL_sharp_14 hlocks
      · refine lv_lconst (v := 1) hx hb dL_sharp_9 (by decide) ?_
        refine lv_goto (tgt := 14) hx hb dL_sharp_10 (by decide) ?_
        exact wl_l (g := g) hx hb hr hAe (by rw [h0, if_neg c9]; rfl) hP hD hS (Nat.le_of_ble_eq_true rfl) (Nat.le_of_ble_eq_true rfl) dL_sharp_14 hlocks
  rw [hHe, hle] at hgo
  exact hgo
def s_L_light (x : XS) (a1 : Int32) : Option (Int64 × XS) := (s_X4_light x a1).bind fun r0 => if r0.1 = 0 ∨ r0.1 = 1 then some (wv r0.1 r0.2.1.toInt64, r0.2.2) else none
set_option maxHeartbeats 4000000 in
set_option maxRecDepth 100000 in
theorem c_L_light (l : Launch) (hl9 : l.stackTraces = false) (D : va_G) (ca : Nat → ClassId) (g : Nat → Nat) (x : XS) (a1 : Int32) {r : (Int64 × XS)} (hs : s_L_light x a1 = some r) (sz : Nat) : Met l yL_light wsL_light ({ frames := 7, cells := 1, slots := 6, locals := 161 }) (tP [.ref (g 0), .int a1] D ca (wX g ca x) sz) (wQl r.1 D (wX g ca x) (wX g ca r.2) sz) 1 6 (va_A (wX g ca x) sz) := by
  unfold s_L_light at hs
  obtain ⟨r0, q0, hs⟩ := sp_b hs
  obtain ⟨hk, hs⟩ := sp_i hs
  cases hs
  refine va_MetW (cc := cL_light) (maxL := 3) (ret := (some .long)) (hh := [(0, 6, 7, 14)]) (by decide) rfl ?_
  intro p e s m args below meth c s₁ B hml hv
  obtain ⟨rfl, hsz, hP, hC, hD0, hz⟩ := hv
  have hx := B.exec
  have hb := B.bytes
  have hr := B.returns
  have hts := atoms_spec (ws := wsL_light) B.pre
  have hown : s.vm.findClass RL = some m.cls := findClass_of_methodNamed B.named
  have hlocks := B.notSynchronized
  have hK := hC.1
  have htab := vx_table (x := yL_light) B (hts (.codeWith yL_light cL_light 3 (some .long) [(0, 6, 7, 14)]) List.mem_cons_self)
  subst hsz
  have hD := hD0.self (sz := s.heap.size)
  generalize hAe : va_A (wX g ca x) s.heap.size = A at hD hz ⊢
  have hA : ∀ q : Nat, s.heap.size ≤ q → A q := fun q h => by rw [← hAe]; exact Or.inr h
  have hS : va_S A s.heap s.heap [] := va_S.rf
  have hl := lv_entry ([.ref (g 0), .int a1]) (n := 3) (Nat.le_of_ble_eq_true rfl)
  rw [lg_entry_eq]
  generalize (lg_sl ([.ref (g 0), .int a1]) ++ List.replicate (3 - (lg_sl ([.ref (g 0), .int a1])).length) Slot.unset).toArray = ls at hl ⊢
  have hl : lv_has ls 3 [(0, .ref (g 0)), (1, .int a1)] := hl
  obtain ⟨H, hHe⟩ : ∃ H, H = s.heap := ⟨_, rfl⟩
  obtain ⟨locs, hle⟩ : ∃ z : List Loc, z = [] := ⟨_, rfl⟩
  have hP : va_P D vwCl (wX g ca x) H := by rw [hHe]; exact hP
  have hS : va_S A s.heap H locs := by rw [hHe, hle]; exact hS
  have hgo : W p l e (headSpec wsL_light ({ frames := 7, cells := 1, slots := 6, locals := 161 })).room s m #[.ref (g 0), .int a1] below meth c H locs 0 0 (MQ below (wQl (wv r0.1 r0.2.1.toInt64) D (wX g ca x) (wX g ca r0.2.2) s.heap.size) #[.ref (g 0), .int a1] s 1 6 A) (F0 m 0 ls []) := by
    refine lv_aload_n hx hb dL_light_0 rfl (lv_at hl 0 rfl) ?_
    refine lv_iload_n hx hb dL_light_1 rfl (lv_at hl 1 rfl) ?_
    refine wc_i (vx_runV (As := [.int a1]) (rest := []) ⟨hx, hb, hml, hown, hts⟩ (c_X4_light l hl9 D ca g x a1 q0 H.size) (cwV 1 hts gL_light_X4_light rfl rfl rfl (by decide +kernel) ⟨Nat.le_of_ble_eq_true rfl, Nat.le_of_ble_eq_true rfl⟩) (tP_V (H0 := H) (q := (RX4, TX4, 16)) hP hC hD hz hS hA 0 rfl rfl) rfl rfl hl.1 rfl (lv_room (Nat.le_of_ble_eq_true rfl)) dL_light_2 ⟨Nat.le_of_ble_eq_true rfl, Nat.le_of_ble_eq_true rfl⟩) hD hS hA (fun ce q9 H locs hk3 hP hD hS hce hcv hcl => ?_) (fun H locs h0 hP hD hS => ?_)
    · rcases hk3 with e1 | e1 | e1
      · rw [e1] at hcl
        refine vx_catch (name := "java/lang/IndexOutOfBoundsException") (E := "java/lang/IndexOutOfBoundsException") hown [] ⟨0, 6, 7, 14⟩ [] (by rw [htab]; rfl) (fun z hz => nomatch hz) (by decide) (by decide) (hts (.classLink RL 14 "java/lang/IndexOutOfBoundsException") (by decide +kernel)) (hC.use (.castable "java/lang/IndexOutOfBoundsException" "java/lang/IndexOutOfBoundsException") (by decide +kernel)) hce hcv hcl ?_
        refine lv_astore_n (lv' := [(2, .ref q9), (0, .ref (g 0)), (1, .int a1)]) hx hb dL_light_7 rfl hl (by decide) rfl (fun ls hl => ?_)
        refine lv_ldc2 (v := -9000000000000000) hx hb hown (hts (.constantLong RL 16 (-9000000000000000)) (by decide +kernel)) dL_light_8 ?_
        exact wl_l (g := g) hx hb hr hAe (by rw [e1]; rfl) hP hD hS (Nat.le_of_ble_eq_true rfl) (Nat.le_of_ble_eq_true rfl) dL_light_11 hlocks
      · exact absurd hk (by rw [e1]; decide)
      · exact absurd hk (by rw [e1]; decide)
    · refine lv_i2l hx hb dL_light_5 rfl ?_
      exact wl_l (g := g) hx hb hr hAe (by rw [h0]; rfl) hP hD hS (Nat.le_of_ble_eq_true rfl) (Nat.le_of_ble_eq_true rfl) dL_light_6 hlocks
  rw [hHe, hle] at hgo
  exact hgo
def s_L_blended (x : XS) (a1 : Int32) (a2 : Int32) : Option (Int64 × XS) := (s_X4_blended x a1 a2).bind fun r0 => if r0.1 = 0 ∨ r0.1 = 1 then some (wv r0.1 r0.2.1.toInt64, r0.2.2) else none
set_option maxHeartbeats 4000000 in
set_option maxRecDepth 100000 in
theorem c_L_blended (l : Launch) (hl9 : l.stackTraces = false) (D : va_G) (ca : Nat → ClassId) (g : Nat → Nat) (x : XS) (a1 : Int32) (a2 : Int32) {r : (Int64 × XS)} (hs : s_L_blended x a1 a2 = some r) (sz : Nat) : Met l yL_blended wsL_blended ({ frames := 7, cells := 1, slots := 6, locals := 165 }) (tP [.ref (g 0), .int a1, .int a2] D ca (wX g ca x) sz) (wQl r.1 D (wX g ca x) (wX g ca r.2) sz) 1 6 (va_A (wX g ca x) sz) := by
  unfold s_L_blended at hs
  obtain ⟨r0, q0, hs⟩ := sp_b hs
  obtain ⟨hk, hs⟩ := sp_i hs
  cases hs
  refine va_MetW (cc := cL_blended) (maxL := 4) (ret := (some .long)) (hh := [(0, 7, 8, 14)]) (by decide) rfl ?_
  intro p e s m args below meth c s₁ B hml hv
  obtain ⟨rfl, hsz, hP, hC, hD0, hz⟩ := hv
  have hx := B.exec
  have hb := B.bytes
  have hr := B.returns
  have hts := atoms_spec (ws := wsL_blended) B.pre
  have hown : s.vm.findClass RL = some m.cls := findClass_of_methodNamed B.named
  have hlocks := B.notSynchronized
  have hK := hC.1
  have htab := vx_table (x := yL_blended) B (hts (.codeWith yL_blended cL_blended 4 (some .long) [(0, 7, 8, 14)]) List.mem_cons_self)
  subst hsz
  have hD := hD0.self (sz := s.heap.size)
  generalize hAe : va_A (wX g ca x) s.heap.size = A at hD hz ⊢
  have hA : ∀ q : Nat, s.heap.size ≤ q → A q := fun q h => by rw [← hAe]; exact Or.inr h
  have hS : va_S A s.heap s.heap [] := va_S.rf
  have hl := lv_entry ([.ref (g 0), .int a1, .int a2]) (n := 4) (Nat.le_of_ble_eq_true rfl)
  rw [lg_entry_eq]
  generalize (lg_sl ([.ref (g 0), .int a1, .int a2]) ++ List.replicate (4 - (lg_sl ([.ref (g 0), .int a1, .int a2])).length) Slot.unset).toArray = ls at hl ⊢
  have hl : lv_has ls 4 [(0, .ref (g 0)), (1, .int a1), (2, .int a2)] := hl
  obtain ⟨H, hHe⟩ : ∃ H, H = s.heap := ⟨_, rfl⟩
  obtain ⟨locs, hle⟩ : ∃ z : List Loc, z = [] := ⟨_, rfl⟩
  have hP : va_P D vwCl (wX g ca x) H := by rw [hHe]; exact hP
  have hS : va_S A s.heap H locs := by rw [hHe, hle]; exact hS
  have hgo : W p l e (headSpec wsL_blended ({ frames := 7, cells := 1, slots := 6, locals := 165 })).room s m #[.ref (g 0), .int a1, .int a2] below meth c H locs 0 0 (MQ below (wQl (wv r0.1 r0.2.1.toInt64) D (wX g ca x) (wX g ca r0.2.2) s.heap.size) #[.ref (g 0), .int a1, .int a2] s 1 6 A) (F0 m 0 ls []) := by
    refine lv_aload_n hx hb dL_blended_0 rfl (lv_at hl 0 rfl) ?_
    refine lv_iload_n hx hb dL_blended_1 rfl (lv_at hl 1 rfl) ?_
    refine lv_iload_n hx hb dL_blended_2 rfl (lv_at hl 2 rfl) ?_
    refine wc_i (vx_runV (As := [.int a1, .int a2]) (rest := []) ⟨hx, hb, hml, hown, hts⟩ (c_X4_blended l hl9 D ca g x a1 a2 q0 H.size) (cwV 2 hts gL_blended_X4_blended rfl rfl rfl (by decide +kernel) ⟨Nat.le_of_ble_eq_true rfl, Nat.le_of_ble_eq_true rfl⟩) (tP_V (H0 := H) (q := (RX4, TX4, 16)) hP hC hD hz hS hA 0 rfl rfl) rfl rfl hl.1 rfl (lv_room (Nat.le_of_ble_eq_true rfl)) dL_blended_3 ⟨Nat.le_of_ble_eq_true rfl, Nat.le_of_ble_eq_true rfl⟩) hD hS hA (fun ce q9 H locs hk3 hP hD hS hce hcv hcl => ?_) (fun H locs h0 hP hD hS => ?_)
    · rcases hk3 with e1 | e1 | e1
      · rw [e1] at hcl
        refine vx_catch (name := "java/lang/IndexOutOfBoundsException") (E := "java/lang/IndexOutOfBoundsException") hown [] ⟨0, 7, 8, 14⟩ [] (by rw [htab]; rfl) (fun z hz => nomatch hz) (by decide) (by decide) (hts (.classLink RL 14 "java/lang/IndexOutOfBoundsException") (by decide +kernel)) (hC.use (.castable "java/lang/IndexOutOfBoundsException" "java/lang/IndexOutOfBoundsException") (by decide +kernel)) hce hcv hcl ?_
        refine lv_astore_n (lv' := [(3, .ref q9), (0, .ref (g 0)), (1, .int a1), (2, .int a2)]) hx hb dL_blended_8 rfl hl (by decide) rfl (fun ls hl => ?_)
        refine lv_ldc2 (v := -9000000000000000) hx hb hown (hts (.constantLong RL 16 (-9000000000000000)) (by decide +kernel)) dL_blended_9 ?_
        exact wl_l (g := g) hx hb hr hAe (by rw [e1]; rfl) hP hD hS (Nat.le_of_ble_eq_true rfl) (Nat.le_of_ble_eq_true rfl) dL_blended_12 hlocks
      · exact absurd hk (by rw [e1]; decide)
      · exact absurd hk (by rw [e1]; decide)
    · refine lv_i2l hx hb dL_blended_6 rfl ?_
      exact wl_l (g := g) hx hb hr hAe (by rw [h0]; rfl) hP hD hS (Nat.le_of_ble_eq_true rfl) (Nat.le_of_ble_eq_true rfl) dL_blended_7 hlocks
  rw [hHe, hle] at hgo
  exact hgo
def s_L_covered (x : XS) (a1 : Int32) : Option (Int64 × XS) := (s_X4_covered x a1).bind fun r0 => if r0.1 = 0 ∨ r0.1 = 2 then some (wv r0.1 r0.2.1.toInt64, r0.2.2) else none
set_option maxHeartbeats 4000000 in
set_option maxRecDepth 100000 in
theorem c_L_covered (l : Launch) (hl9 : l.stackTraces = false) (D : va_G) (ca : Nat → ClassId) (g : Nat → Nat) (x : XS) (a1 : Int32) {r : (Int64 × XS)} (hs : s_L_covered x a1 = some r) (sz : Nat) : Met l yL_covered wsL_covered ({ frames := 7, cells := 1, slots := 6, locals := 162 }) (tP [.ref (g 0), .int a1] D ca (wX g ca x) sz) (wQl r.1 D (wX g ca x) (wX g ca r.2) sz) 1 6 (va_A (wX g ca x) sz) := by
  unfold s_L_covered at hs
  obtain ⟨r0, q0, hs⟩ := sp_b hs
  obtain ⟨hk, hs⟩ := sp_i hs
  cases hs
  refine va_MetW (cc := cL_covered) (maxL := 3) (ret := (some .long)) (hh := [(0, 6, 7, 18)]) (by decide) rfl ?_
  intro p e s m args below meth c s₁ B hml hv
  obtain ⟨rfl, hsz, hP, hC, hD0, hz⟩ := hv
  have hx := B.exec
  have hb := B.bytes
  have hr := B.returns
  have hts := atoms_spec (ws := wsL_covered) B.pre
  have hown : s.vm.findClass RL = some m.cls := findClass_of_methodNamed B.named
  have hlocks := B.notSynchronized
  have hK := hC.1
  have htab := vx_table (x := yL_covered) B (hts (.codeWith yL_covered cL_covered 3 (some .long) [(0, 6, 7, 18)]) List.mem_cons_self)
  subst hsz
  have hD := hD0.self (sz := s.heap.size)
  generalize hAe : va_A (wX g ca x) s.heap.size = A at hD hz ⊢
  have hA : ∀ q : Nat, s.heap.size ≤ q → A q := fun q h => by rw [← hAe]; exact Or.inr h
  have hS : va_S A s.heap s.heap [] := va_S.rf
  have hl := lv_entry ([.ref (g 0), .int a1]) (n := 3) (Nat.le_of_ble_eq_true rfl)
  rw [lg_entry_eq]
  generalize (lg_sl ([.ref (g 0), .int a1]) ++ List.replicate (3 - (lg_sl ([.ref (g 0), .int a1])).length) Slot.unset).toArray = ls at hl ⊢
  have hl : lv_has ls 3 [(0, .ref (g 0)), (1, .int a1)] := hl
  obtain ⟨H, hHe⟩ : ∃ H, H = s.heap := ⟨_, rfl⟩
  obtain ⟨locs, hle⟩ : ∃ z : List Loc, z = [] := ⟨_, rfl⟩
  have hP : va_P D vwCl (wX g ca x) H := by rw [hHe]; exact hP
  have hS : va_S A s.heap H locs := by rw [hHe, hle]; exact hS
  have hgo : W p l e (headSpec wsL_covered ({ frames := 7, cells := 1, slots := 6, locals := 162 })).room s m #[.ref (g 0), .int a1] below meth c H locs 0 0 (MQ below (wQl (wv r0.1 r0.2.1.toInt64) D (wX g ca x) (wX g ca r0.2.2) s.heap.size) #[.ref (g 0), .int a1] s 1 6 A) (F0 m 0 ls []) := by
    refine lv_aload_n hx hb dL_covered_0 rfl (lv_at hl 0 rfl) ?_
    refine lv_iload_n hx hb dL_covered_1 rfl (lv_at hl 1 rfl) ?_
    refine wc_i (vx_runV (As := [.int a1]) (rest := []) ⟨hx, hb, hml, hown, hts⟩ (c_X4_covered l hl9 D ca g x a1 q0 H.size) (cwV 1 hts gL_covered_X4_covered rfl rfl rfl (by decide +kernel) ⟨Nat.le_of_ble_eq_true rfl, Nat.le_of_ble_eq_true rfl⟩) (tP_V (H0 := H) (q := (RX4, TX4, 16)) hP hC hD hz hS hA 0 rfl rfl) rfl rfl hl.1 rfl (lv_room (Nat.le_of_ble_eq_true rfl)) dL_covered_2 ⟨Nat.le_of_ble_eq_true rfl, Nat.le_of_ble_eq_true rfl⟩) hD hS hA (fun ce q9 H locs hk3 hP hD hS hce hcv hcl => ?_) (fun H locs h0 hP hD hS => ?_)
    · rcases hk3 with e1 | e1 | e1
      · exact absurd hk (by rw [e1]; decide)
      · rw [e1] at hcl
        refine vx_catch (name := "java/lang/IllegalArgumentException") (E := "java/lang/IllegalArgumentException") hown [] ⟨0, 6, 7, 18⟩ [] (by rw [htab]; rfl) (fun z hz => nomatch hz) (by decide) (by decide) (hts (.classLink RL 18 "java/lang/IllegalArgumentException") (by decide +kernel)) (hC.use (.castable "java/lang/IllegalArgumentException" "java/lang/IllegalArgumentException") (by decide +kernel)) hce hcv hcl ?_
        refine lv_astore_n (lv' := [(2, .ref q9), (0, .ref (g 0)), (1, .int a1)]) hx hb dL_covered_7 rfl hl (by decide) rfl (fun ls hl => ?_)
        refine lv_ldc2 (v := -9000000000000000) hx hb hown (hts (.constantLong RL 16 (-9000000000000000)) (by decide +kernel)) dL_covered_8 ?_
        exact wl_l (g := g) hx hb hr hAe (by rw [e1]; rfl) hP hD hS (Nat.le_of_ble_eq_true rfl) (Nat.le_of_ble_eq_true rfl) dL_covered_11 hlocks
      · exact absurd hk (by rw [e1]; decide)
    · refine lv_i2l hx hb dL_covered_5 rfl ?_
      exact wl_l (g := g) hx hb hr hAe (by rw [h0]; rfl) hP hD hS (Nat.le_of_ble_eq_true rfl) (Nat.le_of_ble_eq_true rfl) dL_covered_6 hlocks
  rw [hHe, hle] at hgo
  exact hgo
def s_L_bears (x : XS) (a1 : Int32) : Option (Int64 × XS) := (s_X4_bears x a1).bind fun r0 => if r0.1 = 0 ∨ r0.1 = 2 then some (wv r0.1 (if r0.2.1 = 0 then 0 else 1), r0.2.2) else none
set_option maxHeartbeats 4000000 in
set_option maxRecDepth 100000 in
theorem c_L_bears (l : Launch) (hl9 : l.stackTraces = false) (D : va_G) (ca : Nat → ClassId) (g : Nat → Nat) (x : XS) (a1 : Int32) {r : (Int64 × XS)} (hs : s_L_bears x a1 = some r) (sz : Nat) : Met l yL_bears wsL_bears ({ frames := 7, cells := 1, slots := 6, locals := 163 }) (tP [.ref (g 0), .int a1] D ca (wX g ca x) sz) (wQl r.1 D (wX g ca x) (wX g ca r.2) sz) 1 6 (va_A (wX g ca x) sz) := by
  unfold s_L_bears at hs
  obtain ⟨r0, q0, hs⟩ := sp_b hs
  obtain ⟨hk, hs⟩ := sp_i hs
  cases hs
  refine va_MetW (cc := cL_bears) (maxL := 3) (ret := (some .long)) (hh := [(0, 13, 14, 18)]) (by decide) rfl ?_
  intro p e s m args below meth c s₁ B hml hv
  obtain ⟨rfl, hsz, hP, hC, hD0, hz⟩ := hv
  have hx := B.exec
  have hb := B.bytes
  have hr := B.returns
  have hts := atoms_spec (ws := wsL_bears) B.pre
  have hown : s.vm.findClass RL = some m.cls := findClass_of_methodNamed B.named
  have hlocks := B.notSynchronized
  have hK := hC.1
  have htab := vx_table (x := yL_bears) B (hts (.codeWith yL_bears cL_bears 3 (some .long) [(0, 13, 14, 18)]) List.mem_cons_self)
  subst hsz
  have hD := hD0.self (sz := s.heap.size)
  generalize hAe : va_A (wX g ca x) s.heap.size = A at hD hz ⊢
  have hA : ∀ q : Nat, s.heap.size ≤ q → A q := fun q h => by rw [← hAe]; exact Or.inr h
  have hS : va_S A s.heap s.heap [] := va_S.rf
  have hl := lv_entry ([.ref (g 0), .int a1]) (n := 3) (Nat.le_of_ble_eq_true rfl)
  rw [lg_entry_eq]
  generalize (lg_sl ([.ref (g 0), .int a1]) ++ List.replicate (3 - (lg_sl ([.ref (g 0), .int a1])).length) Slot.unset).toArray = ls at hl ⊢
  have hl : lv_has ls 3 [(0, .ref (g 0)), (1, .int a1)] := hl
  obtain ⟨H, hHe⟩ : ∃ H, H = s.heap := ⟨_, rfl⟩
  obtain ⟨locs, hle⟩ : ∃ z : List Loc, z = [] := ⟨_, rfl⟩
  have hP : va_P D vwCl (wX g ca x) H := by rw [hHe]; exact hP
  have hS : va_S A s.heap H locs := by rw [hHe, hle]; exact hS
  have hgo : W p l e (headSpec wsL_bears ({ frames := 7, cells := 1, slots := 6, locals := 163 })).room s m #[.ref (g 0), .int a1] below meth c H locs 0 0 (MQ below (wQl (wv r0.1 (if r0.2.1 = 0 then 0 else 1)) D (wX g ca x) (wX g ca r0.2.2) s.heap.size) #[.ref (g 0), .int a1] s 1 6 A) (F0 m 0 ls []) := by
    refine lv_aload_n hx hb dL_bears_0 rfl (lv_at hl 0 rfl) ?_
    refine lv_iload_n hx hb dL_bears_1 rfl (lv_at hl 1 rfl) ?_
    refine wc_i (vx_runV (As := [.int a1]) (rest := []) ⟨hx, hb, hml, hown, hts⟩ (c_X4_bears l hl9 D ca g x a1 q0 H.size) (cwV 1 hts gL_bears_X4_bears rfl rfl rfl (by decide +kernel) ⟨Nat.le_of_ble_eq_true rfl, Nat.le_of_ble_eq_true rfl⟩) (tP_V (H0 := H) (q := (RX4, TX4, 16)) hP hC hD hz hS hA 0 rfl rfl) rfl rfl hl.1 rfl (lv_room (Nat.le_of_ble_eq_true rfl)) dL_bears_2 ⟨Nat.le_of_ble_eq_true rfl, Nat.le_of_ble_eq_true rfl⟩) hD hS hA (fun ce q9 H locs hk3 hP hD hS hce hcv hcl => ?_) (fun H locs h0 hP hD hS => ?_)
    · rcases hk3 with e1 | e1 | e1
      · exact absurd hk (by rw [e1]; decide)
      · rw [e1] at hcl
        refine vx_catch (name := "java/lang/IllegalArgumentException") (E := "java/lang/IllegalArgumentException") hown [] ⟨0, 13, 14, 18⟩ [] (by rw [htab]; rfl) (fun z hz => nomatch hz) (by decide) (by decide) (hts (.classLink RL 18 "java/lang/IllegalArgumentException") (by decide +kernel)) (hC.use (.castable "java/lang/IllegalArgumentException" "java/lang/IllegalArgumentException") (by decide +kernel)) hce hcv hcl ?_
        refine lv_astore_n (lv' := [(2, .ref q9), (0, .ref (g 0)), (1, .int a1)]) hx hb dL_bears_14 rfl hl (by decide) rfl (fun ls hl => ?_)
        refine lv_ldc2 (v := -9000000000000000) hx hb hown (hts (.constantLong RL 16 (-9000000000000000)) (by decide +kernel)) dL_bears_15 ?_
        exact wl_l (g := g) hx hb hr hAe (by rw [e1]; rfl) hP hD hS (Nat.le_of_ble_eq_true rfl) (Nat.le_of_ble_eq_true rfl) dL_bears_18 hlocks
      · exact absurd hk (by rw [e1]; decide)
    · refine lv_if_eq (tgt := 12) hx hb dL_bears_5 (by decide) (fun c9 => ?_) (fun c9 => ?_)
      · refine lv_lconst (v := 0) hx hb dL_bears_12 (by decide) ?_
        exact wl_l (g := g) hx hb hr hAe (by rw [h0, if_pos c9]; rfl) hP hD hS (Nat.le_of_ble_eq_true rfl) (Nat.le_of_ble_eq_true rfl) dL_bears_13 hlocks
      · refine lv_lconst (v := 1) hx hb dL_bears_8 (by decide) ?_
        refine lv_goto (tgt := 13) hx hb dL_bears_9 (by decide) ?_
        exact wl_l (g := g) hx hb hr hAe (by rw [h0, if_neg c9]; rfl) hP hD hS (Nat.le_of_ble_eq_true rfl) (Nat.le_of_ble_eq_true rfl) dL_bears_13 hlocks
  rw [hHe, hle] at hgo
  exact hgo
def s_L_curfew (x : XS) (a1 : Int32) (a2 : Int32) : Option (Int64 × XS) := (s_X4_curfew x a1 a2).bind fun r0 => if r0.1 = 0 ∨ r0.1 = 2 then some (wv r0.1 0, r0.2.2) else none
set_option maxHeartbeats 4000000 in
set_option maxRecDepth 100000 in
theorem c_L_curfew (l : Launch) (hl9 : l.stackTraces = false) (D : va_G) (ca : Nat → ClassId) (g : Nat → Nat) (x : XS) (a1 : Int32) (a2 : Int32) {r : (Int64 × XS)} (hs : s_L_curfew x a1 a2 = some r) (sz : Nat) : Met l yL_curfew wsL_curfew ({ frames := 7, cells := 1, slots := 6, locals := 104 }) (tP [.ref (g 0), .int a1, .int a2] D ca (wX g ca x) sz) (wQl r.1 D (wX g ca x) (wX g ca r.2) sz) 1 6 (va_A (wX g ca x) sz) := by
  unfold s_L_curfew at hs
  obtain ⟨r0, q0, hs⟩ := sp_b hs
  obtain ⟨hk, hs⟩ := sp_i hs
  cases hs
  refine va_MetW (cc := cL_curfew) (maxL := 4) (ret := (some .long)) (hh := [(0, 7, 8, 18)]) (by decide) rfl ?_
  intro p e s m args below meth c s₁ B hml hv
  obtain ⟨rfl, hsz, hP, hC, hD0, hz⟩ := hv
  have hx := B.exec
  have hb := B.bytes
  have hr := B.returns
  have hts := atoms_spec (ws := wsL_curfew) B.pre
  have hown : s.vm.findClass RL = some m.cls := findClass_of_methodNamed B.named
  have hlocks := B.notSynchronized
  have hK := hC.1
  have htab := vx_table (x := yL_curfew) B (hts (.codeWith yL_curfew cL_curfew 4 (some .long) [(0, 7, 8, 18)]) List.mem_cons_self)
  subst hsz
  have hD := hD0.self (sz := s.heap.size)
  generalize hAe : va_A (wX g ca x) s.heap.size = A at hD hz ⊢
  have hA : ∀ q : Nat, s.heap.size ≤ q → A q := fun q h => by rw [← hAe]; exact Or.inr h
  have hS : va_S A s.heap s.heap [] := va_S.rf
  have hl := lv_entry ([.ref (g 0), .int a1, .int a2]) (n := 4) (Nat.le_of_ble_eq_true rfl)
  rw [lg_entry_eq]
  generalize (lg_sl ([.ref (g 0), .int a1, .int a2]) ++ List.replicate (4 - (lg_sl ([.ref (g 0), .int a1, .int a2])).length) Slot.unset).toArray = ls at hl ⊢
  have hl : lv_has ls 4 [(0, .ref (g 0)), (1, .int a1), (2, .int a2)] := hl
  obtain ⟨H, hHe⟩ : ∃ H, H = s.heap := ⟨_, rfl⟩
  obtain ⟨locs, hle⟩ : ∃ z : List Loc, z = [] := ⟨_, rfl⟩
  have hP : va_P D vwCl (wX g ca x) H := by rw [hHe]; exact hP
  have hS : va_S A s.heap H locs := by rw [hHe, hle]; exact hS
  have hgo : W p l e (headSpec wsL_curfew ({ frames := 7, cells := 1, slots := 6, locals := 104 })).room s m #[.ref (g 0), .int a1, .int a2] below meth c H locs 0 0 (MQ below (wQl (wv r0.1 0) D (wX g ca x) (wX g ca r0.2.2) s.heap.size) #[.ref (g 0), .int a1, .int a2] s 1 6 A) (F0 m 0 ls []) := by
    refine lv_aload_n hx hb dL_curfew_0 rfl (lv_at hl 0 rfl) ?_
    refine lv_iload_n hx hb dL_curfew_1 rfl (lv_at hl 1 rfl) ?_
    refine lv_iload_n hx hb dL_curfew_2 rfl (lv_at hl 2 rfl) ?_
    refine wc_v (vx_runV (As := [.int a1, .int a2]) (rest := []) ⟨hx, hb, hml, hown, hts⟩ (c_X4_curfew l hl9 D ca g x a1 a2 q0 H.size) (cwV 2 hts gL_curfew_X4_curfew rfl rfl rfl (by decide +kernel) ⟨Nat.le_of_ble_eq_true rfl, Nat.le_of_ble_eq_true rfl⟩) (tP_V (H0 := H) (q := (RX4, TX4, 16)) hP hC hD hz hS hA 0 rfl rfl) rfl rfl hl.1 rfl (lv_room (Nat.le_of_ble_eq_true rfl)) dL_curfew_3 ⟨Nat.le_of_ble_eq_true rfl, Nat.le_of_ble_eq_true rfl⟩) hD hS hA (fun ce q9 H locs hk3 hP hD hS hce hcv hcl => ?_) (fun H locs h0 hP hD hS => ?_)
    · rcases hk3 with e1 | e1 | e1
      · exact absurd hk (by rw [e1]; decide)
      · rw [e1] at hcl
        refine vx_catch (name := "java/lang/IllegalArgumentException") (E := "java/lang/IllegalArgumentException") hown [] ⟨0, 7, 8, 18⟩ [] (by rw [htab]; rfl) (fun z hz => nomatch hz) (by decide) (by decide) (hts (.classLink RL 18 "java/lang/IllegalArgumentException") (by decide +kernel)) (hC.use (.castable "java/lang/IllegalArgumentException" "java/lang/IllegalArgumentException") (by decide +kernel)) hce hcv hcl ?_
        refine lv_astore_n (lv' := [(3, .ref q9), (0, .ref (g 0)), (1, .int a1), (2, .int a2)]) hx hb dL_curfew_8 rfl hl (by decide) rfl (fun ls hl => ?_)
        refine lv_ldc2 (v := -9000000000000000) hx hb hown (hts (.constantLong RL 16 (-9000000000000000)) (by decide +kernel)) dL_curfew_9 ?_
        exact wl_l (g := g) hx hb hr hAe (by rw [e1]; rfl) hP hD hS (Nat.le_of_ble_eq_true rfl) (Nat.le_of_ble_eq_true rfl) dL_curfew_12 hlocks
      · exact absurd hk (by rw [e1]; decide)
    · refine lv_lconst (v := 0) hx hb dL_curfew_6 (by decide) ?_
      exact wl_l (g := g) hx hb hr hAe (by rw [h0]; rfl) hP hD hS (Nat.le_of_ble_eq_true rfl) (Nat.le_of_ble_eq_true rfl) dL_curfew_7 hlocks
  rw [hHe, hle] at hgo
  exact hgo
def s_L_ready (x : XS) (a1 : Int32) (a2 : Int32) : Option (Int64 × XS) := (s_X4_ready x a1 a2).bind fun r0 => if r0.1 = 0 ∨ r0.1 = 1 ∨ r0.1 = 2 then some (wv r0.1 r0.2.1.toInt64, r0.2.2) else none
set_option maxHeartbeats 4000000 in
set_option maxRecDepth 100000 in
theorem c_L_ready (l : Launch) (hl9 : l.stackTraces = false) (D : va_G) (ca : Nat → ClassId) (g : Nat → Nat) (x : XS) (a1 : Int32) (a2 : Int32) {r : (Int64 × XS)} (hs : s_L_ready x a1 a2 = some r) (sz : Nat) : Met l yL_ready wsL_ready ({ frames := 7, cells := 1, slots := 6, locals := 106 }) (tP [.ref (g 0), .int a1, .int a2] D ca (wX g ca x) sz) (wQl r.1 D (wX g ca x) (wX g ca r.2) sz) 1 6 (va_A (wX g ca x) sz) := by
  unfold s_L_ready at hs
  obtain ⟨r0, q0, hs⟩ := sp_b hs
  obtain ⟨hk, hs⟩ := sp_i hs
  cases hs
  refine va_MetW (cc := cL_ready) (maxL := 4) (ret := (some .long)) (hh := [(0, 7, 8, 14), (0, 7, 13, 18)]) (by decide) rfl ?_
  intro p e s m args below meth c s₁ B hml hv
  obtain ⟨rfl, hsz, hP, hC, hD0, hz⟩ := hv
  have hx := B.exec
  have hb := B.bytes
  have hr := B.returns
  have hts := atoms_spec (ws := wsL_ready) B.pre
  have hown : s.vm.findClass RL = some m.cls := findClass_of_methodNamed B.named
  have hlocks := B.notSynchronized
  have hK := hC.1
  have htab := vx_table (x := yL_ready) B (hts (.codeWith yL_ready cL_ready 4 (some .long) [(0, 7, 8, 14), (0, 7, 13, 18)]) List.mem_cons_self)
  subst hsz
  have hD := hD0.self (sz := s.heap.size)
  generalize hAe : va_A (wX g ca x) s.heap.size = A at hD hz ⊢
  have hA : ∀ q : Nat, s.heap.size ≤ q → A q := fun q h => by rw [← hAe]; exact Or.inr h
  have hS : va_S A s.heap s.heap [] := va_S.rf
  have hl := lv_entry ([.ref (g 0), .int a1, .int a2]) (n := 4) (Nat.le_of_ble_eq_true rfl)
  rw [lg_entry_eq]
  generalize (lg_sl ([.ref (g 0), .int a1, .int a2]) ++ List.replicate (4 - (lg_sl ([.ref (g 0), .int a1, .int a2])).length) Slot.unset).toArray = ls at hl ⊢
  have hl : lv_has ls 4 [(0, .ref (g 0)), (1, .int a1), (2, .int a2)] := hl
  obtain ⟨H, hHe⟩ : ∃ H, H = s.heap := ⟨_, rfl⟩
  obtain ⟨locs, hle⟩ : ∃ z : List Loc, z = [] := ⟨_, rfl⟩
  have hP : va_P D vwCl (wX g ca x) H := by rw [hHe]; exact hP
  have hS : va_S A s.heap H locs := by rw [hHe, hle]; exact hS
  have hgo : W p l e (headSpec wsL_ready ({ frames := 7, cells := 1, slots := 6, locals := 106 })).room s m #[.ref (g 0), .int a1, .int a2] below meth c H locs 0 0 (MQ below (wQl (wv r0.1 r0.2.1.toInt64) D (wX g ca x) (wX g ca r0.2.2) s.heap.size) #[.ref (g 0), .int a1, .int a2] s 1 6 A) (F0 m 0 ls []) := by
    refine lv_aload_n hx hb dL_ready_0 rfl (lv_at hl 0 rfl) ?_
    refine lv_iload_n hx hb dL_ready_1 rfl (lv_at hl 1 rfl) ?_
    refine lv_iload_n hx hb dL_ready_2 rfl (lv_at hl 2 rfl) ?_
    refine wc_i (vx_runV (As := [.int a1, .int a2]) (rest := []) ⟨hx, hb, hml, hown, hts⟩ (c_X4_ready l hl9 D ca g x a1 a2 q0 H.size) (cwV 2 hts gL_ready_X4_ready rfl rfl rfl (by decide +kernel) ⟨Nat.le_of_ble_eq_true rfl, Nat.le_of_ble_eq_true rfl⟩) (tP_V (H0 := H) (q := (RX4, TX4, 16)) hP hC hD hz hS hA 0 rfl rfl) rfl rfl hl.1 rfl (lv_room (Nat.le_of_ble_eq_true rfl)) dL_ready_3 ⟨Nat.le_of_ble_eq_true rfl, Nat.le_of_ble_eq_true rfl⟩) hD hS hA (fun ce q9 H locs hk3 hP hD hS hce hcv hcl => ?_) (fun H locs h0 hP hD hS => ?_)
    · rcases hk3 with e1 | e1 | e1
      · rw [e1] at hcl
        refine vx_catch (name := "java/lang/IndexOutOfBoundsException") (E := "java/lang/IndexOutOfBoundsException") hown [] ⟨0, 7, 8, 14⟩ [⟨0, 7, 13, 18⟩] (by rw [htab]; rfl) (fun z hz => nomatch hz) (by decide) (by decide) (hts (.classLink RL 14 "java/lang/IndexOutOfBoundsException") (by decide +kernel)) (hC.use (.castable "java/lang/IndexOutOfBoundsException" "java/lang/IndexOutOfBoundsException") (by decide +kernel)) hce hcv hcl ?_
        refine lv_astore_n (lv' := [(3, .ref q9), (0, .ref (g 0)), (1, .int a1), (2, .int a2)]) hx hb dL_ready_8 rfl hl (by decide) rfl (fun ls hl => ?_)
        refine lv_ldc2 (v := -9000000000000000) hx hb hown (hts (.constantLong RL 16 (-9000000000000000)) (by decide +kernel)) dL_ready_9 ?_
        exact wl_l (g := g) hx hb hr hAe (by rw [e1]; rfl) hP hD hS (Nat.le_of_ble_eq_true rfl) (Nat.le_of_ble_eq_true rfl) dL_ready_12 hlocks
      · rw [e1] at hcl
        have hpass : ∀ z ∈ ([⟨0, 7, 8, 14⟩] : List ExceptionTableEntry), covers z 3 = false ∨ (z.catchType ≠ 0 ∧ ∃ nm : String, (Cond.classLink RL z.catchType nm).before #[.ref (g 0), .int a1, .int a2] s = true ∧ va_Nc "java/lang/IllegalArgumentException" nm s) := by
          intro z hz
          simp only [List.mem_cons, List.not_mem_nil, or_false] at hz
          rcases hz with rfl
          · exact Or.inr ⟨by decide, "java/lang/IndexOutOfBoundsException", hts (.classLink RL 14 "java/lang/IndexOutOfBoundsException") (by decide +kernel), hC.2.2.2.1 ("java/lang/IllegalArgumentException", "java/lang/IndexOutOfBoundsException") (by decide)⟩
        refine vx_catch (name := "java/lang/IllegalArgumentException") (E := "java/lang/IllegalArgumentException") hown [⟨0, 7, 8, 14⟩] ⟨0, 7, 13, 18⟩ [] (by rw [htab]; rfl) hpass (by decide) (by decide) (hts (.classLink RL 18 "java/lang/IllegalArgumentException") (by decide +kernel)) (hC.use (.castable "java/lang/IllegalArgumentException" "java/lang/IllegalArgumentException") (by decide +kernel)) hce hcv hcl ?_
        refine lv_astore_n (lv' := [(3, .ref q9), (0, .ref (g 0)), (1, .int a1), (2, .int a2)]) hx hb dL_ready_13 rfl hl (by decide) rfl (fun ls hl => ?_)
        refine lv_ldc2 (v := -9000000000000000) hx hb hown (hts (.constantLong RL 16 (-9000000000000000)) (by decide +kernel)) dL_ready_14 ?_
        exact wl_l (g := g) hx hb hr hAe (by rw [e1]; rfl) hP hD hS (Nat.le_of_ble_eq_true rfl) (Nat.le_of_ble_eq_true rfl) dL_ready_17 hlocks
      · exact absurd hk (by rw [e1]; decide)
    · refine lv_i2l hx hb dL_ready_6 rfl ?_
      exact wl_l (g := g) hx hb hr hAe (by rw [h0]; rfl) hP hD hS (Nat.le_of_ble_eq_true rfl) (Nat.le_of_ble_eq_true rfl) dL_ready_7 hlocks
  rw [hHe, hle] at hgo
  exact hgo
def s_L_propose (x : XS) (a1 : Int32) (a2 : Int32) : Option (Int64 × XS) := (s_X4_propose x a1 a2).bind fun r0 => if r0.1 = 0 ∨ r0.1 = 1 ∨ r0.1 = 2 then some (wv r0.1 r0.2.1.toInt64, r0.2.2) else none
set_option maxHeartbeats 4000000 in
set_option maxRecDepth 100000 in
theorem c_L_propose (l : Launch) (hl9 : l.stackTraces = false) (D : va_G) (ca : Nat → ClassId) (g : Nat → Nat) (x : XS) (a1 : Int32) (a2 : Int32) {r : (Int64 × XS)} (hs : s_L_propose x a1 a2 = some r) (sz : Nat) : Met l yL_propose wsL_propose ({ frames := 7, cells := 1, slots := 6, locals := 106 }) (tP [.ref (g 0), .int a1, .int a2] D ca (wX g ca x) sz) (wQl r.1 D (wX g ca x) (wX g ca r.2) sz) 1 6 (va_A (wX g ca x) sz) := by
  unfold s_L_propose at hs
  obtain ⟨r0, q0, hs⟩ := sp_b hs
  obtain ⟨hk, hs⟩ := sp_i hs
  cases hs
  refine va_MetW (cc := cL_propose) (maxL := 4) (ret := (some .long)) (hh := [(0, 7, 8, 14), (0, 7, 13, 18)]) (by decide) rfl ?_
  intro p e s m args below meth c s₁ B hml hv
  obtain ⟨rfl, hsz, hP, hC, hD0, hz⟩ := hv
  have hx := B.exec
  have hb := B.bytes
  have hr := B.returns
  have hts := atoms_spec (ws := wsL_propose) B.pre
  have hown : s.vm.findClass RL = some m.cls := findClass_of_methodNamed B.named
  have hlocks := B.notSynchronized
  have hK := hC.1
  have htab := vx_table (x := yL_propose) B (hts (.codeWith yL_propose cL_propose 4 (some .long) [(0, 7, 8, 14), (0, 7, 13, 18)]) List.mem_cons_self)
  subst hsz
  have hD := hD0.self (sz := s.heap.size)
  generalize hAe : va_A (wX g ca x) s.heap.size = A at hD hz ⊢
  have hA : ∀ q : Nat, s.heap.size ≤ q → A q := fun q h => by rw [← hAe]; exact Or.inr h
  have hS : va_S A s.heap s.heap [] := va_S.rf
  have hl := lv_entry ([.ref (g 0), .int a1, .int a2]) (n := 4) (Nat.le_of_ble_eq_true rfl)
  rw [lg_entry_eq]
  generalize (lg_sl ([.ref (g 0), .int a1, .int a2]) ++ List.replicate (4 - (lg_sl ([.ref (g 0), .int a1, .int a2])).length) Slot.unset).toArray = ls at hl ⊢
  have hl : lv_has ls 4 [(0, .ref (g 0)), (1, .int a1), (2, .int a2)] := hl
  obtain ⟨H, hHe⟩ : ∃ H, H = s.heap := ⟨_, rfl⟩
  obtain ⟨locs, hle⟩ : ∃ z : List Loc, z = [] := ⟨_, rfl⟩
  have hP : va_P D vwCl (wX g ca x) H := by rw [hHe]; exact hP
  have hS : va_S A s.heap H locs := by rw [hHe, hle]; exact hS
  have hgo : W p l e (headSpec wsL_propose ({ frames := 7, cells := 1, slots := 6, locals := 106 })).room s m #[.ref (g 0), .int a1, .int a2] below meth c H locs 0 0 (MQ below (wQl (wv r0.1 r0.2.1.toInt64) D (wX g ca x) (wX g ca r0.2.2) s.heap.size) #[.ref (g 0), .int a1, .int a2] s 1 6 A) (F0 m 0 ls []) := by
    refine lv_aload_n hx hb dL_propose_0 rfl (lv_at hl 0 rfl) ?_
    refine lv_iload_n hx hb dL_propose_1 rfl (lv_at hl 1 rfl) ?_
    refine lv_iload_n hx hb dL_propose_2 rfl (lv_at hl 2 rfl) ?_
    refine wc_i (vx_runV (As := [.int a1, .int a2]) (rest := []) ⟨hx, hb, hml, hown, hts⟩ (c_X4_propose l hl9 D ca g x a1 a2 q0 H.size) (cwV 2 hts gL_propose_X4_propose rfl rfl rfl (by decide +kernel) ⟨Nat.le_of_ble_eq_true rfl, Nat.le_of_ble_eq_true rfl⟩) (tP_V (H0 := H) (q := (RX4, TX4, 16)) hP hC hD hz hS hA 0 rfl rfl) rfl rfl hl.1 rfl (lv_room (Nat.le_of_ble_eq_true rfl)) dL_propose_3 ⟨Nat.le_of_ble_eq_true rfl, Nat.le_of_ble_eq_true rfl⟩) hD hS hA (fun ce q9 H locs hk3 hP hD hS hce hcv hcl => ?_) (fun H locs h0 hP hD hS => ?_)
    · rcases hk3 with e1 | e1 | e1
      · rw [e1] at hcl
        refine vx_catch (name := "java/lang/IndexOutOfBoundsException") (E := "java/lang/IndexOutOfBoundsException") hown [] ⟨0, 7, 8, 14⟩ [⟨0, 7, 13, 18⟩] (by rw [htab]; rfl) (fun z hz => nomatch hz) (by decide) (by decide) (hts (.classLink RL 14 "java/lang/IndexOutOfBoundsException") (by decide +kernel)) (hC.use (.castable "java/lang/IndexOutOfBoundsException" "java/lang/IndexOutOfBoundsException") (by decide +kernel)) hce hcv hcl ?_
        refine lv_astore_n (lv' := [(3, .ref q9), (0, .ref (g 0)), (1, .int a1), (2, .int a2)]) hx hb dL_propose_8 rfl hl (by decide) rfl (fun ls hl => ?_)
        refine lv_ldc2 (v := -9000000000000000) hx hb hown (hts (.constantLong RL 16 (-9000000000000000)) (by decide +kernel)) dL_propose_9 ?_
        exact wl_l (g := g) hx hb hr hAe (by rw [e1]; rfl) hP hD hS (Nat.le_of_ble_eq_true rfl) (Nat.le_of_ble_eq_true rfl) dL_propose_12 hlocks
      · rw [e1] at hcl
        have hpass : ∀ z ∈ ([⟨0, 7, 8, 14⟩] : List ExceptionTableEntry), covers z 3 = false ∨ (z.catchType ≠ 0 ∧ ∃ nm : String, (Cond.classLink RL z.catchType nm).before #[.ref (g 0), .int a1, .int a2] s = true ∧ va_Nc "java/lang/IllegalArgumentException" nm s) := by
          intro z hz
          simp only [List.mem_cons, List.not_mem_nil, or_false] at hz
          rcases hz with rfl
          · exact Or.inr ⟨by decide, "java/lang/IndexOutOfBoundsException", hts (.classLink RL 14 "java/lang/IndexOutOfBoundsException") (by decide +kernel), hC.2.2.2.1 ("java/lang/IllegalArgumentException", "java/lang/IndexOutOfBoundsException") (by decide)⟩
        refine vx_catch (name := "java/lang/IllegalArgumentException") (E := "java/lang/IllegalArgumentException") hown [⟨0, 7, 8, 14⟩] ⟨0, 7, 13, 18⟩ [] (by rw [htab]; rfl) hpass (by decide) (by decide) (hts (.classLink RL 18 "java/lang/IllegalArgumentException") (by decide +kernel)) (hC.use (.castable "java/lang/IllegalArgumentException" "java/lang/IllegalArgumentException") (by decide +kernel)) hce hcv hcl ?_
        refine lv_astore_n (lv' := [(3, .ref q9), (0, .ref (g 0)), (1, .int a1), (2, .int a2)]) hx hb dL_propose_13 rfl hl (by decide) rfl (fun ls hl => ?_)
        refine lv_ldc2 (v := -9000000000000000) hx hb hown (hts (.constantLong RL 16 (-9000000000000000)) (by decide +kernel)) dL_propose_14 ?_
        exact wl_l (g := g) hx hb hr hAe (by rw [e1]; rfl) hP hD hS (Nat.le_of_ble_eq_true rfl) (Nat.le_of_ble_eq_true rfl) dL_propose_17 hlocks
      · exact absurd hk (by rw [e1]; decide)
    · refine lv_i2l hx hb dL_propose_6 rfl ?_
      exact wl_l (g := g) hx hb hr hAe (by rw [h0]; rfl) hP hD hS (Nat.le_of_ble_eq_true rfl) (Nat.le_of_ble_eq_true rfl) dL_propose_7 hlocks
  rw [hHe, hle] at hgo
  exact hgo
def s_L_answer (x : XS) (a1 : Int32) (a2 : Int32) : Option (Int64 × XS) := (s_X4_answer x a1 a2).bind fun r0 => if r0.1 = 0 ∨ r0.1 = 1 ∨ r0.1 = 3 then some (wv r0.1 r0.2.1.toInt64, r0.2.2) else none
set_option maxHeartbeats 4000000 in
set_option maxRecDepth 100000 in
theorem c_L_answer (l : Launch) (hl9 : l.stackTraces = false) (D : va_G) (ca : Nat → ClassId) (g : Nat → Nat) (x : XS) (a1 : Int32) (a2 : Int32) {r : (Int64 × XS)} (hs : s_L_answer x a1 a2 = some r) (sz : Nat) : Met l yL_answer wsL_answer ({ frames := 7, cells := 1, slots := 6, locals := 105 }) (tP [.ref (g 0), .int a1, .int a2] D ca (wX g ca x) sz) (wQl r.1 D (wX g ca x) (wX g ca r.2) sz) 1 6 (va_A (wX g ca x) sz) := by
  unfold s_L_answer at hs
  obtain ⟨r0, q0, hs⟩ := sp_b hs
  obtain ⟨hk, hs⟩ := sp_i hs
  cases hs
  refine va_MetW (cc := cL_answer) (maxL := 4) (ret := (some .long)) (hh := [(0, 7, 8, 14), (0, 7, 13, 24)]) (by decide) rfl ?_
  intro p e s m args below meth c s₁ B hml hv
  obtain ⟨rfl, hsz, hP, hC, hD0, hz⟩ := hv
  have hx := B.exec
  have hb := B.bytes
  have hr := B.returns
  have hts := atoms_spec (ws := wsL_answer) B.pre
  have hown : s.vm.findClass RL = some m.cls := findClass_of_methodNamed B.named
  have hlocks := B.notSynchronized
  have hK := hC.1
  have htab := vx_table (x := yL_answer) B (hts (.codeWith yL_answer cL_answer 4 (some .long) [(0, 7, 8, 14), (0, 7, 13, 24)]) List.mem_cons_self)
  subst hsz
  have hD := hD0.self (sz := s.heap.size)
  generalize hAe : va_A (wX g ca x) s.heap.size = A at hD hz ⊢
  have hA : ∀ q : Nat, s.heap.size ≤ q → A q := fun q h => by rw [← hAe]; exact Or.inr h
  have hS : va_S A s.heap s.heap [] := va_S.rf
  have hl := lv_entry ([.ref (g 0), .int a1, .int a2]) (n := 4) (Nat.le_of_ble_eq_true rfl)
  rw [lg_entry_eq]
  generalize (lg_sl ([.ref (g 0), .int a1, .int a2]) ++ List.replicate (4 - (lg_sl ([.ref (g 0), .int a1, .int a2])).length) Slot.unset).toArray = ls at hl ⊢
  have hl : lv_has ls 4 [(0, .ref (g 0)), (1, .int a1), (2, .int a2)] := hl
  obtain ⟨H, hHe⟩ : ∃ H, H = s.heap := ⟨_, rfl⟩
  obtain ⟨locs, hle⟩ : ∃ z : List Loc, z = [] := ⟨_, rfl⟩
  have hP : va_P D vwCl (wX g ca x) H := by rw [hHe]; exact hP
  have hS : va_S A s.heap H locs := by rw [hHe, hle]; exact hS
  have hgo : W p l e (headSpec wsL_answer ({ frames := 7, cells := 1, slots := 6, locals := 105 })).room s m #[.ref (g 0), .int a1, .int a2] below meth c H locs 0 0 (MQ below (wQl (wv r0.1 r0.2.1.toInt64) D (wX g ca x) (wX g ca r0.2.2) s.heap.size) #[.ref (g 0), .int a1, .int a2] s 1 6 A) (F0 m 0 ls []) := by
    refine lv_aload_n hx hb dL_answer_0 rfl (lv_at hl 0 rfl) ?_
    refine lv_iload_n hx hb dL_answer_1 rfl (lv_at hl 1 rfl) ?_
    refine lv_iload_n hx hb dL_answer_2 rfl (lv_at hl 2 rfl) ?_
    refine wc_i (vx_runV (As := [.int a1, .int a2]) (rest := []) ⟨hx, hb, hml, hown, hts⟩ (c_X4_answer l hl9 D ca g x a1 a2 q0 H.size) (cwV 2 hts gL_answer_X4_answer rfl rfl rfl (by decide +kernel) ⟨Nat.le_of_ble_eq_true rfl, Nat.le_of_ble_eq_true rfl⟩) (tP_V (H0 := H) (q := (RX4, TX4, 16)) hP hC hD hz hS hA 0 rfl rfl) rfl rfl hl.1 rfl (lv_room (Nat.le_of_ble_eq_true rfl)) dL_answer_3 ⟨Nat.le_of_ble_eq_true rfl, Nat.le_of_ble_eq_true rfl⟩) hD hS hA (fun ce q9 H locs hk3 hP hD hS hce hcv hcl => ?_) (fun H locs h0 hP hD hS => ?_)
    · rcases hk3 with e1 | e1 | e1
      · rw [e1] at hcl
        refine vx_catch (name := "java/lang/IndexOutOfBoundsException") (E := "java/lang/IndexOutOfBoundsException") hown [] ⟨0, 7, 8, 14⟩ [⟨0, 7, 13, 24⟩] (by rw [htab]; rfl) (fun z hz => nomatch hz) (by decide) (by decide) (hts (.classLink RL 14 "java/lang/IndexOutOfBoundsException") (by decide +kernel)) (hC.use (.castable "java/lang/IndexOutOfBoundsException" "java/lang/IndexOutOfBoundsException") (by decide +kernel)) hce hcv hcl ?_
        refine lv_astore_n (lv' := [(3, .ref q9), (0, .ref (g 0)), (1, .int a1), (2, .int a2)]) hx hb dL_answer_8 rfl hl (by decide) rfl (fun ls hl => ?_)
        refine lv_ldc2 (v := -9000000000000000) hx hb hown (hts (.constantLong RL 16 (-9000000000000000)) (by decide +kernel)) dL_answer_9 ?_
        exact wl_l (g := g) hx hb hr hAe (by rw [e1]; rfl) hP hD hS (Nat.le_of_ble_eq_true rfl) (Nat.le_of_ble_eq_true rfl) dL_answer_12 hlocks
      · exact absurd hk (by rw [e1]; decide)
      · rw [e1] at hcl
        have hpass : ∀ z ∈ ([⟨0, 7, 8, 14⟩] : List ExceptionTableEntry), covers z 3 = false ∨ (z.catchType ≠ 0 ∧ ∃ nm : String, (Cond.classLink RL z.catchType nm).before #[.ref (g 0), .int a1, .int a2] s = true ∧ va_Nc "java/lang/IllegalStateException" nm s) := by
          intro z hz
          simp only [List.mem_cons, List.not_mem_nil, or_false] at hz
          rcases hz with rfl
          · exact Or.inr ⟨by decide, "java/lang/IndexOutOfBoundsException", hts (.classLink RL 14 "java/lang/IndexOutOfBoundsException") (by decide +kernel), hC.2.2.2.1 ("java/lang/IllegalStateException", "java/lang/IndexOutOfBoundsException") (by decide)⟩
        refine vx_catch (name := "java/lang/IllegalStateException") (E := "java/lang/IllegalStateException") hown [⟨0, 7, 8, 14⟩] ⟨0, 7, 13, 24⟩ [] (by rw [htab]; rfl) hpass (by decide) (by decide) (hts (.classLink RL 24 "java/lang/IllegalStateException") (by decide +kernel)) (hC.use (.castable "java/lang/IllegalStateException" "java/lang/IllegalStateException") (by decide +kernel)) hce hcv hcl ?_
        refine lv_astore_n (lv' := [(3, .ref q9), (0, .ref (g 0)), (1, .int a1), (2, .int a2)]) hx hb dL_answer_13 rfl hl (by decide) rfl (fun ls hl => ?_)
        refine lv_ldc2 (v := -9000000000000000) hx hb hown (hts (.constantLong RL 16 (-9000000000000000)) (by decide +kernel)) dL_answer_14 ?_
        exact wl_l (g := g) hx hb hr hAe (by rw [e1]; rfl) hP hD hS (Nat.le_of_ble_eq_true rfl) (Nat.le_of_ble_eq_true rfl) dL_answer_17 hlocks
    · refine lv_i2l hx hb dL_answer_6 rfl ?_
      exact wl_l (g := g) hx hb hr hAe (by rw [h0]; rfl) hP hD hS (Nat.le_of_ble_eq_true rfl) (Nat.le_of_ble_eq_true rfl) dL_answer_7 hlocks
  rw [hHe, hle] at hgo
  exact hgo
def s_L_scene (x : XS) (a1 : Int32) (a2 : Int32) : Option (Int64 × XS) := (s_X4_scene x a1 a2).bind fun r0 => if r0.1 = 0 ∨ r0.1 = 1 then some (wv r0.1 r0.2.1.toInt64, r0.2.2) else none
set_option maxHeartbeats 4000000 in
set_option maxRecDepth 100000 in
theorem c_L_scene (l : Launch) (hl9 : l.stackTraces = false) (D : va_G) (ca : Nat → ClassId) (g : Nat → Nat) (x : XS) (a1 : Int32) (a2 : Int32) {r : (Int64 × XS)} (hs : s_L_scene x a1 a2 = some r) (sz : Nat) : Met l yL_scene wsL_scene ({ frames := 7, cells := 1, slots := 6, locals := 105 }) (tP [.ref (g 0), .int a1, .int a2] D ca (wX g ca x) sz) (wQl r.1 D (wX g ca x) (wX g ca r.2) sz) 1 6 (va_A (wX g ca x) sz) := by
  unfold s_L_scene at hs
  obtain ⟨r0, q0, hs⟩ := sp_b hs
  obtain ⟨hk, hs⟩ := sp_i hs
  cases hs
  refine va_MetW (cc := cL_scene) (maxL := 4) (ret := (some .long)) (hh := [(0, 7, 8, 14)]) (by decide) rfl ?_
  intro p e s m args below meth c s₁ B hml hv
  obtain ⟨rfl, hsz, hP, hC, hD0, hz⟩ := hv
  have hx := B.exec
  have hb := B.bytes
  have hr := B.returns
  have hts := atoms_spec (ws := wsL_scene) B.pre
  have hown : s.vm.findClass RL = some m.cls := findClass_of_methodNamed B.named
  have hlocks := B.notSynchronized
  have hK := hC.1
  have htab := vx_table (x := yL_scene) B (hts (.codeWith yL_scene cL_scene 4 (some .long) [(0, 7, 8, 14)]) List.mem_cons_self)
  subst hsz
  have hD := hD0.self (sz := s.heap.size)
  generalize hAe : va_A (wX g ca x) s.heap.size = A at hD hz ⊢
  have hA : ∀ q : Nat, s.heap.size ≤ q → A q := fun q h => by rw [← hAe]; exact Or.inr h
  have hS : va_S A s.heap s.heap [] := va_S.rf
  have hl := lv_entry ([.ref (g 0), .int a1, .int a2]) (n := 4) (Nat.le_of_ble_eq_true rfl)
  rw [lg_entry_eq]
  generalize (lg_sl ([.ref (g 0), .int a1, .int a2]) ++ List.replicate (4 - (lg_sl ([.ref (g 0), .int a1, .int a2])).length) Slot.unset).toArray = ls at hl ⊢
  have hl : lv_has ls 4 [(0, .ref (g 0)), (1, .int a1), (2, .int a2)] := hl
  obtain ⟨H, hHe⟩ : ∃ H, H = s.heap := ⟨_, rfl⟩
  obtain ⟨locs, hle⟩ : ∃ z : List Loc, z = [] := ⟨_, rfl⟩
  have hP : va_P D vwCl (wX g ca x) H := by rw [hHe]; exact hP
  have hS : va_S A s.heap H locs := by rw [hHe, hle]; exact hS
  have hgo : W p l e (headSpec wsL_scene ({ frames := 7, cells := 1, slots := 6, locals := 105 })).room s m #[.ref (g 0), .int a1, .int a2] below meth c H locs 0 0 (MQ below (wQl (wv r0.1 r0.2.1.toInt64) D (wX g ca x) (wX g ca r0.2.2) s.heap.size) #[.ref (g 0), .int a1, .int a2] s 1 6 A) (F0 m 0 ls []) := by
    refine lv_aload_n hx hb dL_scene_0 rfl (lv_at hl 0 rfl) ?_
    refine lv_iload_n hx hb dL_scene_1 rfl (lv_at hl 1 rfl) ?_
    refine lv_iload_n hx hb dL_scene_2 rfl (lv_at hl 2 rfl) ?_
    refine wc_i (vx_runV (As := [.int a1, .int a2]) (rest := []) ⟨hx, hb, hml, hown, hts⟩ (c_X4_scene l hl9 D ca g x a1 a2 q0 H.size) (cwV 2 hts gL_scene_X4_scene rfl rfl rfl (by decide +kernel) ⟨Nat.le_of_ble_eq_true rfl, Nat.le_of_ble_eq_true rfl⟩) (tP_V (H0 := H) (q := (RX4, TX4, 16)) hP hC hD hz hS hA 0 rfl rfl) rfl rfl hl.1 rfl (lv_room (Nat.le_of_ble_eq_true rfl)) dL_scene_3 ⟨Nat.le_of_ble_eq_true rfl, Nat.le_of_ble_eq_true rfl⟩) hD hS hA (fun ce q9 H locs hk3 hP hD hS hce hcv hcl => ?_) (fun H locs h0 hP hD hS => ?_)
    · rcases hk3 with e1 | e1 | e1
      · rw [e1] at hcl
        refine vx_catch (name := "java/lang/IndexOutOfBoundsException") (E := "java/lang/IndexOutOfBoundsException") hown [] ⟨0, 7, 8, 14⟩ [] (by rw [htab]; rfl) (fun z hz => nomatch hz) (by decide) (by decide) (hts (.classLink RL 14 "java/lang/IndexOutOfBoundsException") (by decide +kernel)) (hC.use (.castable "java/lang/IndexOutOfBoundsException" "java/lang/IndexOutOfBoundsException") (by decide +kernel)) hce hcv hcl ?_
        refine lv_astore_n (lv' := [(3, .ref q9), (0, .ref (g 0)), (1, .int a1), (2, .int a2)]) hx hb dL_scene_8 rfl hl (by decide) rfl (fun ls hl => ?_)
        refine lv_ldc2 (v := -9000000000000000) hx hb hown (hts (.constantLong RL 16 (-9000000000000000)) (by decide +kernel)) dL_scene_9 ?_
        exact wl_l (g := g) hx hb hr hAe (by rw [e1]; rfl) hP hD hS (Nat.le_of_ble_eq_true rfl) (Nat.le_of_ble_eq_true rfl) dL_scene_12 hlocks
      · exact absurd hk (by rw [e1]; decide)
      · exact absurd hk (by rw [e1]; decide)
    · refine lv_i2l hx hb dL_scene_6 rfl ?_
      exact wl_l (g := g) hx hb hr hAe (by rw [h0]; rfl) hP hD hS (Nat.le_of_ble_eq_true rfl) (Nat.le_of_ble_eq_true rfl) dL_scene_7 hlocks
  rw [hHe, hle] at hgo
  exact hgo
def s_L_show (x : XS) (a1 : Int32) : Option (Int64 × XS) := (s_X4_show x a1).bind fun r0 => if r0.1 = 0 ∨ r0.1 = 2 then some (wv r0.1 r0.2.1, r0.2.2) else none
set_option maxHeartbeats 4000000 in
set_option maxRecDepth 100000 in
theorem c_L_show (l : Launch) (hl9 : l.stackTraces = false) (D : va_G) (ca : Nat → ClassId) (g : Nat → Nat) (x : XS) (a1 : Int32) {r : (Int64 × XS)} (hs : s_L_show x a1 = some r) (sz : Nat) : Met l yL_show wsL_show ({ frames := 7, cells := 1, slots := 6, locals := 103 }) (tP [.ref (g 0), .int a1] D ca (wX g ca x) sz) (wQl r.1 D (wX g ca x) (wX g ca r.2) sz) 1 6 (va_A (wX g ca x) sz) := by
  unfold s_L_show at hs
  obtain ⟨r0, q0, hs⟩ := sp_b hs
  obtain ⟨hk, hs⟩ := sp_i hs
  cases hs
  refine va_MetW (cc := cL_show) (maxL := 3) (ret := (some .long)) (hh := [(0, 5, 6, 18)]) (by decide) rfl ?_
  intro p e s m args below meth c s₁ B hml hv
  obtain ⟨rfl, hsz, hP, hC, hD0, hz⟩ := hv
  have hx := B.exec
  have hb := B.bytes
  have hr := B.returns
  have hts := atoms_spec (ws := wsL_show) B.pre
  have hown : s.vm.findClass RL = some m.cls := findClass_of_methodNamed B.named
  have hlocks := B.notSynchronized
  have hK := hC.1
  have htab := vx_table (x := yL_show) B (hts (.codeWith yL_show cL_show 3 (some .long) [(0, 5, 6, 18)]) List.mem_cons_self)
  subst hsz
  have hD := hD0.self (sz := s.heap.size)
  generalize hAe : va_A (wX g ca x) s.heap.size = A at hD hz ⊢
  have hA : ∀ q : Nat, s.heap.size ≤ q → A q := fun q h => by rw [← hAe]; exact Or.inr h
  have hS : va_S A s.heap s.heap [] := va_S.rf
  have hl := lv_entry ([.ref (g 0), .int a1]) (n := 3) (Nat.le_of_ble_eq_true rfl)
  rw [lg_entry_eq]
  generalize (lg_sl ([.ref (g 0), .int a1]) ++ List.replicate (3 - (lg_sl ([.ref (g 0), .int a1])).length) Slot.unset).toArray = ls at hl ⊢
  have hl : lv_has ls 3 [(0, .ref (g 0)), (1, .int a1)] := hl
  obtain ⟨H, hHe⟩ : ∃ H, H = s.heap := ⟨_, rfl⟩
  obtain ⟨locs, hle⟩ : ∃ z : List Loc, z = [] := ⟨_, rfl⟩
  have hP : va_P D vwCl (wX g ca x) H := by rw [hHe]; exact hP
  have hS : va_S A s.heap H locs := by rw [hHe, hle]; exact hS
  have hgo : W p l e (headSpec wsL_show ({ frames := 7, cells := 1, slots := 6, locals := 103 })).room s m #[.ref (g 0), .int a1] below meth c H locs 0 0 (MQ below (wQl (wv r0.1 r0.2.1) D (wX g ca x) (wX g ca r0.2.2) s.heap.size) #[.ref (g 0), .int a1] s 1 6 A) (F0 m 0 ls []) := by
    refine lv_aload_n hx hb dL_show_0 rfl (lv_at hl 0 rfl) ?_
    refine lv_iload_n hx hb dL_show_1 rfl (lv_at hl 1 rfl) ?_
    refine wc_l (vx_runV (As := [.int a1]) (rest := []) ⟨hx, hb, hml, hown, hts⟩ (c_X4_show l hl9 D ca g x a1 q0 H.size) (cwV 1 hts gL_show_X4_show rfl rfl rfl (by decide +kernel) ⟨Nat.le_of_ble_eq_true rfl, Nat.le_of_ble_eq_true rfl⟩) (tP_V (H0 := H) (q := (RX4, TX4, 16)) hP hC hD hz hS hA 0 rfl rfl) rfl rfl hl.1 rfl (lv_room (Nat.le_of_ble_eq_true rfl)) dL_show_2 ⟨Nat.le_of_ble_eq_true rfl, Nat.le_of_ble_eq_true rfl⟩) hD hS hA (fun ce q9 H locs hk3 hP hD hS hce hcv hcl => ?_) (fun H locs h0 hP hD hS => ?_)
    · rcases hk3 with e1 | e1 | e1
      · exact absurd hk (by rw [e1]; decide)
      · rw [e1] at hcl
        refine vx_catch (name := "java/lang/IllegalArgumentException") (E := "java/lang/IllegalArgumentException") hown [] ⟨0, 5, 6, 18⟩ [] (by rw [htab]; rfl) (fun z hz => nomatch hz) (by decide) (by decide) (hts (.classLink RL 18 "java/lang/IllegalArgumentException") (by decide +kernel)) (hC.use (.castable "java/lang/IllegalArgumentException" "java/lang/IllegalArgumentException") (by decide +kernel)) hce hcv hcl ?_
        refine lv_astore_n (lv' := [(2, .ref q9), (0, .ref (g 0)), (1, .int a1)]) hx hb dL_show_6 rfl hl (by decide) rfl (fun ls hl => ?_)
        refine lv_ldc2 (v := -9000000000000000) hx hb hown (hts (.constantLong RL 16 (-9000000000000000)) (by decide +kernel)) dL_show_7 ?_
        exact wl_l (g := g) hx hb hr hAe (by rw [e1]; rfl) hP hD hS (Nat.le_of_ble_eq_true rfl) (Nat.le_of_ble_eq_true rfl) dL_show_10 hlocks
      · exact absurd hk (by rw [e1]; decide)
    · exact wl_l (g := g) hx hb hr hAe (by rw [h0]; rfl) hP hD hS (Nat.le_of_ble_eq_true rfl) (Nat.le_of_ble_eq_true rfl) dL_show_5 hlocks
  rw [hHe, hle] at hgo
  exact hgo
def s_L_pass (x : XS) (a1 : Int32) : Option (Int64 × XS) := (s_X4_pass x a1).bind fun r0 => if r0.1 = 0 ∨ r0.1 = 2 ∨ r0.1 = 3 then some (wv r0.1 r0.2.1.toInt64, r0.2.2) else none
set_option maxHeartbeats 4000000 in
set_option maxRecDepth 100000 in
theorem c_L_pass (l : Launch) (hl9 : l.stackTraces = false) (D : va_G) (ca : Nat → ClassId) (g : Nat → Nat) (x : XS) (a1 : Int32) {r : (Int64 × XS)} (hs : s_L_pass x a1 = some r) (sz : Nat) : Met l yL_pass wsL_pass ({ frames := 7, cells := 1, slots := 6, locals := 163 }) (tP [.ref (g 0), .int a1] D ca (wX g ca x) sz) (wQl r.1 D (wX g ca x) (wX g ca r.2) sz) 1 6 (va_A (wX g ca x) sz) := by
  unfold s_L_pass at hs
  obtain ⟨r0, q0, hs⟩ := sp_b hs
  obtain ⟨hk, hs⟩ := sp_i hs
  cases hs
  refine va_MetW (cc := cL_pass) (maxL := 3) (ret := (some .long)) (hh := [(0, 6, 7, 18), (0, 6, 12, 24)]) (by decide) rfl ?_
  intro p e s m args below meth c s₁ B hml hv
  obtain ⟨rfl, hsz, hP, hC, hD0, hz⟩ := hv
  have hx := B.exec
  have hb := B.bytes
  have hr := B.returns
  have hts := atoms_spec (ws := wsL_pass) B.pre
  have hown : s.vm.findClass RL = some m.cls := findClass_of_methodNamed B.named
  have hlocks := B.notSynchronized
  have hK := hC.1
  have htab := vx_table (x := yL_pass) B (hts (.codeWith yL_pass cL_pass 3 (some .long) [(0, 6, 7, 18), (0, 6, 12, 24)]) List.mem_cons_self)
  subst hsz
  have hD := hD0.self (sz := s.heap.size)
  generalize hAe : va_A (wX g ca x) s.heap.size = A at hD hz ⊢
  have hA : ∀ q : Nat, s.heap.size ≤ q → A q := fun q h => by rw [← hAe]; exact Or.inr h
  have hS : va_S A s.heap s.heap [] := va_S.rf
  have hl := lv_entry ([.ref (g 0), .int a1]) (n := 3) (Nat.le_of_ble_eq_true rfl)
  rw [lg_entry_eq]
  generalize (lg_sl ([.ref (g 0), .int a1]) ++ List.replicate (3 - (lg_sl ([.ref (g 0), .int a1])).length) Slot.unset).toArray = ls at hl ⊢
  have hl : lv_has ls 3 [(0, .ref (g 0)), (1, .int a1)] := hl
  obtain ⟨H, hHe⟩ : ∃ H, H = s.heap := ⟨_, rfl⟩
  obtain ⟨locs, hle⟩ : ∃ z : List Loc, z = [] := ⟨_, rfl⟩
  have hP : va_P D vwCl (wX g ca x) H := by rw [hHe]; exact hP
  have hS : va_S A s.heap H locs := by rw [hHe, hle]; exact hS
  have hgo : W p l e (headSpec wsL_pass ({ frames := 7, cells := 1, slots := 6, locals := 163 })).room s m #[.ref (g 0), .int a1] below meth c H locs 0 0 (MQ below (wQl (wv r0.1 r0.2.1.toInt64) D (wX g ca x) (wX g ca r0.2.2) s.heap.size) #[.ref (g 0), .int a1] s 1 6 A) (F0 m 0 ls []) := by
    refine lv_aload_n hx hb dL_pass_0 rfl (lv_at hl 0 rfl) ?_
    refine lv_iload_n hx hb dL_pass_1 rfl (lv_at hl 1 rfl) ?_
    refine wc_i (vx_runV (As := [.int a1]) (rest := []) ⟨hx, hb, hml, hown, hts⟩ (c_X4_pass l hl9 D ca g x a1 q0 H.size) (cwV 1 hts gL_pass_X4_pass rfl rfl rfl (by decide +kernel) ⟨Nat.le_of_ble_eq_true rfl, Nat.le_of_ble_eq_true rfl⟩) (tP_V (H0 := H) (q := (RX4, TX4, 16)) hP hC hD hz hS hA 0 rfl rfl) rfl rfl hl.1 rfl (lv_room (Nat.le_of_ble_eq_true rfl)) dL_pass_2 ⟨Nat.le_of_ble_eq_true rfl, Nat.le_of_ble_eq_true rfl⟩) hD hS hA (fun ce q9 H locs hk3 hP hD hS hce hcv hcl => ?_) (fun H locs h0 hP hD hS => ?_)
    · rcases hk3 with e1 | e1 | e1
      · exact absurd hk (by rw [e1]; decide)
      · rw [e1] at hcl
        refine vx_catch (name := "java/lang/IllegalArgumentException") (E := "java/lang/IllegalArgumentException") hown [] ⟨0, 6, 7, 18⟩ [⟨0, 6, 12, 24⟩] (by rw [htab]; rfl) (fun z hz => nomatch hz) (by decide) (by decide) (hts (.classLink RL 18 "java/lang/IllegalArgumentException") (by decide +kernel)) (hC.use (.castable "java/lang/IllegalArgumentException" "java/lang/IllegalArgumentException") (by decide +kernel)) hce hcv hcl ?_
        refine lv_astore_n (lv' := [(2, .ref q9), (0, .ref (g 0)), (1, .int a1)]) hx hb dL_pass_7 rfl hl (by decide) rfl (fun ls hl => ?_)
        refine lv_ldc2 (v := -9000000000000000) hx hb hown (hts (.constantLong RL 16 (-9000000000000000)) (by decide +kernel)) dL_pass_8 ?_
        exact wl_l (g := g) hx hb hr hAe (by rw [e1]; rfl) hP hD hS (Nat.le_of_ble_eq_true rfl) (Nat.le_of_ble_eq_true rfl) dL_pass_11 hlocks
      · rw [e1] at hcl
        have hpass : ∀ z ∈ ([⟨0, 6, 7, 18⟩] : List ExceptionTableEntry), covers z 2 = false ∨ (z.catchType ≠ 0 ∧ ∃ nm : String, (Cond.classLink RL z.catchType nm).before #[.ref (g 0), .int a1] s = true ∧ va_Nc "java/lang/IllegalStateException" nm s) := by
          intro z hz
          simp only [List.mem_cons, List.not_mem_nil, or_false] at hz
          rcases hz with rfl
          · exact Or.inr ⟨by decide, "java/lang/IllegalArgumentException", hts (.classLink RL 18 "java/lang/IllegalArgumentException") (by decide +kernel), hC.2.2.2.1 ("java/lang/IllegalStateException", "java/lang/IllegalArgumentException") (by decide)⟩
        refine vx_catch (name := "java/lang/IllegalStateException") (E := "java/lang/IllegalStateException") hown [⟨0, 6, 7, 18⟩] ⟨0, 6, 12, 24⟩ [] (by rw [htab]; rfl) hpass (by decide) (by decide) (hts (.classLink RL 24 "java/lang/IllegalStateException") (by decide +kernel)) (hC.use (.castable "java/lang/IllegalStateException" "java/lang/IllegalStateException") (by decide +kernel)) hce hcv hcl ?_
        refine lv_astore_n (lv' := [(2, .ref q9), (0, .ref (g 0)), (1, .int a1)]) hx hb dL_pass_12 rfl hl (by decide) rfl (fun ls hl => ?_)
        refine lv_ldc2 (v := -9000000000000000) hx hb hown (hts (.constantLong RL 16 (-9000000000000000)) (by decide +kernel)) dL_pass_13 ?_
        exact wl_l (g := g) hx hb hr hAe (by rw [e1]; rfl) hP hD hS (Nat.le_of_ble_eq_true rfl) (Nat.le_of_ble_eq_true rfl) dL_pass_16 hlocks
    · refine lv_i2l hx hb dL_pass_5 rfl ?_
      exact wl_l (g := g) hx hb hr hAe (by rw [h0]; rfl) hP hD hS (Nat.le_of_ble_eq_true rfl) (Nat.le_of_ble_eq_true rfl) dL_pass_6 hlocks
  rw [hHe, hle] at hgo
  exact hgo
