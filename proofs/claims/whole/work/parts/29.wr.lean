set_option maxHeartbeats 4000000 in
set_option maxRecDepth 100000 in
theorem c_L_column (l : Launch) (hl9 : l.stackTraces = false) (D : va_G) (ca : Nat → ClassId) (g : Nat → Nat) (x : XS) (a1 : Int32) (a2 : Int32) (a3 : Int32) (o : Nat) (fo : Nat → Int64) {r : (Nat × Int32 × XS)} (hs : s_X4_column x a1 a2 a3 = some r) (hk : r.1 = 0 ∨ r.1 = 1 ∨ r.1 = 2) (sz : Nat) : Met l yL_column wsL_column ({ frames := 7, cells := 1, slots := 6, locals := 105 }) (tP [.ref (g 0), .int a1, .int a2, .int a3] D ca (wX g ca x ++ [oC o ca fo]) sz) (lQi (wk 1 2 0 r.1) D (wX g ca x ++ [oC o ca fo]) g ca r.2.2 [oC o ca fo] sz) 1 6 (va_A (wX g ca x ++ [oC o ca fo]) sz) := by
  refine va_MetW (cc := cL_column) (maxL := 5) (ret := (some .int)) (hh := [(0, 7, 10, 13), (0, 7, 14, 15)]) (by decide) rfl ?_
  intro p e s m args below meth c s₁ B hml hv
  obtain ⟨rfl, hsz, hP, hC, hD0, hz⟩ := hv
  have hx := B.exec
  have hb := B.bytes
  have hr := B.returns
  have hts := atoms_spec (ws := wsL_column) B.pre
  have hown : s.vm.findClass RL = some m.cls := findClass_of_methodNamed B.named
  have hlocks := B.notSynchronized
  have hK := hC.1
  have htab := vx_table (x := yL_column) B (hts (.codeWith yL_column cL_column 5 (some .int) [(0, 7, 10, 13), (0, 7, 14, 15)]) List.mem_cons_self)
  subst hsz
  have hD := hD0.self (sz := s.heap.size)
  generalize hAe : va_A (wX g ca x ++ [oC o ca fo]) s.heap.size = A at hD hz ⊢
  have hA : ∀ q : Nat, s.heap.size ≤ q → A q := fun q h => by rw [← hAe]; exact Or.inr h
  have hS : va_S A s.heap s.heap [] := va_S.rf
  have hl := lv_entry ([.ref (g 0), .int a1, .int a2, .int a3]) (n := 5) (Nat.le_of_ble_eq_true rfl)
  rw [lg_entry_eq]
  generalize (lg_sl ([.ref (g 0), .int a1, .int a2, .int a3]) ++ List.replicate (5 - (lg_sl ([.ref (g 0), .int a1, .int a2, .int a3])).length) Slot.unset).toArray = ls at hl ⊢
  have hl : lv_has ls 5 [(0, .ref (g 0)), (1, .int a1), (2, .int a2), (3, .int a3)] := hl
  obtain ⟨H, hHe⟩ : ∃ H, H = s.heap := ⟨_, rfl⟩
  obtain ⟨locs, hle⟩ : ∃ z : List Loc, z = [] := ⟨_, rfl⟩
  have hP : va_P D vwCl (wX g ca x ++ [oC o ca fo]) H := by rw [hHe]; exact hP
  have hS : va_S A s.heap H locs := by rw [hHe, hle]; exact hS
  have hgo : W p l e (headSpec wsL_column ({ frames := 7, cells := 1, slots := 6, locals := 105 })).room s m #[.ref (g 0), .int a1, .int a2, .int a3] below meth c H locs 0 0 (MQ below (lQi (wk 1 2 0 r.1) D (wX g ca x ++ [oC o ca fo]) g ca r.2.2 [oC o ca fo] s.heap.size) #[.ref (g 0), .int a1, .int a2, .int a3] s 1 6 A) (F0 m 0 ls []) := by
    refine lv_aload_n hx hb dL_column_0 rfl (lv_at hl 0 rfl) ?_
    refine lv_iload_n hx hb dL_column_1 rfl (lv_at hl 1 rfl) ?_
    refine lv_iload_n hx hb dL_column_2 rfl (lv_at hl 2 rfl) ?_
    refine lv_iload_n hx hb dL_column_3 rfl (lv_at hl 3 rfl) ?_
    refine wc_v (vx_runV (As := [.int a1, .int a2, .int a3]) (rest := []) ⟨hx, hb, hml, hown, hts⟩ (c_X4_column l hl9 D ca g x a1 a2 a3 hs H.size) (cwV 3 hts gL_column_X4_column rfl rfl rfl (by decide +kernel) ⟨Nat.le_of_ble_eq_true rfl, Nat.le_of_ble_eq_true rfl⟩) (tP_V (H0 := H) (q := (RX4, TX4, 16)) (app_l hP) hC (appD_l hD) hz hS hA 0 rfl rfl) rfl rfl hl.1 rfl (lv_room (Nat.le_of_ble_eq_true rfl)) dL_column_4 ⟨Nat.le_of_ble_eq_true rfl, Nat.le_of_ble_eq_true rfl⟩) hP hD hS hA (fun ce q9 H locs hk3 hP hD hS hce hcv hcl => ?_) (fun H locs h0 hP hD hS => ?_)
    · rcases hk3 with e1 | e1 | e1
      · rw [e1] at hcl
        refine vx_catch (name := "java/lang/IndexOutOfBoundsException") (E := "java/lang/IndexOutOfBoundsException") hown [] ⟨0, 7, 10, 13⟩ [⟨0, 7, 14, 15⟩] (by rw [htab]; rfl) (fun z hz => nomatch hz) (by decide) (by decide) (hts (.classLink RL 13 "java/lang/IndexOutOfBoundsException") (by decide +kernel)) (hC.use (.castable "java/lang/IndexOutOfBoundsException" "java/lang/IndexOutOfBoundsException") (by decide +kernel)) hce hcv hcl ?_
        refine lv_astore (lv' := [(4, .ref q9), (0, .ref (g 0)), (1, .int a1), (2, .int a2), (3, .int a3)]) hx hb dL_column_10 hl (by decide) rfl (fun ls hl => ?_)
        refine lv_iconst (v := 1) hx hb dL_column_12 (by decide) ?_
        exact wl_i (g' := g) rfl hx hb hr hAe (by rw [e1]; rfl) hP hD hS (Nat.le_of_ble_eq_true rfl) (Nat.le_of_ble_eq_true rfl) dL_column_13 hlocks
      · rw [e1] at hcl
        have hpass : ∀ z ∈ ([⟨0, 7, 10, 13⟩] : List ExceptionTableEntry), covers z 4 = false ∨ (z.catchType ≠ 0 ∧ ∃ nm : String, (Cond.classLink RL z.catchType nm).before #[.ref (g 0), .int a1, .int a2, .int a3] s = true ∧ va_Nc "java/lang/IllegalArgumentException" nm s) := by
          intro z hz
          simp only [List.mem_cons, List.not_mem_nil, or_false] at hz
          rcases hz with rfl
          · exact Or.inr ⟨by decide, "java/lang/IndexOutOfBoundsException", hts (.classLink RL 13 "java/lang/IndexOutOfBoundsException") (by decide +kernel), hC.2.2.2.1 ("java/lang/IllegalArgumentException", "java/lang/IndexOutOfBoundsException") (by decide)⟩
        refine vx_catch (name := "java/lang/IllegalArgumentException") (E := "java/lang/IllegalArgumentException") hown [⟨0, 7, 10, 13⟩] ⟨0, 7, 14, 15⟩ [] (by rw [htab]; rfl) hpass (by decide) (by decide) (hts (.classLink RL 15 "java/lang/IllegalArgumentException") (by decide +kernel)) (hC.use (.castable "java/lang/IllegalArgumentException" "java/lang/IllegalArgumentException") (by decide +kernel)) hce hcv hcl ?_
        refine lv_astore (lv' := [(4, .ref q9), (0, .ref (g 0)), (1, .int a1), (2, .int a2), (3, .int a3)]) hx hb dL_column_14 hl (by decide) rfl (fun ls hl => ?_)
        refine lv_iconst (v := 2) hx hb dL_column_16 (by decide) ?_
        exact wl_i (g' := g) rfl hx hb hr hAe (by rw [e1]; rfl) hP hD hS (Nat.le_of_ble_eq_true rfl) (Nat.le_of_ble_eq_true rfl) dL_column_17 hlocks
      · exact absurd hk (by rw [e1]; decide)
    · skip
      refine lv_goto (tgt := 18) hx hb dL_column_7 (by decide) ?_
      refine lv_iconst (v := 0) hx hb dL_column_18 (by decide) ?_
      exact wl_i (g' := g) rfl hx hb hr hAe (by rw [h0]; rfl) hP hD hS (Nat.le_of_ble_eq_true rfl) (Nat.le_of_ble_eq_true rfl) dL_column_19 hlocks
  rw [hHe, hle] at hgo
  exact hgo
set_option maxHeartbeats 4000000 in
set_option maxRecDepth 100000 in
theorem c_L_cell (l : Launch) (hl9 : l.stackTraces = false) (D : va_G) (ca : Nat → ClassId) (g : Nat → Nat) (x : XS) (a1 : Int32) (a2 : Int32) (a3 : Int32) (o : Nat) (fo : Nat → Int64) {r : (Nat × Int32 × XS)} (hs : s_X4_cell x a1 a2 a3 = some r) (hk : r.1 = 0 ∨ r.1 = 1 ∨ r.1 = 2 ∨ r.1 = 3) (sz : Nat) : Met l yL_cell wsL_cell ({ frames := 7, cells := 1, slots := 6, locals := 106 }) (tP [.ref (g 0), .int a1, .int a2, .int a3, .ref o] D ca (wX g ca x ++ [oC o ca fo]) sz) (lQi (wk 1 2 3 r.1) D (wX g ca x ++ [oC o ca fo]) g ca r.2.2 [oC o ca (wfo r.1 fo r.2.1.toInt64)] sz) 1 6 (va_A (wX g ca x ++ [oC o ca fo]) sz) := by
  refine va_MetW (cc := cL_cell) (maxL := 6) (ret := (some .int)) (hh := [(0, 12, 15, 13), (0, 12, 19, 15), (0, 12, 23, 21)]) (by decide) rfl ?_
  intro p e s m args below meth c s₁ B hml hv
  obtain ⟨rfl, hsz, hP, hC, hD0, hz⟩ := hv
  have hx := B.exec
  have hb := B.bytes
  have hr := B.returns
  have hts := atoms_spec (ws := wsL_cell) B.pre
  have hown : s.vm.findClass RL = some m.cls := findClass_of_methodNamed B.named
  have hlocks := B.notSynchronized
  have hK := hC.1
  have htab := vx_table (x := yL_cell) B (hts (.codeWith yL_cell cL_cell 6 (some .int) [(0, 12, 15, 13), (0, 12, 19, 15), (0, 12, 23, 21)]) List.mem_cons_self)
  subst hsz
  have hD := hD0.self (sz := s.heap.size)
  generalize hAe : va_A (wX g ca x ++ [oC o ca fo]) s.heap.size = A at hD hz ⊢
  have hA : ∀ q : Nat, s.heap.size ≤ q → A q := fun q h => by rw [← hAe]; exact Or.inr h
  have hS : va_S A s.heap s.heap [] := va_S.rf
  have hl := lv_entry ([.ref (g 0), .int a1, .int a2, .int a3, .ref o]) (n := 6) (Nat.le_of_ble_eq_true rfl)
  rw [lg_entry_eq]
  generalize (lg_sl ([.ref (g 0), .int a1, .int a2, .int a3, .ref o]) ++ List.replicate (6 - (lg_sl ([.ref (g 0), .int a1, .int a2, .int a3, .ref o])).length) Slot.unset).toArray = ls at hl ⊢
  have hl : lv_has ls 6 [(0, .ref (g 0)), (1, .int a1), (2, .int a2), (3, .int a3), (4, .ref o)] := hl
  obtain ⟨H, hHe⟩ : ∃ H, H = s.heap := ⟨_, rfl⟩
  obtain ⟨locs, hle⟩ : ∃ z : List Loc, z = [] := ⟨_, rfl⟩
  have hP : va_P D vwCl (wX g ca x ++ [oC o ca fo]) H := by rw [hHe]; exact hP
  have hS : va_S A s.heap H locs := by rw [hHe, hle]; exact hS
  have hgo : W p l e (headSpec wsL_cell ({ frames := 7, cells := 1, slots := 6, locals := 106 })).room s m #[.ref (g 0), .int a1, .int a2, .int a3, .ref o] below meth c H locs 0 0 (MQ below (lQi (wk 1 2 3 r.1) D (wX g ca x ++ [oC o ca fo]) g ca r.2.2 [oC o ca (wfo r.1 fo r.2.1.toInt64)] s.heap.size) #[.ref (g 0), .int a1, .int a2, .int a3, .ref o] s 1 6 A) (F0 m 0 ls []) := by
    refine lv_aload hx hb dL_cell_0 (lv_at hl 4 rfl) ?_
    refine lv_iconst (v := 0) hx hb dL_cell_2 (by decide) ?_
    refine lv_aload_n hx hb dL_cell_3 rfl (lv_at hl 0 rfl) ?_
    refine lv_iload_n hx hb dL_cell_4 rfl (lv_at hl 1 rfl) ?_
    refine lv_iload_n hx hb dL_cell_5 rfl (lv_at hl 2 rfl) ?_
    refine lv_iload_n hx hb dL_cell_6 rfl (lv_at hl 3 rfl) ?_
    refine wc_i (vx_runV (As := [.int a1, .int a2, .int a3]) (rest := [.int 0, .ref o]) ⟨hx, hb, hml, hown, hts⟩ (c_X4_cell l hl9 D ca g x a1 a2 a3 hs H.size) (cwV 3 hts gL_cell_X4_cell rfl rfl rfl (by decide +kernel) ⟨Nat.le_of_ble_eq_true rfl, Nat.le_of_ble_eq_true rfl⟩) (tP_V (H0 := H) (q := (RX4, TX4, 16)) (app_l hP) hC (appD_l hD) hz hS hA 0 rfl rfl) rfl rfl hl.1 rfl (lv_room (Nat.le_of_ble_eq_true rfl)) dL_cell_7 ⟨Nat.le_of_ble_eq_true rfl, Nat.le_of_ble_eq_true rfl⟩) hP hD hS hA (fun ce q9 H locs hk3 hP hD hS hce hcv hcl => ?_) (fun H locs h0 hP hD hS => ?_)
    · rcases hk3 with e1 | e1 | e1
      · rw [e1] at hcl
        refine vx_catch (name := "java/lang/IndexOutOfBoundsException") (E := "java/lang/IndexOutOfBoundsException") hown [] ⟨0, 12, 15, 13⟩ [⟨0, 12, 19, 15⟩, ⟨0, 12, 23, 21⟩] (by rw [htab]; rfl) (fun z hz => nomatch hz) (by decide) (by decide) (hts (.classLink RL 13 "java/lang/IndexOutOfBoundsException") (by decide +kernel)) (hC.use (.castable "java/lang/IndexOutOfBoundsException" "java/lang/IndexOutOfBoundsException") (by decide +kernel)) hce hcv hcl ?_
        refine lv_astore (lv' := [(5, .ref q9), (0, .ref (g 0)), (1, .int a1), (2, .int a2), (3, .int a3), (4, .ref o)]) hx hb dL_cell_15 hl (by decide) rfl (fun ls hl => ?_)
        refine lv_iconst (v := 1) hx hb dL_cell_17 (by decide) ?_
        have hf2 : (wfo r.1 fo r.2.1.toInt64) = fo := by unfold wfo; rw [if_neg (by rw [e1]; decide)]
        rw [hf2]
        exact wl_i (g' := g) rfl hx hb hr hAe (by rw [e1]; rfl) hP hD hS (Nat.le_of_ble_eq_true rfl) (Nat.le_of_ble_eq_true rfl) dL_cell_18 hlocks
      · rw [e1] at hcl
        have hpass : ∀ z ∈ ([⟨0, 12, 15, 13⟩] : List ExceptionTableEntry), covers z 7 = false ∨ (z.catchType ≠ 0 ∧ ∃ nm : String, (Cond.classLink RL z.catchType nm).before #[.ref (g 0), .int a1, .int a2, .int a3, .ref o] s = true ∧ va_Nc "java/lang/IllegalArgumentException" nm s) := by
          intro z hz
          simp only [List.mem_cons, List.not_mem_nil, or_false] at hz
          rcases hz with rfl
          · exact Or.inr ⟨by decide, "java/lang/IndexOutOfBoundsException", hts (.classLink RL 13 "java/lang/IndexOutOfBoundsException") (by decide +kernel), hC.2.2.2.1 ("java/lang/IllegalArgumentException", "java/lang/IndexOutOfBoundsException") (by decide)⟩
        refine vx_catch (name := "java/lang/IllegalArgumentException") (E := "java/lang/IllegalArgumentException") hown [⟨0, 12, 15, 13⟩] ⟨0, 12, 19, 15⟩ [⟨0, 12, 23, 21⟩] (by rw [htab]; rfl) hpass (by decide) (by decide) (hts (.classLink RL 15 "java/lang/IllegalArgumentException") (by decide +kernel)) (hC.use (.castable "java/lang/IllegalArgumentException" "java/lang/IllegalArgumentException") (by decide +kernel)) hce hcv hcl ?_
        refine lv_astore (lv' := [(5, .ref q9), (0, .ref (g 0)), (1, .int a1), (2, .int a2), (3, .int a3), (4, .ref o)]) hx hb dL_cell_19 hl (by decide) rfl (fun ls hl => ?_)
        refine lv_iconst (v := 2) hx hb dL_cell_21 (by decide) ?_
        have hf2 : (wfo r.1 fo r.2.1.toInt64) = fo := by unfold wfo; rw [if_neg (by rw [e1]; decide)]
        rw [hf2]
        exact wl_i (g' := g) rfl hx hb hr hAe (by rw [e1]; rfl) hP hD hS (Nat.le_of_ble_eq_true rfl) (Nat.le_of_ble_eq_true rfl) dL_cell_22 hlocks
      · rw [e1] at hcl
        have hpass : ∀ z ∈ ([⟨0, 12, 15, 13⟩, ⟨0, 12, 19, 15⟩] : List ExceptionTableEntry), covers z 7 = false ∨ (z.catchType ≠ 0 ∧ ∃ nm : String, (Cond.classLink RL z.catchType nm).before #[.ref (g 0), .int a1, .int a2, .int a3, .ref o] s = true ∧ va_Nc "java/lang/IllegalStateException" nm s) := by
          intro z hz
          simp only [List.mem_cons, List.not_mem_nil, or_false] at hz
          rcases hz with rfl | rfl
          · exact Or.inr ⟨by decide, "java/lang/IndexOutOfBoundsException", hts (.classLink RL 13 "java/lang/IndexOutOfBoundsException") (by decide +kernel), hC.2.2.2.1 ("java/lang/IllegalStateException", "java/lang/IndexOutOfBoundsException") (by decide)⟩
          · exact Or.inr ⟨by decide, "java/lang/IllegalArgumentException", hts (.classLink RL 15 "java/lang/IllegalArgumentException") (by decide +kernel), hC.2.2.2.1 ("java/lang/IllegalStateException", "java/lang/IllegalArgumentException") (by decide)⟩
        refine vx_catch (name := "java/lang/IllegalStateException") (E := "java/lang/IllegalStateException") hown [⟨0, 12, 15, 13⟩, ⟨0, 12, 19, 15⟩] ⟨0, 12, 23, 21⟩ [] (by rw [htab]; rfl) hpass (by decide) (by decide) (hts (.classLink RL 21 "java/lang/IllegalStateException") (by decide +kernel)) (hC.use (.castable "java/lang/IllegalStateException" "java/lang/IllegalStateException") (by decide +kernel)) hce hcv hcl ?_
        refine lv_astore (lv' := [(5, .ref q9), (0, .ref (g 0)), (1, .int a1), (2, .int a2), (3, .int a3), (4, .ref o)]) hx hb dL_cell_23 hl (by decide) rfl (fun ls hl => ?_)
        refine lv_iconst (v := 3) hx hb dL_cell_25 (by decide) ?_
        have hf2 : (wfo r.1 fo r.2.1.toInt64) = fo := by unfold wfo; rw [if_neg (by rw [e1]; decide)]
        rw [hf2]
        exact wl_i (g' := g) rfl hx hb hr hAe (by rw [e1]; rfl) hP hD hS (Nat.le_of_ble_eq_true rfl) (Nat.le_of_ble_eq_true rfl) dL_cell_26 hlocks
    · refine lv_i2l hx hb dL_cell_10 rfl ?_
      refine va_last (D := D) (cA := ca 2) (n := 1) (f := fo) hx hb hK hP hD hS ((wX g ca r.2.2).length + 0) 2 (la_get (k := 0) rfl) rfl (by unfold vp_in; decide) dL_cell_11 (fun H locs hP hD hS => ?_)
      rw [la_set] at hP hD
      refine lv_goto (tgt := 27) hx hb dL_cell_12 (by decide) ?_
      refine lv_iconst (v := 0) hx hb dL_cell_27 (by decide) ?_
      have hf2 : (wfo r.1 fo r.2.1.toInt64) = vp_updL fo 0 (r.2.1.toInt64) := by unfold wfo; rw [if_pos h0]
      rw [hf2]
      exact wl_i (g' := g) rfl hx hb hr hAe (by rw [h0]; rfl) hP hD hS (Nat.le_of_ble_eq_true rfl) (Nat.le_of_ble_eq_true rfl) dL_cell_28 hlocks
  rw [hHe, hle] at hgo
  exact hgo
set_option maxHeartbeats 4000000 in
set_option maxRecDepth 100000 in
theorem c_L_need (l : Launch) (hl9 : l.stackTraces = false) (D : va_G) (ca : Nat → ClassId) (g : Nat → Nat) (x : XS) (a1 : Int32) (a2 : Int32) (o : Nat) (fo : Nat → Int64) {r : (Nat × Int32 × XS)} (hs : s_X4_need x a1 a2 = some r) (hk : r.1 = 0 ∨ r.1 = 2) (sz : Nat) : Met l yL_need wsL_need ({ frames := 7, cells := 1, slots := 6, locals := 104 }) (tP [.ref (g 0), .int a1, .int a2] D ca (wX g ca x ++ [oC o ca fo]) sz) (lQi (wk 0 1 0 r.1) D (wX g ca x ++ [oC o ca fo]) g ca r.2.2 [oC o ca fo] sz) 1 6 (va_A (wX g ca x ++ [oC o ca fo]) sz) := by
  refine va_MetW (cc := cL_need) (maxL := 4) (ret := (some .int)) (hh := [(0, 6, 9, 15)]) (by decide) rfl ?_
  intro p e s m args below meth c s₁ B hml hv
  obtain ⟨rfl, hsz, hP, hC, hD0, hz⟩ := hv
  have hx := B.exec
  have hb := B.bytes
  have hr := B.returns
  have hts := atoms_spec (ws := wsL_need) B.pre
  have hown : s.vm.findClass RL = some m.cls := findClass_of_methodNamed B.named
  have hlocks := B.notSynchronized
  have hK := hC.1
  have htab := vx_table (x := yL_need) B (hts (.codeWith yL_need cL_need 4 (some .int) [(0, 6, 9, 15)]) List.mem_cons_self)
  subst hsz
  have hD := hD0.self (sz := s.heap.size)
  generalize hAe : va_A (wX g ca x ++ [oC o ca fo]) s.heap.size = A at hD hz ⊢
  have hA : ∀ q : Nat, s.heap.size ≤ q → A q := fun q h => by rw [← hAe]; exact Or.inr h
  have hS : va_S A s.heap s.heap [] := va_S.rf
  have hl := lv_entry ([.ref (g 0), .int a1, .int a2]) (n := 4) (Nat.le_of_ble_eq_true rfl)
  rw [lg_entry_eq]
  generalize (lg_sl ([.ref (g 0), .int a1, .int a2]) ++ List.replicate (4 - (lg_sl ([.ref (g 0), .int a1, .int a2])).length) Slot.unset).toArray = ls at hl ⊢
  have hl : lv_has ls 4 [(0, .ref (g 0)), (1, .int a1), (2, .int a2)] := hl
  obtain ⟨H, hHe⟩ : ∃ H, H = s.heap := ⟨_, rfl⟩
  obtain ⟨locs, hle⟩ : ∃ z : List Loc, z = [] := ⟨_, rfl⟩
  have hP : va_P D vwCl (wX g ca x ++ [oC o ca fo]) H := by rw [hHe]; exact hP
  have hS : va_S A s.heap H locs := by rw [hHe, hle]; exact hS
  have hgo : W p l e (headSpec wsL_need ({ frames := 7, cells := 1, slots := 6, locals := 104 })).room s m #[.ref (g 0), .int a1, .int a2] below meth c H locs 0 0 (MQ below (lQi (wk 0 1 0 r.1) D (wX g ca x ++ [oC o ca fo]) g ca r.2.2 [oC o ca fo] s.heap.size) #[.ref (g 0), .int a1, .int a2] s 1 6 A) (F0 m 0 ls []) := by
    refine lv_aload_n hx hb dL_need_0 rfl (lv_at hl 0 rfl) ?_
    refine lv_iload_n hx hb dL_need_1 rfl (lv_at hl 1 rfl) ?_
    refine lv_iload_n hx hb dL_need_2 rfl (lv_at hl 2 rfl) ?_
    refine wc_v (vx_runV (As := [.int a1, .int a2]) (rest := []) ⟨hx, hb, hml, hown, hts⟩ (c_X4_need l hl9 D ca g x a1 a2 hs H.size) (cwV 2 hts gL_need_X4_need rfl rfl rfl (by decide +kernel) ⟨Nat.le_of_ble_eq_true rfl, Nat.le_of_ble_eq_true rfl⟩) (tP_V (H0 := H) (q := (RX4, TX4, 16)) (app_l hP) hC (appD_l hD) hz hS hA 0 rfl rfl) rfl rfl hl.1 rfl (lv_room (Nat.le_of_ble_eq_true rfl)) dL_need_3 ⟨Nat.le_of_ble_eq_true rfl, Nat.le_of_ble_eq_true rfl⟩) hP hD hS hA (fun ce q9 H locs hk3 hP hD hS hce hcv hcl => ?_) (fun H locs h0 hP hD hS => ?_)
    · rcases hk3 with e1 | e1 | e1
      · exact absurd hk (by rw [e1]; decide)
      · rw [e1] at hcl
        refine vx_catch (name := "java/lang/IllegalArgumentException") (E := "java/lang/IllegalArgumentException") hown [] ⟨0, 6, 9, 15⟩ [] (by rw [htab]; rfl) (fun z hz => nomatch hz) (by decide) (by decide) (hts (.classLink RL 15 "java/lang/IllegalArgumentException") (by decide +kernel)) (hC.use (.castable "java/lang/IllegalArgumentException" "java/lang/IllegalArgumentException") (by decide +kernel)) hce hcv hcl ?_
        refine lv_astore_n (lv' := [(3, .ref q9), (0, .ref (g 0)), (1, .int a1), (2, .int a2)]) hx hb dL_need_9 rfl hl (by decide) rfl (fun ls hl => ?_)
        refine lv_iconst (v := 1) hx hb dL_need_10 (by decide) ?_
        exact wl_i (g' := g) rfl hx hb hr hAe (by rw [e1]; rfl) hP hD hS (Nat.le_of_ble_eq_true rfl) (Nat.le_of_ble_eq_true rfl) dL_need_11 hlocks
      · exact absurd hk (by rw [e1]; decide)
    · skip
      refine lv_goto (tgt := 12) hx hb dL_need_6 (by decide) ?_
      refine lv_iconst (v := 0) hx hb dL_need_12 (by decide) ?_
      exact wl_i (g' := g) rfl hx hb hr hAe (by rw [h0]; rfl) hP hD hS (Nat.le_of_ble_eq_true rfl) (Nat.le_of_ble_eq_true rfl) dL_need_13 hlocks
  rw [hHe, hle] at hgo
  exact hgo
set_option maxHeartbeats 4000000 in
set_option maxRecDepth 100000 in
theorem c_L_projector (l : Launch) (hl9 : l.stackTraces = false) (D : va_G) (ca : Nat → ClassId) (g : Nat → Nat) (x : XS) (a1 : Int32) (a2 : Int32) (a3 : Int32) (a4 : Int32) (a5 : Int32) (o : Nat) (fo : Nat → Int64) {r : (Nat × Int32 × XS)} (hs : s_X4_projector x a1 a2 a3 a4 a5 = some r) (hk : r.1 = 0 ∨ r.1 = 1 ∨ r.1 = 2 ∨ r.1 = 3) (sz : Nat) : Met l yL_projector wsL_projector ({ frames := 7, cells := 1, slots := 10, locals := 108 }) (tP [.ref (g 0), .int a1, .int a2, .int a3, .int a4, .int a5, .ref o] D ca (wX g ca x ++ [oC o ca fo]) sz) (lQi (wk 1 2 3 r.1) D (wX g ca x ++ [oC o ca fo]) g ca r.2.2 [oC o ca (wfo r.1 fo r.2.1.toInt64)] sz) 1 10 (va_A (wX g ca x ++ [oC o ca fo]) sz) := by
  refine va_MetW (cc := cL_projector) (maxL := 8) (ret := (some .int)) (hh := [(0, 16, 19, 13), (0, 16, 23, 15), (0, 16, 27, 21)]) (by decide) rfl ?_
  intro p e s m args below meth c s₁ B hml hv
  obtain ⟨rfl, hsz, hP, hC, hD0, hz⟩ := hv
  have hx := B.exec
  have hb := B.bytes
  have hr := B.returns
  have hts := atoms_spec (ws := wsL_projector) B.pre
  have hown : s.vm.findClass RL = some m.cls := findClass_of_methodNamed B.named
  have hlocks := B.notSynchronized
  have hK := hC.1
  have htab := vx_table (x := yL_projector) B (hts (.codeWith yL_projector cL_projector 8 (some .int) [(0, 16, 19, 13), (0, 16, 23, 15), (0, 16, 27, 21)]) List.mem_cons_self)
  subst hsz
  have hD := hD0.self (sz := s.heap.size)
  generalize hAe : va_A (wX g ca x ++ [oC o ca fo]) s.heap.size = A at hD hz ⊢
  have hA : ∀ q : Nat, s.heap.size ≤ q → A q := fun q h => by rw [← hAe]; exact Or.inr h
  have hS : va_S A s.heap s.heap [] := va_S.rf
  have hl := lv_entry ([.ref (g 0), .int a1, .int a2, .int a3, .int a4, .int a5, .ref o]) (n := 8) (Nat.le_of_ble_eq_true rfl)
  rw [lg_entry_eq]
  generalize (lg_sl ([.ref (g 0), .int a1, .int a2, .int a3, .int a4, .int a5, .ref o]) ++ List.replicate (8 - (lg_sl ([.ref (g 0), .int a1, .int a2, .int a3, .int a4, .int a5, .ref o])).length) Slot.unset).toArray = ls at hl ⊢
  have hl : lv_has ls 8 [(0, .ref (g 0)), (1, .int a1), (2, .int a2), (3, .int a3), (4, .int a4), (5, .int a5), (6, .ref o)] := hl
  obtain ⟨H, hHe⟩ : ∃ H, H = s.heap := ⟨_, rfl⟩
  obtain ⟨locs, hle⟩ : ∃ z : List Loc, z = [] := ⟨_, rfl⟩
  have hP : va_P D vwCl (wX g ca x ++ [oC o ca fo]) H := by rw [hHe]; exact hP
  have hS : va_S A s.heap H locs := by rw [hHe, hle]; exact hS
  have hgo : W p l e (headSpec wsL_projector ({ frames := 7, cells := 1, slots := 10, locals := 108 })).room s m #[.ref (g 0), .int a1, .int a2, .int a3, .int a4, .int a5, .ref o] below meth c H locs 0 0 (MQ below (lQi (wk 1 2 3 r.1) D (wX g ca x ++ [oC o ca fo]) g ca r.2.2 [oC o ca (wfo r.1 fo r.2.1.toInt64)] s.heap.size) #[.ref (g 0), .int a1, .int a2, .int a3, .int a4, .int a5, .ref o] s 1 10 A) (F0 m 0 ls []) := by
    refine lv_aload hx hb dL_projector_0 (lv_at hl 6 rfl) ?_
    refine lv_iconst (v := 0) hx hb dL_projector_2 (by decide) ?_
    refine lv_aload_n hx hb dL_projector_3 rfl (lv_at hl 0 rfl) ?_
    refine lv_iload_n hx hb dL_projector_4 rfl (lv_at hl 1 rfl) ?_
    refine lv_iload_n hx hb dL_projector_5 rfl (lv_at hl 2 rfl) ?_
    refine lv_iload_n hx hb dL_projector_6 rfl (lv_at hl 3 rfl) ?_
    refine lv_iload hx hb dL_projector_7 (lv_at hl 4 rfl) ?_
    refine lv_iload hx hb dL_projector_9 (lv_at hl 5 rfl) ?_
    refine wc_p (vx_runV (As := [.int a1, .int a2, .int a3, .int a4, .int a5]) (rest := [.int 0, .ref o]) ⟨hx, hb, hml, hown, hts⟩ (c_X4_projector l hl9 D ca g x a1 a2 a3 a4 a5 hs H.size) (cwV 5 hts gL_projector_X4_projector rfl rfl rfl (by decide +kernel) ⟨Nat.le_of_ble_eq_true rfl, Nat.le_of_ble_eq_true rfl⟩) (tP_V (H0 := H) (q := (RX4, TX4, 16)) (app_l hP) hC (appD_l hD) hz hS hA 0 rfl rfl) rfl rfl hl.1 rfl (lv_room (Nat.le_of_ble_eq_true rfl)) dL_projector_11 ⟨Nat.le_of_ble_eq_true rfl, Nat.le_of_ble_eq_true rfl⟩) hP hD hS hA (fun ce q9 H locs hk3 hP hD hS hce hcv hcl => ?_) (fun g' H locs h0 hg hP hD hS => ?_)
    · rcases hk3 with e1 | e1 | e1
      · rw [e1] at hcl
        refine vx_catch (name := "java/lang/IndexOutOfBoundsException") (E := "java/lang/IndexOutOfBoundsException") hown [] ⟨0, 16, 19, 13⟩ [⟨0, 16, 23, 15⟩, ⟨0, 16, 27, 21⟩] (by rw [htab]; rfl) (fun z hz => nomatch hz) (by decide) (by decide) (hts (.classLink RL 13 "java/lang/IndexOutOfBoundsException") (by decide +kernel)) (hC.use (.castable "java/lang/IndexOutOfBoundsException" "java/lang/IndexOutOfBoundsException") (by decide +kernel)) hce hcv hcl ?_
        refine lv_astore (lv' := [(7, .ref q9), (0, .ref (g 0)), (1, .int a1), (2, .int a2), (3, .int a3), (4, .int a4), (5, .int a5), (6, .ref o)]) hx hb dL_projector_19 hl (by decide) rfl (fun ls hl => ?_)
        refine lv_iconst (v := 1) hx hb dL_projector_21 (by decide) ?_
        have hf2 : (wfo r.1 fo r.2.1.toInt64) = fo := by unfold wfo; rw [if_neg (by rw [e1]; decide)]
        rw [hf2]
        exact wl_i (g' := g) rfl hx hb hr hAe (by rw [e1]; rfl) hP hD hS (Nat.le_of_ble_eq_true rfl) (Nat.le_of_ble_eq_true rfl) dL_projector_22 hlocks
      · rw [e1] at hcl
        have hpass : ∀ z ∈ ([⟨0, 16, 19, 13⟩] : List ExceptionTableEntry), covers z 11 = false ∨ (z.catchType ≠ 0 ∧ ∃ nm : String, (Cond.classLink RL z.catchType nm).before #[.ref (g 0), .int a1, .int a2, .int a3, .int a4, .int a5, .ref o] s = true ∧ va_Nc "java/lang/IllegalArgumentException" nm s) := by
          intro z hz
          simp only [List.mem_cons, List.not_mem_nil, or_false] at hz
          rcases hz with rfl
          · exact Or.inr ⟨by decide, "java/lang/IndexOutOfBoundsException", hts (.classLink RL 13 "java/lang/IndexOutOfBoundsException") (by decide +kernel), hC.2.2.2.1 ("java/lang/IllegalArgumentException", "java/lang/IndexOutOfBoundsException") (by decide)⟩
        refine vx_catch (name := "java/lang/IllegalArgumentException") (E := "java/lang/IllegalArgumentException") hown [⟨0, 16, 19, 13⟩] ⟨0, 16, 23, 15⟩ [⟨0, 16, 27, 21⟩] (by rw [htab]; rfl) hpass (by decide) (by decide) (hts (.classLink RL 15 "java/lang/IllegalArgumentException") (by decide +kernel)) (hC.use (.castable "java/lang/IllegalArgumentException" "java/lang/IllegalArgumentException") (by decide +kernel)) hce hcv hcl ?_
        refine lv_astore (lv' := [(7, .ref q9), (0, .ref (g 0)), (1, .int a1), (2, .int a2), (3, .int a3), (4, .int a4), (5, .int a5), (6, .ref o)]) hx hb dL_projector_23 hl (by decide) rfl (fun ls hl => ?_)
        refine lv_iconst (v := 2) hx hb dL_projector_25 (by decide) ?_
        have hf2 : (wfo r.1 fo r.2.1.toInt64) = fo := by unfold wfo; rw [if_neg (by rw [e1]; decide)]
        rw [hf2]
        exact wl_i (g' := g) rfl hx hb hr hAe (by rw [e1]; rfl) hP hD hS (Nat.le_of_ble_eq_true rfl) (Nat.le_of_ble_eq_true rfl) dL_projector_26 hlocks
      · rw [e1] at hcl
        have hpass : ∀ z ∈ ([⟨0, 16, 19, 13⟩, ⟨0, 16, 23, 15⟩] : List ExceptionTableEntry), covers z 11 = false ∨ (z.catchType ≠ 0 ∧ ∃ nm : String, (Cond.classLink RL z.catchType nm).before #[.ref (g 0), .int a1, .int a2, .int a3, .int a4, .int a5, .ref o] s = true ∧ va_Nc "java/lang/IllegalStateException" nm s) := by
          intro z hz
          simp only [List.mem_cons, List.not_mem_nil, or_false] at hz
          rcases hz with rfl | rfl
          · exact Or.inr ⟨by decide, "java/lang/IndexOutOfBoundsException", hts (.classLink RL 13 "java/lang/IndexOutOfBoundsException") (by decide +kernel), hC.2.2.2.1 ("java/lang/IllegalStateException", "java/lang/IndexOutOfBoundsException") (by decide)⟩
          · exact Or.inr ⟨by decide, "java/lang/IllegalArgumentException", hts (.classLink RL 15 "java/lang/IllegalArgumentException") (by decide +kernel), hC.2.2.2.1 ("java/lang/IllegalStateException", "java/lang/IllegalArgumentException") (by decide)⟩
        refine vx_catch (name := "java/lang/IllegalStateException") (E := "java/lang/IllegalStateException") hown [⟨0, 16, 19, 13⟩, ⟨0, 16, 23, 15⟩] ⟨0, 16, 27, 21⟩ [] (by rw [htab]; rfl) hpass (by decide) (by decide) (hts (.classLink RL 21 "java/lang/IllegalStateException") (by decide +kernel)) (hC.use (.castable "java/lang/IllegalStateException" "java/lang/IllegalStateException") (by decide +kernel)) hce hcv hcl ?_
        refine lv_astore (lv' := [(7, .ref q9), (0, .ref (g 0)), (1, .int a1), (2, .int a2), (3, .int a3), (4, .int a4), (5, .int a5), (6, .ref o)]) hx hb dL_projector_27 hl (by decide) rfl (fun ls hl => ?_)
        refine lv_iconst (v := 3) hx hb dL_projector_29 (by decide) ?_
        have hf2 : (wfo r.1 fo r.2.1.toInt64) = fo := by unfold wfo; rw [if_neg (by rw [e1]; decide)]
        rw [hf2]
        exact wl_i (g' := g) rfl hx hb hr hAe (by rw [e1]; rfl) hP hD hS (Nat.le_of_ble_eq_true rfl) (Nat.le_of_ble_eq_true rfl) dL_projector_30 hlocks
    · refine lv_i2l hx hb dL_projector_14 rfl ?_
      refine va_last (D := D) (cA := ca 2) (n := 1) (f := fo) hx hb hK hP hD hS ((wX g' ca r.2.2).length + 0) 2 (la_get (k := 0) rfl) rfl (by unfold vp_in; decide) dL_projector_15 (fun H locs hP hD hS => ?_)
      rw [la_set] at hP hD
      refine lv_goto (tgt := 31) hx hb dL_projector_16 (by decide) ?_
      refine lv_iconst (v := 0) hx hb dL_projector_31 (by decide) ?_
      have hf2 : (wfo r.1 fo r.2.1.toInt64) = vp_updL fo 0 (r.2.1.toInt64) := by unfold wfo; rw [if_pos h0]
      rw [hf2]
      exact wl_i (g' := g') hg hx hb hr hAe (by rw [h0]; rfl) hP hD hS (Nat.le_of_ble_eq_true rfl) (Nat.le_of_ble_eq_true rfl) dL_projector_32 hlocks
  rw [hHe, hle] at hgo
  exact hgo
set_option maxHeartbeats 4000000 in
set_option maxRecDepth 100000 in
theorem c_L_aim (l : Launch) (hl9 : l.stackTraces = false) (D : va_G) (ca : Nat → ClassId) (g : Nat → Nat) (x : XS) (a1 : Int32) (a2 : Int32) (a3 : Int32) (o : Nat) (fo : Nat → Int64) {r : (Nat × Int32 × XS)} (hs : s_X4_aim x a1 a2 a3 = some r) (hk : r.1 = 0 ∨ r.1 = 1 ∨ r.1 = 2) (sz : Nat) : Met l yL_aim wsL_aim ({ frames := 7, cells := 1, slots := 6, locals := 106 }) (tP [.ref (g 0), .int a1, .int a2, .int a3] D ca (wX g ca x ++ [oC o ca fo]) sz) (lQi (wk 1 2 0 r.1) D (wX g ca x ++ [oC o ca fo]) g ca r.2.2 [oC o ca fo] sz) 1 6 (va_A (wX g ca x ++ [oC o ca fo]) sz) := by
  refine va_MetW (cc := cL_aim) (maxL := 5) (ret := (some .int)) (hh := [(0, 7, 10, 13), (0, 7, 14, 15)]) (by decide) rfl ?_
  intro p e s m args below meth c s₁ B hml hv
  obtain ⟨rfl, hsz, hP, hC, hD0, hz⟩ := hv
  have hx := B.exec
  have hb := B.bytes
  have hr := B.returns
  have hts := atoms_spec (ws := wsL_aim) B.pre
  have hown : s.vm.findClass RL = some m.cls := findClass_of_methodNamed B.named
  have hlocks := B.notSynchronized
  have hK := hC.1
  have htab := vx_table (x := yL_aim) B (hts (.codeWith yL_aim cL_aim 5 (some .int) [(0, 7, 10, 13), (0, 7, 14, 15)]) List.mem_cons_self)
  subst hsz
  have hD := hD0.self (sz := s.heap.size)
  generalize hAe : va_A (wX g ca x ++ [oC o ca fo]) s.heap.size = A at hD hz ⊢
  have hA : ∀ q : Nat, s.heap.size ≤ q → A q := fun q h => by rw [← hAe]; exact Or.inr h
  have hS : va_S A s.heap s.heap [] := va_S.rf
  have hl := lv_entry ([.ref (g 0), .int a1, .int a2, .int a3]) (n := 5) (Nat.le_of_ble_eq_true rfl)
  rw [lg_entry_eq]
  generalize (lg_sl ([.ref (g 0), .int a1, .int a2, .int a3]) ++ List.replicate (5 - (lg_sl ([.ref (g 0), .int a1, .int a2, .int a3])).length) Slot.unset).toArray = ls at hl ⊢
  have hl : lv_has ls 5 [(0, .ref (g 0)), (1, .int a1), (2, .int a2), (3, .int a3)] := hl
  obtain ⟨H, hHe⟩ : ∃ H, H = s.heap := ⟨_, rfl⟩
  obtain ⟨locs, hle⟩ : ∃ z : List Loc, z = [] := ⟨_, rfl⟩
  have hP : va_P D vwCl (wX g ca x ++ [oC o ca fo]) H := by rw [hHe]; exact hP
  have hS : va_S A s.heap H locs := by rw [hHe, hle]; exact hS
  have hgo : W p l e (headSpec wsL_aim ({ frames := 7, cells := 1, slots := 6, locals := 106 })).room s m #[.ref (g 0), .int a1, .int a2, .int a3] below meth c H locs 0 0 (MQ below (lQi (wk 1 2 0 r.1) D (wX g ca x ++ [oC o ca fo]) g ca r.2.2 [oC o ca fo] s.heap.size) #[.ref (g 0), .int a1, .int a2, .int a3] s 1 6 A) (F0 m 0 ls []) := by
    refine lv_aload_n hx hb dL_aim_0 rfl (lv_at hl 0 rfl) ?_
    refine lv_iload_n hx hb dL_aim_1 rfl (lv_at hl 1 rfl) ?_
    refine lv_iload_n hx hb dL_aim_2 rfl (lv_at hl 2 rfl) ?_
    refine lv_iload_n hx hb dL_aim_3 rfl (lv_at hl 3 rfl) ?_
    refine wc_v (vx_runV (As := [.int a1, .int a2, .int a3]) (rest := []) ⟨hx, hb, hml, hown, hts⟩ (c_X4_aim l hl9 D ca g x a1 a2 a3 hs H.size) (cwV 3 hts gL_aim_X4_aim rfl rfl rfl (by decide +kernel) ⟨Nat.le_of_ble_eq_true rfl, Nat.le_of_ble_eq_true rfl⟩) (tP_V (H0 := H) (q := (RX4, TX4, 16)) (app_l hP) hC (appD_l hD) hz hS hA 0 rfl rfl) rfl rfl hl.1 rfl (lv_room (Nat.le_of_ble_eq_true rfl)) dL_aim_4 ⟨Nat.le_of_ble_eq_true rfl, Nat.le_of_ble_eq_true rfl⟩) hP hD hS hA (fun ce q9 H locs hk3 hP hD hS hce hcv hcl => ?_) (fun H locs h0 hP hD hS => ?_)
    · rcases hk3 with e1 | e1 | e1
      · rw [e1] at hcl
        refine vx_catch (name := "java/lang/IndexOutOfBoundsException") (E := "java/lang/IndexOutOfBoundsException") hown [] ⟨0, 7, 10, 13⟩ [⟨0, 7, 14, 15⟩] (by rw [htab]; rfl) (fun z hz => nomatch hz) (by decide) (by decide) (hts (.classLink RL 13 "java/lang/IndexOutOfBoundsException") (by decide +kernel)) (hC.use (.castable "java/lang/IndexOutOfBoundsException" "java/lang/IndexOutOfBoundsException") (by decide +kernel)) hce hcv hcl ?_
        refine lv_astore (lv' := [(4, .ref q9), (0, .ref (g 0)), (1, .int a1), (2, .int a2), (3, .int a3)]) hx hb dL_aim_10 hl (by decide) rfl (fun ls hl => ?_)
        refine lv_iconst (v := 1) hx hb dL_aim_12 (by decide) ?_
        exact wl_i (g' := g) rfl hx hb hr hAe (by rw [e1]; rfl) hP hD hS (Nat.le_of_ble_eq_true rfl) (Nat.le_of_ble_eq_true rfl) dL_aim_13 hlocks
      · rw [e1] at hcl
        have hpass : ∀ z ∈ ([⟨0, 7, 10, 13⟩] : List ExceptionTableEntry), covers z 4 = false ∨ (z.catchType ≠ 0 ∧ ∃ nm : String, (Cond.classLink RL z.catchType nm).before #[.ref (g 0), .int a1, .int a2, .int a3] s = true ∧ va_Nc "java/lang/IllegalArgumentException" nm s) := by
          intro z hz
          simp only [List.mem_cons, List.not_mem_nil, or_false] at hz
          rcases hz with rfl
          · exact Or.inr ⟨by decide, "java/lang/IndexOutOfBoundsException", hts (.classLink RL 13 "java/lang/IndexOutOfBoundsException") (by decide +kernel), hC.2.2.2.1 ("java/lang/IllegalArgumentException", "java/lang/IndexOutOfBoundsException") (by decide)⟩
        refine vx_catch (name := "java/lang/IllegalArgumentException") (E := "java/lang/IllegalArgumentException") hown [⟨0, 7, 10, 13⟩] ⟨0, 7, 14, 15⟩ [] (by rw [htab]; rfl) hpass (by decide) (by decide) (hts (.classLink RL 15 "java/lang/IllegalArgumentException") (by decide +kernel)) (hC.use (.castable "java/lang/IllegalArgumentException" "java/lang/IllegalArgumentException") (by decide +kernel)) hce hcv hcl ?_
        refine lv_astore (lv' := [(4, .ref q9), (0, .ref (g 0)), (1, .int a1), (2, .int a2), (3, .int a3)]) hx hb dL_aim_14 hl (by decide) rfl (fun ls hl => ?_)
        refine lv_iconst (v := 2) hx hb dL_aim_16 (by decide) ?_
        exact wl_i (g' := g) rfl hx hb hr hAe (by rw [e1]; rfl) hP hD hS (Nat.le_of_ble_eq_true rfl) (Nat.le_of_ble_eq_true rfl) dL_aim_17 hlocks
      · exact absurd hk (by rw [e1]; decide)
    · skip
      refine lv_goto (tgt := 18) hx hb dL_aim_7 (by decide) ?_
      refine lv_iconst (v := 0) hx hb dL_aim_18 (by decide) ?_
      exact wl_i (g' := g) rfl hx hb hr hAe (by rw [h0]; rfl) hP hD hS (Nat.le_of_ble_eq_true rfl) (Nat.le_of_ble_eq_true rfl) dL_aim_19 hlocks
  rw [hHe, hle] at hgo
  exact hgo
set_option maxHeartbeats 4000000 in
set_option maxRecDepth 100000 in
theorem c_L_turn (l : Launch) (hl9 : l.stackTraces = false) (D : va_G) (ca : Nat → ClassId) (g : Nat → Nat) (x : XS) (a1 : Int32) (a2 : Int32) (o : Nat) (fo : Nat → Int64) {r : (Nat × Int32 × XS)} (hs : s_X4_turn x a1 a2 = some r) (hk : r.1 = 0 ∨ r.1 = 1 ∨ r.1 = 3) (sz : Nat) : Met l yL_turn wsL_turn ({ frames := 7, cells := 1, slots := 6, locals := 106 }) (tP [.ref (g 0), .int a1, .int a2, .ref o] D ca (wX g ca x ++ [oC o ca fo]) sz) (lQi (wk 1 0 2 r.1) D (wX g ca x ++ [oC o ca fo]) g ca r.2.2 [oC o ca (wfo r.1 fo (if r.2.1 = 0 then 0 else 1))] sz) 1 6 (va_A (wX g ca x ++ [oC o ca fo]) sz) := by
  refine va_MetW (cc := cL_turn) (maxL := 5) (ret := (some .int)) (hh := [(0, 17, 20, 13), (0, 17, 24, 21)]) (by decide) rfl ?_
  intro p e s m args below meth c s₁ B hml hv
  obtain ⟨rfl, hsz, hP, hC, hD0, hz⟩ := hv
  have hx := B.exec
  have hb := B.bytes
  have hr := B.returns
  have hts := atoms_spec (ws := wsL_turn) B.pre
  have hown : s.vm.findClass RL = some m.cls := findClass_of_methodNamed B.named
  have hlocks := B.notSynchronized
  have hK := hC.1
  have htab := vx_table (x := yL_turn) B (hts (.codeWith yL_turn cL_turn 5 (some .int) [(0, 17, 20, 13), (0, 17, 24, 21)]) List.mem_cons_self)
  subst hsz
  have hD := hD0.self (sz := s.heap.size)
  generalize hAe : va_A (wX g ca x ++ [oC o ca fo]) s.heap.size = A at hD hz ⊢
  have hA : ∀ q : Nat, s.heap.size ≤ q → A q := fun q h => by rw [← hAe]; exact Or.inr h
  have hS : va_S A s.heap s.heap [] := va_S.rf
  have hl := lv_entry ([.ref (g 0), .int a1, .int a2, .ref o]) (n := 5) (Nat.le_of_ble_eq_true rfl)
  rw [lg_entry_eq]
  generalize (lg_sl ([.ref (g 0), .int a1, .int a2, .ref o]) ++ List.replicate (5 - (lg_sl ([.ref (g 0), .int a1, .int a2, .ref o])).length) Slot.unset).toArray = ls at hl ⊢
  have hl : lv_has ls 5 [(0, .ref (g 0)), (1, .int a1), (2, .int a2), (3, .ref o)] := hl
  obtain ⟨H, hHe⟩ : ∃ H, H = s.heap := ⟨_, rfl⟩
  obtain ⟨locs, hle⟩ : ∃ z : List Loc, z = [] := ⟨_, rfl⟩
  have hP : va_P D vwCl (wX g ca x ++ [oC o ca fo]) H := by rw [hHe]; exact hP
  have hS : va_S A s.heap H locs := by rw [hHe, hle]; exact hS
  have hgo : W p l e (headSpec wsL_turn ({ frames := 7, cells := 1, slots := 6, locals := 106 })).room s m #[.ref (g 0), .int a1, .int a2, .ref o] below meth c H locs 0 0 (MQ below (lQi (wk 1 0 2 r.1) D (wX g ca x ++ [oC o ca fo]) g ca r.2.2 [oC o ca (wfo r.1 fo (if r.2.1 = 0 then 0 else 1))] s.heap.size) #[.ref (g 0), .int a1, .int a2, .ref o] s 1 6 A) (F0 m 0 ls []) := by
    refine lv_aload_n hx hb dL_turn_0 rfl (lv_at hl 3 rfl) ?_
    refine lv_iconst (v := 0) hx hb dL_turn_1 (by decide) ?_
    refine lv_aload_n hx hb dL_turn_2 rfl (lv_at hl 0 rfl) ?_
    refine lv_iload_n hx hb dL_turn_3 rfl (lv_at hl 1 rfl) ?_
    refine lv_iload_n hx hb dL_turn_4 rfl (lv_at hl 2 rfl) ?_
    refine wc_i (vx_runV (As := [.int a1, .int a2]) (rest := [.int 0, .ref o]) ⟨hx, hb, hml, hown, hts⟩ (c_X4_turn l hl9 D ca g x a1 a2 hs H.size) (cwV 2 hts gL_turn_X4_turn rfl rfl rfl (by decide +kernel) ⟨Nat.le_of_ble_eq_true rfl, Nat.le_of_ble_eq_true rfl⟩) (tP_V (H0 := H) (q := (RX4, TX4, 16)) (app_l hP) hC (appD_l hD) hz hS hA 0 rfl rfl) rfl rfl hl.1 rfl (lv_room (Nat.le_of_ble_eq_true rfl)) dL_turn_5 ⟨Nat.le_of_ble_eq_true rfl, Nat.le_of_ble_eq_true rfl⟩) hP hD hS hA (fun ce q9 H locs hk3 hP hD hS hce hcv hcl => ?_) (fun H locs h0 hP hD hS => ?_)
    · rcases hk3 with e1 | e1 | e1
      · rw [e1] at hcl
        refine vx_catch (name := "java/lang/IndexOutOfBoundsException") (E := "java/lang/IndexOutOfBoundsException") hown [] ⟨0, 17, 20, 13⟩ [⟨0, 17, 24, 21⟩] (by rw [htab]; rfl) (fun z hz => nomatch hz) (by decide) (by decide) (hts (.classLink RL 13 "java/lang/IndexOutOfBoundsException") (by decide +kernel)) (hC.use (.castable "java/lang/IndexOutOfBoundsException" "java/lang/IndexOutOfBoundsException") (by decide +kernel)) hce hcv hcl ?_
        refine lv_astore (lv' := [(4, .ref q9), (0, .ref (g 0)), (1, .int a1), (2, .int a2), (3, .ref o)]) hx hb dL_turn_20 hl (by decide) rfl (fun ls hl => ?_)
        refine lv_iconst (v := 1) hx hb dL_turn_22 (by decide) ?_
        have hf2 : (wfo r.1 fo (if r.2.1 = 0 then 0 else 1)) = fo := by unfold wfo; rw [if_neg (by rw [e1]; decide)]
        rw [hf2]
        exact wl_i (g' := g) rfl hx hb hr hAe (by rw [e1]; rfl) hP hD hS (Nat.le_of_ble_eq_true rfl) (Nat.le_of_ble_eq_true rfl) dL_turn_23 hlocks
      · exact absurd hk (by rw [e1]; decide)
      · rw [e1] at hcl
        have hpass : ∀ z ∈ ([⟨0, 17, 20, 13⟩] : List ExceptionTableEntry), covers z 5 = false ∨ (z.catchType ≠ 0 ∧ ∃ nm : String, (Cond.classLink RL z.catchType nm).before #[.ref (g 0), .int a1, .int a2, .ref o] s = true ∧ va_Nc "java/lang/IllegalStateException" nm s) := by
          intro z hz
          simp only [List.mem_cons, List.not_mem_nil, or_false] at hz
          rcases hz with rfl
          · exact Or.inr ⟨by decide, "java/lang/IndexOutOfBoundsException", hts (.classLink RL 13 "java/lang/IndexOutOfBoundsException") (by decide +kernel), hC.2.2.2.1 ("java/lang/IllegalStateException", "java/lang/IndexOutOfBoundsException") (by decide)⟩
        refine vx_catch (name := "java/lang/IllegalStateException") (E := "java/lang/IllegalStateException") hown [⟨0, 17, 20, 13⟩] ⟨0, 17, 24, 21⟩ [] (by rw [htab]; rfl) hpass (by decide) (by decide) (hts (.classLink RL 21 "java/lang/IllegalStateException") (by decide +kernel)) (hC.use (.castable "java/lang/IllegalStateException" "java/lang/IllegalStateException") (by decide +kernel)) hce hcv hcl ?_
        refine lv_astore (lv' := [(4, .ref q9), (0, .ref (g 0)), (1, .int a1), (2, .int a2), (3, .ref o)]) hx hb dL_turn_24 hl (by decide) rfl (fun ls hl => ?_)
        refine lv_iconst (v := 2) hx hb dL_turn_26 (by decide) ?_
        have hf2 : (wfo r.1 fo (if r.2.1 = 0 then 0 else 1)) = fo := by unfold wfo; rw [if_neg (by rw [e1]; decide)]
        rw [hf2]
        exact wl_i (g' := g) rfl hx hb hr hAe (by rw [e1]; rfl) hP hD hS (Nat.le_of_ble_eq_true rfl) (Nat.le_of_ble_eq_true rfl) dL_turn_27 hlocks
    · refine lv_if_eq (tgt := 15) hx hb dL_turn_8 (by decide) (fun c9 => ?_) (fun c9 => ?_)
      · refine lv_lconst (v := 0) hx hb dL_turn_15 (by decide) ?_
        have h9 : (if r.2.1 = 0 then (0 : Int64) else 1) = 0 := if_pos c9
        rw [h9]
        refine va_last (D := D) (cA := ca 2) (n := 1) (f := fo) hx hb hK hP hD hS ((wX g ca r.2.2).length + 0) 2 (la_get (k := 0) rfl) rfl (by unfold vp_in; decide) dL_turn_16 (fun H locs hP hD hS => ?_)
        rw [la_set] at hP hD
        refine lv_goto (tgt := 28) hx hb dL_turn_17 (by decide) ?_
        refine lv_iconst (v := 0) hx hb dL_turn_28 (by decide) ?_
        have hf2 : (wfo r.1 fo 0) = vp_updL fo 0 (0) := by unfold wfo; rw [if_pos h0]
        rw [hf2]
        exact wl_i (g' := g) rfl hx hb hr hAe (by rw [h0]; rfl) hP hD hS (Nat.le_of_ble_eq_true rfl) (Nat.le_of_ble_eq_true rfl) dL_turn_29 hlocks
      · refine lv_lconst (v := 1) hx hb dL_turn_11 (by decide) ?_
        have h9 : (if r.2.1 = 0 then (0 : Int64) else 1) = 1 := if_neg c9
        rw [h9]
        refine lv_goto (tgt := 16) hx hb dL_turn_12 (by decide) ?_
        refine va_last (D := D) (cA := ca 2) (n := 1) (f := fo) hx hb hK hP hD hS ((wX g ca r.2.2).length + 0) 2 (la_get (k := 0) rfl) rfl (by unfold vp_in; decide) dL_turn_16 (fun H locs hP hD hS => ?_)
        rw [la_set] at hP hD
        refine lv_goto (tgt := 28) hx hb dL_turn_17 (by decide) ?_
        refine lv_iconst (v := 0) hx hb dL_turn_28 (by decide) ?_
        have hf2 : (wfo r.1 fo 1) = vp_updL fo 0 (1) := by unfold wfo; rw [if_pos h0]
        rw [hf2]
        exact wl_i (g' := g) rfl hx hb hr hAe (by rw [h0]; rfl) hP hD hS (Nat.le_of_ble_eq_true rfl) (Nat.le_of_ble_eq_true rfl) dL_turn_29 hlocks
  rw [hHe, hle] at hgo
  exact hgo
set_option maxHeartbeats 4000000 in
set_option maxRecDepth 100000 in
theorem c_L_fail (l : Launch) (hl9 : l.stackTraces = false) (D : va_G) (ca : Nat → ClassId) (g : Nat → Nat) (x : XS) (a1 : Int32) (a2 : Int32) (o : Nat) (fo : Nat → Int64) {r : (Nat × Int32 × XS)} (hs : s_X4_fail x a1 a2 = some r) (hk : r.1 = 0 ∨ r.1 = 1) (sz : Nat) : Met l yL_fail wsL_fail ({ frames := 7, cells := 1, slots := 6, locals := 106 }) (tP [.ref (g 0), .int a1, .int a2, .ref o] D ca (wX g ca x ++ [oC o ca fo]) sz) (lQi (wk 1 0 0 r.1) D (wX g ca x ++ [oC o ca fo]) g ca r.2.2 [oC o ca (wfo r.1 fo (if r.2.1 = 0 then 0 else 1))] sz) 1 6 (va_A (wX g ca x ++ [oC o ca fo]) sz) := by
  refine va_MetW (cc := cL_fail) (maxL := 5) (ret := (some .int)) (hh := [(0, 17, 20, 13)]) (by decide) rfl ?_
  intro p e s m args below meth c s₁ B hml hv
  obtain ⟨rfl, hsz, hP, hC, hD0, hz⟩ := hv
  have hx := B.exec
  have hb := B.bytes
  have hr := B.returns
  have hts := atoms_spec (ws := wsL_fail) B.pre
  have hown : s.vm.findClass RL = some m.cls := findClass_of_methodNamed B.named
  have hlocks := B.notSynchronized
  have hK := hC.1
  have htab := vx_table (x := yL_fail) B (hts (.codeWith yL_fail cL_fail 5 (some .int) [(0, 17, 20, 13)]) List.mem_cons_self)
  subst hsz
  have hD := hD0.self (sz := s.heap.size)
  generalize hAe : va_A (wX g ca x ++ [oC o ca fo]) s.heap.size = A at hD hz ⊢
  have hA : ∀ q : Nat, s.heap.size ≤ q → A q := fun q h => by rw [← hAe]; exact Or.inr h
  have hS : va_S A s.heap s.heap [] := va_S.rf
  have hl := lv_entry ([.ref (g 0), .int a1, .int a2, .ref o]) (n := 5) (Nat.le_of_ble_eq_true rfl)
  rw [lg_entry_eq]
  generalize (lg_sl ([.ref (g 0), .int a1, .int a2, .ref o]) ++ List.replicate (5 - (lg_sl ([.ref (g 0), .int a1, .int a2, .ref o])).length) Slot.unset).toArray = ls at hl ⊢
  have hl : lv_has ls 5 [(0, .ref (g 0)), (1, .int a1), (2, .int a2), (3, .ref o)] := hl
  obtain ⟨H, hHe⟩ : ∃ H, H = s.heap := ⟨_, rfl⟩
  obtain ⟨locs, hle⟩ : ∃ z : List Loc, z = [] := ⟨_, rfl⟩
  have hP : va_P D vwCl (wX g ca x ++ [oC o ca fo]) H := by rw [hHe]; exact hP
  have hS : va_S A s.heap H locs := by rw [hHe, hle]; exact hS
  have hgo : W p l e (headSpec wsL_fail ({ frames := 7, cells := 1, slots := 6, locals := 106 })).room s m #[.ref (g 0), .int a1, .int a2, .ref o] below meth c H locs 0 0 (MQ below (lQi (wk 1 0 0 r.1) D (wX g ca x ++ [oC o ca fo]) g ca r.2.2 [oC o ca (wfo r.1 fo (if r.2.1 = 0 then 0 else 1))] s.heap.size) #[.ref (g 0), .int a1, .int a2, .ref o] s 1 6 A) (F0 m 0 ls []) := by
    refine lv_aload_n hx hb dL_fail_0 rfl (lv_at hl 3 rfl) ?_
    refine lv_iconst (v := 0) hx hb dL_fail_1 (by decide) ?_
    refine lv_aload_n hx hb dL_fail_2 rfl (lv_at hl 0 rfl) ?_
    refine lv_iload_n hx hb dL_fail_3 rfl (lv_at hl 1 rfl) ?_
    refine lv_iload_n hx hb dL_fail_4 rfl (lv_at hl 2 rfl) ?_
    refine wc_i (vx_runV (As := [.int a1, .int a2]) (rest := [.int 0, .ref o]) ⟨hx, hb, hml, hown, hts⟩ (c_X4_fail l hl9 D ca g x a1 a2 hs H.size) (cwV 2 hts gL_fail_X4_fail rfl rfl rfl (by decide +kernel) ⟨Nat.le_of_ble_eq_true rfl, Nat.le_of_ble_eq_true rfl⟩) (tP_V (H0 := H) (q := (RX4, TX4, 16)) (app_l hP) hC (appD_l hD) hz hS hA 0 rfl rfl) rfl rfl hl.1 rfl (lv_room (Nat.le_of_ble_eq_true rfl)) dL_fail_5 ⟨Nat.le_of_ble_eq_true rfl, Nat.le_of_ble_eq_true rfl⟩) hP hD hS hA (fun ce q9 H locs hk3 hP hD hS hce hcv hcl => ?_) (fun H locs h0 hP hD hS => ?_)
    · rcases hk3 with e1 | e1 | e1
      · rw [e1] at hcl
        refine vx_catch (name := "java/lang/IndexOutOfBoundsException") (E := "java/lang/IndexOutOfBoundsException") hown [] ⟨0, 17, 20, 13⟩ [] (by rw [htab]; rfl) (fun z hz => nomatch hz) (by decide) (by decide) (hts (.classLink RL 13 "java/lang/IndexOutOfBoundsException") (by decide +kernel)) (hC.use (.castable "java/lang/IndexOutOfBoundsException" "java/lang/IndexOutOfBoundsException") (by decide +kernel)) hce hcv hcl ?_
        refine lv_astore (lv' := [(4, .ref q9), (0, .ref (g 0)), (1, .int a1), (2, .int a2), (3, .ref o)]) hx hb dL_fail_20 hl (by decide) rfl (fun ls hl => ?_)
        refine lv_iconst (v := 1) hx hb dL_fail_22 (by decide) ?_
        have hf2 : (wfo r.1 fo (if r.2.1 = 0 then 0 else 1)) = fo := by unfold wfo; rw [if_neg (by rw [e1]; decide)]
        rw [hf2]
        exact wl_i (g' := g) rfl hx hb hr hAe (by rw [e1]; rfl) hP hD hS (Nat.le_of_ble_eq_true rfl) (Nat.le_of_ble_eq_true rfl) dL_fail_23 hlocks
      · exact absurd hk (by rw [e1]; decide)
      · exact absurd hk (by rw [e1]; decide)
    · refine lv_if_eq (tgt := 15) hx hb dL_fail_8 (by decide) (fun c9 => ?_) (fun c9 => ?_)
      · refine lv_lconst (v := 0) hx hb dL_fail_15 (by decide) ?_
        have h9 : (if r.2.1 = 0 then (0 : Int64) else 1) = 0 := if_pos c9
        rw [h9]
        refine va_last (D := D) (cA := ca 2) (n := 1) (f := fo) hx hb hK hP hD hS ((wX g ca r.2.2).length + 0) 2 (la_get (k := 0) rfl) rfl (by unfold vp_in; decide) dL_fail_16 (fun H locs hP hD hS => ?_)
        rw [la_set] at hP hD
        refine lv_goto (tgt := 24) hx hb dL_fail_17 (by decide) ?_
        refine lv_iconst (v := 0) hx hb dL_fail_24 (by decide) ?_
        have hf2 : (wfo r.1 fo 0) = vp_updL fo 0 (0) := by unfold wfo; rw [if_pos h0]
        rw [hf2]
        exact wl_i (g' := g) rfl hx hb hr hAe (by rw [h0]; rfl) hP hD hS (Nat.le_of_ble_eq_true rfl) (Nat.le_of_ble_eq_true rfl) dL_fail_25 hlocks
      · refine lv_lconst (v := 1) hx hb dL_fail_11 (by decide) ?_
        have h9 : (if r.2.1 = 0 then (0 : Int64) else 1) = 1 := if_neg c9
        rw [h9]
        refine lv_goto (tgt := 16) hx hb dL_fail_12 (by decide) ?_
        refine va_last (D := D) (cA := ca 2) (n := 1) (f := fo) hx hb hK hP hD hS ((wX g ca r.2.2).length + 0) 2 (la_get (k := 0) rfl) rfl (by unfold vp_in; decide) dL_fail_16 (fun H locs hP hD hS => ?_)
        rw [la_set] at hP hD
        refine lv_goto (tgt := 24) hx hb dL_fail_17 (by decide) ?_
        refine lv_iconst (v := 0) hx hb dL_fail_24 (by decide) ?_
        have hf2 : (wfo r.1 fo 1) = vp_updL fo 0 (1) := by unfold wfo; rw [if_pos h0]
        rw [hf2]
        exact wl_i (g' := g) rfl hx hb hr hAe (by rw [h0]; rfl) hP hD hS (Nat.le_of_ble_eq_true rfl) (Nat.le_of_ble_eq_true rfl) dL_fail_25 hlocks
  rw [hHe, hle] at hgo
  exact hgo
set_option maxHeartbeats 4000000 in
set_option maxRecDepth 100000 in
theorem c_L_phase (l : Launch) (hl9 : l.stackTraces = false) (D : va_G) (ca : Nat → ClassId) (g : Nat → Nat) (x : XS) (a1 : Int32) (a2 : Int32) (o : Nat) (fo : Nat → Int64) {r : (Nat × Int32 × XS)} (hs : s_X4_phase x a1 a2 = some r) (hk : r.1 = 0 ∨ r.1 = 2) (sz : Nat) : Met l yL_phase wsL_phase ({ frames := 7, cells := 1, slots := 6, locals := 105 }) (tP [.ref (g 0), .int a1, .int a2, .ref o] D ca (wX g ca x ++ [oC o ca fo]) sz) (lQi (wk 0 1 0 r.1) D (wX g ca x ++ [oC o ca fo]) g ca r.2.2 [oC o ca (wfo r.1 fo r.2.1.toInt64)] sz) 1 6 (va_A (wX g ca x ++ [oC o ca fo]) sz) := by
  refine va_MetW (cc := cL_phase) (maxL := 5) (ret := (some .int)) (hh := [(0, 10, 13, 15)]) (by decide) rfl ?_
  intro p e s m args below meth c s₁ B hml hv
  obtain ⟨rfl, hsz, hP, hC, hD0, hz⟩ := hv
  have hx := B.exec
  have hb := B.bytes
  have hr := B.returns
  have hts := atoms_spec (ws := wsL_phase) B.pre
  have hown : s.vm.findClass RL = some m.cls := findClass_of_methodNamed B.named
  have hlocks := B.notSynchronized
  have hK := hC.1
  have htab := vx_table (x := yL_phase) B (hts (.codeWith yL_phase cL_phase 5 (some .int) [(0, 10, 13, 15)]) List.mem_cons_self)
  subst hsz
  have hD := hD0.self (sz := s.heap.size)
  generalize hAe : va_A (wX g ca x ++ [oC o ca fo]) s.heap.size = A at hD hz ⊢
  have hA : ∀ q : Nat, s.heap.size ≤ q → A q := fun q h => by rw [← hAe]; exact Or.inr h
  have hS : va_S A s.heap s.heap [] := va_S.rf
  have hl := lv_entry ([.ref (g 0), .int a1, .int a2, .ref o]) (n := 5) (Nat.le_of_ble_eq_true rfl)
  rw [lg_entry_eq]
  generalize (lg_sl ([.ref (g 0), .int a1, .int a2, .ref o]) ++ List.replicate (5 - (lg_sl ([.ref (g 0), .int a1, .int a2, .ref o])).length) Slot.unset).toArray = ls at hl ⊢
  have hl : lv_has ls 5 [(0, .ref (g 0)), (1, .int a1), (2, .int a2), (3, .ref o)] := hl
  obtain ⟨H, hHe⟩ : ∃ H, H = s.heap := ⟨_, rfl⟩
  obtain ⟨locs, hle⟩ : ∃ z : List Loc, z = [] := ⟨_, rfl⟩
  have hP : va_P D vwCl (wX g ca x ++ [oC o ca fo]) H := by rw [hHe]; exact hP
  have hS : va_S A s.heap H locs := by rw [hHe, hle]; exact hS
  have hgo : W p l e (headSpec wsL_phase ({ frames := 7, cells := 1, slots := 6, locals := 105 })).room s m #[.ref (g 0), .int a1, .int a2, .ref o] below meth c H locs 0 0 (MQ below (lQi (wk 0 1 0 r.1) D (wX g ca x ++ [oC o ca fo]) g ca r.2.2 [oC o ca (wfo r.1 fo r.2.1.toInt64)] s.heap.size) #[.ref (g 0), .int a1, .int a2, .ref o] s 1 6 A) (F0 m 0 ls []) := by
    refine lv_aload_n hx hb dL_phase_0 rfl (lv_at hl 3 rfl) ?_
    refine lv_iconst (v := 0) hx hb dL_phase_1 (by decide) ?_
    refine lv_aload_n hx hb dL_phase_2 rfl (lv_at hl 0 rfl) ?_
    refine lv_iload_n hx hb dL_phase_3 rfl (lv_at hl 1 rfl) ?_
    refine lv_iload_n hx hb dL_phase_4 rfl (lv_at hl 2 rfl) ?_
    refine wc_i (vx_runV (As := [.int a1, .int a2]) (rest := [.int 0, .ref o]) ⟨hx, hb, hml, hown, hts⟩ (c_X4_phase l hl9 D ca g x a1 a2 hs H.size) (cwV 2 hts gL_phase_X4_phase rfl rfl rfl (by decide +kernel) ⟨Nat.le_of_ble_eq_true rfl, Nat.le_of_ble_eq_true rfl⟩) (tP_V (H0 := H) (q := (RX4, TX4, 16)) (app_l hP) hC (appD_l hD) hz hS hA 0 rfl rfl) rfl rfl hl.1 rfl (lv_room (Nat.le_of_ble_eq_true rfl)) dL_phase_5 ⟨Nat.le_of_ble_eq_true rfl, Nat.le_of_ble_eq_true rfl⟩) hP hD hS hA (fun ce q9 H locs hk3 hP hD hS hce hcv hcl => ?_) (fun H locs h0 hP hD hS => ?_)
    · rcases hk3 with e1 | e1 | e1
      · exact absurd hk (by rw [e1]; decide)
      · rw [e1] at hcl
        refine vx_catch (name := "java/lang/IllegalArgumentException") (E := "java/lang/IllegalArgumentException") hown [] ⟨0, 10, 13, 15⟩ [] (by rw [htab]; rfl) (fun z hz => nomatch hz) (by decide) (by decide) (hts (.classLink RL 15 "java/lang/IllegalArgumentException") (by decide +kernel)) (hC.use (.castable "java/lang/IllegalArgumentException" "java/lang/IllegalArgumentException") (by decide +kernel)) hce hcv hcl ?_
        refine lv_astore (lv' := [(4, .ref q9), (0, .ref (g 0)), (1, .int a1), (2, .int a2), (3, .ref o)]) hx hb dL_phase_13 hl (by decide) rfl (fun ls hl => ?_)
        refine lv_iconst (v := 1) hx hb dL_phase_15 (by decide) ?_
        have hf2 : (wfo r.1 fo r.2.1.toInt64) = fo := by unfold wfo; rw [if_neg (by rw [e1]; decide)]
        rw [hf2]
        exact wl_i (g' := g) rfl hx hb hr hAe (by rw [e1]; rfl) hP hD hS (Nat.le_of_ble_eq_true rfl) (Nat.le_of_ble_eq_true rfl) dL_phase_16 hlocks
      · exact absurd hk (by rw [e1]; decide)
    · refine lv_i2l hx hb dL_phase_8 rfl ?_
      refine va_last (D := D) (cA := ca 2) (n := 1) (f := fo) hx hb hK hP hD hS ((wX g ca r.2.2).length + 0) 2 (la_get (k := 0) rfl) rfl (by unfold vp_in; decide) dL_phase_9 (fun H locs hP hD hS => ?_)
      rw [la_set] at hP hD
      refine lv_goto (tgt := 17) hx hb dL_phase_10 (by decide) ?_
      refine lv_iconst (v := 0) hx hb dL_phase_17 (by decide) ?_
      have hf2 : (wfo r.1 fo r.2.1.toInt64) = vp_updL fo 0 (r.2.1.toInt64) := by unfold wfo; rw [if_pos h0]
      rw [hf2]
      exact wl_i (g' := g) rfl hx hb hr hAe (by rw [h0]; rfl) hP hD hS (Nat.le_of_ble_eq_true rfl) (Nat.le_of_ble_eq_true rfl) dL_phase_18 hlocks
  rw [hHe, hle] at hgo
  exact hgo
set_option maxHeartbeats 4000000 in
set_option maxRecDepth 100000 in
theorem c_L_wind (l : Launch) (hl9 : l.stackTraces = false) (D : va_G) (ca : Nat → ClassId) (g : Nat → Nat) (x : XS) (a1 : Int32) (o : Nat) (fo : Nat → Int64) {r : (Nat × Int32 × XS)} (hs : s_X4_wind x a1 = some r) (hk : r.1 = 0 ∨ r.1 = 2) (sz : Nat) : Met l yL_wind wsL_wind ({ frames := 7, cells := 1, slots := 6, locals := 104 }) (tP [.ref (g 0), .int a1, .ref o] D ca (wX g ca x ++ [oC o ca fo]) sz) (lQi (wk 0 1 0 r.1) D (wX g ca x ++ [oC o ca fo]) g ca r.2.2 [oC o ca (wfo r.1 fo r.2.1.toInt64)] sz) 1 6 (va_A (wX g ca x ++ [oC o ca fo]) sz) := by
  refine va_MetW (cc := cL_wind) (maxL := 4) (ret := (some .int)) (hh := [(0, 9, 12, 15)]) (by decide) rfl ?_
  intro p e s m args below meth c s₁ B hml hv
  obtain ⟨rfl, hsz, hP, hC, hD0, hz⟩ := hv
  have hx := B.exec
  have hb := B.bytes
  have hr := B.returns
  have hts := atoms_spec (ws := wsL_wind) B.pre
  have hown : s.vm.findClass RL = some m.cls := findClass_of_methodNamed B.named
  have hlocks := B.notSynchronized
  have hK := hC.1
  have htab := vx_table (x := yL_wind) B (hts (.codeWith yL_wind cL_wind 4 (some .int) [(0, 9, 12, 15)]) List.mem_cons_self)
  subst hsz
  have hD := hD0.self (sz := s.heap.size)
  generalize hAe : va_A (wX g ca x ++ [oC o ca fo]) s.heap.size = A at hD hz ⊢
  have hA : ∀ q : Nat, s.heap.size ≤ q → A q := fun q h => by rw [← hAe]; exact Or.inr h
  have hS : va_S A s.heap s.heap [] := va_S.rf
  have hl := lv_entry ([.ref (g 0), .int a1, .ref o]) (n := 4) (Nat.le_of_ble_eq_true rfl)
  rw [lg_entry_eq]
  generalize (lg_sl ([.ref (g 0), .int a1, .ref o]) ++ List.replicate (4 - (lg_sl ([.ref (g 0), .int a1, .ref o])).length) Slot.unset).toArray = ls at hl ⊢
  have hl : lv_has ls 4 [(0, .ref (g 0)), (1, .int a1), (2, .ref o)] := hl
  obtain ⟨H, hHe⟩ : ∃ H, H = s.heap := ⟨_, rfl⟩
  obtain ⟨locs, hle⟩ : ∃ z : List Loc, z = [] := ⟨_, rfl⟩
  have hP : va_P D vwCl (wX g ca x ++ [oC o ca fo]) H := by rw [hHe]; exact hP
  have hS : va_S A s.heap H locs := by rw [hHe, hle]; exact hS
  have hgo : W p l e (headSpec wsL_wind ({ frames := 7, cells := 1, slots := 6, locals := 104 })).room s m #[.ref (g 0), .int a1, .ref o] below meth c H locs 0 0 (MQ below (lQi (wk 0 1 0 r.1) D (wX g ca x ++ [oC o ca fo]) g ca r.2.2 [oC o ca (wfo r.1 fo r.2.1.toInt64)] s.heap.size) #[.ref (g 0), .int a1, .ref o] s 1 6 A) (F0 m 0 ls []) := by
    refine lv_aload_n hx hb dL_wind_0 rfl (lv_at hl 2 rfl) ?_
    refine lv_iconst (v := 0) hx hb dL_wind_1 (by decide) ?_
    refine lv_aload_n hx hb dL_wind_2 rfl (lv_at hl 0 rfl) ?_
    refine lv_iload_n hx hb dL_wind_3 rfl (lv_at hl 1 rfl) ?_
    refine wc_i (vx_runV (As := [.int a1]) (rest := [.int 0, .ref o]) ⟨hx, hb, hml, hown, hts⟩ (c_X4_wind l hl9 D ca g x a1 hs H.size) (cwV 1 hts gL_wind_X4_wind rfl rfl rfl (by decide +kernel) ⟨Nat.le_of_ble_eq_true rfl, Nat.le_of_ble_eq_true rfl⟩) (tP_V (H0 := H) (q := (RX4, TX4, 16)) (app_l hP) hC (appD_l hD) hz hS hA 0 rfl rfl) rfl rfl hl.1 rfl (lv_room (Nat.le_of_ble_eq_true rfl)) dL_wind_4 ⟨Nat.le_of_ble_eq_true rfl, Nat.le_of_ble_eq_true rfl⟩) hP hD hS hA (fun ce q9 H locs hk3 hP hD hS hce hcv hcl => ?_) (fun H locs h0 hP hD hS => ?_)
    · rcases hk3 with e1 | e1 | e1
      · exact absurd hk (by rw [e1]; decide)
      · rw [e1] at hcl
        refine vx_catch (name := "java/lang/IllegalArgumentException") (E := "java/lang/IllegalArgumentException") hown [] ⟨0, 9, 12, 15⟩ [] (by rw [htab]; rfl) (fun z hz => nomatch hz) (by decide) (by decide) (hts (.classLink RL 15 "java/lang/IllegalArgumentException") (by decide +kernel)) (hC.use (.castable "java/lang/IllegalArgumentException" "java/lang/IllegalArgumentException") (by decide +kernel)) hce hcv hcl ?_
        refine lv_astore_n (lv' := [(3, .ref q9), (0, .ref (g 0)), (1, .int a1), (2, .ref o)]) hx hb dL_wind_12 rfl hl (by decide) rfl (fun ls hl => ?_)
        refine lv_iconst (v := 1) hx hb dL_wind_13 (by decide) ?_
        have hf2 : (wfo r.1 fo r.2.1.toInt64) = fo := by unfold wfo; rw [if_neg (by rw [e1]; decide)]
        rw [hf2]
        exact wl_i (g' := g) rfl hx hb hr hAe (by rw [e1]; rfl) hP hD hS (Nat.le_of_ble_eq_true rfl) (Nat.le_of_ble_eq_true rfl) dL_wind_14 hlocks
      · exact absurd hk (by rw [e1]; decide)
    · refine lv_i2l hx hb dL_wind_7 rfl ?_
      refine va_last (D := D) (cA := ca 2) (n := 1) (f := fo) hx hb hK hP hD hS ((wX g ca r.2.2).length + 0) 2 (la_get (k := 0) rfl) rfl (by unfold vp_in; decide) dL_wind_8 (fun H locs hP hD hS => ?_)
      rw [la_set] at hP hD
      refine lv_goto (tgt := 15) hx hb dL_wind_9 (by decide) ?_
      refine lv_iconst (v := 0) hx hb dL_wind_15 (by decide) ?_
      have hf2 : (wfo r.1 fo r.2.1.toInt64) = vp_updL fo 0 (r.2.1.toInt64) := by unfold wfo; rw [if_pos h0]
      rw [hf2]
      exact wl_i (g' := g) rfl hx hb hr hAe (by rw [h0]; rfl) hP hD hS (Nat.le_of_ble_eq_true rfl) (Nat.le_of_ble_eq_true rfl) dL_wind_16 hlocks
  rw [hHe, hle] at hgo
  exact hgo
set_option maxHeartbeats 4000000 in
set_option maxRecDepth 100000 in
theorem c_L_through (l : Launch) (hl9 : l.stackTraces = false) (D : va_G) (ca : Nat → ClassId) (g : Nat → Nat) (x : XS) (a1 : Int32) (a2 : Int32) (a3 : Int32) (o : Nat) (fo : Nat → Int64) {r : (Nat × Int32 × XS)} (hs : s_X4_through x a1 a2 a3 = some r) (hk : r.1 = 0 ∨ r.1 = 1) (sz : Nat) : Met l yL_through wsL_through ({ frames := 7, cells := 1, slots := 6, locals := 106 }) (tP [.ref (g 0), .int a1, .int a2, .int a3, .ref o] D ca (wX g ca x ++ [oC o ca fo]) sz) (lQi (wk 1 0 0 r.1) D (wX g ca x ++ [oC o ca fo]) g ca r.2.2 [oC o ca (wfo r.1 fo r.2.1.toInt64)] sz) 1 6 (va_A (wX g ca x ++ [oC o ca fo]) sz) := by
  refine va_MetW (cc := cL_through) (maxL := 6) (ret := (some .int)) (hh := [(0, 12, 15, 13)]) (by decide) rfl ?_
  intro p e s m args below meth c s₁ B hml hv
  obtain ⟨rfl, hsz, hP, hC, hD0, hz⟩ := hv
  have hx := B.exec
  have hb := B.bytes
  have hr := B.returns
  have hts := atoms_spec (ws := wsL_through) B.pre
  have hown : s.vm.findClass RL = some m.cls := findClass_of_methodNamed B.named
  have hlocks := B.notSynchronized
  have hK := hC.1
  have htab := vx_table (x := yL_through) B (hts (.codeWith yL_through cL_through 6 (some .int) [(0, 12, 15, 13)]) List.mem_cons_self)
  subst hsz
  have hD := hD0.self (sz := s.heap.size)
  generalize hAe : va_A (wX g ca x ++ [oC o ca fo]) s.heap.size = A at hD hz ⊢
  have hA : ∀ q : Nat, s.heap.size ≤ q → A q := fun q h => by rw [← hAe]; exact Or.inr h
  have hS : va_S A s.heap s.heap [] := va_S.rf
  have hl := lv_entry ([.ref (g 0), .int a1, .int a2, .int a3, .ref o]) (n := 6) (Nat.le_of_ble_eq_true rfl)
  rw [lg_entry_eq]
  generalize (lg_sl ([.ref (g 0), .int a1, .int a2, .int a3, .ref o]) ++ List.replicate (6 - (lg_sl ([.ref (g 0), .int a1, .int a2, .int a3, .ref o])).length) Slot.unset).toArray = ls at hl ⊢
  have hl : lv_has ls 6 [(0, .ref (g 0)), (1, .int a1), (2, .int a2), (3, .int a3), (4, .ref o)] := hl
  obtain ⟨H, hHe⟩ : ∃ H, H = s.heap := ⟨_, rfl⟩
  obtain ⟨locs, hle⟩ : ∃ z : List Loc, z = [] := ⟨_, rfl⟩
  have hP : va_P D vwCl (wX g ca x ++ [oC o ca fo]) H := by rw [hHe]; exact hP
  have hS : va_S A s.heap H locs := by rw [hHe, hle]; exact hS
  have hgo : W p l e (headSpec wsL_through ({ frames := 7, cells := 1, slots := 6, locals := 106 })).room s m #[.ref (g 0), .int a1, .int a2, .int a3, .ref o] below meth c H locs 0 0 (MQ below (lQi (wk 1 0 0 r.1) D (wX g ca x ++ [oC o ca fo]) g ca r.2.2 [oC o ca (wfo r.1 fo r.2.1.toInt64)] s.heap.size) #[.ref (g 0), .int a1, .int a2, .int a3, .ref o] s 1 6 A) (F0 m 0 ls []) := by
    refine lv_aload hx hb dL_through_0 (lv_at hl 4 rfl) ?_
    refine lv_iconst (v := 0) hx hb dL_through_2 (by decide) ?_
    refine lv_aload_n hx hb dL_through_3 rfl (lv_at hl 0 rfl) ?_
    refine lv_iload_n hx hb dL_through_4 rfl (lv_at hl 1 rfl) ?_
    refine lv_iload_n hx hb dL_through_5 rfl (lv_at hl 2 rfl) ?_
    refine lv_iload_n hx hb dL_through_6 rfl (lv_at hl 3 rfl) ?_
    refine wc_i (vx_runV (As := [.int a1, .int a2, .int a3]) (rest := [.int 0, .ref o]) ⟨hx, hb, hml, hown, hts⟩ (c_X4_through l hl9 D ca g x a1 a2 a3 hs H.size) (cwV 3 hts gL_through_X4_through rfl rfl rfl (by decide +kernel) ⟨Nat.le_of_ble_eq_true rfl, Nat.le_of_ble_eq_true rfl⟩) (tP_V (H0 := H) (q := (RX4, TX4, 16)) (app_l hP) hC (appD_l hD) hz hS hA 0 rfl rfl) rfl rfl hl.1 rfl (lv_room (Nat.le_of_ble_eq_true rfl)) dL_through_7 ⟨Nat.le_of_ble_eq_true rfl, Nat.le_of_ble_eq_true rfl⟩) hP hD hS hA (fun ce q9 H locs hk3 hP hD hS hce hcv hcl => ?_) (fun H locs h0 hP hD hS => ?_)
    · rcases hk3 with e1 | e1 | e1
      · rw [e1] at hcl
        refine vx_catch (name := "java/lang/IndexOutOfBoundsException") (E := "java/lang/IndexOutOfBoundsException") hown [] ⟨0, 12, 15, 13⟩ [] (by rw [htab]; rfl) (fun z hz => nomatch hz) (by decide) (by decide) (hts (.classLink RL 13 "java/lang/IndexOutOfBoundsException") (by decide +kernel)) (hC.use (.castable "java/lang/IndexOutOfBoundsException" "java/lang/IndexOutOfBoundsException") (by decide +kernel)) hce hcv hcl ?_
        refine lv_astore (lv' := [(5, .ref q9), (0, .ref (g 0)), (1, .int a1), (2, .int a2), (3, .int a3), (4, .ref o)]) hx hb dL_through_15 hl (by decide) rfl (fun ls hl => ?_)
        refine lv_iconst (v := 1) hx hb dL_through_17 (by decide) ?_
        have hf2 : (wfo r.1 fo r.2.1.toInt64) = fo := by unfold wfo; rw [if_neg (by rw [e1]; decide)]
        rw [hf2]
        exact wl_i (g' := g) rfl hx hb hr hAe (by rw [e1]; rfl) hP hD hS (Nat.le_of_ble_eq_true rfl) (Nat.le_of_ble_eq_true rfl) dL_through_18 hlocks
      · exact absurd hk (by rw [e1]; decide)
      · exact absurd hk (by rw [e1]; decide)
    · refine lv_i2l hx hb dL_through_10 rfl ?_
      refine va_last (D := D) (cA := ca 2) (n := 1) (f := fo) hx hb hK hP hD hS ((wX g ca r.2.2).length + 0) 2 (la_get (k := 0) rfl) rfl (by unfold vp_in; decide) dL_through_11 (fun H locs hP hD hS => ?_)
      rw [la_set] at hP hD
      refine lv_goto (tgt := 19) hx hb dL_through_12 (by decide) ?_
      refine lv_iconst (v := 0) hx hb dL_through_19 (by decide) ?_
      have hf2 : (wfo r.1 fo r.2.1.toInt64) = vp_updL fo 0 (r.2.1.toInt64) := by unfold wfo; rw [if_pos h0]
      rw [hf2]
      exact wl_i (g' := g) rfl hx hb hr hAe (by rw [h0]; rfl) hP hD hS (Nat.le_of_ble_eq_true rfl) (Nat.le_of_ble_eq_true rfl) dL_through_20 hlocks
  rw [hHe, hle] at hgo
  exact hgo
set_option maxHeartbeats 4000000 in
set_option maxRecDepth 100000 in
theorem c_L_gives (l : Launch) (hl9 : l.stackTraces = false) (D : va_G) (ca : Nat → ClassId) (g : Nat → Nat) (x : XS) (a1 : Int32) (a2 : Int32) (o : Nat) (fo : Nat → Int64) {r : (Nat × Int32 × XS)} (hs : s_X4_gives x a1 a2 = some r) (hk : r.1 = 0 ∨ r.1 = 1) (sz : Nat) : Met l yL_gives wsL_gives ({ frames := 7, cells := 1, slots := 6, locals := 139 }) (tP [.ref (g 0), .int a1, .int a2, .ref o] D ca (wX g ca x ++ [oC o ca fo]) sz) (lQi (wk 1 0 0 r.1) D (wX g ca x ++ [oC o ca fo]) g ca r.2.2 [oC o ca (wfo r.1 fo r.2.1.toInt64)] sz) 1 6 (va_A (wX g ca x ++ [oC o ca fo]) sz) := by
  refine va_MetW (cc := cL_gives) (maxL := 5) (ret := (some .int)) (hh := [(0, 10, 13, 13)]) (by decide) rfl ?_
  intro p e s m args below meth c s₁ B hml hv
  obtain ⟨rfl, hsz, hP, hC, hD0, hz⟩ := hv
  have hx := B.exec
  have hb := B.bytes
  have hr := B.returns
  have hts := atoms_spec (ws := wsL_gives) B.pre
  have hown : s.vm.findClass RL = some m.cls := findClass_of_methodNamed B.named
  have hlocks := B.notSynchronized
  have hK := hC.1
  have htab := vx_table (x := yL_gives) B (hts (.codeWith yL_gives cL_gives 5 (some .int) [(0, 10, 13, 13)]) List.mem_cons_self)
  subst hsz
  have hD := hD0.self (sz := s.heap.size)
  generalize hAe : va_A (wX g ca x ++ [oC o ca fo]) s.heap.size = A at hD hz ⊢
  have hA : ∀ q : Nat, s.heap.size ≤ q → A q := fun q h => by rw [← hAe]; exact Or.inr h
  have hS : va_S A s.heap s.heap [] := va_S.rf
  have hl := lv_entry ([.ref (g 0), .int a1, .int a2, .ref o]) (n := 5) (Nat.le_of_ble_eq_true rfl)
  rw [lg_entry_eq]
  generalize (lg_sl ([.ref (g 0), .int a1, .int a2, .ref o]) ++ List.replicate (5 - (lg_sl ([.ref (g 0), .int a1, .int a2, .ref o])).length) Slot.unset).toArray = ls at hl ⊢
  have hl : lv_has ls 5 [(0, .ref (g 0)), (1, .int a1), (2, .int a2), (3, .ref o)] := hl
  obtain ⟨H, hHe⟩ : ∃ H, H = s.heap := ⟨_, rfl⟩
  obtain ⟨locs, hle⟩ : ∃ z : List Loc, z = [] := ⟨_, rfl⟩
  have hP : va_P D vwCl (wX g ca x ++ [oC o ca fo]) H := by rw [hHe]; exact hP
  have hS : va_S A s.heap H locs := by rw [hHe, hle]; exact hS
  have hgo : W p l e (headSpec wsL_gives ({ frames := 7, cells := 1, slots := 6, locals := 139 })).room s m #[.ref (g 0), .int a1, .int a2, .ref o] below meth c H locs 0 0 (MQ below (lQi (wk 1 0 0 r.1) D (wX g ca x ++ [oC o ca fo]) g ca r.2.2 [oC o ca (wfo r.1 fo r.2.1.toInt64)] s.heap.size) #[.ref (g 0), .int a1, .int a2, .ref o] s 1 6 A) (F0 m 0 ls []) := by
    refine lv_aload_n hx hb dL_gives_0 rfl (lv_at hl 3 rfl) ?_
    refine lv_iconst (v := 0) hx hb dL_gives_1 (by decide) ?_
    refine lv_aload_n hx hb dL_gives_2 rfl (lv_at hl 0 rfl) ?_
    refine lv_iload_n hx hb dL_gives_3 rfl (lv_at hl 1 rfl) ?_
    refine lv_iload_n hx hb dL_gives_4 rfl (lv_at hl 2 rfl) ?_
    refine wc_i (vx_runV (As := [.int a1, .int a2]) (rest := [.int 0, .ref o]) ⟨hx, hb, hml, hown, hts⟩ (c_X4_gives l hl9 D ca g x a1 a2 hs H.size) (cwV 2 hts gL_gives_X4_gives rfl rfl rfl (by decide +kernel) ⟨Nat.le_of_ble_eq_true rfl, Nat.le_of_ble_eq_true rfl⟩) (tP_V (H0 := H) (q := (RX4, TX4, 16)) (app_l hP) hC (appD_l hD) hz hS hA 0 rfl rfl) rfl rfl hl.1 rfl (lv_room (Nat.le_of_ble_eq_true rfl)) dL_gives_5 ⟨Nat.le_of_ble_eq_true rfl, Nat.le_of_ble_eq_true rfl⟩) hP hD hS hA (fun ce q9 H locs hk3 hP hD hS hce hcv hcl => ?_) (fun H locs h0 hP hD hS => ?_)
    · rcases hk3 with e1 | e1 | e1
      · rw [e1] at hcl
        refine vx_catch (name := "java/lang/IndexOutOfBoundsException") (E := "java/lang/IndexOutOfBoundsException") hown [] ⟨0, 10, 13, 13⟩ [] (by rw [htab]; rfl) (fun z hz => nomatch hz) (by decide) (by decide) (hts (.classLink RL 13 "java/lang/IndexOutOfBoundsException") (by decide +kernel)) (hC.use (.castable "java/lang/IndexOutOfBoundsException" "java/lang/IndexOutOfBoundsException") (by decide +kernel)) hce hcv hcl ?_
        refine lv_astore (lv' := [(4, .ref q9), (0, .ref (g 0)), (1, .int a1), (2, .int a2), (3, .ref o)]) hx hb dL_gives_13 hl (by decide) rfl (fun ls hl => ?_)
        refine lv_iconst (v := 1) hx hb dL_gives_15 (by decide) ?_
        have hf2 : (wfo r.1 fo r.2.1.toInt64) = fo := by unfold wfo; rw [if_neg (by rw [e1]; decide)]
        rw [hf2]
        exact wl_i (g' := g) rfl hx hb hr hAe (by rw [e1]; rfl) hP hD hS (Nat.le_of_ble_eq_true rfl) (Nat.le_of_ble_eq_true rfl) dL_gives_16 hlocks
      · exact absurd hk (by rw [e1]; decide)
      · exact absurd hk (by rw [e1]; decide)
    · refine lv_i2l hx hb dL_gives_8 rfl ?_
      refine va_last (D := D) (cA := ca 2) (n := 1) (f := fo) hx hb hK hP hD hS ((wX g ca r.2.2).length + 0) 2 (la_get (k := 0) rfl) rfl (by unfold vp_in; decide) dL_gives_9 (fun H locs hP hD hS => ?_)
      rw [la_set] at hP hD
      refine lv_goto (tgt := 17) hx hb dL_gives_10 (by decide) ?_
      refine lv_iconst (v := 0) hx hb dL_gives_17 (by decide) ?_
      have hf2 : (wfo r.1 fo r.2.1.toInt64) = vp_updL fo 0 (r.2.1.toInt64) := by unfold wfo; rw [if_pos h0]
      rw [hf2]
      exact wl_i (g' := g) rfl hx hb hr hAe (by rw [h0]; rfl) hP hD hS (Nat.le_of_ble_eq_true rfl) (Nat.le_of_ble_eq_true rfl) dL_gives_18 hlocks
  rw [hHe, hle] at hgo
  exact hgo
set_option maxHeartbeats 4000000 in
set_option maxRecDepth 100000 in
theorem c_L_isSharp (l : Launch) (hl9 : l.stackTraces = false) (D : va_G) (ca : Nat → ClassId) (g : Nat → Nat) (x : XS) (a1 : Int32) (a2 : Int32) (o : Nat) (fo : Nat → Int64) {r : (Nat × Int32 × XS)} (hs : s_X4_isSharp x a1 a2 = some r) (hk : r.1 = 0 ∨ r.1 = 1) (sz : Nat) : Met l yL_isSharp wsL_isSharp ({ frames := 7, cells := 1, slots := 6, locals := 105 }) (tP [.ref (g 0), .int a1, .int a2, .ref o] D ca (wX g ca x ++ [oC o ca fo]) sz) (lQi (wk 1 0 0 r.1) D (wX g ca x ++ [oC o ca fo]) g ca r.2.2 [oC o ca (wfo r.1 fo (if r.2.1 = 0 then 0 else 1))] sz) 1 6 (va_A (wX g ca x ++ [oC o ca fo]) sz) := by
  refine va_MetW (cc := cL_isSharp) (maxL := 5) (ret := (some .int)) (hh := [(0, 17, 20, 13)]) (by decide) rfl ?_
  intro p e s m args below meth c s₁ B hml hv
  obtain ⟨rfl, hsz, hP, hC, hD0, hz⟩ := hv
  have hx := B.exec
  have hb := B.bytes
  have hr := B.returns
  have hts := atoms_spec (ws := wsL_isSharp) B.pre
  have hown : s.vm.findClass RL = some m.cls := findClass_of_methodNamed B.named
  have hlocks := B.notSynchronized
  have hK := hC.1
  have htab := vx_table (x := yL_isSharp) B (hts (.codeWith yL_isSharp cL_isSharp 5 (some .int) [(0, 17, 20, 13)]) List.mem_cons_self)
  subst hsz
  have hD := hD0.self (sz := s.heap.size)
  generalize hAe : va_A (wX g ca x ++ [oC o ca fo]) s.heap.size = A at hD hz ⊢
  have hA : ∀ q : Nat, s.heap.size ≤ q → A q := fun q h => by rw [← hAe]; exact Or.inr h
  have hS : va_S A s.heap s.heap [] := va_S.rf
  have hl := lv_entry ([.ref (g 0), .int a1, .int a2, .ref o]) (n := 5) (Nat.le_of_ble_eq_true rfl)
  rw [lg_entry_eq]
  generalize (lg_sl ([.ref (g 0), .int a1, .int a2, .ref o]) ++ List.replicate (5 - (lg_sl ([.ref (g 0), .int a1, .int a2, .ref o])).length) Slot.unset).toArray = ls at hl ⊢
  have hl : lv_has ls 5 [(0, .ref (g 0)), (1, .int a1), (2, .int a2), (3, .ref o)] := hl
  obtain ⟨H, hHe⟩ : ∃ H, H = s.heap := ⟨_, rfl⟩
  obtain ⟨locs, hle⟩ : ∃ z : List Loc, z = [] := ⟨_, rfl⟩
  have hP : va_P D vwCl (wX g ca x ++ [oC o ca fo]) H := by rw [hHe]; exact hP
  have hS : va_S A s.heap H locs := by rw [hHe, hle]; exact hS
  have hgo : W p l e (headSpec wsL_isSharp ({ frames := 7, cells := 1, slots := 6, locals := 105 })).room s m #[.ref (g 0), .int a1, .int a2, .ref o] below meth c H locs 0 0 (MQ below (lQi (wk 1 0 0 r.1) D (wX g ca x ++ [oC o ca fo]) g ca r.2.2 [oC o ca (wfo r.1 fo (if r.2.1 = 0 then 0 else 1))] s.heap.size) #[.ref (g 0), .int a1, .int a2, .ref o] s 1 6 A) (F0 m 0 ls []) := by
    refine lv_aload_n hx hb dL_isSharp_0 rfl (lv_at hl 3 rfl) ?_
    refine lv_iconst (v := 0) hx hb dL_isSharp_1 (by decide) ?_
    refine lv_aload_n hx hb dL_isSharp_2 rfl (lv_at hl 0 rfl) ?_
    refine lv_iload_n hx hb dL_isSharp_3 rfl (lv_at hl 1 rfl) ?_
    refine lv_iload_n hx hb dL_isSharp_4 rfl (lv_at hl 2 rfl) ?_
    refine wc_i (vx_runV (As := [.int a1, .int a2]) (rest := [.int 0, .ref o]) ⟨hx, hb, hml, hown, hts⟩ (c_X4_isSharp l hl9 D ca g x a1 a2 hs H.size) (cwV 2 hts gL_isSharp_X4_isSharp rfl rfl rfl (by decide +kernel) ⟨Nat.le_of_ble_eq_true rfl, Nat.le_of_ble_eq_true rfl⟩) (tP_V (H0 := H) (q := (RX4, TX4, 16)) (app_l hP) hC (appD_l hD) hz hS hA 0 rfl rfl) rfl rfl hl.1 rfl (lv_room (Nat.le_of_ble_eq_true rfl)) dL_isSharp_5 ⟨Nat.le_of_ble_eq_true rfl, Nat.le_of_ble_eq_true rfl⟩) hP hD hS hA (fun ce q9 H locs hk3 hP hD hS hce hcv hcl => ?_) (fun H locs h0 hP hD hS => ?_)
    · rcases hk3 with e1 | e1 | e1
      · rw [e1] at hcl
        refine vx_catch (name := "java/lang/IndexOutOfBoundsException") (E := "java/lang/IndexOutOfBoundsException") hown [] ⟨0, 17, 20, 13⟩ [] (by rw [htab]; rfl) (fun z hz => nomatch hz) (by decide) (by decide) (hts (.classLink RL 13 "java/lang/IndexOutOfBoundsException") (by decide +kernel)) (hC.use (.castable "java/lang/IndexOutOfBoundsException" "java/lang/IndexOutOfBoundsException") (by decide +kernel)) hce hcv hcl ?_
        refine lv_astore (lv' := [(4, .ref q9), (0, .ref (g 0)), (1, .int a1), (2, .int a2), (3, .ref o)]) hx hb dL_isSharp_20 hl (by decide) rfl (fun ls hl => ?_)
        refine lv_iconst (v := 1) hx hb dL_isSharp_22 (by decide) ?_
        have hf2 : (wfo r.1 fo (if r.2.1 = 0 then 0 else 1)) = fo := by unfold wfo; rw [if_neg (by rw [e1]; decide)]
        rw [hf2]
        exact wl_i (g' := g) rfl hx hb hr hAe (by rw [e1]; rfl) hP hD hS (Nat.le_of_ble_eq_true rfl) (Nat.le_of_ble_eq_true rfl) dL_isSharp_23 hlocks
      · exact absurd hk (by rw [e1]; decide)
      · exact absurd hk (by rw [e1]; decide)
    · refine lv_if_eq (tgt := 15) hx hb dL_isSharp_8 (by decide) (fun c9 => ?_) (fun c9 => ?_)
      · refine lv_lconst (v := 0) hx hb dL_isSharp_15 (by decide) ?_
        have h9 : (if r.2.1 = 0 then (0 : Int64) else 1) = 0 := if_pos c9
        rw [h9]
        refine va_last (D := D) (cA := ca 2) (n := 1) (f := fo) hx hb hK hP hD hS ((wX g ca r.2.2).length + 0) 2 (la_get (k := 0) rfl) rfl (by unfold vp_in; decide) dL_isSharp_16 (fun H locs hP hD hS => ?_)
        rw [la_set] at hP hD
        refine lv_goto (tgt := 24) hx hb dL_isSharp_17 (by decide) ?_
        refine lv_iconst (v := 0) hx hb dL_isSharp_24 (by decide) ?_
        have hf2 : (wfo r.1 fo 0) = vp_updL fo 0 (0) := by unfold wfo; rw [if_pos h0]
        rw [hf2]
        exact wl_i (g' := g) rfl hx hb hr hAe (by rw [h0]; rfl) hP hD hS (Nat.le_of_ble_eq_true rfl) (Nat.le_of_ble_eq_true rfl) dL_isSharp_25 hlocks
      · refine lv_lconst (v := 1) hx hb dL_isSharp_11 (by decide) ?_
        have h9 : (if r.2.1 = 0 then (0 : Int64) else 1) = 1 := if_neg c9
        rw [h9]
        refine lv_goto (tgt := 16) hx hb dL_isSharp_12 (by decide) ?_
        refine va_last (D := D) (cA := ca 2) (n := 1) (f := fo) hx hb hK hP hD hS ((wX g ca r.2.2).length + 0) 2 (la_get (k := 0) rfl) rfl (by unfold vp_in; decide) dL_isSharp_16 (fun H locs hP hD hS => ?_)
        rw [la_set] at hP hD
        refine lv_goto (tgt := 24) hx hb dL_isSharp_17 (by decide) ?_
        refine lv_iconst (v := 0) hx hb dL_isSharp_24 (by decide) ?_
        have hf2 : (wfo r.1 fo 1) = vp_updL fo 0 (1) := by unfold wfo; rw [if_pos h0]
        rw [hf2]
        exact wl_i (g' := g) rfl hx hb hr hAe (by rw [h0]; rfl) hP hD hS (Nat.le_of_ble_eq_true rfl) (Nat.le_of_ble_eq_true rfl) dL_isSharp_25 hlocks
  rw [hHe, hle] at hgo
  exact hgo
set_option maxHeartbeats 4000000 in
set_option maxRecDepth 100000 in
theorem c_L_light (l : Launch) (hl9 : l.stackTraces = false) (D : va_G) (ca : Nat → ClassId) (g : Nat → Nat) (x : XS) (a1 : Int32) (o : Nat) (fo : Nat → Int64) {r : (Nat × Int32 × XS)} (hs : s_X4_light x a1 = some r) (hk : r.1 = 0 ∨ r.1 = 1) (sz : Nat) : Met l yL_light wsL_light ({ frames := 7, cells := 1, slots := 6, locals := 161 }) (tP [.ref (g 0), .int a1, .ref o] D ca (wX g ca x ++ [oC o ca fo]) sz) (lQi (wk 1 0 0 r.1) D (wX g ca x ++ [oC o ca fo]) g ca r.2.2 [oC o ca (wfo r.1 fo r.2.1.toInt64)] sz) 1 6 (va_A (wX g ca x ++ [oC o ca fo]) sz) := by
  refine va_MetW (cc := cL_light) (maxL := 4) (ret := (some .int)) (hh := [(0, 9, 12, 13)]) (by decide) rfl ?_
  intro p e s m args below meth c s₁ B hml hv
  obtain ⟨rfl, hsz, hP, hC, hD0, hz⟩ := hv
  have hx := B.exec
  have hb := B.bytes
  have hr := B.returns
  have hts := atoms_spec (ws := wsL_light) B.pre
  have hown : s.vm.findClass RL = some m.cls := findClass_of_methodNamed B.named
  have hlocks := B.notSynchronized
  have hK := hC.1
  have htab := vx_table (x := yL_light) B (hts (.codeWith yL_light cL_light 4 (some .int) [(0, 9, 12, 13)]) List.mem_cons_self)
  subst hsz
  have hD := hD0.self (sz := s.heap.size)
  generalize hAe : va_A (wX g ca x ++ [oC o ca fo]) s.heap.size = A at hD hz ⊢
  have hA : ∀ q : Nat, s.heap.size ≤ q → A q := fun q h => by rw [← hAe]; exact Or.inr h
  have hS : va_S A s.heap s.heap [] := va_S.rf
  have hl := lv_entry ([.ref (g 0), .int a1, .ref o]) (n := 4) (Nat.le_of_ble_eq_true rfl)
  rw [lg_entry_eq]
  generalize (lg_sl ([.ref (g 0), .int a1, .ref o]) ++ List.replicate (4 - (lg_sl ([.ref (g 0), .int a1, .ref o])).length) Slot.unset).toArray = ls at hl ⊢
  have hl : lv_has ls 4 [(0, .ref (g 0)), (1, .int a1), (2, .ref o)] := hl
  obtain ⟨H, hHe⟩ : ∃ H, H = s.heap := ⟨_, rfl⟩
  obtain ⟨locs, hle⟩ : ∃ z : List Loc, z = [] := ⟨_, rfl⟩
  have hP : va_P D vwCl (wX g ca x ++ [oC o ca fo]) H := by rw [hHe]; exact hP
  have hS : va_S A s.heap H locs := by rw [hHe, hle]; exact hS
  have hgo : W p l e (headSpec wsL_light ({ frames := 7, cells := 1, slots := 6, locals := 161 })).room s m #[.ref (g 0), .int a1, .ref o] below meth c H locs 0 0 (MQ below (lQi (wk 1 0 0 r.1) D (wX g ca x ++ [oC o ca fo]) g ca r.2.2 [oC o ca (wfo r.1 fo r.2.1.toInt64)] s.heap.size) #[.ref (g 0), .int a1, .ref o] s 1 6 A) (F0 m 0 ls []) := by
    refine lv_aload_n hx hb dL_light_0 rfl (lv_at hl 2 rfl) ?_
    refine lv_iconst (v := 0) hx hb dL_light_1 (by decide) ?_
    refine lv_aload_n hx hb dL_light_2 rfl (lv_at hl 0 rfl) ?_
    refine lv_iload_n hx hb dL_light_3 rfl (lv_at hl 1 rfl) ?_
    refine wc_i (vx_runV (As := [.int a1]) (rest := [.int 0, .ref o]) ⟨hx, hb, hml, hown, hts⟩ (c_X4_light l hl9 D ca g x a1 hs H.size) (cwV 1 hts gL_light_X4_light rfl rfl rfl (by decide +kernel) ⟨Nat.le_of_ble_eq_true rfl, Nat.le_of_ble_eq_true rfl⟩) (tP_V (H0 := H) (q := (RX4, TX4, 16)) (app_l hP) hC (appD_l hD) hz hS hA 0 rfl rfl) rfl rfl hl.1 rfl (lv_room (Nat.le_of_ble_eq_true rfl)) dL_light_4 ⟨Nat.le_of_ble_eq_true rfl, Nat.le_of_ble_eq_true rfl⟩) hP hD hS hA (fun ce q9 H locs hk3 hP hD hS hce hcv hcl => ?_) (fun H locs h0 hP hD hS => ?_)
    · rcases hk3 with e1 | e1 | e1
      · rw [e1] at hcl
        refine vx_catch (name := "java/lang/IndexOutOfBoundsException") (E := "java/lang/IndexOutOfBoundsException") hown [] ⟨0, 9, 12, 13⟩ [] (by rw [htab]; rfl) (fun z hz => nomatch hz) (by decide) (by decide) (hts (.classLink RL 13 "java/lang/IndexOutOfBoundsException") (by decide +kernel)) (hC.use (.castable "java/lang/IndexOutOfBoundsException" "java/lang/IndexOutOfBoundsException") (by decide +kernel)) hce hcv hcl ?_
        refine lv_astore_n (lv' := [(3, .ref q9), (0, .ref (g 0)), (1, .int a1), (2, .ref o)]) hx hb dL_light_12 rfl hl (by decide) rfl (fun ls hl => ?_)
        refine lv_iconst (v := 1) hx hb dL_light_13 (by decide) ?_
        have hf2 : (wfo r.1 fo r.2.1.toInt64) = fo := by unfold wfo; rw [if_neg (by rw [e1]; decide)]
        rw [hf2]
        exact wl_i (g' := g) rfl hx hb hr hAe (by rw [e1]; rfl) hP hD hS (Nat.le_of_ble_eq_true rfl) (Nat.le_of_ble_eq_true rfl) dL_light_14 hlocks
      · exact absurd hk (by rw [e1]; decide)
      · exact absurd hk (by rw [e1]; decide)
    · refine lv_i2l hx hb dL_light_7 rfl ?_
      refine va_last (D := D) (cA := ca 2) (n := 1) (f := fo) hx hb hK hP hD hS ((wX g ca r.2.2).length + 0) 2 (la_get (k := 0) rfl) rfl (by unfold vp_in; decide) dL_light_8 (fun H locs hP hD hS => ?_)
      rw [la_set] at hP hD
      refine lv_goto (tgt := 15) hx hb dL_light_9 (by decide) ?_
      refine lv_iconst (v := 0) hx hb dL_light_15 (by decide) ?_
      have hf2 : (wfo r.1 fo r.2.1.toInt64) = vp_updL fo 0 (r.2.1.toInt64) := by unfold wfo; rw [if_pos h0]
      rw [hf2]
      exact wl_i (g' := g) rfl hx hb hr hAe (by rw [h0]; rfl) hP hD hS (Nat.le_of_ble_eq_true rfl) (Nat.le_of_ble_eq_true rfl) dL_light_16 hlocks
  rw [hHe, hle] at hgo
  exact hgo
set_option maxHeartbeats 4000000 in
set_option maxRecDepth 100000 in
theorem c_L_blended (l : Launch) (hl9 : l.stackTraces = false) (D : va_G) (ca : Nat → ClassId) (g : Nat → Nat) (x : XS) (a1 : Int32) (a2 : Int32) (o : Nat) (fo : Nat → Int64) {r : (Nat × Int32 × XS)} (hs : s_X4_blended x a1 a2 = some r) (hk : r.1 = 0 ∨ r.1 = 1) (sz : Nat) : Met l yL_blended wsL_blended ({ frames := 7, cells := 1, slots := 6, locals := 165 }) (tP [.ref (g 0), .int a1, .int a2, .ref o] D ca (wX g ca x ++ [oC o ca fo]) sz) (lQi (wk 1 0 0 r.1) D (wX g ca x ++ [oC o ca fo]) g ca r.2.2 [oC o ca (wfo r.1 fo r.2.1.toInt64)] sz) 1 6 (va_A (wX g ca x ++ [oC o ca fo]) sz) := by
  refine va_MetW (cc := cL_blended) (maxL := 5) (ret := (some .int)) (hh := [(0, 10, 13, 13)]) (by decide) rfl ?_
  intro p e s m args below meth c s₁ B hml hv
  obtain ⟨rfl, hsz, hP, hC, hD0, hz⟩ := hv
  have hx := B.exec
  have hb := B.bytes
  have hr := B.returns
  have hts := atoms_spec (ws := wsL_blended) B.pre
  have hown : s.vm.findClass RL = some m.cls := findClass_of_methodNamed B.named
  have hlocks := B.notSynchronized
  have hK := hC.1
  have htab := vx_table (x := yL_blended) B (hts (.codeWith yL_blended cL_blended 5 (some .int) [(0, 10, 13, 13)]) List.mem_cons_self)
  subst hsz
  have hD := hD0.self (sz := s.heap.size)
  generalize hAe : va_A (wX g ca x ++ [oC o ca fo]) s.heap.size = A at hD hz ⊢
  have hA : ∀ q : Nat, s.heap.size ≤ q → A q := fun q h => by rw [← hAe]; exact Or.inr h
  have hS : va_S A s.heap s.heap [] := va_S.rf
  have hl := lv_entry ([.ref (g 0), .int a1, .int a2, .ref o]) (n := 5) (Nat.le_of_ble_eq_true rfl)
  rw [lg_entry_eq]
  generalize (lg_sl ([.ref (g 0), .int a1, .int a2, .ref o]) ++ List.replicate (5 - (lg_sl ([.ref (g 0), .int a1, .int a2, .ref o])).length) Slot.unset).toArray = ls at hl ⊢
  have hl : lv_has ls 5 [(0, .ref (g 0)), (1, .int a1), (2, .int a2), (3, .ref o)] := hl
  obtain ⟨H, hHe⟩ : ∃ H, H = s.heap := ⟨_, rfl⟩
  obtain ⟨locs, hle⟩ : ∃ z : List Loc, z = [] := ⟨_, rfl⟩
  have hP : va_P D vwCl (wX g ca x ++ [oC o ca fo]) H := by rw [hHe]; exact hP
  have hS : va_S A s.heap H locs := by rw [hHe, hle]; exact hS
  have hgo : W p l e (headSpec wsL_blended ({ frames := 7, cells := 1, slots := 6, locals := 165 })).room s m #[.ref (g 0), .int a1, .int a2, .ref o] below meth c H locs 0 0 (MQ below (lQi (wk 1 0 0 r.1) D (wX g ca x ++ [oC o ca fo]) g ca r.2.2 [oC o ca (wfo r.1 fo r.2.1.toInt64)] s.heap.size) #[.ref (g 0), .int a1, .int a2, .ref o] s 1 6 A) (F0 m 0 ls []) := by
    refine lv_aload_n hx hb dL_blended_0 rfl (lv_at hl 3 rfl) ?_
    refine lv_iconst (v := 0) hx hb dL_blended_1 (by decide) ?_
    refine lv_aload_n hx hb dL_blended_2 rfl (lv_at hl 0 rfl) ?_
    refine lv_iload_n hx hb dL_blended_3 rfl (lv_at hl 1 rfl) ?_
    refine lv_iload_n hx hb dL_blended_4 rfl (lv_at hl 2 rfl) ?_
    refine wc_i (vx_runV (As := [.int a1, .int a2]) (rest := [.int 0, .ref o]) ⟨hx, hb, hml, hown, hts⟩ (c_X4_blended l hl9 D ca g x a1 a2 hs H.size) (cwV 2 hts gL_blended_X4_blended rfl rfl rfl (by decide +kernel) ⟨Nat.le_of_ble_eq_true rfl, Nat.le_of_ble_eq_true rfl⟩) (tP_V (H0 := H) (q := (RX4, TX4, 16)) (app_l hP) hC (appD_l hD) hz hS hA 0 rfl rfl) rfl rfl hl.1 rfl (lv_room (Nat.le_of_ble_eq_true rfl)) dL_blended_5 ⟨Nat.le_of_ble_eq_true rfl, Nat.le_of_ble_eq_true rfl⟩) hP hD hS hA (fun ce q9 H locs hk3 hP hD hS hce hcv hcl => ?_) (fun H locs h0 hP hD hS => ?_)
    · rcases hk3 with e1 | e1 | e1
      · rw [e1] at hcl
        refine vx_catch (name := "java/lang/IndexOutOfBoundsException") (E := "java/lang/IndexOutOfBoundsException") hown [] ⟨0, 10, 13, 13⟩ [] (by rw [htab]; rfl) (fun z hz => nomatch hz) (by decide) (by decide) (hts (.classLink RL 13 "java/lang/IndexOutOfBoundsException") (by decide +kernel)) (hC.use (.castable "java/lang/IndexOutOfBoundsException" "java/lang/IndexOutOfBoundsException") (by decide +kernel)) hce hcv hcl ?_
        refine lv_astore (lv' := [(4, .ref q9), (0, .ref (g 0)), (1, .int a1), (2, .int a2), (3, .ref o)]) hx hb dL_blended_13 hl (by decide) rfl (fun ls hl => ?_)
        refine lv_iconst (v := 1) hx hb dL_blended_15 (by decide) ?_
        have hf2 : (wfo r.1 fo r.2.1.toInt64) = fo := by unfold wfo; rw [if_neg (by rw [e1]; decide)]
        rw [hf2]
        exact wl_i (g' := g) rfl hx hb hr hAe (by rw [e1]; rfl) hP hD hS (Nat.le_of_ble_eq_true rfl) (Nat.le_of_ble_eq_true rfl) dL_blended_16 hlocks
      · exact absurd hk (by rw [e1]; decide)
      · exact absurd hk (by rw [e1]; decide)
    · refine lv_i2l hx hb dL_blended_8 rfl ?_
      refine va_last (D := D) (cA := ca 2) (n := 1) (f := fo) hx hb hK hP hD hS ((wX g ca r.2.2).length + 0) 2 (la_get (k := 0) rfl) rfl (by unfold vp_in; decide) dL_blended_9 (fun H locs hP hD hS => ?_)
      rw [la_set] at hP hD
      refine lv_goto (tgt := 17) hx hb dL_blended_10 (by decide) ?_
      refine lv_iconst (v := 0) hx hb dL_blended_17 (by decide) ?_
      have hf2 : (wfo r.1 fo r.2.1.toInt64) = vp_updL fo 0 (r.2.1.toInt64) := by unfold wfo; rw [if_pos h0]
      rw [hf2]
      exact wl_i (g' := g) rfl hx hb hr hAe (by rw [h0]; rfl) hP hD hS (Nat.le_of_ble_eq_true rfl) (Nat.le_of_ble_eq_true rfl) dL_blended_18 hlocks
  rw [hHe, hle] at hgo
  exact hgo
set_option maxHeartbeats 4000000 in
set_option maxRecDepth 100000 in
theorem c_L_covered (l : Launch) (hl9 : l.stackTraces = false) (D : va_G) (ca : Nat → ClassId) (g : Nat → Nat) (x : XS) (a1 : Int32) (o : Nat) (fo : Nat → Int64) {r : (Nat × Int32 × XS)} (hs : s_X4_covered x a1 = some r) (hk : r.1 = 0 ∨ r.1 = 2) (sz : Nat) : Met l yL_covered wsL_covered ({ frames := 7, cells := 1, slots := 6, locals := 162 }) (tP [.ref (g 0), .int a1, .ref o] D ca (wX g ca x ++ [oC o ca fo]) sz) (lQi (wk 0 1 0 r.1) D (wX g ca x ++ [oC o ca fo]) g ca r.2.2 [oC o ca (wfo r.1 fo r.2.1.toInt64)] sz) 1 6 (va_A (wX g ca x ++ [oC o ca fo]) sz) := by
  refine va_MetW (cc := cL_covered) (maxL := 4) (ret := (some .int)) (hh := [(0, 9, 12, 15)]) (by decide) rfl ?_
  intro p e s m args below meth c s₁ B hml hv
  obtain ⟨rfl, hsz, hP, hC, hD0, hz⟩ := hv
  have hx := B.exec
  have hb := B.bytes
  have hr := B.returns
  have hts := atoms_spec (ws := wsL_covered) B.pre
  have hown : s.vm.findClass RL = some m.cls := findClass_of_methodNamed B.named
  have hlocks := B.notSynchronized
  have hK := hC.1
  have htab := vx_table (x := yL_covered) B (hts (.codeWith yL_covered cL_covered 4 (some .int) [(0, 9, 12, 15)]) List.mem_cons_self)
  subst hsz
  have hD := hD0.self (sz := s.heap.size)
  generalize hAe : va_A (wX g ca x ++ [oC o ca fo]) s.heap.size = A at hD hz ⊢
  have hA : ∀ q : Nat, s.heap.size ≤ q → A q := fun q h => by rw [← hAe]; exact Or.inr h
  have hS : va_S A s.heap s.heap [] := va_S.rf
  have hl := lv_entry ([.ref (g 0), .int a1, .ref o]) (n := 4) (Nat.le_of_ble_eq_true rfl)
  rw [lg_entry_eq]
  generalize (lg_sl ([.ref (g 0), .int a1, .ref o]) ++ List.replicate (4 - (lg_sl ([.ref (g 0), .int a1, .ref o])).length) Slot.unset).toArray = ls at hl ⊢
  have hl : lv_has ls 4 [(0, .ref (g 0)), (1, .int a1), (2, .ref o)] := hl
  obtain ⟨H, hHe⟩ : ∃ H, H = s.heap := ⟨_, rfl⟩
  obtain ⟨locs, hle⟩ : ∃ z : List Loc, z = [] := ⟨_, rfl⟩
  have hP : va_P D vwCl (wX g ca x ++ [oC o ca fo]) H := by rw [hHe]; exact hP
  have hS : va_S A s.heap H locs := by rw [hHe, hle]; exact hS
  have hgo : W p l e (headSpec wsL_covered ({ frames := 7, cells := 1, slots := 6, locals := 162 })).room s m #[.ref (g 0), .int a1, .ref o] below meth c H locs 0 0 (MQ below (lQi (wk 0 1 0 r.1) D (wX g ca x ++ [oC o ca fo]) g ca r.2.2 [oC o ca (wfo r.1 fo r.2.1.toInt64)] s.heap.size) #[.ref (g 0), .int a1, .ref o] s 1 6 A) (F0 m 0 ls []) := by
    refine lv_aload_n hx hb dL_covered_0 rfl (lv_at hl 2 rfl) ?_
    refine lv_iconst (v := 0) hx hb dL_covered_1 (by decide) ?_
    refine lv_aload_n hx hb dL_covered_2 rfl (lv_at hl 0 rfl) ?_
    refine lv_iload_n hx hb dL_covered_3 rfl (lv_at hl 1 rfl) ?_
    refine wc_i (vx_runV (As := [.int a1]) (rest := [.int 0, .ref o]) ⟨hx, hb, hml, hown, hts⟩ (c_X4_covered l hl9 D ca g x a1 hs H.size) (cwV 1 hts gL_covered_X4_covered rfl rfl rfl (by decide +kernel) ⟨Nat.le_of_ble_eq_true rfl, Nat.le_of_ble_eq_true rfl⟩) (tP_V (H0 := H) (q := (RX4, TX4, 16)) (app_l hP) hC (appD_l hD) hz hS hA 0 rfl rfl) rfl rfl hl.1 rfl (lv_room (Nat.le_of_ble_eq_true rfl)) dL_covered_4 ⟨Nat.le_of_ble_eq_true rfl, Nat.le_of_ble_eq_true rfl⟩) hP hD hS hA (fun ce q9 H locs hk3 hP hD hS hce hcv hcl => ?_) (fun H locs h0 hP hD hS => ?_)
    · rcases hk3 with e1 | e1 | e1
      · exact absurd hk (by rw [e1]; decide)
      · rw [e1] at hcl
        refine vx_catch (name := "java/lang/IllegalArgumentException") (E := "java/lang/IllegalArgumentException") hown [] ⟨0, 9, 12, 15⟩ [] (by rw [htab]; rfl) (fun z hz => nomatch hz) (by decide) (by decide) (hts (.classLink RL 15 "java/lang/IllegalArgumentException") (by decide +kernel)) (hC.use (.castable "java/lang/IllegalArgumentException" "java/lang/IllegalArgumentException") (by decide +kernel)) hce hcv hcl ?_
        refine lv_astore_n (lv' := [(3, .ref q9), (0, .ref (g 0)), (1, .int a1), (2, .ref o)]) hx hb dL_covered_12 rfl hl (by decide) rfl (fun ls hl => ?_)
        refine lv_iconst (v := 1) hx hb dL_covered_13 (by decide) ?_
        have hf2 : (wfo r.1 fo r.2.1.toInt64) = fo := by unfold wfo; rw [if_neg (by rw [e1]; decide)]
        rw [hf2]
        exact wl_i (g' := g) rfl hx hb hr hAe (by rw [e1]; rfl) hP hD hS (Nat.le_of_ble_eq_true rfl) (Nat.le_of_ble_eq_true rfl) dL_covered_14 hlocks
      · exact absurd hk (by rw [e1]; decide)
    · refine lv_i2l hx hb dL_covered_7 rfl ?_
      refine va_last (D := D) (cA := ca 2) (n := 1) (f := fo) hx hb hK hP hD hS ((wX g ca r.2.2).length + 0) 2 (la_get (k := 0) rfl) rfl (by unfold vp_in; decide) dL_covered_8 (fun H locs hP hD hS => ?_)
      rw [la_set] at hP hD
      refine lv_goto (tgt := 15) hx hb dL_covered_9 (by decide) ?_
      refine lv_iconst (v := 0) hx hb dL_covered_15 (by decide) ?_
      have hf2 : (wfo r.1 fo r.2.1.toInt64) = vp_updL fo 0 (r.2.1.toInt64) := by unfold wfo; rw [if_pos h0]
      rw [hf2]
      exact wl_i (g' := g) rfl hx hb hr hAe (by rw [h0]; rfl) hP hD hS (Nat.le_of_ble_eq_true rfl) (Nat.le_of_ble_eq_true rfl) dL_covered_16 hlocks
  rw [hHe, hle] at hgo
  exact hgo
set_option maxHeartbeats 4000000 in
set_option maxRecDepth 100000 in
theorem c_L_bears (l : Launch) (hl9 : l.stackTraces = false) (D : va_G) (ca : Nat → ClassId) (g : Nat → Nat) (x : XS) (a1 : Int32) (o : Nat) (fo : Nat → Int64) {r : (Nat × Int32 × XS)} (hs : s_X4_bears x a1 = some r) (hk : r.1 = 0 ∨ r.1 = 2) (sz : Nat) : Met l yL_bears wsL_bears ({ frames := 7, cells := 1, slots := 6, locals := 163 }) (tP [.ref (g 0), .int a1, .ref o] D ca (wX g ca x ++ [oC o ca fo]) sz) (lQi (wk 0 1 0 r.1) D (wX g ca x ++ [oC o ca fo]) g ca r.2.2 [oC o ca (wfo r.1 fo (if r.2.1 = 0 then 0 else 1))] sz) 1 6 (va_A (wX g ca x ++ [oC o ca fo]) sz) := by
  refine va_MetW (cc := cL_bears) (maxL := 4) (ret := (some .int)) (hh := [(0, 16, 19, 15)]) (by decide) rfl ?_
  intro p e s m args below meth c s₁ B hml hv
  obtain ⟨rfl, hsz, hP, hC, hD0, hz⟩ := hv
  have hx := B.exec
  have hb := B.bytes
  have hr := B.returns
  have hts := atoms_spec (ws := wsL_bears) B.pre
  have hown : s.vm.findClass RL = some m.cls := findClass_of_methodNamed B.named
  have hlocks := B.notSynchronized
  have hK := hC.1
  have htab := vx_table (x := yL_bears) B (hts (.codeWith yL_bears cL_bears 4 (some .int) [(0, 16, 19, 15)]) List.mem_cons_self)
  subst hsz
  have hD := hD0.self (sz := s.heap.size)
  generalize hAe : va_A (wX g ca x ++ [oC o ca fo]) s.heap.size = A at hD hz ⊢
  have hA : ∀ q : Nat, s.heap.size ≤ q → A q := fun q h => by rw [← hAe]; exact Or.inr h
  have hS : va_S A s.heap s.heap [] := va_S.rf
  have hl := lv_entry ([.ref (g 0), .int a1, .ref o]) (n := 4) (Nat.le_of_ble_eq_true rfl)
  rw [lg_entry_eq]
  generalize (lg_sl ([.ref (g 0), .int a1, .ref o]) ++ List.replicate (4 - (lg_sl ([.ref (g 0), .int a1, .ref o])).length) Slot.unset).toArray = ls at hl ⊢
  have hl : lv_has ls 4 [(0, .ref (g 0)), (1, .int a1), (2, .ref o)] := hl
  obtain ⟨H, hHe⟩ : ∃ H, H = s.heap := ⟨_, rfl⟩
  obtain ⟨locs, hle⟩ : ∃ z : List Loc, z = [] := ⟨_, rfl⟩
  have hP : va_P D vwCl (wX g ca x ++ [oC o ca fo]) H := by rw [hHe]; exact hP
  have hS : va_S A s.heap H locs := by rw [hHe, hle]; exact hS
  have hgo : W p l e (headSpec wsL_bears ({ frames := 7, cells := 1, slots := 6, locals := 163 })).room s m #[.ref (g 0), .int a1, .ref o] below meth c H locs 0 0 (MQ below (lQi (wk 0 1 0 r.1) D (wX g ca x ++ [oC o ca fo]) g ca r.2.2 [oC o ca (wfo r.1 fo (if r.2.1 = 0 then 0 else 1))] s.heap.size) #[.ref (g 0), .int a1, .ref o] s 1 6 A) (F0 m 0 ls []) := by
    refine lv_aload_n hx hb dL_bears_0 rfl (lv_at hl 2 rfl) ?_
    refine lv_iconst (v := 0) hx hb dL_bears_1 (by decide) ?_
    refine lv_aload_n hx hb dL_bears_2 rfl (lv_at hl 0 rfl) ?_
    refine lv_iload_n hx hb dL_bears_3 rfl (lv_at hl 1 rfl) ?_
    refine wc_i (vx_runV (As := [.int a1]) (rest := [.int 0, .ref o]) ⟨hx, hb, hml, hown, hts⟩ (c_X4_bears l hl9 D ca g x a1 hs H.size) (cwV 1 hts gL_bears_X4_bears rfl rfl rfl (by decide +kernel) ⟨Nat.le_of_ble_eq_true rfl, Nat.le_of_ble_eq_true rfl⟩) (tP_V (H0 := H) (q := (RX4, TX4, 16)) (app_l hP) hC (appD_l hD) hz hS hA 0 rfl rfl) rfl rfl hl.1 rfl (lv_room (Nat.le_of_ble_eq_true rfl)) dL_bears_4 ⟨Nat.le_of_ble_eq_true rfl, Nat.le_of_ble_eq_true rfl⟩) hP hD hS hA (fun ce q9 H locs hk3 hP hD hS hce hcv hcl => ?_) (fun H locs h0 hP hD hS => ?_)
    · rcases hk3 with e1 | e1 | e1
      · exact absurd hk (by rw [e1]; decide)
      · rw [e1] at hcl
        refine vx_catch (name := "java/lang/IllegalArgumentException") (E := "java/lang/IllegalArgumentException") hown [] ⟨0, 16, 19, 15⟩ [] (by rw [htab]; rfl) (fun z hz => nomatch hz) (by decide) (by decide) (hts (.classLink RL 15 "java/lang/IllegalArgumentException") (by decide +kernel)) (hC.use (.castable "java/lang/IllegalArgumentException" "java/lang/IllegalArgumentException") (by decide +kernel)) hce hcv hcl ?_
        refine lv_astore_n (lv' := [(3, .ref q9), (0, .ref (g 0)), (1, .int a1), (2, .ref o)]) hx hb dL_bears_19 rfl hl (by decide) rfl (fun ls hl => ?_)
        refine lv_iconst (v := 1) hx hb dL_bears_20 (by decide) ?_
        have hf2 : (wfo r.1 fo (if r.2.1 = 0 then 0 else 1)) = fo := by unfold wfo; rw [if_neg (by rw [e1]; decide)]
        rw [hf2]
        exact wl_i (g' := g) rfl hx hb hr hAe (by rw [e1]; rfl) hP hD hS (Nat.le_of_ble_eq_true rfl) (Nat.le_of_ble_eq_true rfl) dL_bears_21 hlocks
      · exact absurd hk (by rw [e1]; decide)
    · refine lv_if_eq (tgt := 14) hx hb dL_bears_7 (by decide) (fun c9 => ?_) (fun c9 => ?_)
      · refine lv_lconst (v := 0) hx hb dL_bears_14 (by decide) ?_
        have h9 : (if r.2.1 = 0 then (0 : Int64) else 1) = 0 := if_pos c9
        rw [h9]
        refine va_last (D := D) (cA := ca 2) (n := 1) (f := fo) hx hb hK hP hD hS ((wX g ca r.2.2).length + 0) 2 (la_get (k := 0) rfl) rfl (by unfold vp_in; decide) dL_bears_15 (fun H locs hP hD hS => ?_)
        rw [la_set] at hP hD
        refine lv_goto (tgt := 22) hx hb dL_bears_16 (by decide) ?_
        refine lv_iconst (v := 0) hx hb dL_bears_22 (by decide) ?_
        have hf2 : (wfo r.1 fo 0) = vp_updL fo 0 (0) := by unfold wfo; rw [if_pos h0]
        rw [hf2]
        exact wl_i (g' := g) rfl hx hb hr hAe (by rw [h0]; rfl) hP hD hS (Nat.le_of_ble_eq_true rfl) (Nat.le_of_ble_eq_true rfl) dL_bears_23 hlocks
      · refine lv_lconst (v := 1) hx hb dL_bears_10 (by decide) ?_
        have h9 : (if r.2.1 = 0 then (0 : Int64) else 1) = 1 := if_neg c9
        rw [h9]
        refine lv_goto (tgt := 15) hx hb dL_bears_11 (by decide) ?_
        refine va_last (D := D) (cA := ca 2) (n := 1) (f := fo) hx hb hK hP hD hS ((wX g ca r.2.2).length + 0) 2 (la_get (k := 0) rfl) rfl (by unfold vp_in; decide) dL_bears_15 (fun H locs hP hD hS => ?_)
        rw [la_set] at hP hD
        refine lv_goto (tgt := 22) hx hb dL_bears_16 (by decide) ?_
        refine lv_iconst (v := 0) hx hb dL_bears_22 (by decide) ?_
        have hf2 : (wfo r.1 fo 1) = vp_updL fo 0 (1) := by unfold wfo; rw [if_pos h0]
        rw [hf2]
        exact wl_i (g' := g) rfl hx hb hr hAe (by rw [h0]; rfl) hP hD hS (Nat.le_of_ble_eq_true rfl) (Nat.le_of_ble_eq_true rfl) dL_bears_23 hlocks
  rw [hHe, hle] at hgo
  exact hgo
set_option maxHeartbeats 4000000 in
set_option maxRecDepth 100000 in
theorem c_L_curfew (l : Launch) (hl9 : l.stackTraces = false) (D : va_G) (ca : Nat → ClassId) (g : Nat → Nat) (x : XS) (a1 : Int32) (a2 : Int32) (o : Nat) (fo : Nat → Int64) {r : (Nat × Int32 × XS)} (hs : s_X4_curfew x a1 a2 = some r) (hk : r.1 = 0 ∨ r.1 = 2) (sz : Nat) : Met l yL_curfew wsL_curfew ({ frames := 7, cells := 1, slots := 6, locals := 104 }) (tP [.ref (g 0), .int a1, .int a2] D ca (wX g ca x ++ [oC o ca fo]) sz) (lQi (wk 0 1 0 r.1) D (wX g ca x ++ [oC o ca fo]) g ca r.2.2 [oC o ca fo] sz) 1 6 (va_A (wX g ca x ++ [oC o ca fo]) sz) := by
  refine va_MetW (cc := cL_curfew) (maxL := 4) (ret := (some .int)) (hh := [(0, 6, 9, 15)]) (by decide) rfl ?_
  intro p e s m args below meth c s₁ B hml hv
  obtain ⟨rfl, hsz, hP, hC, hD0, hz⟩ := hv
  have hx := B.exec
  have hb := B.bytes
  have hr := B.returns
  have hts := atoms_spec (ws := wsL_curfew) B.pre
  have hown : s.vm.findClass RL = some m.cls := findClass_of_methodNamed B.named
  have hlocks := B.notSynchronized
  have hK := hC.1
  have htab := vx_table (x := yL_curfew) B (hts (.codeWith yL_curfew cL_curfew 4 (some .int) [(0, 6, 9, 15)]) List.mem_cons_self)
  subst hsz
  have hD := hD0.self (sz := s.heap.size)
  generalize hAe : va_A (wX g ca x ++ [oC o ca fo]) s.heap.size = A at hD hz ⊢
  have hA : ∀ q : Nat, s.heap.size ≤ q → A q := fun q h => by rw [← hAe]; exact Or.inr h
  have hS : va_S A s.heap s.heap [] := va_S.rf
  have hl := lv_entry ([.ref (g 0), .int a1, .int a2]) (n := 4) (Nat.le_of_ble_eq_true rfl)
  rw [lg_entry_eq]
  generalize (lg_sl ([.ref (g 0), .int a1, .int a2]) ++ List.replicate (4 - (lg_sl ([.ref (g 0), .int a1, .int a2])).length) Slot.unset).toArray = ls at hl ⊢
  have hl : lv_has ls 4 [(0, .ref (g 0)), (1, .int a1), (2, .int a2)] := hl
  obtain ⟨H, hHe⟩ : ∃ H, H = s.heap := ⟨_, rfl⟩
  obtain ⟨locs, hle⟩ : ∃ z : List Loc, z = [] := ⟨_, rfl⟩
  have hP : va_P D vwCl (wX g ca x ++ [oC o ca fo]) H := by rw [hHe]; exact hP
  have hS : va_S A s.heap H locs := by rw [hHe, hle]; exact hS
  have hgo : W p l e (headSpec wsL_curfew ({ frames := 7, cells := 1, slots := 6, locals := 104 })).room s m #[.ref (g 0), .int a1, .int a2] below meth c H locs 0 0 (MQ below (lQi (wk 0 1 0 r.1) D (wX g ca x ++ [oC o ca fo]) g ca r.2.2 [oC o ca fo] s.heap.size) #[.ref (g 0), .int a1, .int a2] s 1 6 A) (F0 m 0 ls []) := by
    refine lv_aload_n hx hb dL_curfew_0 rfl (lv_at hl 0 rfl) ?_
    refine lv_iload_n hx hb dL_curfew_1 rfl (lv_at hl 1 rfl) ?_
    refine lv_iload_n hx hb dL_curfew_2 rfl (lv_at hl 2 rfl) ?_
    refine wc_v (vx_runV (As := [.int a1, .int a2]) (rest := []) ⟨hx, hb, hml, hown, hts⟩ (c_X4_curfew l hl9 D ca g x a1 a2 hs H.size) (cwV 2 hts gL_curfew_X4_curfew rfl rfl rfl (by decide +kernel) ⟨Nat.le_of_ble_eq_true rfl, Nat.le_of_ble_eq_true rfl⟩) (tP_V (H0 := H) (q := (RX4, TX4, 16)) (app_l hP) hC (appD_l hD) hz hS hA 0 rfl rfl) rfl rfl hl.1 rfl (lv_room (Nat.le_of_ble_eq_true rfl)) dL_curfew_3 ⟨Nat.le_of_ble_eq_true rfl, Nat.le_of_ble_eq_true rfl⟩) hP hD hS hA (fun ce q9 H locs hk3 hP hD hS hce hcv hcl => ?_) (fun H locs h0 hP hD hS => ?_)
    · rcases hk3 with e1 | e1 | e1
      · exact absurd hk (by rw [e1]; decide)
      · rw [e1] at hcl
        refine vx_catch (name := "java/lang/IllegalArgumentException") (E := "java/lang/IllegalArgumentException") hown [] ⟨0, 6, 9, 15⟩ [] (by rw [htab]; rfl) (fun z hz => nomatch hz) (by decide) (by decide) (hts (.classLink RL 15 "java/lang/IllegalArgumentException") (by decide +kernel)) (hC.use (.castable "java/lang/IllegalArgumentException" "java/lang/IllegalArgumentException") (by decide +kernel)) hce hcv hcl ?_
        refine lv_astore_n (lv' := [(3, .ref q9), (0, .ref (g 0)), (1, .int a1), (2, .int a2)]) hx hb dL_curfew_9 rfl hl (by decide) rfl (fun ls hl => ?_)
        refine lv_iconst (v := 1) hx hb dL_curfew_10 (by decide) ?_
        exact wl_i (g' := g) rfl hx hb hr hAe (by rw [e1]; rfl) hP hD hS (Nat.le_of_ble_eq_true rfl) (Nat.le_of_ble_eq_true rfl) dL_curfew_11 hlocks
      · exact absurd hk (by rw [e1]; decide)
    · skip
      refine lv_goto (tgt := 12) hx hb dL_curfew_6 (by decide) ?_
      refine lv_iconst (v := 0) hx hb dL_curfew_12 (by decide) ?_
      exact wl_i (g' := g) rfl hx hb hr hAe (by rw [h0]; rfl) hP hD hS (Nat.le_of_ble_eq_true rfl) (Nat.le_of_ble_eq_true rfl) dL_curfew_13 hlocks
  rw [hHe, hle] at hgo
  exact hgo
set_option maxHeartbeats 4000000 in
set_option maxRecDepth 100000 in
theorem c_L_ready (l : Launch) (hl9 : l.stackTraces = false) (D : va_G) (ca : Nat → ClassId) (g : Nat → Nat) (x : XS) (a1 : Int32) (a2 : Int32) (o : Nat) (fo : Nat → Int64) {r : (Nat × Int32 × XS)} (hs : s_X4_ready x a1 a2 = some r) (hk : r.1 = 0 ∨ r.1 = 1 ∨ r.1 = 2) (sz : Nat) : Met l yL_ready wsL_ready ({ frames := 7, cells := 1, slots := 6, locals := 106 }) (tP [.ref (g 0), .int a1, .int a2, .ref o] D ca (wX g ca x ++ [oC o ca fo]) sz) (lQi (wk 1 2 0 r.1) D (wX g ca x ++ [oC o ca fo]) g ca r.2.2 [oC o ca (wfo r.1 fo r.2.1.toInt64)] sz) 1 6 (va_A (wX g ca x ++ [oC o ca fo]) sz) := by
  refine va_MetW (cc := cL_ready) (maxL := 5) (ret := (some .int)) (hh := [(0, 10, 13, 13), (0, 10, 17, 15)]) (by decide) rfl ?_
  intro p e s m args below meth c s₁ B hml hv
  obtain ⟨rfl, hsz, hP, hC, hD0, hz⟩ := hv
  have hx := B.exec
  have hb := B.bytes
  have hr := B.returns
  have hts := atoms_spec (ws := wsL_ready) B.pre
  have hown : s.vm.findClass RL = some m.cls := findClass_of_methodNamed B.named
  have hlocks := B.notSynchronized
  have hK := hC.1
  have htab := vx_table (x := yL_ready) B (hts (.codeWith yL_ready cL_ready 5 (some .int) [(0, 10, 13, 13), (0, 10, 17, 15)]) List.mem_cons_self)
  subst hsz
  have hD := hD0.self (sz := s.heap.size)
  generalize hAe : va_A (wX g ca x ++ [oC o ca fo]) s.heap.size = A at hD hz ⊢
  have hA : ∀ q : Nat, s.heap.size ≤ q → A q := fun q h => by rw [← hAe]; exact Or.inr h
  have hS : va_S A s.heap s.heap [] := va_S.rf
  have hl := lv_entry ([.ref (g 0), .int a1, .int a2, .ref o]) (n := 5) (Nat.le_of_ble_eq_true rfl)
  rw [lg_entry_eq]
  generalize (lg_sl ([.ref (g 0), .int a1, .int a2, .ref o]) ++ List.replicate (5 - (lg_sl ([.ref (g 0), .int a1, .int a2, .ref o])).length) Slot.unset).toArray = ls at hl ⊢
  have hl : lv_has ls 5 [(0, .ref (g 0)), (1, .int a1), (2, .int a2), (3, .ref o)] := hl
  obtain ⟨H, hHe⟩ : ∃ H, H = s.heap := ⟨_, rfl⟩
  obtain ⟨locs, hle⟩ : ∃ z : List Loc, z = [] := ⟨_, rfl⟩
  have hP : va_P D vwCl (wX g ca x ++ [oC o ca fo]) H := by rw [hHe]; exact hP
  have hS : va_S A s.heap H locs := by rw [hHe, hle]; exact hS
  have hgo : W p l e (headSpec wsL_ready ({ frames := 7, cells := 1, slots := 6, locals := 106 })).room s m #[.ref (g 0), .int a1, .int a2, .ref o] below meth c H locs 0 0 (MQ below (lQi (wk 1 2 0 r.1) D (wX g ca x ++ [oC o ca fo]) g ca r.2.2 [oC o ca (wfo r.1 fo r.2.1.toInt64)] s.heap.size) #[.ref (g 0), .int a1, .int a2, .ref o] s 1 6 A) (F0 m 0 ls []) := by
    refine lv_aload_n hx hb dL_ready_0 rfl (lv_at hl 3 rfl) ?_
    refine lv_iconst (v := 0) hx hb dL_ready_1 (by decide) ?_
    refine lv_aload_n hx hb dL_ready_2 rfl (lv_at hl 0 rfl) ?_
    refine lv_iload_n hx hb dL_ready_3 rfl (lv_at hl 1 rfl) ?_
    refine lv_iload_n hx hb dL_ready_4 rfl (lv_at hl 2 rfl) ?_
    refine wc_i (vx_runV (As := [.int a1, .int a2]) (rest := [.int 0, .ref o]) ⟨hx, hb, hml, hown, hts⟩ (c_X4_ready l hl9 D ca g x a1 a2 hs H.size) (cwV 2 hts gL_ready_X4_ready rfl rfl rfl (by decide +kernel) ⟨Nat.le_of_ble_eq_true rfl, Nat.le_of_ble_eq_true rfl⟩) (tP_V (H0 := H) (q := (RX4, TX4, 16)) (app_l hP) hC (appD_l hD) hz hS hA 0 rfl rfl) rfl rfl hl.1 rfl (lv_room (Nat.le_of_ble_eq_true rfl)) dL_ready_5 ⟨Nat.le_of_ble_eq_true rfl, Nat.le_of_ble_eq_true rfl⟩) hP hD hS hA (fun ce q9 H locs hk3 hP hD hS hce hcv hcl => ?_) (fun H locs h0 hP hD hS => ?_)
    · rcases hk3 with e1 | e1 | e1
      · rw [e1] at hcl
        refine vx_catch (name := "java/lang/IndexOutOfBoundsException") (E := "java/lang/IndexOutOfBoundsException") hown [] ⟨0, 10, 13, 13⟩ [⟨0, 10, 17, 15⟩] (by rw [htab]; rfl) (fun z hz => nomatch hz) (by decide) (by decide) (hts (.classLink RL 13 "java/lang/IndexOutOfBoundsException") (by decide +kernel)) (hC.use (.castable "java/lang/IndexOutOfBoundsException" "java/lang/IndexOutOfBoundsException") (by decide +kernel)) hce hcv hcl ?_
        refine lv_astore (lv' := [(4, .ref q9), (0, .ref (g 0)), (1, .int a1), (2, .int a2), (3, .ref o)]) hx hb dL_ready_13 hl (by decide) rfl (fun ls hl => ?_)
        refine lv_iconst (v := 1) hx hb dL_ready_15 (by decide) ?_
        have hf2 : (wfo r.1 fo r.2.1.toInt64) = fo := by unfold wfo; rw [if_neg (by rw [e1]; decide)]
        rw [hf2]
        exact wl_i (g' := g) rfl hx hb hr hAe (by rw [e1]; rfl) hP hD hS (Nat.le_of_ble_eq_true rfl) (Nat.le_of_ble_eq_true rfl) dL_ready_16 hlocks
      · rw [e1] at hcl
        have hpass : ∀ z ∈ ([⟨0, 10, 13, 13⟩] : List ExceptionTableEntry), covers z 5 = false ∨ (z.catchType ≠ 0 ∧ ∃ nm : String, (Cond.classLink RL z.catchType nm).before #[.ref (g 0), .int a1, .int a2, .ref o] s = true ∧ va_Nc "java/lang/IllegalArgumentException" nm s) := by
          intro z hz
          simp only [List.mem_cons, List.not_mem_nil, or_false] at hz
          rcases hz with rfl
          · exact Or.inr ⟨by decide, "java/lang/IndexOutOfBoundsException", hts (.classLink RL 13 "java/lang/IndexOutOfBoundsException") (by decide +kernel), hC.2.2.2.1 ("java/lang/IllegalArgumentException", "java/lang/IndexOutOfBoundsException") (by decide)⟩
        refine vx_catch (name := "java/lang/IllegalArgumentException") (E := "java/lang/IllegalArgumentException") hown [⟨0, 10, 13, 13⟩] ⟨0, 10, 17, 15⟩ [] (by rw [htab]; rfl) hpass (by decide) (by decide) (hts (.classLink RL 15 "java/lang/IllegalArgumentException") (by decide +kernel)) (hC.use (.castable "java/lang/IllegalArgumentException" "java/lang/IllegalArgumentException") (by decide +kernel)) hce hcv hcl ?_
        refine lv_astore (lv' := [(4, .ref q9), (0, .ref (g 0)), (1, .int a1), (2, .int a2), (3, .ref o)]) hx hb dL_ready_17 hl (by decide) rfl (fun ls hl => ?_)
        refine lv_iconst (v := 2) hx hb dL_ready_19 (by decide) ?_
        have hf2 : (wfo r.1 fo r.2.1.toInt64) = fo := by unfold wfo; rw [if_neg (by rw [e1]; decide)]
        rw [hf2]
        exact wl_i (g' := g) rfl hx hb hr hAe (by rw [e1]; rfl) hP hD hS (Nat.le_of_ble_eq_true rfl) (Nat.le_of_ble_eq_true rfl) dL_ready_20 hlocks
      · exact absurd hk (by rw [e1]; decide)
    · refine lv_i2l hx hb dL_ready_8 rfl ?_
      refine va_last (D := D) (cA := ca 2) (n := 1) (f := fo) hx hb hK hP hD hS ((wX g ca r.2.2).length + 0) 2 (la_get (k := 0) rfl) rfl (by unfold vp_in; decide) dL_ready_9 (fun H locs hP hD hS => ?_)
      rw [la_set] at hP hD
      refine lv_goto (tgt := 21) hx hb dL_ready_10 (by decide) ?_
      refine lv_iconst (v := 0) hx hb dL_ready_21 (by decide) ?_
      have hf2 : (wfo r.1 fo r.2.1.toInt64) = vp_updL fo 0 (r.2.1.toInt64) := by unfold wfo; rw [if_pos h0]
      rw [hf2]
      exact wl_i (g' := g) rfl hx hb hr hAe (by rw [h0]; rfl) hP hD hS (Nat.le_of_ble_eq_true rfl) (Nat.le_of_ble_eq_true rfl) dL_ready_22 hlocks
  rw [hHe, hle] at hgo
  exact hgo
set_option maxHeartbeats 4000000 in
set_option maxRecDepth 100000 in
theorem c_L_propose (l : Launch) (hl9 : l.stackTraces = false) (D : va_G) (ca : Nat → ClassId) (g : Nat → Nat) (x : XS) (a1 : Int32) (a2 : Int32) (o : Nat) (fo : Nat → Int64) {r : (Nat × Int32 × XS)} (hs : s_X4_propose x a1 a2 = some r) (hk : r.1 = 0 ∨ r.1 = 1 ∨ r.1 = 2) (sz : Nat) : Met l yL_propose wsL_propose ({ frames := 7, cells := 1, slots := 6, locals := 106 }) (tP [.ref (g 0), .int a1, .int a2, .ref o] D ca (wX g ca x ++ [oC o ca fo]) sz) (lQi (wk 1 2 0 r.1) D (wX g ca x ++ [oC o ca fo]) g ca r.2.2 [oC o ca (wfo r.1 fo r.2.1.toInt64)] sz) 1 6 (va_A (wX g ca x ++ [oC o ca fo]) sz) := by
  refine va_MetW (cc := cL_propose) (maxL := 5) (ret := (some .int)) (hh := [(0, 10, 13, 13), (0, 10, 17, 15)]) (by decide) rfl ?_
  intro p e s m args below meth c s₁ B hml hv
  obtain ⟨rfl, hsz, hP, hC, hD0, hz⟩ := hv
  have hx := B.exec
  have hb := B.bytes
  have hr := B.returns
  have hts := atoms_spec (ws := wsL_propose) B.pre
  have hown : s.vm.findClass RL = some m.cls := findClass_of_methodNamed B.named
  have hlocks := B.notSynchronized
  have hK := hC.1
  have htab := vx_table (x := yL_propose) B (hts (.codeWith yL_propose cL_propose 5 (some .int) [(0, 10, 13, 13), (0, 10, 17, 15)]) List.mem_cons_self)
  subst hsz
  have hD := hD0.self (sz := s.heap.size)
  generalize hAe : va_A (wX g ca x ++ [oC o ca fo]) s.heap.size = A at hD hz ⊢
  have hA : ∀ q : Nat, s.heap.size ≤ q → A q := fun q h => by rw [← hAe]; exact Or.inr h
  have hS : va_S A s.heap s.heap [] := va_S.rf
  have hl := lv_entry ([.ref (g 0), .int a1, .int a2, .ref o]) (n := 5) (Nat.le_of_ble_eq_true rfl)
  rw [lg_entry_eq]
  generalize (lg_sl ([.ref (g 0), .int a1, .int a2, .ref o]) ++ List.replicate (5 - (lg_sl ([.ref (g 0), .int a1, .int a2, .ref o])).length) Slot.unset).toArray = ls at hl ⊢
  have hl : lv_has ls 5 [(0, .ref (g 0)), (1, .int a1), (2, .int a2), (3, .ref o)] := hl
  obtain ⟨H, hHe⟩ : ∃ H, H = s.heap := ⟨_, rfl⟩
  obtain ⟨locs, hle⟩ : ∃ z : List Loc, z = [] := ⟨_, rfl⟩
  have hP : va_P D vwCl (wX g ca x ++ [oC o ca fo]) H := by rw [hHe]; exact hP
  have hS : va_S A s.heap H locs := by rw [hHe, hle]; exact hS
  have hgo : W p l e (headSpec wsL_propose ({ frames := 7, cells := 1, slots := 6, locals := 106 })).room s m #[.ref (g 0), .int a1, .int a2, .ref o] below meth c H locs 0 0 (MQ below (lQi (wk 1 2 0 r.1) D (wX g ca x ++ [oC o ca fo]) g ca r.2.2 [oC o ca (wfo r.1 fo r.2.1.toInt64)] s.heap.size) #[.ref (g 0), .int a1, .int a2, .ref o] s 1 6 A) (F0 m 0 ls []) := by
    refine lv_aload_n hx hb dL_propose_0 rfl (lv_at hl 3 rfl) ?_
    refine lv_iconst (v := 0) hx hb dL_propose_1 (by decide) ?_
    refine lv_aload_n hx hb dL_propose_2 rfl (lv_at hl 0 rfl) ?_
    refine lv_iload_n hx hb dL_propose_3 rfl (lv_at hl 1 rfl) ?_
    refine lv_iload_n hx hb dL_propose_4 rfl (lv_at hl 2 rfl) ?_
    refine wc_i (vx_runV (As := [.int a1, .int a2]) (rest := [.int 0, .ref o]) ⟨hx, hb, hml, hown, hts⟩ (c_X4_propose l hl9 D ca g x a1 a2 hs H.size) (cwV 2 hts gL_propose_X4_propose rfl rfl rfl (by decide +kernel) ⟨Nat.le_of_ble_eq_true rfl, Nat.le_of_ble_eq_true rfl⟩) (tP_V (H0 := H) (q := (RX4, TX4, 16)) (app_l hP) hC (appD_l hD) hz hS hA 0 rfl rfl) rfl rfl hl.1 rfl (lv_room (Nat.le_of_ble_eq_true rfl)) dL_propose_5 ⟨Nat.le_of_ble_eq_true rfl, Nat.le_of_ble_eq_true rfl⟩) hP hD hS hA (fun ce q9 H locs hk3 hP hD hS hce hcv hcl => ?_) (fun H locs h0 hP hD hS => ?_)
    · rcases hk3 with e1 | e1 | e1
      · rw [e1] at hcl
        refine vx_catch (name := "java/lang/IndexOutOfBoundsException") (E := "java/lang/IndexOutOfBoundsException") hown [] ⟨0, 10, 13, 13⟩ [⟨0, 10, 17, 15⟩] (by rw [htab]; rfl) (fun z hz => nomatch hz) (by decide) (by decide) (hts (.classLink RL 13 "java/lang/IndexOutOfBoundsException") (by decide +kernel)) (hC.use (.castable "java/lang/IndexOutOfBoundsException" "java/lang/IndexOutOfBoundsException") (by decide +kernel)) hce hcv hcl ?_
        refine lv_astore (lv' := [(4, .ref q9), (0, .ref (g 0)), (1, .int a1), (2, .int a2), (3, .ref o)]) hx hb dL_propose_13 hl (by decide) rfl (fun ls hl => ?_)
        refine lv_iconst (v := 1) hx hb dL_propose_15 (by decide) ?_
        have hf2 : (wfo r.1 fo r.2.1.toInt64) = fo := by unfold wfo; rw [if_neg (by rw [e1]; decide)]
        rw [hf2]
        exact wl_i (g' := g) rfl hx hb hr hAe (by rw [e1]; rfl) hP hD hS (Nat.le_of_ble_eq_true rfl) (Nat.le_of_ble_eq_true rfl) dL_propose_16 hlocks
      · rw [e1] at hcl
        have hpass : ∀ z ∈ ([⟨0, 10, 13, 13⟩] : List ExceptionTableEntry), covers z 5 = false ∨ (z.catchType ≠ 0 ∧ ∃ nm : String, (Cond.classLink RL z.catchType nm).before #[.ref (g 0), .int a1, .int a2, .ref o] s = true ∧ va_Nc "java/lang/IllegalArgumentException" nm s) := by
          intro z hz
          simp only [List.mem_cons, List.not_mem_nil, or_false] at hz
          rcases hz with rfl
          · exact Or.inr ⟨by decide, "java/lang/IndexOutOfBoundsException", hts (.classLink RL 13 "java/lang/IndexOutOfBoundsException") (by decide +kernel), hC.2.2.2.1 ("java/lang/IllegalArgumentException", "java/lang/IndexOutOfBoundsException") (by decide)⟩
        refine vx_catch (name := "java/lang/IllegalArgumentException") (E := "java/lang/IllegalArgumentException") hown [⟨0, 10, 13, 13⟩] ⟨0, 10, 17, 15⟩ [] (by rw [htab]; rfl) hpass (by decide) (by decide) (hts (.classLink RL 15 "java/lang/IllegalArgumentException") (by decide +kernel)) (hC.use (.castable "java/lang/IllegalArgumentException" "java/lang/IllegalArgumentException") (by decide +kernel)) hce hcv hcl ?_
        refine lv_astore (lv' := [(4, .ref q9), (0, .ref (g 0)), (1, .int a1), (2, .int a2), (3, .ref o)]) hx hb dL_propose_17 hl (by decide) rfl (fun ls hl => ?_)
        refine lv_iconst (v := 2) hx hb dL_propose_19 (by decide) ?_
        have hf2 : (wfo r.1 fo r.2.1.toInt64) = fo := by unfold wfo; rw [if_neg (by rw [e1]; decide)]
        rw [hf2]
        exact wl_i (g' := g) rfl hx hb hr hAe (by rw [e1]; rfl) hP hD hS (Nat.le_of_ble_eq_true rfl) (Nat.le_of_ble_eq_true rfl) dL_propose_20 hlocks
      · exact absurd hk (by rw [e1]; decide)
    · refine lv_i2l hx hb dL_propose_8 rfl ?_
      refine va_last (D := D) (cA := ca 2) (n := 1) (f := fo) hx hb hK hP hD hS ((wX g ca r.2.2).length + 0) 2 (la_get (k := 0) rfl) rfl (by unfold vp_in; decide) dL_propose_9 (fun H locs hP hD hS => ?_)
      rw [la_set] at hP hD
      refine lv_goto (tgt := 21) hx hb dL_propose_10 (by decide) ?_
      refine lv_iconst (v := 0) hx hb dL_propose_21 (by decide) ?_
      have hf2 : (wfo r.1 fo r.2.1.toInt64) = vp_updL fo 0 (r.2.1.toInt64) := by unfold wfo; rw [if_pos h0]
      rw [hf2]
      exact wl_i (g' := g) rfl hx hb hr hAe (by rw [h0]; rfl) hP hD hS (Nat.le_of_ble_eq_true rfl) (Nat.le_of_ble_eq_true rfl) dL_propose_22 hlocks
  rw [hHe, hle] at hgo
  exact hgo
set_option maxHeartbeats 4000000 in
set_option maxRecDepth 100000 in
theorem c_L_answer (l : Launch) (hl9 : l.stackTraces = false) (D : va_G) (ca : Nat → ClassId) (g : Nat → Nat) (x : XS) (a1 : Int32) (a2 : Int32) (o : Nat) (fo : Nat → Int64) {r : (Nat × Int32 × XS)} (hs : s_X4_answer x a1 a2 = some r) (hk : r.1 = 0 ∨ r.1 = 1 ∨ r.1 = 3) (sz : Nat) : Met l yL_answer wsL_answer ({ frames := 7, cells := 1, slots := 6, locals := 105 }) (tP [.ref (g 0), .int a1, .int a2, .ref o] D ca (wX g ca x ++ [oC o ca fo]) sz) (lQi (wk 1 0 2 r.1) D (wX g ca x ++ [oC o ca fo]) g ca r.2.2 [oC o ca (wfo r.1 fo r.2.1.toInt64)] sz) 1 6 (va_A (wX g ca x ++ [oC o ca fo]) sz) := by
  refine va_MetW (cc := cL_answer) (maxL := 5) (ret := (some .int)) (hh := [(0, 10, 13, 13), (0, 10, 17, 21)]) (by decide) rfl ?_
  intro p e s m args below meth c s₁ B hml hv
  obtain ⟨rfl, hsz, hP, hC, hD0, hz⟩ := hv
  have hx := B.exec
  have hb := B.bytes
  have hr := B.returns
  have hts := atoms_spec (ws := wsL_answer) B.pre
  have hown : s.vm.findClass RL = some m.cls := findClass_of_methodNamed B.named
  have hlocks := B.notSynchronized
  have hK := hC.1
  have htab := vx_table (x := yL_answer) B (hts (.codeWith yL_answer cL_answer 5 (some .int) [(0, 10, 13, 13), (0, 10, 17, 21)]) List.mem_cons_self)
  subst hsz
  have hD := hD0.self (sz := s.heap.size)
  generalize hAe : va_A (wX g ca x ++ [oC o ca fo]) s.heap.size = A at hD hz ⊢
  have hA : ∀ q : Nat, s.heap.size ≤ q → A q := fun q h => by rw [← hAe]; exact Or.inr h
  have hS : va_S A s.heap s.heap [] := va_S.rf
  have hl := lv_entry ([.ref (g 0), .int a1, .int a2, .ref o]) (n := 5) (Nat.le_of_ble_eq_true rfl)
  rw [lg_entry_eq]
  generalize (lg_sl ([.ref (g 0), .int a1, .int a2, .ref o]) ++ List.replicate (5 - (lg_sl ([.ref (g 0), .int a1, .int a2, .ref o])).length) Slot.unset).toArray = ls at hl ⊢
  have hl : lv_has ls 5 [(0, .ref (g 0)), (1, .int a1), (2, .int a2), (3, .ref o)] := hl
  obtain ⟨H, hHe⟩ : ∃ H, H = s.heap := ⟨_, rfl⟩
  obtain ⟨locs, hle⟩ : ∃ z : List Loc, z = [] := ⟨_, rfl⟩
  have hP : va_P D vwCl (wX g ca x ++ [oC o ca fo]) H := by rw [hHe]; exact hP
  have hS : va_S A s.heap H locs := by rw [hHe, hle]; exact hS
  have hgo : W p l e (headSpec wsL_answer ({ frames := 7, cells := 1, slots := 6, locals := 105 })).room s m #[.ref (g 0), .int a1, .int a2, .ref o] below meth c H locs 0 0 (MQ below (lQi (wk 1 0 2 r.1) D (wX g ca x ++ [oC o ca fo]) g ca r.2.2 [oC o ca (wfo r.1 fo r.2.1.toInt64)] s.heap.size) #[.ref (g 0), .int a1, .int a2, .ref o] s 1 6 A) (F0 m 0 ls []) := by
    refine lv_aload_n hx hb dL_answer_0 rfl (lv_at hl 3 rfl) ?_
    refine lv_iconst (v := 0) hx hb dL_answer_1 (by decide) ?_
    refine lv_aload_n hx hb dL_answer_2 rfl (lv_at hl 0 rfl) ?_
    refine lv_iload_n hx hb dL_answer_3 rfl (lv_at hl 1 rfl) ?_
    refine lv_iload_n hx hb dL_answer_4 rfl (lv_at hl 2 rfl) ?_
    refine wc_i (vx_runV (As := [.int a1, .int a2]) (rest := [.int 0, .ref o]) ⟨hx, hb, hml, hown, hts⟩ (c_X4_answer l hl9 D ca g x a1 a2 hs H.size) (cwV 2 hts gL_answer_X4_answer rfl rfl rfl (by decide +kernel) ⟨Nat.le_of_ble_eq_true rfl, Nat.le_of_ble_eq_true rfl⟩) (tP_V (H0 := H) (q := (RX4, TX4, 16)) (app_l hP) hC (appD_l hD) hz hS hA 0 rfl rfl) rfl rfl hl.1 rfl (lv_room (Nat.le_of_ble_eq_true rfl)) dL_answer_5 ⟨Nat.le_of_ble_eq_true rfl, Nat.le_of_ble_eq_true rfl⟩) hP hD hS hA (fun ce q9 H locs hk3 hP hD hS hce hcv hcl => ?_) (fun H locs h0 hP hD hS => ?_)
    · rcases hk3 with e1 | e1 | e1
      · rw [e1] at hcl
        refine vx_catch (name := "java/lang/IndexOutOfBoundsException") (E := "java/lang/IndexOutOfBoundsException") hown [] ⟨0, 10, 13, 13⟩ [⟨0, 10, 17, 21⟩] (by rw [htab]; rfl) (fun z hz => nomatch hz) (by decide) (by decide) (hts (.classLink RL 13 "java/lang/IndexOutOfBoundsException") (by decide +kernel)) (hC.use (.castable "java/lang/IndexOutOfBoundsException" "java/lang/IndexOutOfBoundsException") (by decide +kernel)) hce hcv hcl ?_
        refine lv_astore (lv' := [(4, .ref q9), (0, .ref (g 0)), (1, .int a1), (2, .int a2), (3, .ref o)]) hx hb dL_answer_13 hl (by decide) rfl (fun ls hl => ?_)
        refine lv_iconst (v := 1) hx hb dL_answer_15 (by decide) ?_
        have hf2 : (wfo r.1 fo r.2.1.toInt64) = fo := by unfold wfo; rw [if_neg (by rw [e1]; decide)]
        rw [hf2]
        exact wl_i (g' := g) rfl hx hb hr hAe (by rw [e1]; rfl) hP hD hS (Nat.le_of_ble_eq_true rfl) (Nat.le_of_ble_eq_true rfl) dL_answer_16 hlocks
      · exact absurd hk (by rw [e1]; decide)
      · rw [e1] at hcl
        have hpass : ∀ z ∈ ([⟨0, 10, 13, 13⟩] : List ExceptionTableEntry), covers z 5 = false ∨ (z.catchType ≠ 0 ∧ ∃ nm : String, (Cond.classLink RL z.catchType nm).before #[.ref (g 0), .int a1, .int a2, .ref o] s = true ∧ va_Nc "java/lang/IllegalStateException" nm s) := by
          intro z hz
          simp only [List.mem_cons, List.not_mem_nil, or_false] at hz
          rcases hz with rfl
          · exact Or.inr ⟨by decide, "java/lang/IndexOutOfBoundsException", hts (.classLink RL 13 "java/lang/IndexOutOfBoundsException") (by decide +kernel), hC.2.2.2.1 ("java/lang/IllegalStateException", "java/lang/IndexOutOfBoundsException") (by decide)⟩
        refine vx_catch (name := "java/lang/IllegalStateException") (E := "java/lang/IllegalStateException") hown [⟨0, 10, 13, 13⟩] ⟨0, 10, 17, 21⟩ [] (by rw [htab]; rfl) hpass (by decide) (by decide) (hts (.classLink RL 21 "java/lang/IllegalStateException") (by decide +kernel)) (hC.use (.castable "java/lang/IllegalStateException" "java/lang/IllegalStateException") (by decide +kernel)) hce hcv hcl ?_
        refine lv_astore (lv' := [(4, .ref q9), (0, .ref (g 0)), (1, .int a1), (2, .int a2), (3, .ref o)]) hx hb dL_answer_17 hl (by decide) rfl (fun ls hl => ?_)
        refine lv_iconst (v := 2) hx hb dL_answer_19 (by decide) ?_
        have hf2 : (wfo r.1 fo r.2.1.toInt64) = fo := by unfold wfo; rw [if_neg (by rw [e1]; decide)]
        rw [hf2]
        exact wl_i (g' := g) rfl hx hb hr hAe (by rw [e1]; rfl) hP hD hS (Nat.le_of_ble_eq_true rfl) (Nat.le_of_ble_eq_true rfl) dL_answer_20 hlocks
    · refine lv_i2l hx hb dL_answer_8 rfl ?_
      refine va_last (D := D) (cA := ca 2) (n := 1) (f := fo) hx hb hK hP hD hS ((wX g ca r.2.2).length + 0) 2 (la_get (k := 0) rfl) rfl (by unfold vp_in; decide) dL_answer_9 (fun H locs hP hD hS => ?_)
      rw [la_set] at hP hD
      refine lv_goto (tgt := 21) hx hb dL_answer_10 (by decide) ?_
      refine lv_iconst (v := 0) hx hb dL_answer_21 (by decide) ?_
      have hf2 : (wfo r.1 fo r.2.1.toInt64) = vp_updL fo 0 (r.2.1.toInt64) := by unfold wfo; rw [if_pos h0]
      rw [hf2]
      exact wl_i (g' := g) rfl hx hb hr hAe (by rw [h0]; rfl) hP hD hS (Nat.le_of_ble_eq_true rfl) (Nat.le_of_ble_eq_true rfl) dL_answer_22 hlocks
  rw [hHe, hle] at hgo
  exact hgo
set_option maxHeartbeats 4000000 in
set_option maxRecDepth 100000 in
theorem c_L_scene (l : Launch) (hl9 : l.stackTraces = false) (D : va_G) (ca : Nat → ClassId) (g : Nat → Nat) (x : XS) (a1 : Int32) (a2 : Int32) (o : Nat) (fo : Nat → Int64) {r : (Nat × Int32 × XS)} (hs : s_X4_scene x a1 a2 = some r) (hk : r.1 = 0 ∨ r.1 = 1) (sz : Nat) : Met l yL_scene wsL_scene ({ frames := 7, cells := 1, slots := 6, locals := 105 }) (tP [.ref (g 0), .int a1, .int a2, .ref o] D ca (wX g ca x ++ [oC o ca fo]) sz) (lQi (wk 1 0 0 r.1) D (wX g ca x ++ [oC o ca fo]) g ca r.2.2 [oC o ca (wfo r.1 fo r.2.1.toInt64)] sz) 1 6 (va_A (wX g ca x ++ [oC o ca fo]) sz) := by
  refine va_MetW (cc := cL_scene) (maxL := 5) (ret := (some .int)) (hh := [(0, 10, 13, 13)]) (by decide) rfl ?_
  intro p e s m args below meth c s₁ B hml hv
  obtain ⟨rfl, hsz, hP, hC, hD0, hz⟩ := hv
  have hx := B.exec
  have hb := B.bytes
  have hr := B.returns
  have hts := atoms_spec (ws := wsL_scene) B.pre
  have hown : s.vm.findClass RL = some m.cls := findClass_of_methodNamed B.named
  have hlocks := B.notSynchronized
  have hK := hC.1
  have htab := vx_table (x := yL_scene) B (hts (.codeWith yL_scene cL_scene 5 (some .int) [(0, 10, 13, 13)]) List.mem_cons_self)
  subst hsz
  have hD := hD0.self (sz := s.heap.size)
  generalize hAe : va_A (wX g ca x ++ [oC o ca fo]) s.heap.size = A at hD hz ⊢
  have hA : ∀ q : Nat, s.heap.size ≤ q → A q := fun q h => by rw [← hAe]; exact Or.inr h
  have hS : va_S A s.heap s.heap [] := va_S.rf
  have hl := lv_entry ([.ref (g 0), .int a1, .int a2, .ref o]) (n := 5) (Nat.le_of_ble_eq_true rfl)
  rw [lg_entry_eq]
  generalize (lg_sl ([.ref (g 0), .int a1, .int a2, .ref o]) ++ List.replicate (5 - (lg_sl ([.ref (g 0), .int a1, .int a2, .ref o])).length) Slot.unset).toArray = ls at hl ⊢
  have hl : lv_has ls 5 [(0, .ref (g 0)), (1, .int a1), (2, .int a2), (3, .ref o)] := hl
  obtain ⟨H, hHe⟩ : ∃ H, H = s.heap := ⟨_, rfl⟩
  obtain ⟨locs, hle⟩ : ∃ z : List Loc, z = [] := ⟨_, rfl⟩
  have hP : va_P D vwCl (wX g ca x ++ [oC o ca fo]) H := by rw [hHe]; exact hP
  have hS : va_S A s.heap H locs := by rw [hHe, hle]; exact hS
  have hgo : W p l e (headSpec wsL_scene ({ frames := 7, cells := 1, slots := 6, locals := 105 })).room s m #[.ref (g 0), .int a1, .int a2, .ref o] below meth c H locs 0 0 (MQ below (lQi (wk 1 0 0 r.1) D (wX g ca x ++ [oC o ca fo]) g ca r.2.2 [oC o ca (wfo r.1 fo r.2.1.toInt64)] s.heap.size) #[.ref (g 0), .int a1, .int a2, .ref o] s 1 6 A) (F0 m 0 ls []) := by
    refine lv_aload_n hx hb dL_scene_0 rfl (lv_at hl 3 rfl) ?_
    refine lv_iconst (v := 0) hx hb dL_scene_1 (by decide) ?_
    refine lv_aload_n hx hb dL_scene_2 rfl (lv_at hl 0 rfl) ?_
    refine lv_iload_n hx hb dL_scene_3 rfl (lv_at hl 1 rfl) ?_
    refine lv_iload_n hx hb dL_scene_4 rfl (lv_at hl 2 rfl) ?_
    refine wc_i (vx_runV (As := [.int a1, .int a2]) (rest := [.int 0, .ref o]) ⟨hx, hb, hml, hown, hts⟩ (c_X4_scene l hl9 D ca g x a1 a2 hs H.size) (cwV 2 hts gL_scene_X4_scene rfl rfl rfl (by decide +kernel) ⟨Nat.le_of_ble_eq_true rfl, Nat.le_of_ble_eq_true rfl⟩) (tP_V (H0 := H) (q := (RX4, TX4, 16)) (app_l hP) hC (appD_l hD) hz hS hA 0 rfl rfl) rfl rfl hl.1 rfl (lv_room (Nat.le_of_ble_eq_true rfl)) dL_scene_5 ⟨Nat.le_of_ble_eq_true rfl, Nat.le_of_ble_eq_true rfl⟩) hP hD hS hA (fun ce q9 H locs hk3 hP hD hS hce hcv hcl => ?_) (fun H locs h0 hP hD hS => ?_)
    · rcases hk3 with e1 | e1 | e1
      · rw [e1] at hcl
        refine vx_catch (name := "java/lang/IndexOutOfBoundsException") (E := "java/lang/IndexOutOfBoundsException") hown [] ⟨0, 10, 13, 13⟩ [] (by rw [htab]; rfl) (fun z hz => nomatch hz) (by decide) (by decide) (hts (.classLink RL 13 "java/lang/IndexOutOfBoundsException") (by decide +kernel)) (hC.use (.castable "java/lang/IndexOutOfBoundsException" "java/lang/IndexOutOfBoundsException") (by decide +kernel)) hce hcv hcl ?_
        refine lv_astore (lv' := [(4, .ref q9), (0, .ref (g 0)), (1, .int a1), (2, .int a2), (3, .ref o)]) hx hb dL_scene_13 hl (by decide) rfl (fun ls hl => ?_)
        refine lv_iconst (v := 1) hx hb dL_scene_15 (by decide) ?_
        have hf2 : (wfo r.1 fo r.2.1.toInt64) = fo := by unfold wfo; rw [if_neg (by rw [e1]; decide)]
        rw [hf2]
        exact wl_i (g' := g) rfl hx hb hr hAe (by rw [e1]; rfl) hP hD hS (Nat.le_of_ble_eq_true rfl) (Nat.le_of_ble_eq_true rfl) dL_scene_16 hlocks
      · exact absurd hk (by rw [e1]; decide)
      · exact absurd hk (by rw [e1]; decide)
    · refine lv_i2l hx hb dL_scene_8 rfl ?_
      refine va_last (D := D) (cA := ca 2) (n := 1) (f := fo) hx hb hK hP hD hS ((wX g ca r.2.2).length + 0) 2 (la_get (k := 0) rfl) rfl (by unfold vp_in; decide) dL_scene_9 (fun H locs hP hD hS => ?_)
      rw [la_set] at hP hD
      refine lv_goto (tgt := 17) hx hb dL_scene_10 (by decide) ?_
      refine lv_iconst (v := 0) hx hb dL_scene_17 (by decide) ?_
      have hf2 : (wfo r.1 fo r.2.1.toInt64) = vp_updL fo 0 (r.2.1.toInt64) := by unfold wfo; rw [if_pos h0]
      rw [hf2]
      exact wl_i (g' := g) rfl hx hb hr hAe (by rw [h0]; rfl) hP hD hS (Nat.le_of_ble_eq_true rfl) (Nat.le_of_ble_eq_true rfl) dL_scene_18 hlocks
  rw [hHe, hle] at hgo
  exact hgo
set_option maxHeartbeats 4000000 in
set_option maxRecDepth 100000 in
theorem c_L_show (l : Launch) (hl9 : l.stackTraces = false) (D : va_G) (ca : Nat → ClassId) (g : Nat → Nat) (x : XS) (a1 : Int32) (o : Nat) (fo : Nat → Int64) {r : (Nat × Int64 × XS)} (hs : s_X4_show x a1 = some r) (hk : r.1 = 0 ∨ r.1 = 2) (sz : Nat) : Met l yL_show wsL_show ({ frames := 7, cells := 1, slots := 6, locals := 103 }) (tP [.ref (g 0), .int a1, .ref o] D ca (wX g ca x ++ [oC o ca fo]) sz) (lQi (wk 0 1 0 r.1) D (wX g ca x ++ [oC o ca fo]) g ca r.2.2 [oC o ca (wfo r.1 fo r.2.1)] sz) 1 6 (va_A (wX g ca x ++ [oC o ca fo]) sz) := by
  refine va_MetW (cc := cL_show) (maxL := 4) (ret := (some .int)) (hh := [(0, 8, 11, 15)]) (by decide) rfl ?_
  intro p e s m args below meth c s₁ B hml hv
  obtain ⟨rfl, hsz, hP, hC, hD0, hz⟩ := hv
  have hx := B.exec
  have hb := B.bytes
  have hr := B.returns
  have hts := atoms_spec (ws := wsL_show) B.pre
  have hown : s.vm.findClass RL = some m.cls := findClass_of_methodNamed B.named
  have hlocks := B.notSynchronized
  have hK := hC.1
  have htab := vx_table (x := yL_show) B (hts (.codeWith yL_show cL_show 4 (some .int) [(0, 8, 11, 15)]) List.mem_cons_self)
  subst hsz
  have hD := hD0.self (sz := s.heap.size)
  generalize hAe : va_A (wX g ca x ++ [oC o ca fo]) s.heap.size = A at hD hz ⊢
  have hA : ∀ q : Nat, s.heap.size ≤ q → A q := fun q h => by rw [← hAe]; exact Or.inr h
  have hS : va_S A s.heap s.heap [] := va_S.rf
  have hl := lv_entry ([.ref (g 0), .int a1, .ref o]) (n := 4) (Nat.le_of_ble_eq_true rfl)
  rw [lg_entry_eq]
  generalize (lg_sl ([.ref (g 0), .int a1, .ref o]) ++ List.replicate (4 - (lg_sl ([.ref (g 0), .int a1, .ref o])).length) Slot.unset).toArray = ls at hl ⊢
  have hl : lv_has ls 4 [(0, .ref (g 0)), (1, .int a1), (2, .ref o)] := hl
  obtain ⟨H, hHe⟩ : ∃ H, H = s.heap := ⟨_, rfl⟩
  obtain ⟨locs, hle⟩ : ∃ z : List Loc, z = [] := ⟨_, rfl⟩
  have hP : va_P D vwCl (wX g ca x ++ [oC o ca fo]) H := by rw [hHe]; exact hP
  have hS : va_S A s.heap H locs := by rw [hHe, hle]; exact hS
  have hgo : W p l e (headSpec wsL_show ({ frames := 7, cells := 1, slots := 6, locals := 103 })).room s m #[.ref (g 0), .int a1, .ref o] below meth c H locs 0 0 (MQ below (lQi (wk 0 1 0 r.1) D (wX g ca x ++ [oC o ca fo]) g ca r.2.2 [oC o ca (wfo r.1 fo r.2.1)] s.heap.size) #[.ref (g 0), .int a1, .ref o] s 1 6 A) (F0 m 0 ls []) := by
    refine lv_aload_n hx hb dL_show_0 rfl (lv_at hl 2 rfl) ?_
    refine lv_iconst (v := 0) hx hb dL_show_1 (by decide) ?_
    refine lv_aload_n hx hb dL_show_2 rfl (lv_at hl 0 rfl) ?_
    refine lv_iload_n hx hb dL_show_3 rfl (lv_at hl 1 rfl) ?_
    refine wc_l (vx_runV (As := [.int a1]) (rest := [.int 0, .ref o]) ⟨hx, hb, hml, hown, hts⟩ (c_X4_show l hl9 D ca g x a1 hs H.size) (cwV 1 hts gL_show_X4_show rfl rfl rfl (by decide +kernel) ⟨Nat.le_of_ble_eq_true rfl, Nat.le_of_ble_eq_true rfl⟩) (tP_V (H0 := H) (q := (RX4, TX4, 16)) (app_l hP) hC (appD_l hD) hz hS hA 0 rfl rfl) rfl rfl hl.1 rfl (lv_room (Nat.le_of_ble_eq_true rfl)) dL_show_4 ⟨Nat.le_of_ble_eq_true rfl, Nat.le_of_ble_eq_true rfl⟩) hP hD hS hA (fun ce q9 H locs hk3 hP hD hS hce hcv hcl => ?_) (fun H locs h0 hP hD hS => ?_)
    · rcases hk3 with e1 | e1 | e1
      · exact absurd hk (by rw [e1]; decide)
      · rw [e1] at hcl
        refine vx_catch (name := "java/lang/IllegalArgumentException") (E := "java/lang/IllegalArgumentException") hown [] ⟨0, 8, 11, 15⟩ [] (by rw [htab]; rfl) (fun z hz => nomatch hz) (by decide) (by decide) (hts (.classLink RL 15 "java/lang/IllegalArgumentException") (by decide +kernel)) (hC.use (.castable "java/lang/IllegalArgumentException" "java/lang/IllegalArgumentException") (by decide +kernel)) hce hcv hcl ?_
        refine lv_astore_n (lv' := [(3, .ref q9), (0, .ref (g 0)), (1, .int a1), (2, .ref o)]) hx hb dL_show_11 rfl hl (by decide) rfl (fun ls hl => ?_)
        refine lv_iconst (v := 1) hx hb dL_show_12 (by decide) ?_
        have hf2 : (wfo r.1 fo r.2.1) = fo := by unfold wfo; rw [if_neg (by rw [e1]; decide)]
        rw [hf2]
        exact wl_i (g' := g) rfl hx hb hr hAe (by rw [e1]; rfl) hP hD hS (Nat.le_of_ble_eq_true rfl) (Nat.le_of_ble_eq_true rfl) dL_show_13 hlocks
      · exact absurd hk (by rw [e1]; decide)
    · skip
      refine va_last (D := D) (cA := ca 2) (n := 1) (f := fo) hx hb hK hP hD hS ((wX g ca r.2.2).length + 0) 2 (la_get (k := 0) rfl) rfl (by unfold vp_in; decide) dL_show_7 (fun H locs hP hD hS => ?_)
      rw [la_set] at hP hD
      refine lv_goto (tgt := 14) hx hb dL_show_8 (by decide) ?_
      refine lv_iconst (v := 0) hx hb dL_show_14 (by decide) ?_
      have hf2 : (wfo r.1 fo r.2.1) = vp_updL fo 0 (r.2.1) := by unfold wfo; rw [if_pos h0]
      rw [hf2]
      exact wl_i (g' := g) rfl hx hb hr hAe (by rw [h0]; rfl) hP hD hS (Nat.le_of_ble_eq_true rfl) (Nat.le_of_ble_eq_true rfl) dL_show_15 hlocks
  rw [hHe, hle] at hgo
  exact hgo
set_option maxHeartbeats 4000000 in
set_option maxRecDepth 100000 in
theorem c_L_pass (l : Launch) (hl9 : l.stackTraces = false) (D : va_G) (ca : Nat → ClassId) (g : Nat → Nat) (x : XS) (a1 : Int32) (o : Nat) (fo : Nat → Int64) {r : (Nat × Int32 × XS)} (hs : s_X4_pass x a1 = some r) (hk : r.1 = 0 ∨ r.1 = 2 ∨ r.1 = 3) (sz : Nat) : Met l yL_pass wsL_pass ({ frames := 7, cells := 1, slots := 6, locals := 163 }) (tP [.ref (g 0), .int a1, .ref o] D ca (wX g ca x ++ [oC o ca fo]) sz) (lQi (wk 0 1 2 r.1) D (wX g ca x ++ [oC o ca fo]) g ca r.2.2 [oC o ca (wfo r.1 fo r.2.1.toInt64)] sz) 1 6 (va_A (wX g ca x ++ [oC o ca fo]) sz) := by
  refine va_MetW (cc := cL_pass) (maxL := 4) (ret := (some .int)) (hh := [(0, 9, 12, 15), (0, 9, 15, 21)]) (by decide) rfl ?_
  intro p e s m args below meth c s₁ B hml hv
  obtain ⟨rfl, hsz, hP, hC, hD0, hz⟩ := hv
  have hx := B.exec
  have hb := B.bytes
  have hr := B.returns
  have hts := atoms_spec (ws := wsL_pass) B.pre
  have hown : s.vm.findClass RL = some m.cls := findClass_of_methodNamed B.named
  have hlocks := B.notSynchronized
  have hK := hC.1
  have htab := vx_table (x := yL_pass) B (hts (.codeWith yL_pass cL_pass 4 (some .int) [(0, 9, 12, 15), (0, 9, 15, 21)]) List.mem_cons_self)
  subst hsz
  have hD := hD0.self (sz := s.heap.size)
  generalize hAe : va_A (wX g ca x ++ [oC o ca fo]) s.heap.size = A at hD hz ⊢
  have hA : ∀ q : Nat, s.heap.size ≤ q → A q := fun q h => by rw [← hAe]; exact Or.inr h
  have hS : va_S A s.heap s.heap [] := va_S.rf
  have hl := lv_entry ([.ref (g 0), .int a1, .ref o]) (n := 4) (Nat.le_of_ble_eq_true rfl)
  rw [lg_entry_eq]
  generalize (lg_sl ([.ref (g 0), .int a1, .ref o]) ++ List.replicate (4 - (lg_sl ([.ref (g 0), .int a1, .ref o])).length) Slot.unset).toArray = ls at hl ⊢
  have hl : lv_has ls 4 [(0, .ref (g 0)), (1, .int a1), (2, .ref o)] := hl
  obtain ⟨H, hHe⟩ : ∃ H, H = s.heap := ⟨_, rfl⟩
  obtain ⟨locs, hle⟩ : ∃ z : List Loc, z = [] := ⟨_, rfl⟩
  have hP : va_P D vwCl (wX g ca x ++ [oC o ca fo]) H := by rw [hHe]; exact hP
  have hS : va_S A s.heap H locs := by rw [hHe, hle]; exact hS
  have hgo : W p l e (headSpec wsL_pass ({ frames := 7, cells := 1, slots := 6, locals := 163 })).room s m #[.ref (g 0), .int a1, .ref o] below meth c H locs 0 0 (MQ below (lQi (wk 0 1 2 r.1) D (wX g ca x ++ [oC o ca fo]) g ca r.2.2 [oC o ca (wfo r.1 fo r.2.1.toInt64)] s.heap.size) #[.ref (g 0), .int a1, .ref o] s 1 6 A) (F0 m 0 ls []) := by
    refine lv_aload_n hx hb dL_pass_0 rfl (lv_at hl 2 rfl) ?_
    refine lv_iconst (v := 0) hx hb dL_pass_1 (by decide) ?_
    refine lv_aload_n hx hb dL_pass_2 rfl (lv_at hl 0 rfl) ?_
    refine lv_iload_n hx hb dL_pass_3 rfl (lv_at hl 1 rfl) ?_
    refine wc_i (vx_runV (As := [.int a1]) (rest := [.int 0, .ref o]) ⟨hx, hb, hml, hown, hts⟩ (c_X4_pass l hl9 D ca g x a1 hs H.size) (cwV 1 hts gL_pass_X4_pass rfl rfl rfl (by decide +kernel) ⟨Nat.le_of_ble_eq_true rfl, Nat.le_of_ble_eq_true rfl⟩) (tP_V (H0 := H) (q := (RX4, TX4, 16)) (app_l hP) hC (appD_l hD) hz hS hA 0 rfl rfl) rfl rfl hl.1 rfl (lv_room (Nat.le_of_ble_eq_true rfl)) dL_pass_4 ⟨Nat.le_of_ble_eq_true rfl, Nat.le_of_ble_eq_true rfl⟩) hP hD hS hA (fun ce q9 H locs hk3 hP hD hS hce hcv hcl => ?_) (fun H locs h0 hP hD hS => ?_)
    · rcases hk3 with e1 | e1 | e1
      · exact absurd hk (by rw [e1]; decide)
      · rw [e1] at hcl
        refine vx_catch (name := "java/lang/IllegalArgumentException") (E := "java/lang/IllegalArgumentException") hown [] ⟨0, 9, 12, 15⟩ [⟨0, 9, 15, 21⟩] (by rw [htab]; rfl) (fun z hz => nomatch hz) (by decide) (by decide) (hts (.classLink RL 15 "java/lang/IllegalArgumentException") (by decide +kernel)) (hC.use (.castable "java/lang/IllegalArgumentException" "java/lang/IllegalArgumentException") (by decide +kernel)) hce hcv hcl ?_
        refine lv_astore_n (lv' := [(3, .ref q9), (0, .ref (g 0)), (1, .int a1), (2, .ref o)]) hx hb dL_pass_12 rfl hl (by decide) rfl (fun ls hl => ?_)
        refine lv_iconst (v := 1) hx hb dL_pass_13 (by decide) ?_
        have hf2 : (wfo r.1 fo r.2.1.toInt64) = fo := by unfold wfo; rw [if_neg (by rw [e1]; decide)]
        rw [hf2]
        exact wl_i (g' := g) rfl hx hb hr hAe (by rw [e1]; rfl) hP hD hS (Nat.le_of_ble_eq_true rfl) (Nat.le_of_ble_eq_true rfl) dL_pass_14 hlocks
      · rw [e1] at hcl
        have hpass : ∀ z ∈ ([⟨0, 9, 12, 15⟩] : List ExceptionTableEntry), covers z 4 = false ∨ (z.catchType ≠ 0 ∧ ∃ nm : String, (Cond.classLink RL z.catchType nm).before #[.ref (g 0), .int a1, .ref o] s = true ∧ va_Nc "java/lang/IllegalStateException" nm s) := by
          intro z hz
          simp only [List.mem_cons, List.not_mem_nil, or_false] at hz
          rcases hz with rfl
          · exact Or.inr ⟨by decide, "java/lang/IllegalArgumentException", hts (.classLink RL 15 "java/lang/IllegalArgumentException") (by decide +kernel), hC.2.2.2.1 ("java/lang/IllegalStateException", "java/lang/IllegalArgumentException") (by decide)⟩
        refine vx_catch (name := "java/lang/IllegalStateException") (E := "java/lang/IllegalStateException") hown [⟨0, 9, 12, 15⟩] ⟨0, 9, 15, 21⟩ [] (by rw [htab]; rfl) hpass (by decide) (by decide) (hts (.classLink RL 21 "java/lang/IllegalStateException") (by decide +kernel)) (hC.use (.castable "java/lang/IllegalStateException" "java/lang/IllegalStateException") (by decide +kernel)) hce hcv hcl ?_
        refine lv_astore_n (lv' := [(3, .ref q9), (0, .ref (g 0)), (1, .int a1), (2, .ref o)]) hx hb dL_pass_15 rfl hl (by decide) rfl (fun ls hl => ?_)
        refine lv_iconst (v := 2) hx hb dL_pass_16 (by decide) ?_
        have hf2 : (wfo r.1 fo r.2.1.toInt64) = fo := by unfold wfo; rw [if_neg (by rw [e1]; decide)]
        rw [hf2]
        exact wl_i (g' := g) rfl hx hb hr hAe (by rw [e1]; rfl) hP hD hS (Nat.le_of_ble_eq_true rfl) (Nat.le_of_ble_eq_true rfl) dL_pass_17 hlocks
    · refine lv_i2l hx hb dL_pass_7 rfl ?_
      refine va_last (D := D) (cA := ca 2) (n := 1) (f := fo) hx hb hK hP hD hS ((wX g ca r.2.2).length + 0) 2 (la_get (k := 0) rfl) rfl (by unfold vp_in; decide) dL_pass_8 (fun H locs hP hD hS => ?_)
      rw [la_set] at hP hD
      refine lv_goto (tgt := 18) hx hb dL_pass_9 (by decide) ?_
      refine lv_iconst (v := 0) hx hb dL_pass_18 (by decide) ?_
      have hf2 : (wfo r.1 fo r.2.1.toInt64) = vp_updL fo 0 (r.2.1.toInt64) := by unfold wfo; rw [if_pos h0]
      rw [hf2]
      exact wl_i (g' := g) rfl hx hb hr hAe (by rw [h0]; rfl) hP hD hS (Nat.le_of_ble_eq_true rfl) (Nat.le_of_ble_eq_true rfl) dL_pass_19 hlocks
  rw [hHe, hle] at hgo
  exact hgo
