def s_X4_column (x : XS) (a1 : Int32) (a2 : Int32) (a3 : Int32) : Option (Nat × Int32 × XS) := (s_X4_isColumn a1).bind fun v_1 => (if v_1 = 0 then some (1, 0, x) else (if a2 < 0 then some (2, 0, x) else (if a2 ≤ 2 then (if a3 < 0 then some (2, 0, x) else (if a3 ≤ 2 then (s_X2_build x a1 a2 a3).bind fun v_7 => some (0, 0, v_7) else some (2, 0, x))) else some (2, 0, x))))
set_option maxHeartbeats 4000000 in
set_option maxRecDepth 100000 in
theorem c_X4_column (l : Launch) (hl9 : l.stackTraces = false) (D : va_G) (ca : Nat → ClassId) (g : Nat → Nat) (x : XS) (a1 : Int32) (a2 : Int32) (a3 : Int32) {r : (Nat × Int32 × XS)} (hs : s_X4_column x a1 a2 a3 = some r) (sz : Nat) : vx_Met l yX4_column wsX4_column ({ frames := 6, cells := 1, slots := 6, locals := 82 }) (tP [.ref (g 0), .int (a1), .int (a2), .int (a3)] D ca (wX g ca x) sz) (tQv r D (wX g ca x) (wX g ca) sz) (tX r.1 r.2.2 D (wX g ca x) (wX g ca) sz) 1 6 (va_A (wX g ca x) sz) := by
  refine vx_ofW (cc := cX4_column) (maxL := 4) (ret := none) (by decide) rfl ?_
  intro p e s m args below meth c s₁ B hml hex hv
  obtain ⟨rfl, hsz, hP, hC, hD0, hz⟩ := hv
  have hx := B.exec
  have hb := B.bytes
  have hr := B.returns
  have hts := atoms_spec (ws := wsX4_column) B.pre
  have hown : s.vm.findClass RX4 = some m.cls := findClass_of_methodNamed B.named
  have hlocks := B.notSynchronized
  have hK := hC.1
  subst hsz
  have hD := hD0.self (sz := s.heap.size)
  generalize hAe : va_A (wX g ca x) s.heap.size = A at hD hz ⊢
  have hA : ∀ q : Nat, s.heap.size ≤ q → A q := fun q h => by rw [← hAe]; exact Or.inr h
  have hS : va_S A s.heap s.heap [] := va_S.rf
  skip
  have hat1 : ∀ w ∈ (vx_atS RX4 83 "java/lang/IndexOutOfBoundsException" ["java/lang/RuntimeException", "java/lang/Exception"]).filter goodWord, w.before _ s = true := fun w hw => hts w (List.mem_cons_of_mem _ (List.mem_append_left _ (List.mem_append_right _ hw)))
  have hat2 : ∀ w ∈ (vx_atS RX4 90 "java/lang/IllegalArgumentException" ["java/lang/RuntimeException", "java/lang/Exception"]).filter goodWord, w.before _ s = true := fun w hw => hts w (List.mem_cons_of_mem _ (List.mem_append_right _ hw))
  have iX4 : ∀ w ∈ u_ws RX4 TX4 16, w ∈ wsX4_column := by decide +kernel
  have hl := lv_entry ([.ref (g 0), .int (a1), .int (a2), .int (a3)]) (n := 4) (Nat.le_of_ble_eq_true rfl)
  rw [lg_entry_eq]
  generalize (lg_sl ([.ref (g 0), .int (a1), .int (a2), .int (a3)]) ++ List.replicate (4 - (lg_sl ([.ref (g 0), .int (a1), .int (a2), .int (a3)])).length) Slot.unset).toArray = ls at hl ⊢
  have hl : lv_has ls 4 [(0, .ref (g 0)), (1, .int (a1)), (2, .int (a2)), (3, .int (a3))] := hl
  unfold s_X4_column at hs
  obtain ⟨H, hHe⟩ : ∃ H, H = s.heap := ⟨_, rfl⟩
  obtain ⟨locs, hle⟩ : ∃ z : List Loc, z = [] := ⟨_, rfl⟩
  have hP : va_P D vwCl (wX g ca x) H := by rw [hHe]; exact hP
  have hS : va_S A s.heap H locs := by rw [hHe, hle]; exact hS
  show W p l e (headSpec wsX4_column ({ frames := 6, cells := 1, slots := 6, locals := 82 })).room s m #[.ref (g 0), .int (a1), .int (a2), .int (a3)] below meth c s.heap [] 0 0 _ _
  have hgo : W p l e (headSpec wsX4_column ({ frames := 6, cells := 1, slots := 6, locals := 82 })).room s m #[.ref (g 0), .int (a1), .int (a2), .int (a3)] below meth c H locs 0 0 (vx_MQ below (tQv r D (wX g ca x) (wX g ca) s.heap.size) (tX r.1 r.2.2 D (wX g ca x) (wX g ca) s.heap.size) #[.ref (g 0), .int (a1), .int (a2), .int (a3)] s 1 6 A) (F0 m 0 ls []) := by
    refine lv_iload_n hx hb dX4_column_0 rfl (lv_at hl 1 rfl) ?_
    obtain ⟨v_1, h_1, hs⟩ := sp_b hs
    refine rd_i (va_runS (As := [.int (a1)]) (rest := []) ⟨hx, hb, hml, hown, hts⟩ (c_X4_isColumn l D ca a1 h_1) (va_cwS 1 hts gX4_column_X4_isColumn rfl rfl rfl (by decide +kernel) ⟨Nat.le_of_ble_eq_true rfl, Nat.le_of_ble_eq_true rfl⟩) (rP_S va_P_nil hC) rfl rfl hl.1 rfl (lv_room (Nat.le_of_ble_eq_true rfl)) dX4_column_1 ⟨Nat.zero_le _, Nat.zero_le _⟩) ?_
    refine lv_if_ne (tgt := 17) hx hb dX4_column_4 (by decide) (fun c_2 => ?_) (fun c_2 => ?_)
    · have hs := sp_f c_2 hs
      refine lv_iload_n hx hb dX4_column_17 rfl (lv_at hl 2 rfl) ?_
      refine lv_if_lt (tgt := 26) hx hb dX4_column_18 (by decide) (fun c_3 => ?_) (fun c_3 => ?_)
      · have hs := sp_t c_3 hs
        exact th_row (f := wX g ca) (text := "relief is out of range") 2 (by decide) hx hb hl9 hown (hts (.classLink RX4 86 "java/lang/IllegalArgumentException") (by decide +kernel)) (hts (.initialized "java/lang/IllegalArgumentException") (by decide +kernel)) (by decide +kernel) hC hat2 xg_2 xo_2 hz hAe hs hP hD hS (hl.1.trans hml.symm) dX4_column_26 dX4_column_29 dX4_column_30 dX4_column_32 dX4_column_35 hex (Nat.le_of_ble_eq_true rfl) (Nat.le_of_ble_eq_true rfl) (Nat.le_of_ble_eq_true rfl) (Nat.le_of_ble_eq_true rfl) hlocks (Nat.le_of_ble_eq_true rfl) (Nat.le_of_ble_eq_true rfl)
      · have hs := sp_f c_3 hs
        refine lv_iload_n hx hb dX4_column_21 rfl (lv_at hl 2 rfl) ?_
        refine lv_iconst (v := 2) hx hb dX4_column_22 (by decide) ?_
        refine lv_icmp_le (tgt := 36) hx hb dX4_column_23 (by decide) (fun c_4 => ?_) (fun c_4 => ?_)
        · have hs := sp_t c_4 hs
          refine lv_iload_n hx hb dX4_column_36 rfl (lv_at hl 3 rfl) ?_
          refine lv_if_lt (tgt := 45) hx hb dX4_column_37 (by decide) (fun c_5 => ?_) (fun c_5 => ?_)
          · have hs := sp_t c_5 hs
            exact th_row (f := wX g ca) (text := "surface is out of range") 2 (by decide) hx hb hl9 hown (hts (.classLink RX4 86 "java/lang/IllegalArgumentException") (by decide +kernel)) (hts (.initialized "java/lang/IllegalArgumentException") (by decide +kernel)) (by decide +kernel) hC hat2 xg_2 xo_2 hz hAe hs hP hD hS (hl.1.trans hml.symm) dX4_column_45 dX4_column_48 dX4_column_49 dX4_column_51 dX4_column_54 hex (Nat.le_of_ble_eq_true rfl) (Nat.le_of_ble_eq_true rfl) (Nat.le_of_ble_eq_true rfl) (Nat.le_of_ble_eq_true rfl) hlocks (Nat.le_of_ble_eq_true rfl) (Nat.le_of_ble_eq_true rfl)
          · have hs := sp_f c_5 hs
            refine lv_iload_n hx hb dX4_column_40 rfl (lv_at hl 3 rfl) ?_
            refine lv_iconst (v := 2) hx hb dX4_column_41 (by decide) ?_
            refine lv_icmp_le (tgt := 55) hx hb dX4_column_42 (by decide) (fun c_6 => ?_) (fun c_6 => ?_)
            · have hs := sp_t c_6 hs
              refine lv_aload_n hx hb dX4_column_55 rfl (lv_at hl 0 rfl) ?_
              refine va_get (D := D) (ci := 4) (fs := fsX g (x)) (v := .ref (g 1)) (C := RX4) (T := TX4) (N := 16) hx hb hts iX4 hown hK hP 0 rfl rfl 0 (by decide) (hts (.fieldLink RX4 10 "FacadeShow" "square" "LFacadeShow$Square;") (by decide +kernel)) (fun _ h9 => h9) rfl dX4_column_56 ?_
              refine lv_iload_n hx hb dX4_column_59 rfl (lv_at hl 1 rfl) ?_
              refine lv_iload_n hx hb dX4_column_60 rfl (lv_at hl 2 rfl) ?_
              refine lv_iload_n hx hb dX4_column_61 rfl (lv_at hl 3 rfl) ?_
              obtain ⟨v_7, h_7, hs⟩ := sp_b hs
              refine wr_v (va_runVN (As := [.int (a1), .int (a2), .int (a3)]) (rest := []) ⟨hx, hb, hml, hown, hts⟩ (c_X2_build l D ca g x a1 a2 a3 h_7 H.size) ⟨va_cnB 3 hts gX4_column_X2_build_n93 rfl rfl rfl (hC.2.1 _ nk_X4_93) (hts (.initialized RX2) (by decide +kernel)) (by decide +kernel) ⟨Nat.le_of_ble_eq_true rfl, Nat.le_of_ble_eq_true rfl⟩, hts (.instanceMethod yX2_build) (by decide +kernel), hts (.selects RX2 yX2_build yX2_build) (by decide +kernel)⟩ (wP_V (q := (RX2, TX2, 3)) hP hC hD 1 rfl rfl) rfl rfl hl.1 rfl (lv_room (Nat.le_of_ble_eq_true rfl)) dX4_column_62 ⟨Nat.zero_le _, Nat.zero_le _⟩) hD hS hA (fun H locs hP hD hS => ?_)
              exact tt_v (f := wX g ca) hx hb hr hAe hs hP hD hS (Nat.le_of_ble_eq_true rfl) (Nat.le_of_ble_eq_true rfl) dX4_column_65 hlocks
            · have hs := sp_f c_6 hs
              exact th_row (f := wX g ca) (text := "surface is out of range") 2 (by decide) hx hb hl9 hown (hts (.classLink RX4 86 "java/lang/IllegalArgumentException") (by decide +kernel)) (hts (.initialized "java/lang/IllegalArgumentException") (by decide +kernel)) (by decide +kernel) hC hat2 xg_2 xo_2 hz hAe hs hP hD hS (hl.1.trans hml.symm) dX4_column_45 dX4_column_48 dX4_column_49 dX4_column_51 dX4_column_54 hex (Nat.le_of_ble_eq_true rfl) (Nat.le_of_ble_eq_true rfl) (Nat.le_of_ble_eq_true rfl) (Nat.le_of_ble_eq_true rfl) hlocks (Nat.le_of_ble_eq_true rfl) (Nat.le_of_ble_eq_true rfl)
        · have hs := sp_f c_4 hs
          exact th_row (f := wX g ca) (text := "relief is out of range") 2 (by decide) hx hb hl9 hown (hts (.classLink RX4 86 "java/lang/IllegalArgumentException") (by decide +kernel)) (hts (.initialized "java/lang/IllegalArgumentException") (by decide +kernel)) (by decide +kernel) hC hat2 xg_2 xo_2 hz hAe hs hP hD hS (hl.1.trans hml.symm) dX4_column_26 dX4_column_29 dX4_column_30 dX4_column_32 dX4_column_35 hex (Nat.le_of_ble_eq_true rfl) (Nat.le_of_ble_eq_true rfl) (Nat.le_of_ble_eq_true rfl) (Nat.le_of_ble_eq_true rfl) hlocks (Nat.le_of_ble_eq_true rfl) (Nat.le_of_ble_eq_true rfl)
    · have hs := sp_t c_2 hs
      exact th_row (f := wX g ca) (text := "no such column") 1 (by decide) hx hb hl9 hown (hts (.classLink RX4 79 "java/lang/IndexOutOfBoundsException") (by decide +kernel)) (hts (.initialized "java/lang/IndexOutOfBoundsException") (by decide +kernel)) (by decide +kernel) hC hat1 xg_1 xo_1 hz hAe hs hP hD hS (hl.1.trans hml.symm) dX4_column_7 dX4_column_10 dX4_column_11 dX4_column_13 dX4_column_16 hex (Nat.le_of_ble_eq_true rfl) (Nat.le_of_ble_eq_true rfl) (Nat.le_of_ble_eq_true rfl) (Nat.le_of_ble_eq_true rfl) hlocks (Nat.le_of_ble_eq_true rfl) (Nat.le_of_ble_eq_true rfl)
  rw [hHe, hle] at hgo
  exact hgo
def s_X4_cell (x : XS) (a1 : Int32) (a2 : Int32) (a3 : Int32) : Option (Nat × Int32 × XS) := (s_X4_isColumn a1).bind fun v_1 => (if v_1 = 0 then some (1, 0, x) else (s_X4_isOpenRow a2).bind fun v_3 => (if v_3 = 0 then some (1, 0, x) else (if a3 < 0 then some (2, 0, x) else (if a3 ≤ 3 then (s_X2_contentOf x a1 a2).bind fun v_7 => (if v_7 = 4 then some (3, 0, x) else (s_X2_put x a1 a2 a3).bind fun v_9 => some (0, v_7, v_9)) else some (2, 0, x)))))
set_option maxHeartbeats 4000000 in
set_option maxRecDepth 100000 in
theorem c_X4_cell (l : Launch) (hl9 : l.stackTraces = false) (D : va_G) (ca : Nat → ClassId) (g : Nat → Nat) (x : XS) (a1 : Int32) (a2 : Int32) (a3 : Int32) {r : (Nat × Int32 × XS)} (hs : s_X4_cell x a1 a2 a3 = some r) (sz : Nat) : vx_Met l yX4_cell wsX4_cell ({ frames := 6, cells := 1, slots := 6, locals := 82 }) (tP [.ref (g 0), .int (a1), .int (a2), .int (a3)] D ca (wX g ca x) sz) (tQi r D (wX g ca x) (wX g ca) sz) (tX r.1 r.2.2 D (wX g ca x) (wX g ca) sz) 1 6 (va_A (wX g ca x) sz) := by
  refine vx_ofW (cc := cX4_cell) (maxL := 5) (ret := (some .int)) (by decide) rfl ?_
  intro p e s m args below meth c s₁ B hml hex hv
  obtain ⟨rfl, hsz, hP, hC, hD0, hz⟩ := hv
  have hx := B.exec
  have hb := B.bytes
  have hr := B.returns
  have hts := atoms_spec (ws := wsX4_cell) B.pre
  have hown : s.vm.findClass RX4 = some m.cls := findClass_of_methodNamed B.named
  have hlocks := B.notSynchronized
  have hK := hC.1
  subst hsz
  have hD := hD0.self (sz := s.heap.size)
  generalize hAe : va_A (wX g ca x) s.heap.size = A at hD hz ⊢
  have hA : ∀ q : Nat, s.heap.size ≤ q → A q := fun q h => by rw [← hAe]; exact Or.inr h
  have hS : va_S A s.heap s.heap [] := va_S.rf
  skip
  have hat1 : ∀ w ∈ (vx_atS RX4 83 "java/lang/IndexOutOfBoundsException" ["java/lang/RuntimeException", "java/lang/Exception"]).filter goodWord, w.before _ s = true := fun w hw => hts w (List.mem_cons_of_mem _ (List.mem_append_left _ (List.mem_append_left _ (List.mem_append_right _ hw))))
  have hat2 : ∀ w ∈ (vx_atS RX4 90 "java/lang/IllegalArgumentException" ["java/lang/RuntimeException", "java/lang/Exception"]).filter goodWord, w.before _ s = true := fun w hw => hts w (List.mem_cons_of_mem _ (List.mem_append_left _ (List.mem_append_right _ hw)))
  have hat3 : ∀ w ∈ (vx_atS RX4 112 "java/lang/IllegalStateException" ["java/lang/RuntimeException", "java/lang/Exception"]).filter goodWord, w.before _ s = true := fun w hw => hts w (List.mem_cons_of_mem _ (List.mem_append_right _ hw))
  have iX4 : ∀ w ∈ u_ws RX4 TX4 16, w ∈ wsX4_cell := by decide +kernel
  have hl := lv_entry ([.ref (g 0), .int (a1), .int (a2), .int (a3)]) (n := 5) (Nat.le_of_ble_eq_true rfl)
  rw [lg_entry_eq]
  generalize (lg_sl ([.ref (g 0), .int (a1), .int (a2), .int (a3)]) ++ List.replicate (5 - (lg_sl ([.ref (g 0), .int (a1), .int (a2), .int (a3)])).length) Slot.unset).toArray = ls at hl ⊢
  have hl : lv_has ls 5 [(0, .ref (g 0)), (1, .int (a1)), (2, .int (a2)), (3, .int (a3))] := hl
  unfold s_X4_cell at hs
  obtain ⟨H, hHe⟩ : ∃ H, H = s.heap := ⟨_, rfl⟩
  obtain ⟨locs, hle⟩ : ∃ z : List Loc, z = [] := ⟨_, rfl⟩
  have hP : va_P D vwCl (wX g ca x) H := by rw [hHe]; exact hP
  have hS : va_S A s.heap H locs := by rw [hHe, hle]; exact hS
  show W p l e (headSpec wsX4_cell ({ frames := 6, cells := 1, slots := 6, locals := 82 })).room s m #[.ref (g 0), .int (a1), .int (a2), .int (a3)] below meth c s.heap [] 0 0 _ _
  have hgo : W p l e (headSpec wsX4_cell ({ frames := 6, cells := 1, slots := 6, locals := 82 })).room s m #[.ref (g 0), .int (a1), .int (a2), .int (a3)] below meth c H locs 0 0 (vx_MQ below (tQi r D (wX g ca x) (wX g ca) s.heap.size) (tX r.1 r.2.2 D (wX g ca x) (wX g ca) s.heap.size) #[.ref (g 0), .int (a1), .int (a2), .int (a3)] s 1 6 A) (F0 m 0 ls []) := by
    refine lv_iload_n hx hb dX4_cell_0 rfl (lv_at hl 1 rfl) ?_
    obtain ⟨v_1, h_1, hs⟩ := sp_b hs
    refine rd_i (va_runS (As := [.int (a1)]) (rest := []) ⟨hx, hb, hml, hown, hts⟩ (c_X4_isColumn l D ca a1 h_1) (va_cwS 1 hts gX4_cell_X4_isColumn rfl rfl rfl (by decide +kernel) ⟨Nat.le_of_ble_eq_true rfl, Nat.le_of_ble_eq_true rfl⟩) (rP_S va_P_nil hC) rfl rfl hl.1 rfl (lv_room (Nat.le_of_ble_eq_true rfl)) dX4_cell_1 ⟨Nat.zero_le _, Nat.zero_le _⟩) ?_
    refine lv_if_eq (tgt := 14) hx hb dX4_cell_4 (by decide) (fun c_2 => ?_) (fun c_2 => ?_)
    · have hs := sp_t c_2 hs
      exact th_row (f := wX g ca) (text := "no such cell") 1 (by decide) hx hb hl9 hown (hts (.classLink RX4 79 "java/lang/IndexOutOfBoundsException") (by decide +kernel)) (hts (.initialized "java/lang/IndexOutOfBoundsException") (by decide +kernel)) (by decide +kernel) hC hat1 xg_1 xo_1 hz hAe hs hP hD hS (hl.1.trans hml.symm) dX4_cell_14 dX4_cell_17 dX4_cell_18 dX4_cell_20 dX4_cell_23 hex (Nat.le_of_ble_eq_true rfl) (Nat.le_of_ble_eq_true rfl) (Nat.le_of_ble_eq_true rfl) (Nat.le_of_ble_eq_true rfl) hlocks (Nat.le_of_ble_eq_true rfl) (Nat.le_of_ble_eq_true rfl)
    · have hs := sp_f c_2 hs
      refine lv_iload_n hx hb dX4_cell_7 rfl (lv_at hl 2 rfl) ?_
      obtain ⟨v_3, h_3, hs⟩ := sp_b hs
      refine rd_i (va_runS (As := [.int (a2)]) (rest := []) ⟨hx, hb, hml, hown, hts⟩ (c_X4_isOpenRow l D ca a2 h_3) (va_cwS 1 hts gX4_cell_X4_isOpenRow rfl rfl rfl (by decide +kernel) ⟨Nat.le_of_ble_eq_true rfl, Nat.le_of_ble_eq_true rfl⟩) (rP_S va_P_nil hC) rfl rfl hl.1 rfl (lv_room (Nat.le_of_ble_eq_true rfl)) dX4_cell_8 ⟨Nat.zero_le _, Nat.zero_le _⟩) ?_
      refine lv_if_ne (tgt := 24) hx hb dX4_cell_11 (by decide) (fun c_4 => ?_) (fun c_4 => ?_)
      · have hs := sp_f c_4 hs
        refine lv_iload_n hx hb dX4_cell_24 rfl (lv_at hl 3 rfl) ?_
        refine lv_if_lt (tgt := 33) hx hb dX4_cell_25 (by decide) (fun c_5 => ?_) (fun c_5 => ?_)
        · have hs := sp_t c_5 hs
          exact th_row (f := wX g ca) (text := "what is out of range") 2 (by decide) hx hb hl9 hown (hts (.classLink RX4 86 "java/lang/IllegalArgumentException") (by decide +kernel)) (hts (.initialized "java/lang/IllegalArgumentException") (by decide +kernel)) (by decide +kernel) hC hat2 xg_2 xo_2 hz hAe hs hP hD hS (hl.1.trans hml.symm) dX4_cell_33 dX4_cell_36 dX4_cell_37 dX4_cell_39 dX4_cell_42 hex (Nat.le_of_ble_eq_true rfl) (Nat.le_of_ble_eq_true rfl) (Nat.le_of_ble_eq_true rfl) (Nat.le_of_ble_eq_true rfl) hlocks (Nat.le_of_ble_eq_true rfl) (Nat.le_of_ble_eq_true rfl)
        · have hs := sp_f c_5 hs
          refine lv_iload_n hx hb dX4_cell_28 rfl (lv_at hl 3 rfl) ?_
          refine lv_iconst (v := 3) hx hb dX4_cell_29 (by decide) ?_
          refine lv_icmp_le (tgt := 43) hx hb dX4_cell_30 (by decide) (fun c_6 => ?_) (fun c_6 => ?_)
          · have hs := sp_t c_6 hs
            refine lv_aload_n hx hb dX4_cell_43 rfl (lv_at hl 0 rfl) ?_
            refine va_get (D := D) (ci := 4) (fs := fsX g (x)) (v := .ref (g 1)) (C := RX4) (T := TX4) (N := 16) hx hb hts iX4 hown hK hP 0 rfl rfl 0 (by decide) (hts (.fieldLink RX4 10 "FacadeShow" "square" "LFacadeShow$Square;") (by decide +kernel)) (fun _ h9 => h9) rfl dX4_cell_44 ?_
            refine lv_iload_n hx hb dX4_cell_47 rfl (lv_at hl 1 rfl) ?_
            refine lv_iload_n hx hb dX4_cell_48 rfl (lv_at hl 2 rfl) ?_
            obtain ⟨v_7, h_7, hs⟩ := sp_b hs
            refine rd_i (va_runVN (As := [.int (a1), .int (a2)]) (rest := []) ⟨hx, hb, hml, hown, hts⟩ (c_X2_contentOf l D ca g x a1 a2 h_7) ⟨va_cnB 2 hts gX4_cell_X2_contentOf_n104 rfl rfl rfl (hC.2.1 _ nk_X4_104) (hts (.initialized RX2) (by decide +kernel)) (by decide +kernel) ⟨Nat.le_of_ble_eq_true rfl, Nat.le_of_ble_eq_true rfl⟩, hts (.instanceMethod yX2_contentOf) (by decide +kernel), hts (.selects RX2 yX2_contentOf yX2_contentOf) (by decide +kernel)⟩ (rP_V (q := (RX2, TX2, 3)) hP hC 1 rfl rfl) rfl rfl hl.1 rfl (lv_room (Nat.le_of_ble_eq_true rfl)) dX4_cell_49 ⟨Nat.zero_le _, Nat.zero_le _⟩) ?_
            refine lv_istore (lv' := [(4, .int (v_7)), (0, .ref (g 0)), (1, .int (a1)), (2, .int (a2)), (3, .int (a3))]) hx hb dX4_cell_52 hl (by decide) rfl (fun ls hl => ?_)
            refine lv_iload hx hb dX4_cell_54 (lv_at hl 0 rfl) ?_
            refine lv_iconst (v := 4) hx hb dX4_cell_56 (by decide) ?_
            refine lv_icmp_ne (tgt := 70) hx hb dX4_cell_57 (by decide) (fun c_8 => ?_) (fun c_8 => ?_)
            · have hs := sp_f c_8 hs
              refine lv_aload_n hx hb dX4_cell_70 rfl (lv_at hl 1 rfl) ?_
              refine va_get (D := D) (ci := 4) (fs := fsX g (x)) (v := .ref (g 1)) (C := RX4) (T := TX4) (N := 16) hx hb hts iX4 hown hK hP 0 rfl rfl 0 (by decide) (hts (.fieldLink RX4 10 "FacadeShow" "square" "LFacadeShow$Square;") (by decide +kernel)) (fun _ h9 => h9) rfl dX4_cell_71 ?_
              refine lv_iload_n hx hb dX4_cell_74 rfl (lv_at hl 2 rfl) ?_
              refine lv_iload_n hx hb dX4_cell_75 rfl (lv_at hl 3 rfl) ?_
              refine lv_iload_n hx hb dX4_cell_76 rfl (lv_at hl 4 rfl) ?_
              obtain ⟨v_9, h_9, hs⟩ := sp_b hs
              refine wr_v (va_runVN (As := [.int (a1), .int (a2), .int (a3)]) (rest := []) ⟨hx, hb, hml, hown, hts⟩ (c_X2_put l D ca g x a1 a2 a3 h_9 H.size) ⟨va_cnB 3 hts gX4_cell_X2_put_n113 rfl rfl rfl (hC.2.1 _ nk_X4_113) (hts (.initialized RX2) (by decide +kernel)) (by decide +kernel) ⟨Nat.le_of_ble_eq_true rfl, Nat.le_of_ble_eq_true rfl⟩, hts (.instanceMethod yX2_put) (by decide +kernel), hts (.selects RX2 yX2_put yX2_put) (by decide +kernel)⟩ (wP_V (q := (RX2, TX2, 3)) hP hC hD 1 rfl rfl) rfl rfl hl.1 rfl (lv_room (Nat.le_of_ble_eq_true rfl)) dX4_cell_77 ⟨Nat.zero_le _, Nat.zero_le _⟩) hD hS hA (fun H locs hP hD hS => ?_)
              refine lv_iload hx hb dX4_cell_80 (lv_at hl 0 rfl) ?_
              exact tt_i (f := wX g ca) hx hb hr hAe hs hP hD hS (Nat.le_of_ble_eq_true rfl) (Nat.le_of_ble_eq_true rfl) dX4_cell_82 hlocks
            · have hs := sp_t c_8 hs
              exact th_row (f := wX g ca) (text := "the cell has a mast") 3 (by decide) hx hb hl9 hown (hts (.classLink RX4 108 "java/lang/IllegalStateException") (by decide +kernel)) (hts (.initialized "java/lang/IllegalStateException") (by decide +kernel)) (by decide +kernel) hC hat3 xg_3 xo_3 hz hAe hs hP hD hS (hl.1.trans hml.symm) dX4_cell_60 dX4_cell_63 dX4_cell_64 dX4_cell_66 dX4_cell_69 hex (Nat.le_of_ble_eq_true rfl) (Nat.le_of_ble_eq_true rfl) (Nat.le_of_ble_eq_true rfl) (Nat.le_of_ble_eq_true rfl) hlocks (Nat.le_of_ble_eq_true rfl) (Nat.le_of_ble_eq_true rfl)
          · have hs := sp_f c_6 hs
            exact th_row (f := wX g ca) (text := "what is out of range") 2 (by decide) hx hb hl9 hown (hts (.classLink RX4 86 "java/lang/IllegalArgumentException") (by decide +kernel)) (hts (.initialized "java/lang/IllegalArgumentException") (by decide +kernel)) (by decide +kernel) hC hat2 xg_2 xo_2 hz hAe hs hP hD hS (hl.1.trans hml.symm) dX4_cell_33 dX4_cell_36 dX4_cell_37 dX4_cell_39 dX4_cell_42 hex (Nat.le_of_ble_eq_true rfl) (Nat.le_of_ble_eq_true rfl) (Nat.le_of_ble_eq_true rfl) (Nat.le_of_ble_eq_true rfl) hlocks (Nat.le_of_ble_eq_true rfl) (Nat.le_of_ble_eq_true rfl)
      · have hs := sp_t c_4 hs
        exact th_row (f := wX g ca) (text := "no such cell") 1 (by decide) hx hb hl9 hown (hts (.classLink RX4 79 "java/lang/IndexOutOfBoundsException") (by decide +kernel)) (hts (.initialized "java/lang/IndexOutOfBoundsException") (by decide +kernel)) (by decide +kernel) hC hat1 xg_1 xo_1 hz hAe hs hP hD hS (hl.1.trans hml.symm) dX4_cell_14 dX4_cell_17 dX4_cell_18 dX4_cell_20 dX4_cell_23 hex (Nat.le_of_ble_eq_true rfl) (Nat.le_of_ble_eq_true rfl) (Nat.le_of_ble_eq_true rfl) (Nat.le_of_ble_eq_true rfl) hlocks (Nat.le_of_ble_eq_true rfl) (Nat.le_of_ble_eq_true rfl)
  rw [hHe, hle] at hgo
  exact hgo
def s_X4_need (x : XS) (a1 : Int32) (a2 : Int32) : Option (Nat × Int32 × XS) := (if a1 < 0 then some (2, 0, x) else (if a1 ≤ 65535 then (if a2 < 1 then some (2, 0, x) else (if a2 ≤ 9999 then some (0, 0, si (si (x) 0 5 a1) 0 6 a2) else some (2, 0, x))) else some (2, 0, x)))
set_option maxHeartbeats 4000000 in
set_option maxRecDepth 100000 in
theorem c_X4_need (l : Launch) (hl9 : l.stackTraces = false) (D : va_G) (ca : Nat → ClassId) (g : Nat → Nat) (x : XS) (a1 : Int32) (a2 : Int32) {r : (Nat × Int32 × XS)} (hs : s_X4_need x a1 a2 = some r) (sz : Nat) : vx_Met l yX4_need wsX4_need ({ frames := 6, cells := 1, slots := 6, locals := 82 }) (tP [.ref (g 0), .int (a1), .int (a2)] D ca (wX g ca x) sz) (tQv r D (wX g ca x) (wX g ca) sz) (tX r.1 r.2.2 D (wX g ca x) (wX g ca) sz) 1 6 (va_A (wX g ca x) sz) := by
  refine vx_ofW (cc := cX4_need) (maxL := 3) (ret := none) (by decide) rfl ?_
  intro p e s m args below meth c s₁ B hml hex hv
  obtain ⟨rfl, hsz, hP, hC, hD0, hz⟩ := hv
  have hx := B.exec
  have hb := B.bytes
  have hr := B.returns
  have hts := atoms_spec (ws := wsX4_need) B.pre
  have hown : s.vm.findClass RX4 = some m.cls := findClass_of_methodNamed B.named
  have hlocks := B.notSynchronized
  have hK := hC.1
  subst hsz
  have hD := hD0.self (sz := s.heap.size)
  generalize hAe : va_A (wX g ca x) s.heap.size = A at hD hz ⊢
  have hA : ∀ q : Nat, s.heap.size ≤ q → A q := fun q h => by rw [← hAe]; exact Or.inr h
  have hS : va_S A s.heap s.heap [] := va_S.rf
  skip
  have hat2 : ∀ w ∈ (vx_atS RX4 90 "java/lang/IllegalArgumentException" ["java/lang/RuntimeException", "java/lang/Exception"]).filter goodWord, w.before _ s = true := fun w hw => hts w (List.mem_cons_of_mem _ (List.mem_append_right _ hw))
  have iX4 : ∀ w ∈ u_ws RX4 TX4 16, w ∈ wsX4_need := by decide +kernel
  have hl := lv_entry ([.ref (g 0), .int (a1), .int (a2)]) (n := 3) (Nat.le_of_ble_eq_true rfl)
  rw [lg_entry_eq]
  generalize (lg_sl ([.ref (g 0), .int (a1), .int (a2)]) ++ List.replicate (3 - (lg_sl ([.ref (g 0), .int (a1), .int (a2)])).length) Slot.unset).toArray = ls at hl ⊢
  have hl : lv_has ls 3 [(0, .ref (g 0)), (1, .int (a1)), (2, .int (a2))] := hl
  unfold s_X4_need at hs
  obtain ⟨H, hHe⟩ : ∃ H, H = s.heap := ⟨_, rfl⟩
  obtain ⟨locs, hle⟩ : ∃ z : List Loc, z = [] := ⟨_, rfl⟩
  have hP : va_P D vwCl (wX g ca x) H := by rw [hHe]; exact hP
  have hS : va_S A s.heap H locs := by rw [hHe, hle]; exact hS
  show W p l e (headSpec wsX4_need ({ frames := 6, cells := 1, slots := 6, locals := 82 })).room s m #[.ref (g 0), .int (a1), .int (a2)] below meth c s.heap [] 0 0 _ _
  have hgo : W p l e (headSpec wsX4_need ({ frames := 6, cells := 1, slots := 6, locals := 82 })).room s m #[.ref (g 0), .int (a1), .int (a2)] below meth c H locs 0 0 (vx_MQ below (tQv r D (wX g ca x) (wX g ca) s.heap.size) (tX r.1 r.2.2 D (wX g ca x) (wX g ca) s.heap.size) #[.ref (g 0), .int (a1), .int (a2)] s 1 6 A) (F0 m 0 ls []) := by
    refine lv_iload_n hx hb dX4_need_0 rfl (lv_at hl 1 rfl) ?_
    refine lv_if_lt (tgt := 10) hx hb dX4_need_1 (by decide) (fun c_1 => ?_) (fun c_1 => ?_)
    · have hs := sp_t c_1 hs
      exact th_row (f := wX g ca) (text := "columns is out of range") 2 (by decide) hx hb hl9 hown (hts (.classLink RX4 86 "java/lang/IllegalArgumentException") (by decide +kernel)) (hts (.initialized "java/lang/IllegalArgumentException") (by decide +kernel)) (by decide +kernel) hC hat2 xg_2 xo_2 hz hAe hs hP hD hS (hl.1.trans hml.symm) dX4_need_10 dX4_need_13 dX4_need_14 dX4_need_16 dX4_need_19 hex (Nat.le_of_ble_eq_true rfl) (Nat.le_of_ble_eq_true rfl) (Nat.le_of_ble_eq_true rfl) (Nat.le_of_ble_eq_true rfl) hlocks (Nat.le_of_ble_eq_true rfl) (Nat.le_of_ble_eq_true rfl)
    · have hs := sp_f c_1 hs
      refine lv_iload_n hx hb dX4_need_4 rfl (lv_at hl 1 rfl) ?_
      refine lv_ldc (v := 65535) hx hb hown (hts (.constant RX4 116 (65535)) (by decide +kernel)) dX4_need_5 ?_
      refine lv_icmp_le (tgt := 20) hx hb dX4_need_7 (by decide) (fun c_2 => ?_) (fun c_2 => ?_)
      · have hs := sp_t c_2 hs
        refine lv_iload_n hx hb dX4_need_20 rfl (lv_at hl 2 rfl) ?_
        refine lv_iconst (v := 1) hx hb dX4_need_21 (by decide) ?_
        refine lv_icmp_lt (tgt := 32) hx hb dX4_need_22 (by decide) (fun c_3 => ?_) (fun c_3 => ?_)
        · have hs := sp_t c_3 hs
          exact th_row (f := wX g ca) (text := "level is out of range") 2 (by decide) hx hb hl9 hown (hts (.classLink RX4 86 "java/lang/IllegalArgumentException") (by decide +kernel)) (hts (.initialized "java/lang/IllegalArgumentException") (by decide +kernel)) (by decide +kernel) hC hat2 xg_2 xo_2 hz hAe hs hP hD hS (hl.1.trans hml.symm) dX4_need_32 dX4_need_35 dX4_need_36 dX4_need_38 dX4_need_41 hex (Nat.le_of_ble_eq_true rfl) (Nat.le_of_ble_eq_true rfl) (Nat.le_of_ble_eq_true rfl) (Nat.le_of_ble_eq_true rfl) hlocks (Nat.le_of_ble_eq_true rfl) (Nat.le_of_ble_eq_true rfl)
        · have hs := sp_f c_3 hs
          refine lv_iload_n hx hb dX4_need_25 rfl (lv_at hl 2 rfl) ?_
          refine lv_sipush (v := 9999) hx hb dX4_need_26 (by decide) ?_
          refine lv_icmp_le (tgt := 42) hx hb dX4_need_29 (by decide) (fun c_4 => ?_) (fun c_4 => ?_)
          · have hs := sp_t c_4 hs
            refine lv_aload_n hx hb dX4_need_42 rfl (lv_at hl 0 rfl) ?_
            refine lv_iload_n hx hb dX4_need_43 rfl (lv_at hl 1 rfl) ?_
            refine va_put (D := D) (ci := 4) (fs := fsX g (x)) (v := .int (a1)) (ty := .int) (C := RX4) (T := TX4) (N := 16) hx hb hts iX4 tyX4 tyX4_ok nmX4 hown hK hP hD hS 0 rfl rfl 5 (by decide) (hts (.fieldLink RX4 33 "FacadeShow" "needed" "I") (by decide +kernel)) (fun _ h9 => h9) rfl (by decide +kernel) rfl rfl (Nat.le_of_ble_eq_true rfl) dX4_need_44 (fun H locs hP hD hS => ?_)
            rw [wX_f5] at hP hD
            refine lv_aload_n hx hb dX4_need_47 rfl (lv_at hl 0 rfl) ?_
            refine lv_iload_n hx hb dX4_need_48 rfl (lv_at hl 2 rfl) ?_
            refine va_put (D := D) (ci := 4) (fs := fsX g (si (x) 0 5 a1)) (v := .int (a2)) (ty := .int) (C := RX4) (T := TX4) (N := 16) hx hb hts iX4 tyX4 tyX4_ok nmX4 hown hK hP hD hS 0 rfl rfl 6 (by decide) (hts (.fieldLink RX4 36 "FacadeShow" "levelNow" "I") (by decide +kernel)) (fun _ h9 => h9) rfl (by decide +kernel) rfl rfl (Nat.le_of_ble_eq_true rfl) dX4_need_49 (fun H locs hP hD hS => ?_)
            rw [wX_f6] at hP hD
            exact tt_v (f := wX g ca) hx hb hr hAe hs hP hD hS (Nat.le_of_ble_eq_true rfl) (Nat.le_of_ble_eq_true rfl) dX4_need_52 hlocks
          · have hs := sp_f c_4 hs
            exact th_row (f := wX g ca) (text := "level is out of range") 2 (by decide) hx hb hl9 hown (hts (.classLink RX4 86 "java/lang/IllegalArgumentException") (by decide +kernel)) (hts (.initialized "java/lang/IllegalArgumentException") (by decide +kernel)) (by decide +kernel) hC hat2 xg_2 xo_2 hz hAe hs hP hD hS (hl.1.trans hml.symm) dX4_need_32 dX4_need_35 dX4_need_36 dX4_need_38 dX4_need_41 hex (Nat.le_of_ble_eq_true rfl) (Nat.le_of_ble_eq_true rfl) (Nat.le_of_ble_eq_true rfl) (Nat.le_of_ble_eq_true rfl) hlocks (Nat.le_of_ble_eq_true rfl) (Nat.le_of_ble_eq_true rfl)
      · have hs := sp_f c_2 hs
        exact th_row (f := wX g ca) (text := "columns is out of range") 2 (by decide) hx hb hl9 hown (hts (.classLink RX4 86 "java/lang/IllegalArgumentException") (by decide +kernel)) (hts (.initialized "java/lang/IllegalArgumentException") (by decide +kernel)) (by decide +kernel) hC hat2 xg_2 xo_2 hz hAe hs hP hD hS (hl.1.trans hml.symm) dX4_need_10 dX4_need_13 dX4_need_14 dX4_need_16 dX4_need_19 hex (Nat.le_of_ble_eq_true rfl) (Nat.le_of_ble_eq_true rfl) (Nat.le_of_ble_eq_true rfl) (Nat.le_of_ble_eq_true rfl) hlocks (Nat.le_of_ble_eq_true rfl) (Nat.le_of_ble_eq_true rfl)
  rw [hHe, hle] at hgo
  exact hgo
def s_X4_aim (x : XS) (a1 : Int32) (a2 : Int32) (a3 : Int32) : Option (Nat × Int32 × XS) := (s_X4_find x a1).bind fun v_1 => opq v_1 (some (1, 0, x)) (fun j_1 => (s_X4_isColumn a2).bind fun v_2 => (if v_2 = 0 then some (1, 0, x) else (s_X4_isColumn a3).bind fun v_4 => (if v_4 = 0 then some (1, 0, x) else (if a3 < a2 then some (2, 0, x) else (if a3 ≤ (a2 + 7) then grd j_1 (x).2.2 (some (0, 0, si (si (x) 25 j_1 a2) 26 j_1 a3)) else some (2, 0, x))))))
set_option maxHeartbeats 4000000 in
set_option maxRecDepth 100000 in
theorem c_X4_aim (l : Launch) (hl9 : l.stackTraces = false) (D : va_G) (ca : Nat → ClassId) (g : Nat → Nat) (x : XS) (a1 : Int32) (a2 : Int32) (a3 : Int32) {r : (Nat × Int32 × XS)} (hs : s_X4_aim x a1 a2 a3 = some r) (sz : Nat) : vx_Met l yX4_aim wsX4_aim ({ frames := 6, cells := 1, slots := 6, locals := 82 }) (tP [.ref (g 0), .int (a1), .int (a2), .int (a3)] D ca (wX g ca x) sz) (tQv r D (wX g ca x) (wX g ca) sz) (tX r.1 r.2.2 D (wX g ca x) (wX g ca) sz) 1 6 (va_A (wX g ca x) sz) := by
  refine vx_ofW (cc := cX4_aim) (maxL := 5) (ret := none) (by decide) rfl ?_
  intro p e s m args below meth c s₁ B hml hex hv
  obtain ⟨rfl, hsz, hP, hC, hD0, hz⟩ := hv
  have hx := B.exec
  have hb := B.bytes
  have hr := B.returns
  have hts := atoms_spec (ws := wsX4_aim) B.pre
  have hown : s.vm.findClass RX4 = some m.cls := findClass_of_methodNamed B.named
  have hlocks := B.notSynchronized
  have hK := hC.1
  subst hsz
  have hD := hD0.self (sz := s.heap.size)
  generalize hAe : va_A (wX g ca x) s.heap.size = A at hD hz ⊢
  have hA : ∀ q : Nat, s.heap.size ≤ q → A q := fun q h => by rw [← hAe]; exact Or.inr h
  have hS : va_S A s.heap s.heap [] := va_S.rf
  skip
  have hat1 : ∀ w ∈ (vx_atS RX4 83 "java/lang/IndexOutOfBoundsException" ["java/lang/RuntimeException", "java/lang/Exception"]).filter goodWord, w.before _ s = true := fun w hw => hts w (List.mem_cons_of_mem _ (List.mem_append_left _ (List.mem_append_right _ hw)))
  have hat2 : ∀ w ∈ (vx_atS RX4 90 "java/lang/IllegalArgumentException" ["java/lang/RuntimeException", "java/lang/Exception"]).filter goodWord, w.before _ s = true := fun w hw => hts w (List.mem_cons_of_mem _ (List.mem_append_right _ hw))
  have iX0 : ∀ w ∈ u_ws RX0 TX0 10, w ∈ wsX4_aim := by decide +kernel
  have hl := lv_entry ([.ref (g 0), .int (a1), .int (a2), .int (a3)]) (n := 5) (Nat.le_of_ble_eq_true rfl)
  rw [lg_entry_eq]
  generalize (lg_sl ([.ref (g 0), .int (a1), .int (a2), .int (a3)]) ++ List.replicate (5 - (lg_sl ([.ref (g 0), .int (a1), .int (a2), .int (a3)])).length) Slot.unset).toArray = ls at hl ⊢
  have hl : lv_has ls 5 [(0, .ref (g 0)), (1, .int (a1)), (2, .int (a2)), (3, .int (a3))] := hl
  unfold s_X4_aim at hs
  obtain ⟨H, hHe⟩ : ∃ H, H = s.heap := ⟨_, rfl⟩
  obtain ⟨locs, hle⟩ : ∃ z : List Loc, z = [] := ⟨_, rfl⟩
  have hP : va_P D vwCl (wX g ca x) H := by rw [hHe]; exact hP
  have hS : va_S A s.heap H locs := by rw [hHe, hle]; exact hS
  show W p l e (headSpec wsX4_aim ({ frames := 6, cells := 1, slots := 6, locals := 82 })).room s m #[.ref (g 0), .int (a1), .int (a2), .int (a3)] below meth c s.heap [] 0 0 _ _
  have hgo : W p l e (headSpec wsX4_aim ({ frames := 6, cells := 1, slots := 6, locals := 82 })).room s m #[.ref (g 0), .int (a1), .int (a2), .int (a3)] below meth c H locs 0 0 (vx_MQ below (tQv r D (wX g ca x) (wX g ca) s.heap.size) (tX r.1 r.2.2 D (wX g ca x) (wX g ca) s.heap.size) #[.ref (g 0), .int (a1), .int (a2), .int (a3)] s 1 6 A) (F0 m 0 ls []) := by
    refine lv_aload_n hx hb dX4_aim_0 rfl (lv_at hl 0 rfl) ?_
    refine lv_iload_n hx hb dX4_aim_1 rfl (lv_at hl 1 rfl) ?_
    obtain ⟨v_1, h_1, hs⟩ := sp_b hs
    refine rd_q (va_runV (As := [.int (a1)]) (rest := []) ⟨hx, hb, hml, hown, hts⟩ (c_X4_find l D ca g x a1 h_1) (cwV 1 hts gX4_aim_X4_find rfl rfl rfl (by decide +kernel) ⟨Nat.le_of_ble_eq_true rfl, Nat.le_of_ble_eq_true rfl⟩) (rP_V (q := (RX4, TX4, 16)) hP hC 0 rfl rfl) rfl rfl hl.1 rfl (lv_room (Nat.le_of_ble_eq_true rfl)) dX4_aim_2 ⟨Nat.zero_le _, Nat.zero_le _⟩) (fun o_1 => ?_) (fun j_1 o_1 => ?_)
    · have hs := sp_on o_1 hs
      refine lv_astoreN (lv' := [(4, .null), (0, .ref (g 0)), (1, .int (a1)), (2, .int (a2)), (3, .int (a3))]) hx hb dX4_aim_5 hl (by decide) rfl (fun ls hl => ?_)
      refine lv_aloadN hx hb dX4_aim_7 (lv_at hl 0 rfl) ?_
      refine lv_ifnonnullN hx hb dX4_aim_9 ?_
      exact th_row (f := wX g ca) (text := "no such projector") 1 (by decide) hx hb hl9 hown (hts (.classLink RX4 79 "java/lang/IndexOutOfBoundsException") (by decide +kernel)) (hts (.initialized "java/lang/IndexOutOfBoundsException") (by decide +kernel)) (by decide +kernel) hC hat1 xg_1 xo_1 hz hAe hs hP hD hS (hl.1.trans hml.symm) dX4_aim_12 dX4_aim_15 dX4_aim_16 dX4_aim_18 dX4_aim_21 hex (Nat.le_of_ble_eq_true rfl) (Nat.le_of_ble_eq_true rfl) (Nat.le_of_ble_eq_true rfl) (Nat.le_of_ble_eq_true rfl) hlocks (Nat.le_of_ble_eq_true rfl) (Nat.le_of_ble_eq_true rfl)
    · have hs := sp_os o_1 hs
      refine lv_astore (lv' := [(4, .ref (adP g j_1)), (0, .ref (g 0)), (1, .int (a1)), (2, .int (a2)), (3, .int (a3))]) hx hb dX4_aim_5 hl (by decide) rfl (fun ls hl => ?_)
      refine lv_aload hx hb dX4_aim_7 (lv_at hl 0 rfl) ?_
      refine lv_ifnonnull (tgt := 22) hx hb dX4_aim_9 (by decide) ?_
      refine lv_iload_n hx hb dX4_aim_22 rfl (lv_at hl 3 rfl) ?_
      obtain ⟨v_2, h_2, hs⟩ := sp_b hs
      refine rd_i (va_runS (As := [.int (a2)]) (rest := []) ⟨hx, hb, hml, hown, hts⟩ (c_X4_isColumn l D ca a2 h_2) (va_cwS 1 hts gX4_aim_X4_isColumn rfl rfl rfl (by decide +kernel) ⟨Nat.le_of_ble_eq_true rfl, Nat.le_of_ble_eq_true rfl⟩) (rP_S va_P_nil hC) rfl rfl hl.1 rfl (lv_room (Nat.le_of_ble_eq_true rfl)) dX4_aim_23 ⟨Nat.zero_le _, Nat.zero_le _⟩) ?_
      refine lv_if_eq (tgt := 36) hx hb dX4_aim_26 (by decide) (fun c_3 => ?_) (fun c_3 => ?_)
      · have hs := sp_t c_3 hs
        exact th_row (f := wX g ca) (text := "no such column") 1 (by decide) hx hb hl9 hown (hts (.classLink RX4 79 "java/lang/IndexOutOfBoundsException") (by decide +kernel)) (hts (.initialized "java/lang/IndexOutOfBoundsException") (by decide +kernel)) (by decide +kernel) hC hat1 xg_1 xo_1 hz hAe hs hP hD hS (hl.1.trans hml.symm) dX4_aim_36 dX4_aim_39 dX4_aim_40 dX4_aim_42 dX4_aim_45 hex (Nat.le_of_ble_eq_true rfl) (Nat.le_of_ble_eq_true rfl) (Nat.le_of_ble_eq_true rfl) (Nat.le_of_ble_eq_true rfl) hlocks (Nat.le_of_ble_eq_true rfl) (Nat.le_of_ble_eq_true rfl)
      · have hs := sp_f c_3 hs
        refine lv_iload_n hx hb dX4_aim_29 rfl (lv_at hl 4 rfl) ?_
        obtain ⟨v_4, h_4, hs⟩ := sp_b hs
        refine rd_i (va_runS (As := [.int (a3)]) (rest := []) ⟨hx, hb, hml, hown, hts⟩ (c_X4_isColumn l D ca a3 h_4) (va_cwS 1 hts gX4_aim_X4_isColumn rfl rfl rfl (by decide +kernel) ⟨Nat.le_of_ble_eq_true rfl, Nat.le_of_ble_eq_true rfl⟩) (rP_S va_P_nil hC) rfl rfl hl.1 rfl (lv_room (Nat.le_of_ble_eq_true rfl)) dX4_aim_30 ⟨Nat.zero_le _, Nat.zero_le _⟩) ?_
        refine lv_if_ne (tgt := 46) hx hb dX4_aim_33 (by decide) (fun c_5 => ?_) (fun c_5 => ?_)
        · have hs := sp_f c_5 hs
          refine lv_iload_n hx hb dX4_aim_46 rfl (lv_at hl 4 rfl) ?_
          refine lv_iload_n hx hb dX4_aim_47 rfl (lv_at hl 3 rfl) ?_
          refine lv_icmp_lt (tgt := 59) hx hb dX4_aim_48 (by decide) (fun c_6 => ?_) (fun c_6 => ?_)
          · have hs := sp_t c_6 hs
            exact th_row (f := wX g ca) (text := "to is below from, or too far") 2 (by decide) hx hb hl9 hown (hts (.classLink RX4 86 "java/lang/IllegalArgumentException") (by decide +kernel)) (hts (.initialized "java/lang/IllegalArgumentException") (by decide +kernel)) (by decide +kernel) hC hat2 xg_2 xo_2 hz hAe hs hP hD hS (hl.1.trans hml.symm) dX4_aim_59 dX4_aim_62 dX4_aim_63 dX4_aim_65 dX4_aim_68 hex (Nat.le_of_ble_eq_true rfl) (Nat.le_of_ble_eq_true rfl) (Nat.le_of_ble_eq_true rfl) (Nat.le_of_ble_eq_true rfl) hlocks (Nat.le_of_ble_eq_true rfl) (Nat.le_of_ble_eq_true rfl)
          · have hs := sp_f c_6 hs
            refine lv_iload_n hx hb dX4_aim_51 rfl (lv_at hl 4 rfl) ?_
            refine lv_iload_n hx hb dX4_aim_52 rfl (lv_at hl 3 rfl) ?_
            refine lv_bipush (v := 7) hx hb dX4_aim_53 (by decide) ?_
            refine lv_iadd hx hb dX4_aim_55 ?_
            refine lv_icmp_le (tgt := 69) hx hb dX4_aim_56 (by decide) (fun c_7 => ?_) (fun c_7 => ?_)
            · have hs := sp_t c_7 hs
              refine lv_aload hx hb dX4_aim_69 (lv_at hl 0 rfl) ?_
              refine lv_iload_n hx hb dX4_aim_71 rfl (lv_at hl 3 rfl) ?_
              obtain ⟨h_8, hs⟩ := sp_g hs
              refine va_putN (D := D) (ci := 0) (fs := fsP (x) j_1) (v := .int (a2)) (ty := .int) (C := RX0) (T := TX0) (N := 10) hx hb hts iX0 tyX0 tyX0_ok nmX0 hown hK hP hD hS (15 + j_1) (wX_proj h_8) rfl 5 (by decide) (va_Nw.use rfl (hC.2.1 _ nk_X4_145)) (fun _ h9 => h9) rfl (by decide +kernel) rfl rfl (Nat.le_of_ble_eq_true rfl) dX4_aim_72 (fun H locs hP hD hS => ?_)
              rw [wX_p5 (x := x) h_8] at hP hD
              refine lv_aload hx hb dX4_aim_75 (lv_at hl 0 rfl) ?_
              refine lv_iload_n hx hb dX4_aim_77 rfl (lv_at hl 4 rfl) ?_
              refine va_putN (D := D) (ci := 0) (fs := fsP (si (x) 25 j_1 a2) j_1) (v := .int (a3)) (ty := .int) (C := RX0) (T := TX0) (N := 10) hx hb hts iX0 tyX0 tyX0_ok nmX0 hown hK hP hD hS (15 + j_1) (wX_proj h_8) rfl 6 (by decide) (va_Nw.use rfl (hC.2.1 _ nk_X4_148)) (fun _ h9 => h9) rfl (by decide +kernel) rfl rfl (Nat.le_of_ble_eq_true rfl) dX4_aim_78 (fun H locs hP hD hS => ?_)
              rw [wX_p6 (x := si (x) 25 j_1 a2) h_8] at hP hD
              exact tt_v (f := wX g ca) hx hb hr hAe hs hP hD hS (Nat.le_of_ble_eq_true rfl) (Nat.le_of_ble_eq_true rfl) dX4_aim_81 hlocks
            · have hs := sp_f c_7 hs
              exact th_row (f := wX g ca) (text := "to is below from, or too far") 2 (by decide) hx hb hl9 hown (hts (.classLink RX4 86 "java/lang/IllegalArgumentException") (by decide +kernel)) (hts (.initialized "java/lang/IllegalArgumentException") (by decide +kernel)) (by decide +kernel) hC hat2 xg_2 xo_2 hz hAe hs hP hD hS (hl.1.trans hml.symm) dX4_aim_59 dX4_aim_62 dX4_aim_63 dX4_aim_65 dX4_aim_68 hex (Nat.le_of_ble_eq_true rfl) (Nat.le_of_ble_eq_true rfl) (Nat.le_of_ble_eq_true rfl) (Nat.le_of_ble_eq_true rfl) hlocks (Nat.le_of_ble_eq_true rfl) (Nat.le_of_ble_eq_true rfl)
        · have hs := sp_t c_5 hs
          exact th_row (f := wX g ca) (text := "no such column") 1 (by decide) hx hb hl9 hown (hts (.classLink RX4 79 "java/lang/IndexOutOfBoundsException") (by decide +kernel)) (hts (.initialized "java/lang/IndexOutOfBoundsException") (by decide +kernel)) (by decide +kernel) hC hat1 xg_1 xo_1 hz hAe hs hP hD hS (hl.1.trans hml.symm) dX4_aim_36 dX4_aim_39 dX4_aim_40 dX4_aim_42 dX4_aim_45 hex (Nat.le_of_ble_eq_true rfl) (Nat.le_of_ble_eq_true rfl) (Nat.le_of_ble_eq_true rfl) (Nat.le_of_ble_eq_true rfl) hlocks (Nat.le_of_ble_eq_true rfl) (Nat.le_of_ble_eq_true rfl)
  rw [hHe, hle] at hgo
  exact hgo
def s_X4_turn (x : XS) (a1 : Int32) (a2 : Int32) : Option (Nat × Int32 × XS) := (s_X4_find x a1).bind fun v_1 => opq v_1 (some (1, 0, x)) (fun j_1 => grd j_1 (x).2.2 ((if a2 = 0 then zb a2 (zb (x.1 27 j_1) (some (0, x.1 27 j_1, si (x) 27 j_1 a2))) else (if (x.1 27 j_1) = 0 then (s_X4_loadOf x (x.1 23 j_1)).bind fun v_9 => (s_X4_borneBy x (x.1 23 j_1)).bind fun v_10 => (if (v_9 + (x.1 22 j_1)) ≤ v_10 then zb a2 (zb (x.1 27 j_1) (some (0, x.1 27 j_1, si (x) 27 j_1 a2))) else some (3, 0, x)) else zb a2 (zb (x.1 27 j_1) (some (0, x.1 27 j_1, si (x) 27 j_1 a2)))))))
set_option maxHeartbeats 4000000 in
set_option maxRecDepth 100000 in
theorem c_X4_turn (l : Launch) (hl9 : l.stackTraces = false) (D : va_G) (ca : Nat → ClassId) (g : Nat → Nat) (x : XS) (a1 : Int32) (a2 : Int32) {r : (Nat × Int32 × XS)} (hs : s_X4_turn x a1 a2 = some r) (sz : Nat) : vx_Met l yX4_turn wsX4_turn ({ frames := 6, cells := 1, slots := 6, locals := 82 }) (tP [.ref (g 0), .int (a1), .int (a2)] D ca (wX g ca x) sz) (tQi r D (wX g ca x) (wX g ca) sz) (tX r.1 r.2.2 D (wX g ca x) (wX g ca) sz) 1 6 (va_A (wX g ca x) sz) := by
  refine vx_ofW (cc := cX4_turn) (maxL := 5) (ret := (some .boolean)) (by decide) rfl ?_
  intro p e s m args below meth c s₁ B hml hex hv
  obtain ⟨rfl, hsz, hP, hC, hD0, hz⟩ := hv
  have hx := B.exec
  have hb := B.bytes
  have hr := B.returns
  have hts := atoms_spec (ws := wsX4_turn) B.pre
  have hown : s.vm.findClass RX4 = some m.cls := findClass_of_methodNamed B.named
  have hlocks := B.notSynchronized
  have hK := hC.1
  subst hsz
  have hD := hD0.self (sz := s.heap.size)
  generalize hAe : va_A (wX g ca x) s.heap.size = A at hD hz ⊢
  have hA : ∀ q : Nat, s.heap.size ≤ q → A q := fun q h => by rw [← hAe]; exact Or.inr h
  have hS : va_S A s.heap s.heap [] := va_S.rf
  skip
  have hat1 : ∀ w ∈ (vx_atS RX4 83 "java/lang/IndexOutOfBoundsException" ["java/lang/RuntimeException", "java/lang/Exception"]).filter goodWord, w.before _ s = true := fun w hw => hts w (List.mem_cons_of_mem _ (List.mem_append_left _ (List.mem_append_right _ hw)))
  have hat3 : ∀ w ∈ (vx_atS RX4 112 "java/lang/IllegalStateException" ["java/lang/RuntimeException", "java/lang/Exception"]).filter goodWord, w.before _ s = true := fun w hw => hts w (List.mem_cons_of_mem _ (List.mem_append_right _ hw))
  have iX0 : ∀ w ∈ u_ws RX0 TX0 10, w ∈ wsX4_turn := by decide +kernel
  have hl := lv_entry ([.ref (g 0), .int (a1), .int (a2)]) (n := 5) (Nat.le_of_ble_eq_true rfl)
  rw [lg_entry_eq]
  generalize (lg_sl ([.ref (g 0), .int (a1), .int (a2)]) ++ List.replicate (5 - (lg_sl ([.ref (g 0), .int (a1), .int (a2)])).length) Slot.unset).toArray = ls at hl ⊢
  have hl : lv_has ls 5 [(0, .ref (g 0)), (1, .int (a1)), (2, .int (a2))] := hl
  unfold s_X4_turn at hs
  obtain ⟨H, hHe⟩ : ∃ H, H = s.heap := ⟨_, rfl⟩
  obtain ⟨locs, hle⟩ : ∃ z : List Loc, z = [] := ⟨_, rfl⟩
  have hP : va_P D vwCl (wX g ca x) H := by rw [hHe]; exact hP
  have hS : va_S A s.heap H locs := by rw [hHe, hle]; exact hS
  show W p l e (headSpec wsX4_turn ({ frames := 6, cells := 1, slots := 6, locals := 82 })).room s m #[.ref (g 0), .int (a1), .int (a2)] below meth c s.heap [] 0 0 _ _
  have hgo : W p l e (headSpec wsX4_turn ({ frames := 6, cells := 1, slots := 6, locals := 82 })).room s m #[.ref (g 0), .int (a1), .int (a2)] below meth c H locs 0 0 (vx_MQ below (tQi r D (wX g ca x) (wX g ca) s.heap.size) (tX r.1 r.2.2 D (wX g ca x) (wX g ca) s.heap.size) #[.ref (g 0), .int (a1), .int (a2)] s 1 6 A) (F0 m 0 ls []) := by
    refine lv_aload_n hx hb dX4_turn_0 rfl (lv_at hl 0 rfl) ?_
    refine lv_iload_n hx hb dX4_turn_1 rfl (lv_at hl 1 rfl) ?_
    obtain ⟨v_1, h_1, hs⟩ := sp_b hs
    refine rd_q (va_runV (As := [.int (a1)]) (rest := []) ⟨hx, hb, hml, hown, hts⟩ (c_X4_find l D ca g x a1 h_1) (cwV 1 hts gX4_turn_X4_find rfl rfl rfl (by decide +kernel) ⟨Nat.le_of_ble_eq_true rfl, Nat.le_of_ble_eq_true rfl⟩) (rP_V (q := (RX4, TX4, 16)) hP hC 0 rfl rfl) rfl rfl hl.1 rfl (lv_room (Nat.le_of_ble_eq_true rfl)) dX4_turn_2 ⟨Nat.zero_le _, Nat.zero_le _⟩) (fun o_1 => ?_) (fun j_1 o_1 => ?_)
    · have hs := sp_on o_1 hs
      refine lv_astore_nN (lv' := [(3, .null), (0, .ref (g 0)), (1, .int (a1)), (2, .int (a2))]) hx hb dX4_turn_5 rfl hl (by decide) rfl (fun ls hl => ?_)
      refine lv_aload_nN hx hb dX4_turn_6 rfl (lv_at hl 0 rfl) ?_
      refine lv_ifnonnullN hx hb dX4_turn_7 ?_
      exact th_row (f := wX g ca) (text := "no such projector") 1 (by decide) hx hb hl9 hown (hts (.classLink RX4 79 "java/lang/IndexOutOfBoundsException") (by decide +kernel)) (hts (.initialized "java/lang/IndexOutOfBoundsException") (by decide +kernel)) (by decide +kernel) hC hat1 xg_1 xo_1 hz hAe hs hP hD hS (hl.1.trans hml.symm) dX4_turn_10 dX4_turn_13 dX4_turn_14 dX4_turn_16 dX4_turn_19 hex (Nat.le_of_ble_eq_true rfl) (Nat.le_of_ble_eq_true rfl) (Nat.le_of_ble_eq_true rfl) (Nat.le_of_ble_eq_true rfl) hlocks (Nat.le_of_ble_eq_true rfl) (Nat.le_of_ble_eq_true rfl)
    · have hs := sp_os o_1 hs
      refine lv_astore_n (lv' := [(3, .ref (adP g j_1)), (0, .ref (g 0)), (1, .int (a1)), (2, .int (a2))]) hx hb dX4_turn_5 rfl hl (by decide) rfl (fun ls hl => ?_)
      refine lv_aload_n hx hb dX4_turn_6 rfl (lv_at hl 0 rfl) ?_
      refine lv_ifnonnull (tgt := 20) hx hb dX4_turn_7 (by decide) ?_
      refine lv_aload_n hx hb dX4_turn_20 rfl (lv_at hl 0 rfl) ?_
      obtain ⟨h_2, hs⟩ := sp_g hs
      refine va_getN (D := D) (ci := 0) (fs := fsP (x) j_1) (v := .int (x.1 27 j_1)) (C := RX0) (T := TX0) (N := 10) hx hb hts iX0 hown hK hP (15 + j_1) (wX_proj h_2) rfl 7 (by decide) (va_Nw.use rfl (hC.2.1 _ nk_X4_151)) (fun _ h9 => h9) rfl dX4_turn_21 ?_
      refine lv_istore (lv' := [(4, .int (x.1 27 j_1)), (3, .ref (adP g j_1)), (0, .ref (g 0)), (1, .int (a1)), (2, .int (a2))]) hx hb dX4_turn_24 hl (by decide) rfl (fun ls hl => ?_)
      refine lv_iload_n hx hb dX4_turn_26 rfl (lv_at hl 4 rfl) ?_
      refine lv_if_eq (tgt := 69) hx hb dX4_turn_27 (by decide) (fun c_3 => ?_) (fun c_3 => ?_)
      · have hs := sp_t c_3 hs
        refine lv_aload_n hx hb dX4_turn_69 rfl (lv_at hl 1 rfl) ?_
        refine lv_iload_n hx hb dX4_turn_70 rfl (lv_at hl 4 rfl) ?_
        obtain ⟨h_4, hs⟩ := sp_z hs
        refine va_putN (D := D) (ci := 0) (fs := fsP (x) j_1) (v := .int (a2)) (ty := .boolean) (C := RX0) (T := TX0) (N := 10) hx hb hts iX0 tyX0 tyX0_ok nmX0 hown hK hP hD hS (15 + j_1) (wX_proj h_2) rfl 7 (by decide) (va_Nw.use rfl (hC.2.1 _ nk_X4_151)) (fun _ h9 => h9) rfl (by decide +kernel) (nz_b h_4) (fit_b h_4) (Nat.le_of_ble_eq_true rfl) dX4_turn_71 (fun H locs hP hD hS => ?_)
        rw [wX_p7 (x := x) h_2] at hP hD
        refine lv_iload hx hb dX4_turn_74 (lv_at hl 0 rfl) ?_
        obtain ⟨h_5, hs⟩ := sp_z hs
        exact tt_z (f := wX g ca) hx hb hr hAe h_5 hs hP hD hS (Nat.le_of_ble_eq_true rfl) (Nat.le_of_ble_eq_true rfl) dX4_turn_76 hlocks
      · have hs := sp_f c_3 hs
        refine lv_iload hx hb dX4_turn_30 (lv_at hl 0 rfl) ?_
        refine lv_if_ne (tgt := 69) hx hb dX4_turn_32 (by decide) (fun c_6 => ?_) (fun c_6 => ?_)
        · have hs := sp_f c_6 hs
          refine lv_aload_n hx hb dX4_turn_69 rfl (lv_at hl 1 rfl) ?_
          refine lv_iload_n hx hb dX4_turn_70 rfl (lv_at hl 4 rfl) ?_
          obtain ⟨h_7, hs⟩ := sp_z hs
          refine va_putN (D := D) (ci := 0) (fs := fsP (x) j_1) (v := .int (a2)) (ty := .boolean) (C := RX0) (T := TX0) (N := 10) hx hb hts iX0 tyX0 tyX0_ok nmX0 hown hK hP hD hS (15 + j_1) (wX_proj h_2) rfl 7 (by decide) (va_Nw.use rfl (hC.2.1 _ nk_X4_151)) (fun _ h9 => h9) rfl (by decide +kernel) (nz_b h_7) (fit_b h_7) (Nat.le_of_ble_eq_true rfl) dX4_turn_71 (fun H locs hP hD hS => ?_)
          rw [wX_p7 (x := x) h_2] at hP hD
          refine lv_iload hx hb dX4_turn_74 (lv_at hl 0 rfl) ?_
          obtain ⟨h_8, hs⟩ := sp_z hs
          exact tt_z (f := wX g ca) hx hb hr hAe h_8 hs hP hD hS (Nat.le_of_ble_eq_true rfl) (Nat.le_of_ble_eq_true rfl) dX4_turn_76 hlocks
        · have hs := sp_t c_6 hs
          refine lv_aload_n hx hb dX4_turn_35 rfl (lv_at hl 2 rfl) ?_
          refine lv_aload_n hx hb dX4_turn_36 rfl (lv_at hl 1 rfl) ?_
          refine va_getN (D := D) (ci := 0) (fs := fsP (x) j_1) (v := .int (x.1 23 j_1)) (C := RX0) (T := TX0) (N := 10) hx hb hts iX0 hown hK hP (15 + j_1) (wX_proj h_2) rfl 3 (by decide) (va_Nw.use rfl (hC.2.1 _ nk_X4_155)) (fun _ h9 => h9) rfl dX4_turn_37 ?_
          obtain ⟨v_9, h_9, hs⟩ := sp_b hs
          refine rd_i (va_runV (As := [.int (x.1 23 j_1)]) (rest := []) ⟨hx, hb, hml, hown, hts⟩ (c_X4_loadOf l D ca g x (x.1 23 j_1) h_9) (cwV 1 hts gX4_turn_X4_loadOf rfl rfl rfl (by decide +kernel) ⟨Nat.le_of_ble_eq_true rfl, Nat.le_of_ble_eq_true rfl⟩) (rP_V (q := (RX4, TX4, 16)) hP hC 0 rfl rfl) rfl rfl hl.1 rfl (lv_room (Nat.le_of_ble_eq_true rfl)) dX4_turn_40 ⟨Nat.zero_le _, Nat.zero_le _⟩) ?_
          refine lv_aload_n hx hb dX4_turn_43 rfl (lv_at hl 1 rfl) ?_
          refine va_getN (D := D) (ci := 0) (fs := fsP (x) j_1) (v := .int (x.1 22 j_1)) (C := RX0) (T := TX0) (N := 10) hx hb hts iX0 hown hK hP (15 + j_1) (wX_proj h_2) rfl 2 (by decide) (va_Nw.use rfl (hC.2.1 _ nk_X4_162)) (fun _ h9 => h9) rfl dX4_turn_44 ?_
          refine lv_iadd hx hb dX4_turn_47 ?_
          refine lv_aload_n hx hb dX4_turn_48 rfl (lv_at hl 2 rfl) ?_
          refine lv_aload_n hx hb dX4_turn_49 rfl (lv_at hl 1 rfl) ?_
          refine va_getN (D := D) (ci := 0) (fs := fsP (x) j_1) (v := .int (x.1 23 j_1)) (C := RX0) (T := TX0) (N := 10) hx hb hts iX0 hown hK hP (15 + j_1) (wX_proj h_2) rfl 3 (by decide) (va_Nw.use rfl (hC.2.1 _ nk_X4_155)) (fun _ h9 => h9) rfl dX4_turn_50 ?_
          obtain ⟨v_10, h_10, hs⟩ := sp_b hs
          refine rd_i (va_runV (As := [.int (x.1 23 j_1)]) (rest := [.int (v_9 + (x.1 22 j_1))]) ⟨hx, hb, hml, hown, hts⟩ (c_X4_borneBy l D ca g x (x.1 23 j_1) h_10) (cwV 1 hts gX4_turn_X4_borneBy rfl rfl rfl (by decide +kernel) ⟨Nat.le_of_ble_eq_true rfl, Nat.le_of_ble_eq_true rfl⟩) (rP_V (q := (RX4, TX4, 16)) hP hC 0 rfl rfl) rfl rfl hl.1 rfl (lv_room (Nat.le_of_ble_eq_true rfl)) dX4_turn_53 ⟨Nat.zero_le _, Nat.zero_le _⟩) ?_
          refine lv_icmp_le (tgt := 69) hx hb dX4_turn_56 (by decide) (fun c_11 => ?_) (fun c_11 => ?_)
          · have hs := sp_t c_11 hs
            refine lv_aload_n hx hb dX4_turn_69 rfl (lv_at hl 1 rfl) ?_
            refine lv_iload_n hx hb dX4_turn_70 rfl (lv_at hl 4 rfl) ?_
            obtain ⟨h_12, hs⟩ := sp_z hs
            refine va_putN (D := D) (ci := 0) (fs := fsP (x) j_1) (v := .int (a2)) (ty := .boolean) (C := RX0) (T := TX0) (N := 10) hx hb hts iX0 tyX0 tyX0_ok nmX0 hown hK hP hD hS (15 + j_1) (wX_proj h_2) rfl 7 (by decide) (va_Nw.use rfl (hC.2.1 _ nk_X4_151)) (fun _ h9 => h9) rfl (by decide +kernel) (nz_b h_12) (fit_b h_12) (Nat.le_of_ble_eq_true rfl) dX4_turn_71 (fun H locs hP hD hS => ?_)
            rw [wX_p7 (x := x) h_2] at hP hD
            refine lv_iload hx hb dX4_turn_74 (lv_at hl 0 rfl) ?_
            obtain ⟨h_13, hs⟩ := sp_z hs
            exact tt_z (f := wX g ca) hx hb hr hAe h_13 hs hP hD hS (Nat.le_of_ble_eq_true rfl) (Nat.le_of_ble_eq_true rfl) dX4_turn_76 hlocks
          · have hs := sp_f c_11 hs
            exact th_row (f := wX g ca) (text := "its phase would bear more than it may") 3 (by decide) hx hb hl9 hown (hts (.classLink RX4 108 "java/lang/IllegalStateException") (by decide +kernel)) (hts (.initialized "java/lang/IllegalStateException") (by decide +kernel)) (by decide +kernel) hC hat3 xg_3 xo_3 hz hAe hs hP hD hS (hl.1.trans hml.symm) dX4_turn_59 dX4_turn_62 dX4_turn_63 dX4_turn_65 dX4_turn_68 hex (Nat.le_of_ble_eq_true rfl) (Nat.le_of_ble_eq_true rfl) (Nat.le_of_ble_eq_true rfl) (Nat.le_of_ble_eq_true rfl) hlocks (Nat.le_of_ble_eq_true rfl) (Nat.le_of_ble_eq_true rfl)
  rw [hHe, hle] at hgo
  exact hgo
def s_X4_fail (x : XS) (a1 : Int32) (a2 : Int32) : Option (Nat × Int32 × XS) := (s_X4_find x a1).bind fun v_1 => opq v_1 (some (1, 0, x)) (fun j_1 => grd j_1 (x).2.2 (zb a2 (zb (x.1 28 j_1) (some (0, x.1 28 j_1, si (x) 28 j_1 a2)))))
set_option maxHeartbeats 4000000 in
set_option maxRecDepth 100000 in
theorem c_X4_fail (l : Launch) (hl9 : l.stackTraces = false) (D : va_G) (ca : Nat → ClassId) (g : Nat → Nat) (x : XS) (a1 : Int32) (a2 : Int32) {r : (Nat × Int32 × XS)} (hs : s_X4_fail x a1 a2 = some r) (sz : Nat) : vx_Met l yX4_fail wsX4_fail ({ frames := 6, cells := 1, slots := 6, locals := 82 }) (tP [.ref (g 0), .int (a1), .int (a2)] D ca (wX g ca x) sz) (tQi r D (wX g ca x) (wX g ca) sz) (tX r.1 r.2.2 D (wX g ca x) (wX g ca) sz) 1 6 (va_A (wX g ca x) sz) := by
  refine vx_ofW (cc := cX4_fail) (maxL := 5) (ret := (some .boolean)) (by decide) rfl ?_
  intro p e s m args below meth c s₁ B hml hex hv
  obtain ⟨rfl, hsz, hP, hC, hD0, hz⟩ := hv
  have hx := B.exec
  have hb := B.bytes
  have hr := B.returns
  have hts := atoms_spec (ws := wsX4_fail) B.pre
  have hown : s.vm.findClass RX4 = some m.cls := findClass_of_methodNamed B.named
  have hlocks := B.notSynchronized
  have hK := hC.1
  subst hsz
  have hD := hD0.self (sz := s.heap.size)
  generalize hAe : va_A (wX g ca x) s.heap.size = A at hD hz ⊢
  have hA : ∀ q : Nat, s.heap.size ≤ q → A q := fun q h => by rw [← hAe]; exact Or.inr h
  have hS : va_S A s.heap s.heap [] := va_S.rf
  skip
  have hat1 : ∀ w ∈ (vx_atS RX4 83 "java/lang/IndexOutOfBoundsException" ["java/lang/RuntimeException", "java/lang/Exception"]).filter goodWord, w.before _ s = true := fun w hw => hts w (List.mem_cons_of_mem _ (List.mem_append_right _ hw))
  have iX0 : ∀ w ∈ u_ws RX0 TX0 10, w ∈ wsX4_fail := by decide +kernel
  have hl := lv_entry ([.ref (g 0), .int (a1), .int (a2)]) (n := 5) (Nat.le_of_ble_eq_true rfl)
  rw [lg_entry_eq]
  generalize (lg_sl ([.ref (g 0), .int (a1), .int (a2)]) ++ List.replicate (5 - (lg_sl ([.ref (g 0), .int (a1), .int (a2)])).length) Slot.unset).toArray = ls at hl ⊢
  have hl : lv_has ls 5 [(0, .ref (g 0)), (1, .int (a1)), (2, .int (a2))] := hl
  unfold s_X4_fail at hs
  obtain ⟨H, hHe⟩ : ∃ H, H = s.heap := ⟨_, rfl⟩
  obtain ⟨locs, hle⟩ : ∃ z : List Loc, z = [] := ⟨_, rfl⟩
  have hP : va_P D vwCl (wX g ca x) H := by rw [hHe]; exact hP
  have hS : va_S A s.heap H locs := by rw [hHe, hle]; exact hS
  show W p l e (headSpec wsX4_fail ({ frames := 6, cells := 1, slots := 6, locals := 82 })).room s m #[.ref (g 0), .int (a1), .int (a2)] below meth c s.heap [] 0 0 _ _
  have hgo : W p l e (headSpec wsX4_fail ({ frames := 6, cells := 1, slots := 6, locals := 82 })).room s m #[.ref (g 0), .int (a1), .int (a2)] below meth c H locs 0 0 (vx_MQ below (tQi r D (wX g ca x) (wX g ca) s.heap.size) (tX r.1 r.2.2 D (wX g ca x) (wX g ca) s.heap.size) #[.ref (g 0), .int (a1), .int (a2)] s 1 6 A) (F0 m 0 ls []) := by
    refine lv_aload_n hx hb dX4_fail_0 rfl (lv_at hl 0 rfl) ?_
    refine lv_iload_n hx hb dX4_fail_1 rfl (lv_at hl 1 rfl) ?_
    obtain ⟨v_1, h_1, hs⟩ := sp_b hs
    refine rd_q (va_runV (As := [.int (a1)]) (rest := []) ⟨hx, hb, hml, hown, hts⟩ (c_X4_find l D ca g x a1 h_1) (cwV 1 hts gX4_fail_X4_find rfl rfl rfl (by decide +kernel) ⟨Nat.le_of_ble_eq_true rfl, Nat.le_of_ble_eq_true rfl⟩) (rP_V (q := (RX4, TX4, 16)) hP hC 0 rfl rfl) rfl rfl hl.1 rfl (lv_room (Nat.le_of_ble_eq_true rfl)) dX4_fail_2 ⟨Nat.zero_le _, Nat.zero_le _⟩) (fun o_1 => ?_) (fun j_1 o_1 => ?_)
    · have hs := sp_on o_1 hs
      refine lv_astore_nN (lv' := [(3, .null), (0, .ref (g 0)), (1, .int (a1)), (2, .int (a2))]) hx hb dX4_fail_5 rfl hl (by decide) rfl (fun ls hl => ?_)
      refine lv_aload_nN hx hb dX4_fail_6 rfl (lv_at hl 0 rfl) ?_
      refine lv_ifnonnullN hx hb dX4_fail_7 ?_
      exact th_row (f := wX g ca) (text := "no such projector") 1 (by decide) hx hb hl9 hown (hts (.classLink RX4 79 "java/lang/IndexOutOfBoundsException") (by decide +kernel)) (hts (.initialized "java/lang/IndexOutOfBoundsException") (by decide +kernel)) (by decide +kernel) hC hat1 xg_1 xo_1 hz hAe hs hP hD hS (hl.1.trans hml.symm) dX4_fail_10 dX4_fail_13 dX4_fail_14 dX4_fail_16 dX4_fail_19 hex (Nat.le_of_ble_eq_true rfl) (Nat.le_of_ble_eq_true rfl) (Nat.le_of_ble_eq_true rfl) (Nat.le_of_ble_eq_true rfl) hlocks (Nat.le_of_ble_eq_true rfl) (Nat.le_of_ble_eq_true rfl)
    · have hs := sp_os o_1 hs
      refine lv_astore_n (lv' := [(3, .ref (adP g j_1)), (0, .ref (g 0)), (1, .int (a1)), (2, .int (a2))]) hx hb dX4_fail_5 rfl hl (by decide) rfl (fun ls hl => ?_)
      refine lv_aload_n hx hb dX4_fail_6 rfl (lv_at hl 0 rfl) ?_
      refine lv_ifnonnull (tgt := 20) hx hb dX4_fail_7 (by decide) ?_
      refine lv_aload_n hx hb dX4_fail_20 rfl (lv_at hl 0 rfl) ?_
      obtain ⟨h_2, hs⟩ := sp_g hs
      refine va_getN (D := D) (ci := 0) (fs := fsP (x) j_1) (v := .int (x.1 28 j_1)) (C := RX0) (T := TX0) (N := 10) hx hb hts iX0 hown hK hP (15 + j_1) (wX_proj h_2) rfl 8 (by decide) (va_Nw.use rfl (hC.2.1 _ nk_X4_170)) (fun _ h9 => h9) rfl dX4_fail_21 ?_
      refine lv_istore (lv' := [(4, .int (x.1 28 j_1)), (3, .ref (adP g j_1)), (0, .ref (g 0)), (1, .int (a1)), (2, .int (a2))]) hx hb dX4_fail_24 hl (by decide) rfl (fun ls hl => ?_)
      refine lv_aload_n hx hb dX4_fail_26 rfl (lv_at hl 1 rfl) ?_
      refine lv_iload_n hx hb dX4_fail_27 rfl (lv_at hl 4 rfl) ?_
      obtain ⟨h_3, hs⟩ := sp_z hs
      refine va_putN (D := D) (ci := 0) (fs := fsP (x) j_1) (v := .int (a2)) (ty := .boolean) (C := RX0) (T := TX0) (N := 10) hx hb hts iX0 tyX0 tyX0_ok nmX0 hown hK hP hD hS (15 + j_1) (wX_proj h_2) rfl 8 (by decide) (va_Nw.use rfl (hC.2.1 _ nk_X4_170)) (fun _ h9 => h9) rfl (by decide +kernel) (nz_b h_3) (fit_b h_3) (Nat.le_of_ble_eq_true rfl) dX4_fail_28 (fun H locs hP hD hS => ?_)
      rw [wX_p8 (x := x) h_2] at hP hD
      refine lv_iload hx hb dX4_fail_31 (lv_at hl 0 rfl) ?_
      obtain ⟨h_4, hs⟩ := sp_z hs
      exact tt_z (f := wX g ca) hx hb hr hAe h_4 hs hP hD hS (Nat.le_of_ble_eq_true rfl) (Nat.le_of_ble_eq_true rfl) dX4_fail_33 hlocks
  rw [hHe, hle] at hgo
  exact hgo
def s_X4_phase (x : XS) (a1 : Int32) (a2 : Int32) : Option (Nat × Int32 × XS) := (s_X4_isPhase a1).bind fun v_1 => (if v_1 = 0 then some (2, 0, x) else (if a2 < 0 then some (2, 0, x) else (if a2 ≤ 99999 then chk 3 a1 (chk 3 a1 (some (0, x.1 3 a1.toNatClampNeg, si (x) 3 a1.toNatClampNeg a2))) else some (2, 0, x))))
set_option maxHeartbeats 4000000 in
set_option maxRecDepth 100000 in
theorem c_X4_phase (l : Launch) (hl9 : l.stackTraces = false) (D : va_G) (ca : Nat → ClassId) (g : Nat → Nat) (x : XS) (a1 : Int32) (a2 : Int32) {r : (Nat × Int32 × XS)} (hs : s_X4_phase x a1 a2 = some r) (sz : Nat) : vx_Met l yX4_phase wsX4_phase ({ frames := 6, cells := 1, slots := 6, locals := 82 }) (tP [.ref (g 0), .int (a1), .int (a2)] D ca (wX g ca x) sz) (tQi r D (wX g ca x) (wX g ca) sz) (tX r.1 r.2.2 D (wX g ca x) (wX g ca) sz) 1 6 (va_A (wX g ca x) sz) := by
  refine vx_ofW (cc := cX4_phase) (maxL := 4) (ret := (some .int)) (by decide) rfl ?_
  intro p e s m args below meth c s₁ B hml hex hv
  obtain ⟨rfl, hsz, hP, hC, hD0, hz⟩ := hv
  have hx := B.exec
  have hb := B.bytes
  have hr := B.returns
  have hts := atoms_spec (ws := wsX4_phase) B.pre
  have hown : s.vm.findClass RX4 = some m.cls := findClass_of_methodNamed B.named
  have hlocks := B.notSynchronized
  have hK := hC.1
  subst hsz
  have hD := hD0.self (sz := s.heap.size)
  generalize hAe : va_A (wX g ca x) s.heap.size = A at hD hz ⊢
  have hA : ∀ q : Nat, s.heap.size ≤ q → A q := fun q h => by rw [← hAe]; exact Or.inr h
  have hS : va_S A s.heap s.heap [] := va_S.rf
  skip
  have hat2 : ∀ w ∈ (vx_atS RX4 90 "java/lang/IllegalArgumentException" ["java/lang/RuntimeException", "java/lang/Exception"]).filter goodWord, w.before _ s = true := fun w hw => hts w (List.mem_cons_of_mem _ (List.mem_append_right _ hw))
  have iX4 : ∀ w ∈ u_ws RX4 TX4 16, w ∈ wsX4_phase := by decide +kernel
  have hl := lv_entry ([.ref (g 0), .int (a1), .int (a2)]) (n := 4) (Nat.le_of_ble_eq_true rfl)
  rw [lg_entry_eq]
  generalize (lg_sl ([.ref (g 0), .int (a1), .int (a2)]) ++ List.replicate (4 - (lg_sl ([.ref (g 0), .int (a1), .int (a2)])).length) Slot.unset).toArray = ls at hl ⊢
  have hl : lv_has ls 4 [(0, .ref (g 0)), (1, .int (a1)), (2, .int (a2))] := hl
  unfold s_X4_phase at hs
  obtain ⟨H, hHe⟩ : ∃ H, H = s.heap := ⟨_, rfl⟩
  obtain ⟨locs, hle⟩ : ∃ z : List Loc, z = [] := ⟨_, rfl⟩
  have hP : va_P D vwCl (wX g ca x) H := by rw [hHe]; exact hP
  have hS : va_S A s.heap H locs := by rw [hHe, hle]; exact hS
  show W p l e (headSpec wsX4_phase ({ frames := 6, cells := 1, slots := 6, locals := 82 })).room s m #[.ref (g 0), .int (a1), .int (a2)] below meth c s.heap [] 0 0 _ _
  have hgo : W p l e (headSpec wsX4_phase ({ frames := 6, cells := 1, slots := 6, locals := 82 })).room s m #[.ref (g 0), .int (a1), .int (a2)] below meth c H locs 0 0 (vx_MQ below (tQi r D (wX g ca x) (wX g ca) s.heap.size) (tX r.1 r.2.2 D (wX g ca x) (wX g ca) s.heap.size) #[.ref (g 0), .int (a1), .int (a2)] s 1 6 A) (F0 m 0 ls []) := by
    refine lv_iload_n hx hb dX4_phase_0 rfl (lv_at hl 1 rfl) ?_
    obtain ⟨v_1, h_1, hs⟩ := sp_b hs
    refine rd_i (va_runS (As := [.int (a1)]) (rest := []) ⟨hx, hb, hml, hown, hts⟩ (c_X4_isPhase l D ca a1 h_1) (va_cwS 1 hts gX4_phase_X4_isPhase rfl rfl rfl (by decide +kernel) ⟨Nat.le_of_ble_eq_true rfl, Nat.le_of_ble_eq_true rfl⟩) (rP_S va_P_nil hC) rfl rfl hl.1 rfl (lv_room (Nat.le_of_ble_eq_true rfl)) dX4_phase_1 ⟨Nat.zero_le _, Nat.zero_le _⟩) ?_
    refine lv_if_ne (tgt := 17) hx hb dX4_phase_4 (by decide) (fun c_2 => ?_) (fun c_2 => ?_)
    · have hs := sp_f c_2 hs
      refine lv_iload_n hx hb dX4_phase_17 rfl (lv_at hl 2 rfl) ?_
      refine lv_if_lt (tgt := 27) hx hb dX4_phase_18 (by decide) (fun c_3 => ?_) (fun c_3 => ?_)
      · have hs := sp_t c_3 hs
        exact th_row (f := wX g ca) (text := "power is out of range") 2 (by decide) hx hb hl9 hown (hts (.classLink RX4 86 "java/lang/IllegalArgumentException") (by decide +kernel)) (hts (.initialized "java/lang/IllegalArgumentException") (by decide +kernel)) (by decide +kernel) hC hat2 xg_2 xo_2 hz hAe hs hP hD hS (hl.1.trans hml.symm) dX4_phase_27 dX4_phase_30 dX4_phase_31 dX4_phase_33 dX4_phase_36 hex (Nat.le_of_ble_eq_true rfl) (Nat.le_of_ble_eq_true rfl) (Nat.le_of_ble_eq_true rfl) (Nat.le_of_ble_eq_true rfl) hlocks (Nat.le_of_ble_eq_true rfl) (Nat.le_of_ble_eq_true rfl)
      · have hs := sp_f c_3 hs
        refine lv_iload_n hx hb dX4_phase_21 rfl (lv_at hl 2 rfl) ?_
        refine lv_ldc (v := 99999) hx hb hown (hts (.constant RX4 173 (99999)) (by decide +kernel)) dX4_phase_22 ?_
        refine lv_icmp_le (tgt := 37) hx hb dX4_phase_24 (by decide) (fun c_4 => ?_) (fun c_4 => ?_)
        · have hs := sp_t c_4 hs
          refine lv_aload_n hx hb dX4_phase_37 rfl (lv_at hl 0 rfl) ?_
          refine va_get (D := D) (ci := 4) (fs := fsX g (x)) (v := .ref (g 3)) (C := RX4) (T := TX4) (N := 16) hx hb hts iX4 hown hK hP 0 rfl rfl 3 (by decide) (hts (.fieldLink RX4 26 "FacadeShow" "borne" "[I") (by decide +kernel)) (fun _ h9 => h9) rfl dX4_phase_38 ?_
          refine lv_iload_n hx hb dX4_phase_41 rfl (lv_at hl 1 rfl) ?_
          obtain ⟨h_5, hs⟩ := sp_c hs
          refine va_iald (D := D) (cA := ca 0) (n := 3) (f := (x).1 3) hx hb hK hP 6 0 rfl rfl h_5 dX4_phase_42 ?_
          refine lv_istore_n (lv' := [(3, .int (x.1 3 a1.toNatClampNeg)), (0, .ref (g 0)), (1, .int (a1)), (2, .int (a2))]) hx hb dX4_phase_43 rfl hl (by decide) rfl (fun ls hl => ?_)
          refine lv_aload_n hx hb dX4_phase_44 rfl (lv_at hl 1 rfl) ?_
          refine va_get (D := D) (ci := 4) (fs := fsX g (x)) (v := .ref (g 3)) (C := RX4) (T := TX4) (N := 16) hx hb hts iX4 hown hK hP 0 rfl rfl 3 (by decide) (hts (.fieldLink RX4 26 "FacadeShow" "borne" "[I") (by decide +kernel)) (fun _ h9 => h9) rfl dX4_phase_45 ?_
          refine lv_iload_n hx hb dX4_phase_48 rfl (lv_at hl 2 rfl) ?_
          refine lv_iload_n hx hb dX4_phase_49 rfl (lv_at hl 3 rfl) ?_
          obtain ⟨h_6, hs⟩ := sp_c hs
          refine va_iast (D := D) (cA := ca 0) (n := 3) (f := (x).1 3) hx hb hK hP hD hS 6 0 rfl rfl h_6 dX4_phase_50 (fun H locs hP hD hS => ?_)
          rw [wX_a3] at hP hD
          refine lv_iload_n hx hb dX4_phase_51 rfl (lv_at hl 0 rfl) ?_
          exact tt_i (f := wX g ca) hx hb hr hAe hs hP hD hS (Nat.le_of_ble_eq_true rfl) (Nat.le_of_ble_eq_true rfl) dX4_phase_52 hlocks
        · have hs := sp_f c_4 hs
          exact th_row (f := wX g ca) (text := "power is out of range") 2 (by decide) hx hb hl9 hown (hts (.classLink RX4 86 "java/lang/IllegalArgumentException") (by decide +kernel)) (hts (.initialized "java/lang/IllegalArgumentException") (by decide +kernel)) (by decide +kernel) hC hat2 xg_2 xo_2 hz hAe hs hP hD hS (hl.1.trans hml.symm) dX4_phase_27 dX4_phase_30 dX4_phase_31 dX4_phase_33 dX4_phase_36 hex (Nat.le_of_ble_eq_true rfl) (Nat.le_of_ble_eq_true rfl) (Nat.le_of_ble_eq_true rfl) (Nat.le_of_ble_eq_true rfl) hlocks (Nat.le_of_ble_eq_true rfl) (Nat.le_of_ble_eq_true rfl)
    · have hs := sp_t c_2 hs
      exact th_row (f := wX g ca) (text := "phase is out of range") 2 (by decide) hx hb hl9 hown (hts (.classLink RX4 86 "java/lang/IllegalArgumentException") (by decide +kernel)) (hts (.initialized "java/lang/IllegalArgumentException") (by decide +kernel)) (by decide +kernel) hC hat2 xg_2 xo_2 hz hAe hs hP hD hS (hl.1.trans hml.symm) dX4_phase_7 dX4_phase_10 dX4_phase_11 dX4_phase_13 dX4_phase_16 hex (Nat.le_of_ble_eq_true rfl) (Nat.le_of_ble_eq_true rfl) (Nat.le_of_ble_eq_true rfl) (Nat.le_of_ble_eq_true rfl) hlocks (Nat.le_of_ble_eq_true rfl) (Nat.le_of_ble_eq_true rfl)
  rw [hHe, hle] at hgo
  exact hgo
def s_X4_wind (x : XS) (a1 : Int32) : Option (Nat × Int32 × XS) := (if a1 < 0 then some (2, 0, x) else (if a1 ≤ 8 then some (0, x.1 0 4, si (x) 0 4 a1) else some (2, 0, x)))
set_option maxHeartbeats 4000000 in
set_option maxRecDepth 100000 in
theorem c_X4_wind (l : Launch) (hl9 : l.stackTraces = false) (D : va_G) (ca : Nat → ClassId) (g : Nat → Nat) (x : XS) (a1 : Int32) {r : (Nat × Int32 × XS)} (hs : s_X4_wind x a1 = some r) (sz : Nat) : vx_Met l yX4_wind wsX4_wind ({ frames := 6, cells := 1, slots := 6, locals := 82 }) (tP [.ref (g 0), .int (a1)] D ca (wX g ca x) sz) (tQi r D (wX g ca x) (wX g ca) sz) (tX r.1 r.2.2 D (wX g ca x) (wX g ca) sz) 1 6 (va_A (wX g ca x) sz) := by
  refine vx_ofW (cc := cX4_wind) (maxL := 3) (ret := (some .int)) (by decide) rfl ?_
  intro p e s m args below meth c s₁ B hml hex hv
  obtain ⟨rfl, hsz, hP, hC, hD0, hz⟩ := hv
  have hx := B.exec
  have hb := B.bytes
  have hr := B.returns
  have hts := atoms_spec (ws := wsX4_wind) B.pre
  have hown : s.vm.findClass RX4 = some m.cls := findClass_of_methodNamed B.named
  have hlocks := B.notSynchronized
  have hK := hC.1
  subst hsz
  have hD := hD0.self (sz := s.heap.size)
  generalize hAe : va_A (wX g ca x) s.heap.size = A at hD hz ⊢
  have hA : ∀ q : Nat, s.heap.size ≤ q → A q := fun q h => by rw [← hAe]; exact Or.inr h
  have hS : va_S A s.heap s.heap [] := va_S.rf
  skip
  have hat2 : ∀ w ∈ (vx_atS RX4 90 "java/lang/IllegalArgumentException" ["java/lang/RuntimeException", "java/lang/Exception"]).filter goodWord, w.before _ s = true := fun w hw => hts w (List.mem_cons_of_mem _ (List.mem_append_right _ hw))
  have iX4 : ∀ w ∈ u_ws RX4 TX4 16, w ∈ wsX4_wind := by decide +kernel
  have hl := lv_entry ([.ref (g 0), .int (a1)]) (n := 3) (Nat.le_of_ble_eq_true rfl)
  rw [lg_entry_eq]
  generalize (lg_sl ([.ref (g 0), .int (a1)]) ++ List.replicate (3 - (lg_sl ([.ref (g 0), .int (a1)])).length) Slot.unset).toArray = ls at hl ⊢
  have hl : lv_has ls 3 [(0, .ref (g 0)), (1, .int (a1))] := hl
  unfold s_X4_wind at hs
  obtain ⟨H, hHe⟩ : ∃ H, H = s.heap := ⟨_, rfl⟩
  obtain ⟨locs, hle⟩ : ∃ z : List Loc, z = [] := ⟨_, rfl⟩
  have hP : va_P D vwCl (wX g ca x) H := by rw [hHe]; exact hP
  have hS : va_S A s.heap H locs := by rw [hHe, hle]; exact hS
  show W p l e (headSpec wsX4_wind ({ frames := 6, cells := 1, slots := 6, locals := 82 })).room s m #[.ref (g 0), .int (a1)] below meth c s.heap [] 0 0 _ _
  have hgo : W p l e (headSpec wsX4_wind ({ frames := 6, cells := 1, slots := 6, locals := 82 })).room s m #[.ref (g 0), .int (a1)] below meth c H locs 0 0 (vx_MQ below (tQi r D (wX g ca x) (wX g ca) s.heap.size) (tX r.1 r.2.2 D (wX g ca x) (wX g ca) s.heap.size) #[.ref (g 0), .int (a1)] s 1 6 A) (F0 m 0 ls []) := by
    refine lv_iload_n hx hb dX4_wind_0 rfl (lv_at hl 1 rfl) ?_
    refine lv_if_lt (tgt := 10) hx hb dX4_wind_1 (by decide) (fun c_1 => ?_) (fun c_1 => ?_)
    · have hs := sp_t c_1 hs
      exact th_row (f := wX g ca) (text := "wind is out of range") 2 (by decide) hx hb hl9 hown (hts (.classLink RX4 86 "java/lang/IllegalArgumentException") (by decide +kernel)) (hts (.initialized "java/lang/IllegalArgumentException") (by decide +kernel)) (by decide +kernel) hC hat2 xg_2 xo_2 hz hAe hs hP hD hS (hl.1.trans hml.symm) dX4_wind_10 dX4_wind_13 dX4_wind_14 dX4_wind_16 dX4_wind_19 hex (Nat.le_of_ble_eq_true rfl) (Nat.le_of_ble_eq_true rfl) (Nat.le_of_ble_eq_true rfl) (Nat.le_of_ble_eq_true rfl) hlocks (Nat.le_of_ble_eq_true rfl) (Nat.le_of_ble_eq_true rfl)
    · have hs := sp_f c_1 hs
      refine lv_iload_n hx hb dX4_wind_4 rfl (lv_at hl 1 rfl) ?_
      refine lv_bipush (v := 8) hx hb dX4_wind_5 (by decide) ?_
      refine lv_icmp_le (tgt := 20) hx hb dX4_wind_7 (by decide) (fun c_2 => ?_) (fun c_2 => ?_)
      · have hs := sp_t c_2 hs
        refine lv_aload_n hx hb dX4_wind_20 rfl (lv_at hl 0 rfl) ?_
        refine va_get (D := D) (ci := 4) (fs := fsX g (x)) (v := .int (x.1 0 4)) (C := RX4) (T := TX4) (N := 16) hx hb hts iX4 hown hK hP 0 rfl rfl 4 (by decide) (hts (.fieldLink RX4 30 "FacadeShow" "windNow" "I") (by decide +kernel)) (fun _ h9 => h9) rfl dX4_wind_21 ?_
        refine lv_istore_n (lv' := [(2, .int (x.1 0 4)), (0, .ref (g 0)), (1, .int (a1))]) hx hb dX4_wind_24 rfl hl (by decide) rfl (fun ls hl => ?_)
        refine lv_aload_n hx hb dX4_wind_25 rfl (lv_at hl 1 rfl) ?_
        refine lv_iload_n hx hb dX4_wind_26 rfl (lv_at hl 2 rfl) ?_
        refine va_put (D := D) (ci := 4) (fs := fsX g (x)) (v := .int (a1)) (ty := .int) (C := RX4) (T := TX4) (N := 16) hx hb hts iX4 tyX4 tyX4_ok nmX4 hown hK hP hD hS 0 rfl rfl 4 (by decide) (hts (.fieldLink RX4 30 "FacadeShow" "windNow" "I") (by decide +kernel)) (fun _ h9 => h9) rfl (by decide +kernel) rfl rfl (Nat.le_of_ble_eq_true rfl) dX4_wind_27 (fun H locs hP hD hS => ?_)
        rw [wX_f4] at hP hD
        refine lv_iload_n hx hb dX4_wind_30 rfl (lv_at hl 0 rfl) ?_
        exact tt_i (f := wX g ca) hx hb hr hAe hs hP hD hS (Nat.le_of_ble_eq_true rfl) (Nat.le_of_ble_eq_true rfl) dX4_wind_31 hlocks
      · have hs := sp_f c_2 hs
        exact th_row (f := wX g ca) (text := "wind is out of range") 2 (by decide) hx hb hl9 hown (hts (.classLink RX4 86 "java/lang/IllegalArgumentException") (by decide +kernel)) (hts (.initialized "java/lang/IllegalArgumentException") (by decide +kernel)) (by decide +kernel) hC hat2 xg_2 xo_2 hz hAe hs hP hD hS (hl.1.trans hml.symm) dX4_wind_10 dX4_wind_13 dX4_wind_14 dX4_wind_16 dX4_wind_19 hex (Nat.le_of_ble_eq_true rfl) (Nat.le_of_ble_eq_true rfl) (Nat.le_of_ble_eq_true rfl) (Nat.le_of_ble_eq_true rfl) hlocks (Nat.le_of_ble_eq_true rfl) (Nat.le_of_ble_eq_true rfl)
  rw [hHe, hle] at hgo
  exact hgo
def s_X4_through (x : XS) (a1 : Int32) (a2 : Int32) (a3 : Int32) : Option (Nat × Int32 × XS) := (s_X4_find x a1).bind fun v_1 => opq v_1 (some (1, 0, x)) (fun j_1 => (s_X4_isColumn a2).bind fun v_2 => (if v_2 = 0 then some (1, 0, x) else (if a3 < 0 then some (1, 0, x) else (if a3 < 12 then grd j_1 (x).2.2 ((s_X4_crossing x j_1 a2 a3).bind fun v_7 => some (0, v_7, x)) else some (1, 0, x)))))
set_option maxHeartbeats 4000000 in
set_option maxRecDepth 100000 in
theorem c_X4_through (l : Launch) (hl9 : l.stackTraces = false) (D : va_G) (ca : Nat → ClassId) (g : Nat → Nat) (x : XS) (a1 : Int32) (a2 : Int32) (a3 : Int32) {r : (Nat × Int32 × XS)} (hs : s_X4_through x a1 a2 a3 = some r) (sz : Nat) : vx_Met l yX4_through wsX4_through ({ frames := 6, cells := 1, slots := 6, locals := 82 }) (tP [.ref (g 0), .int (a1), .int (a2), .int (a3)] D ca (wX g ca x) sz) (tQi r D (wX g ca x) (wX g ca) sz) (tX r.1 r.2.2 D (wX g ca x) (wX g ca) sz) 1 6 (va_A (wX g ca x) sz) := by
  refine vx_ofW (cc := cX4_through) (maxL := 5) (ret := (some .int)) (by decide) rfl ?_
  intro p e s m args below meth c s₁ B hml hex hv
  obtain ⟨rfl, hsz, hP, hC, hD0, hz⟩ := hv
  have hx := B.exec
  have hb := B.bytes
  have hr := B.returns
  have hts := atoms_spec (ws := wsX4_through) B.pre
  have hown : s.vm.findClass RX4 = some m.cls := findClass_of_methodNamed B.named
  have hlocks := B.notSynchronized
  have hK := hC.1
  subst hsz
  have hD := hD0.self (sz := s.heap.size)
  generalize hAe : va_A (wX g ca x) s.heap.size = A at hD hz ⊢
  have hA : ∀ q : Nat, s.heap.size ≤ q → A q := fun q h => by rw [← hAe]; exact Or.inr h
  have hS : va_S A s.heap s.heap [] := va_S.rf
  skip
  have hat1 : ∀ w ∈ (vx_atS RX4 83 "java/lang/IndexOutOfBoundsException" ["java/lang/RuntimeException", "java/lang/Exception"]).filter goodWord, w.before _ s = true := fun w hw => hts w (List.mem_cons_of_mem _ (List.mem_append_right _ hw))
  have hl := lv_entry ([.ref (g 0), .int (a1), .int (a2), .int (a3)]) (n := 5) (Nat.le_of_ble_eq_true rfl)
  rw [lg_entry_eq]
  generalize (lg_sl ([.ref (g 0), .int (a1), .int (a2), .int (a3)]) ++ List.replicate (5 - (lg_sl ([.ref (g 0), .int (a1), .int (a2), .int (a3)])).length) Slot.unset).toArray = ls at hl ⊢
  have hl : lv_has ls 5 [(0, .ref (g 0)), (1, .int (a1)), (2, .int (a2)), (3, .int (a3))] := hl
  unfold s_X4_through at hs
  obtain ⟨H, hHe⟩ : ∃ H, H = s.heap := ⟨_, rfl⟩
  obtain ⟨locs, hle⟩ : ∃ z : List Loc, z = [] := ⟨_, rfl⟩
  have hP : va_P D vwCl (wX g ca x) H := by rw [hHe]; exact hP
  have hS : va_S A s.heap H locs := by rw [hHe, hle]; exact hS
  show W p l e (headSpec wsX4_through ({ frames := 6, cells := 1, slots := 6, locals := 82 })).room s m #[.ref (g 0), .int (a1), .int (a2), .int (a3)] below meth c s.heap [] 0 0 _ _
  have hgo : W p l e (headSpec wsX4_through ({ frames := 6, cells := 1, slots := 6, locals := 82 })).room s m #[.ref (g 0), .int (a1), .int (a2), .int (a3)] below meth c H locs 0 0 (vx_MQ below (tQi r D (wX g ca x) (wX g ca) s.heap.size) (tX r.1 r.2.2 D (wX g ca x) (wX g ca) s.heap.size) #[.ref (g 0), .int (a1), .int (a2), .int (a3)] s 1 6 A) (F0 m 0 ls []) := by
    refine lv_aload_n hx hb dX4_through_0 rfl (lv_at hl 0 rfl) ?_
    refine lv_iload_n hx hb dX4_through_1 rfl (lv_at hl 1 rfl) ?_
    obtain ⟨v_1, h_1, hs⟩ := sp_b hs
    refine rd_q (va_runV (As := [.int (a1)]) (rest := []) ⟨hx, hb, hml, hown, hts⟩ (c_X4_find l D ca g x a1 h_1) (cwV 1 hts gX4_through_X4_find rfl rfl rfl (by decide +kernel) ⟨Nat.le_of_ble_eq_true rfl, Nat.le_of_ble_eq_true rfl⟩) (rP_V (q := (RX4, TX4, 16)) hP hC 0 rfl rfl) rfl rfl hl.1 rfl (lv_room (Nat.le_of_ble_eq_true rfl)) dX4_through_2 ⟨Nat.zero_le _, Nat.zero_le _⟩) (fun o_1 => ?_) (fun j_1 o_1 => ?_)
    · have hs := sp_on o_1 hs
      refine lv_astoreN (lv' := [(4, .null), (0, .ref (g 0)), (1, .int (a1)), (2, .int (a2)), (3, .int (a3))]) hx hb dX4_through_5 hl (by decide) rfl (fun ls hl => ?_)
      refine lv_aloadN hx hb dX4_through_7 (lv_at hl 0 rfl) ?_
      refine lv_ifnonnullN hx hb dX4_through_9 ?_
      exact th_row (f := wX g ca) (text := "no such projector") 1 (by decide) hx hb hl9 hown (hts (.classLink RX4 79 "java/lang/IndexOutOfBoundsException") (by decide +kernel)) (hts (.initialized "java/lang/IndexOutOfBoundsException") (by decide +kernel)) (by decide +kernel) hC hat1 xg_1 xo_1 hz hAe hs hP hD hS (hl.1.trans hml.symm) dX4_through_12 dX4_through_15 dX4_through_16 dX4_through_18 dX4_through_21 hex (Nat.le_of_ble_eq_true rfl) (Nat.le_of_ble_eq_true rfl) (Nat.le_of_ble_eq_true rfl) (Nat.le_of_ble_eq_true rfl) hlocks (Nat.le_of_ble_eq_true rfl) (Nat.le_of_ble_eq_true rfl)
    · have hs := sp_os o_1 hs
      refine lv_astore (lv' := [(4, .ref (adP g j_1)), (0, .ref (g 0)), (1, .int (a1)), (2, .int (a2)), (3, .int (a3))]) hx hb dX4_through_5 hl (by decide) rfl (fun ls hl => ?_)
      refine lv_aload hx hb dX4_through_7 (lv_at hl 0 rfl) ?_
      refine lv_ifnonnull (tgt := 22) hx hb dX4_through_9 (by decide) ?_
      refine lv_iload_n hx hb dX4_through_22 rfl (lv_at hl 3 rfl) ?_
      obtain ⟨v_2, h_2, hs⟩ := sp_b hs
      refine rd_i (va_runS (As := [.int (a2)]) (rest := []) ⟨hx, hb, hml, hown, hts⟩ (c_X4_isColumn l D ca a2 h_2) (va_cwS 1 hts gX4_through_X4_isColumn rfl rfl rfl (by decide +kernel) ⟨Nat.le_of_ble_eq_true rfl, Nat.le_of_ble_eq_true rfl⟩) (rP_S va_P_nil hC) rfl rfl hl.1 rfl (lv_room (Nat.le_of_ble_eq_true rfl)) dX4_through_23 ⟨Nat.zero_le _, Nat.zero_le _⟩) ?_
      refine lv_if_ne (tgt := 39) hx hb dX4_through_26 (by decide) (fun c_3 => ?_) (fun c_3 => ?_)
      · have hs := sp_f c_3 hs
        refine lv_iload_n hx hb dX4_through_39 rfl (lv_at hl 4 rfl) ?_
        refine lv_if_lt (tgt := 49) hx hb dX4_through_40 (by decide) (fun c_4 => ?_) (fun c_4 => ?_)
        · have hs := sp_t c_4 hs
          exact th_row (f := wX g ca) (text := "no such row") 1 (by decide) hx hb hl9 hown (hts (.classLink RX4 79 "java/lang/IndexOutOfBoundsException") (by decide +kernel)) (hts (.initialized "java/lang/IndexOutOfBoundsException") (by decide +kernel)) (by decide +kernel) hC hat1 xg_1 xo_1 hz hAe hs hP hD hS (hl.1.trans hml.symm) dX4_through_49 dX4_through_52 dX4_through_53 dX4_through_55 dX4_through_58 hex (Nat.le_of_ble_eq_true rfl) (Nat.le_of_ble_eq_true rfl) (Nat.le_of_ble_eq_true rfl) (Nat.le_of_ble_eq_true rfl) hlocks (Nat.le_of_ble_eq_true rfl) (Nat.le_of_ble_eq_true rfl)
        · have hs := sp_f c_4 hs
          refine lv_iload_n hx hb dX4_through_43 rfl (lv_at hl 4 rfl) ?_
          refine lv_bipush (v := 12) hx hb dX4_through_44 (by decide) ?_
          refine lv_icmp_lt (tgt := 59) hx hb dX4_through_46 (by decide) (fun c_5 => ?_) (fun c_5 => ?_)
          · have hs := sp_t c_5 hs
            refine lv_aload_n hx hb dX4_through_59 rfl (lv_at hl 1 rfl) ?_
            refine lv_aload hx hb dX4_through_60 (lv_at hl 0 rfl) ?_
            refine lv_iload_n hx hb dX4_through_62 rfl (lv_at hl 3 rfl) ?_
            refine lv_iload_n hx hb dX4_through_63 rfl (lv_at hl 4 rfl) ?_
            obtain ⟨h_6, hs⟩ := sp_g hs
            obtain ⟨v_7, h_7, hs⟩ := sp_b hs
            refine rd_i (va_runV (As := [.ref (adP g j_1), .int (a2), .int (a3)]) (rest := []) ⟨hx, hb, hml, hown, hts⟩ (c_X4_crossing l D ca g x j_1 a2 a3 h_7) (cwV 3 hts gX4_through_X4_crossing rfl rfl rfl (by decide +kernel) ⟨Nat.le_of_ble_eq_true rfl, Nat.le_of_ble_eq_true rfl⟩) (rP_V (q := (RX4, TX4, 16)) hP hC 0 rfl rfl) rfl rfl hl.1 rfl (lv_room (Nat.le_of_ble_eq_true rfl)) dX4_through_64 ⟨Nat.zero_le _, Nat.zero_le _⟩) ?_
            exact tt_i (f := wX g ca) hx hb hr hAe hs hP hD hS (Nat.le_of_ble_eq_true rfl) (Nat.le_of_ble_eq_true rfl) dX4_through_67 hlocks
          · have hs := sp_f c_5 hs
            exact th_row (f := wX g ca) (text := "no such row") 1 (by decide) hx hb hl9 hown (hts (.classLink RX4 79 "java/lang/IndexOutOfBoundsException") (by decide +kernel)) (hts (.initialized "java/lang/IndexOutOfBoundsException") (by decide +kernel)) (by decide +kernel) hC hat1 xg_1 xo_1 hz hAe hs hP hD hS (hl.1.trans hml.symm) dX4_through_49 dX4_through_52 dX4_through_53 dX4_through_55 dX4_through_58 hex (Nat.le_of_ble_eq_true rfl) (Nat.le_of_ble_eq_true rfl) (Nat.le_of_ble_eq_true rfl) (Nat.le_of_ble_eq_true rfl) hlocks (Nat.le_of_ble_eq_true rfl) (Nat.le_of_ble_eq_true rfl)
      · have hs := sp_t c_3 hs
        exact th_row (f := wX g ca) (text := "no such column") 1 (by decide) hx hb hl9 hown (hts (.classLink RX4 79 "java/lang/IndexOutOfBoundsException") (by decide +kernel)) (hts (.initialized "java/lang/IndexOutOfBoundsException") (by decide +kernel)) (by decide +kernel) hC hat1 xg_1 xo_1 hz hAe hs hP hD hS (hl.1.trans hml.symm) dX4_through_29 dX4_through_32 dX4_through_33 dX4_through_35 dX4_through_38 hex (Nat.le_of_ble_eq_true rfl) (Nat.le_of_ble_eq_true rfl) (Nat.le_of_ble_eq_true rfl) (Nat.le_of_ble_eq_true rfl) hlocks (Nat.le_of_ble_eq_true rfl) (Nat.le_of_ble_eq_true rfl)
  rw [hHe, hle] at hgo
  exact hgo
def s_X4_gives (x : XS) (a1 : Int32) (a2 : Int32) : Option (Nat × Int32 × XS) := (s_X4_find x a1).bind fun v_1 => opq v_1 (some (1, 0, x)) (fun j_1 => (s_X4_isColumn a2).bind fun v_2 => (if v_2 = 0 then some (1, 0, x) else grd j_1 (x).2.2 ((s_X4_lightFrom x j_1 a2).bind fun v_5 => some (0, v_5, x))))
set_option maxHeartbeats 4000000 in
set_option maxRecDepth 100000 in
theorem c_X4_gives (l : Launch) (hl9 : l.stackTraces = false) (D : va_G) (ca : Nat → ClassId) (g : Nat → Nat) (x : XS) (a1 : Int32) (a2 : Int32) {r : (Nat × Int32 × XS)} (hs : s_X4_gives x a1 a2 = some r) (sz : Nat) : vx_Met l yX4_gives wsX4_gives ({ frames := 6, cells := 1, slots := 6, locals := 116 }) (tP [.ref (g 0), .int (a1), .int (a2)] D ca (wX g ca x) sz) (tQi r D (wX g ca x) (wX g ca) sz) (tX r.1 r.2.2 D (wX g ca x) (wX g ca) sz) 1 6 (va_A (wX g ca x) sz) := by
  refine vx_ofW (cc := cX4_gives) (maxL := 4) (ret := (some .int)) (by decide) rfl ?_
  intro p e s m args below meth c s₁ B hml hex hv
  obtain ⟨rfl, hsz, hP, hC, hD0, hz⟩ := hv
  have hx := B.exec
  have hb := B.bytes
  have hr := B.returns
  have hts := atoms_spec (ws := wsX4_gives) B.pre
  have hown : s.vm.findClass RX4 = some m.cls := findClass_of_methodNamed B.named
  have hlocks := B.notSynchronized
  have hK := hC.1
  subst hsz
  have hD := hD0.self (sz := s.heap.size)
  generalize hAe : va_A (wX g ca x) s.heap.size = A at hD hz ⊢
  have hA : ∀ q : Nat, s.heap.size ≤ q → A q := fun q h => by rw [← hAe]; exact Or.inr h
  have hS : va_S A s.heap s.heap [] := va_S.rf
  skip
  have hat1 : ∀ w ∈ (vx_atS RX4 83 "java/lang/IndexOutOfBoundsException" ["java/lang/RuntimeException", "java/lang/Exception"]).filter goodWord, w.before _ s = true := fun w hw => hts w (List.mem_cons_of_mem _ (List.mem_append_right _ hw))
  have hl := lv_entry ([.ref (g 0), .int (a1), .int (a2)]) (n := 4) (Nat.le_of_ble_eq_true rfl)
  rw [lg_entry_eq]
  generalize (lg_sl ([.ref (g 0), .int (a1), .int (a2)]) ++ List.replicate (4 - (lg_sl ([.ref (g 0), .int (a1), .int (a2)])).length) Slot.unset).toArray = ls at hl ⊢
  have hl : lv_has ls 4 [(0, .ref (g 0)), (1, .int (a1)), (2, .int (a2))] := hl
  unfold s_X4_gives at hs
  obtain ⟨H, hHe⟩ : ∃ H, H = s.heap := ⟨_, rfl⟩
  obtain ⟨locs, hle⟩ : ∃ z : List Loc, z = [] := ⟨_, rfl⟩
  have hP : va_P D vwCl (wX g ca x) H := by rw [hHe]; exact hP
  have hS : va_S A s.heap H locs := by rw [hHe, hle]; exact hS
  show W p l e (headSpec wsX4_gives ({ frames := 6, cells := 1, slots := 6, locals := 116 })).room s m #[.ref (g 0), .int (a1), .int (a2)] below meth c s.heap [] 0 0 _ _
  have hgo : W p l e (headSpec wsX4_gives ({ frames := 6, cells := 1, slots := 6, locals := 116 })).room s m #[.ref (g 0), .int (a1), .int (a2)] below meth c H locs 0 0 (vx_MQ below (tQi r D (wX g ca x) (wX g ca) s.heap.size) (tX r.1 r.2.2 D (wX g ca x) (wX g ca) s.heap.size) #[.ref (g 0), .int (a1), .int (a2)] s 1 6 A) (F0 m 0 ls []) := by
    refine lv_aload_n hx hb dX4_gives_0 rfl (lv_at hl 0 rfl) ?_
    refine lv_iload_n hx hb dX4_gives_1 rfl (lv_at hl 1 rfl) ?_
    obtain ⟨v_1, h_1, hs⟩ := sp_b hs
    refine rd_q (va_runV (As := [.int (a1)]) (rest := []) ⟨hx, hb, hml, hown, hts⟩ (c_X4_find l D ca g x a1 h_1) (cwV 1 hts gX4_gives_X4_find rfl rfl rfl (by decide +kernel) ⟨Nat.le_of_ble_eq_true rfl, Nat.le_of_ble_eq_true rfl⟩) (rP_V (q := (RX4, TX4, 16)) hP hC 0 rfl rfl) rfl rfl hl.1 rfl (lv_room (Nat.le_of_ble_eq_true rfl)) dX4_gives_2 ⟨Nat.zero_le _, Nat.zero_le _⟩) (fun o_1 => ?_) (fun j_1 o_1 => ?_)
    · have hs := sp_on o_1 hs
      refine lv_astore_nN (lv' := [(3, .null), (0, .ref (g 0)), (1, .int (a1)), (2, .int (a2))]) hx hb dX4_gives_5 rfl hl (by decide) rfl (fun ls hl => ?_)
      refine lv_aload_nN hx hb dX4_gives_6 rfl (lv_at hl 0 rfl) ?_
      refine lv_ifnonnullN hx hb dX4_gives_7 ?_
      exact th_row (f := wX g ca) (text := "no such projector") 1 (by decide) hx hb hl9 hown (hts (.classLink RX4 79 "java/lang/IndexOutOfBoundsException") (by decide +kernel)) (hts (.initialized "java/lang/IndexOutOfBoundsException") (by decide +kernel)) (by decide +kernel) hC hat1 xg_1 xo_1 hz hAe hs hP hD hS (hl.1.trans hml.symm) dX4_gives_10 dX4_gives_13 dX4_gives_14 dX4_gives_16 dX4_gives_19 hex (Nat.le_of_ble_eq_true rfl) (Nat.le_of_ble_eq_true rfl) (Nat.le_of_ble_eq_true rfl) (Nat.le_of_ble_eq_true rfl) hlocks (Nat.le_of_ble_eq_true rfl) (Nat.le_of_ble_eq_true rfl)
    · have hs := sp_os o_1 hs
      refine lv_astore_n (lv' := [(3, .ref (adP g j_1)), (0, .ref (g 0)), (1, .int (a1)), (2, .int (a2))]) hx hb dX4_gives_5 rfl hl (by decide) rfl (fun ls hl => ?_)
      refine lv_aload_n hx hb dX4_gives_6 rfl (lv_at hl 0 rfl) ?_
      refine lv_ifnonnull (tgt := 20) hx hb dX4_gives_7 (by decide) ?_
      refine lv_iload_n hx hb dX4_gives_20 rfl (lv_at hl 3 rfl) ?_
      obtain ⟨v_2, h_2, hs⟩ := sp_b hs
      refine rd_i (va_runS (As := [.int (a2)]) (rest := []) ⟨hx, hb, hml, hown, hts⟩ (c_X4_isColumn l D ca a2 h_2) (va_cwS 1 hts gX4_gives_X4_isColumn rfl rfl rfl (by decide +kernel) ⟨Nat.le_of_ble_eq_true rfl, Nat.le_of_ble_eq_true rfl⟩) (rP_S va_P_nil hC) rfl rfl hl.1 rfl (lv_room (Nat.le_of_ble_eq_true rfl)) dX4_gives_21 ⟨Nat.zero_le _, Nat.zero_le _⟩) ?_
      refine lv_if_ne (tgt := 37) hx hb dX4_gives_24 (by decide) (fun c_3 => ?_) (fun c_3 => ?_)
      · have hs := sp_f c_3 hs
        refine lv_aload_n hx hb dX4_gives_37 rfl (lv_at hl 1 rfl) ?_
        refine lv_aload_n hx hb dX4_gives_38 rfl (lv_at hl 0 rfl) ?_
        refine lv_iload_n hx hb dX4_gives_39 rfl (lv_at hl 3 rfl) ?_
        obtain ⟨h_4, hs⟩ := sp_g hs
        obtain ⟨v_5, h_5, hs⟩ := sp_b hs
        refine rd_i (va_runV (As := [.ref (adP g j_1), .int (a2)]) (rest := []) ⟨hx, hb, hml, hown, hts⟩ (c_X4_lightFrom l D ca g x j_1 a2 h_5) (cwV 2 hts gX4_gives_X4_lightFrom rfl rfl rfl (by decide +kernel) ⟨Nat.le_of_ble_eq_true rfl, Nat.le_of_ble_eq_true rfl⟩) (rP_V (q := (RX4, TX4, 16)) hP hC 0 rfl rfl) rfl rfl hl.1 rfl (lv_room (Nat.le_of_ble_eq_true rfl)) dX4_gives_40 ⟨Nat.zero_le _, Nat.zero_le _⟩) ?_
        exact tt_i (f := wX g ca) hx hb hr hAe hs hP hD hS (Nat.le_of_ble_eq_true rfl) (Nat.le_of_ble_eq_true rfl) dX4_gives_43 hlocks
      · have hs := sp_t c_3 hs
        exact th_row (f := wX g ca) (text := "no such column") 1 (by decide) hx hb hl9 hown (hts (.classLink RX4 79 "java/lang/IndexOutOfBoundsException") (by decide +kernel)) (hts (.initialized "java/lang/IndexOutOfBoundsException") (by decide +kernel)) (by decide +kernel) hC hat1 xg_1 xo_1 hz hAe hs hP hD hS (hl.1.trans hml.symm) dX4_gives_27 dX4_gives_30 dX4_gives_31 dX4_gives_33 dX4_gives_36 hex (Nat.le_of_ble_eq_true rfl) (Nat.le_of_ble_eq_true rfl) (Nat.le_of_ble_eq_true rfl) (Nat.le_of_ble_eq_true rfl) hlocks (Nat.le_of_ble_eq_true rfl) (Nat.le_of_ble_eq_true rfl)
  rw [hHe, hle] at hgo
  exact hgo
def s_X4_isSharp (x : XS) (a1 : Int32) (a2 : Int32) : Option (Nat × Int32 × XS) := (s_X4_find x a1).bind fun v_1 => opq v_1 (some (1, 0, x)) (fun j_1 => (s_X4_isColumn a2).bind fun v_2 => (if v_2 = 0 then some (1, 0, x) else grd j_1 (x).2.2 ((s_X4_isInFocus x j_1 a2).bind fun v_5 => zb v_5 (some (0, v_5, x)))))
set_option maxHeartbeats 4000000 in
set_option maxRecDepth 100000 in
theorem c_X4_isSharp (l : Launch) (hl9 : l.stackTraces = false) (D : va_G) (ca : Nat → ClassId) (g : Nat → Nat) (x : XS) (a1 : Int32) (a2 : Int32) {r : (Nat × Int32 × XS)} (hs : s_X4_isSharp x a1 a2 = some r) (sz : Nat) : vx_Met l yX4_isSharp wsX4_isSharp ({ frames := 6, cells := 1, slots := 6, locals := 82 }) (tP [.ref (g 0), .int (a1), .int (a2)] D ca (wX g ca x) sz) (tQi r D (wX g ca x) (wX g ca) sz) (tX r.1 r.2.2 D (wX g ca x) (wX g ca) sz) 1 6 (va_A (wX g ca x) sz) := by
  refine vx_ofW (cc := cX4_isSharp) (maxL := 4) (ret := (some .boolean)) (by decide) rfl ?_
  intro p e s m args below meth c s₁ B hml hex hv
  obtain ⟨rfl, hsz, hP, hC, hD0, hz⟩ := hv
  have hx := B.exec
  have hb := B.bytes
  have hr := B.returns
  have hts := atoms_spec (ws := wsX4_isSharp) B.pre
  have hown : s.vm.findClass RX4 = some m.cls := findClass_of_methodNamed B.named
  have hlocks := B.notSynchronized
  have hK := hC.1
  subst hsz
  have hD := hD0.self (sz := s.heap.size)
  generalize hAe : va_A (wX g ca x) s.heap.size = A at hD hz ⊢
  have hA : ∀ q : Nat, s.heap.size ≤ q → A q := fun q h => by rw [← hAe]; exact Or.inr h
  have hS : va_S A s.heap s.heap [] := va_S.rf
  skip
  have hat1 : ∀ w ∈ (vx_atS RX4 83 "java/lang/IndexOutOfBoundsException" ["java/lang/RuntimeException", "java/lang/Exception"]).filter goodWord, w.before _ s = true := fun w hw => hts w (List.mem_cons_of_mem _ (List.mem_append_right _ hw))
  have hl := lv_entry ([.ref (g 0), .int (a1), .int (a2)]) (n := 4) (Nat.le_of_ble_eq_true rfl)
  rw [lg_entry_eq]
  generalize (lg_sl ([.ref (g 0), .int (a1), .int (a2)]) ++ List.replicate (4 - (lg_sl ([.ref (g 0), .int (a1), .int (a2)])).length) Slot.unset).toArray = ls at hl ⊢
  have hl : lv_has ls 4 [(0, .ref (g 0)), (1, .int (a1)), (2, .int (a2))] := hl
  unfold s_X4_isSharp at hs
  obtain ⟨H, hHe⟩ : ∃ H, H = s.heap := ⟨_, rfl⟩
  obtain ⟨locs, hle⟩ : ∃ z : List Loc, z = [] := ⟨_, rfl⟩
  have hP : va_P D vwCl (wX g ca x) H := by rw [hHe]; exact hP
  have hS : va_S A s.heap H locs := by rw [hHe, hle]; exact hS
  show W p l e (headSpec wsX4_isSharp ({ frames := 6, cells := 1, slots := 6, locals := 82 })).room s m #[.ref (g 0), .int (a1), .int (a2)] below meth c s.heap [] 0 0 _ _
  have hgo : W p l e (headSpec wsX4_isSharp ({ frames := 6, cells := 1, slots := 6, locals := 82 })).room s m #[.ref (g 0), .int (a1), .int (a2)] below meth c H locs 0 0 (vx_MQ below (tQi r D (wX g ca x) (wX g ca) s.heap.size) (tX r.1 r.2.2 D (wX g ca x) (wX g ca) s.heap.size) #[.ref (g 0), .int (a1), .int (a2)] s 1 6 A) (F0 m 0 ls []) := by
    refine lv_aload_n hx hb dX4_isSharp_0 rfl (lv_at hl 0 rfl) ?_
    refine lv_iload_n hx hb dX4_isSharp_1 rfl (lv_at hl 1 rfl) ?_
    obtain ⟨v_1, h_1, hs⟩ := sp_b hs
    refine rd_q (va_runV (As := [.int (a1)]) (rest := []) ⟨hx, hb, hml, hown, hts⟩ (c_X4_find l D ca g x a1 h_1) (cwV 1 hts gX4_isSharp_X4_find rfl rfl rfl (by decide +kernel) ⟨Nat.le_of_ble_eq_true rfl, Nat.le_of_ble_eq_true rfl⟩) (rP_V (q := (RX4, TX4, 16)) hP hC 0 rfl rfl) rfl rfl hl.1 rfl (lv_room (Nat.le_of_ble_eq_true rfl)) dX4_isSharp_2 ⟨Nat.zero_le _, Nat.zero_le _⟩) (fun o_1 => ?_) (fun j_1 o_1 => ?_)
    · have hs := sp_on o_1 hs
      refine lv_astore_nN (lv' := [(3, .null), (0, .ref (g 0)), (1, .int (a1)), (2, .int (a2))]) hx hb dX4_isSharp_5 rfl hl (by decide) rfl (fun ls hl => ?_)
      refine lv_aload_nN hx hb dX4_isSharp_6 rfl (lv_at hl 0 rfl) ?_
      refine lv_ifnonnullN hx hb dX4_isSharp_7 ?_
      exact th_row (f := wX g ca) (text := "no such projector") 1 (by decide) hx hb hl9 hown (hts (.classLink RX4 79 "java/lang/IndexOutOfBoundsException") (by decide +kernel)) (hts (.initialized "java/lang/IndexOutOfBoundsException") (by decide +kernel)) (by decide +kernel) hC hat1 xg_1 xo_1 hz hAe hs hP hD hS (hl.1.trans hml.symm) dX4_isSharp_10 dX4_isSharp_13 dX4_isSharp_14 dX4_isSharp_16 dX4_isSharp_19 hex (Nat.le_of_ble_eq_true rfl) (Nat.le_of_ble_eq_true rfl) (Nat.le_of_ble_eq_true rfl) (Nat.le_of_ble_eq_true rfl) hlocks (Nat.le_of_ble_eq_true rfl) (Nat.le_of_ble_eq_true rfl)
    · have hs := sp_os o_1 hs
      refine lv_astore_n (lv' := [(3, .ref (adP g j_1)), (0, .ref (g 0)), (1, .int (a1)), (2, .int (a2))]) hx hb dX4_isSharp_5 rfl hl (by decide) rfl (fun ls hl => ?_)
      refine lv_aload_n hx hb dX4_isSharp_6 rfl (lv_at hl 0 rfl) ?_
      refine lv_ifnonnull (tgt := 20) hx hb dX4_isSharp_7 (by decide) ?_
      refine lv_iload_n hx hb dX4_isSharp_20 rfl (lv_at hl 3 rfl) ?_
      obtain ⟨v_2, h_2, hs⟩ := sp_b hs
      refine rd_i (va_runS (As := [.int (a2)]) (rest := []) ⟨hx, hb, hml, hown, hts⟩ (c_X4_isColumn l D ca a2 h_2) (va_cwS 1 hts gX4_isSharp_X4_isColumn rfl rfl rfl (by decide +kernel) ⟨Nat.le_of_ble_eq_true rfl, Nat.le_of_ble_eq_true rfl⟩) (rP_S va_P_nil hC) rfl rfl hl.1 rfl (lv_room (Nat.le_of_ble_eq_true rfl)) dX4_isSharp_21 ⟨Nat.zero_le _, Nat.zero_le _⟩) ?_
      refine lv_if_ne (tgt := 37) hx hb dX4_isSharp_24 (by decide) (fun c_3 => ?_) (fun c_3 => ?_)
      · have hs := sp_f c_3 hs
        refine lv_aload_n hx hb dX4_isSharp_37 rfl (lv_at hl 1 rfl) ?_
        refine lv_aload_n hx hb dX4_isSharp_38 rfl (lv_at hl 0 rfl) ?_
        refine lv_iload_n hx hb dX4_isSharp_39 rfl (lv_at hl 3 rfl) ?_
        obtain ⟨h_4, hs⟩ := sp_g hs
        obtain ⟨v_5, h_5, hs⟩ := sp_b hs
        refine rd_i (va_runV (As := [.ref (adP g j_1), .int (a2)]) (rest := []) ⟨hx, hb, hml, hown, hts⟩ (c_X4_isInFocus l D ca g x j_1 a2 h_5) (cwV 2 hts gX4_isSharp_X4_isInFocus rfl rfl rfl (by decide +kernel) ⟨Nat.le_of_ble_eq_true rfl, Nat.le_of_ble_eq_true rfl⟩) (rP_V (q := (RX4, TX4, 16)) hP hC 0 rfl rfl) rfl rfl hl.1 rfl (lv_room (Nat.le_of_ble_eq_true rfl)) dX4_isSharp_40 ⟨Nat.zero_le _, Nat.zero_le _⟩) ?_
        obtain ⟨h_6, hs⟩ := sp_z hs
        exact tt_z (f := wX g ca) hx hb hr hAe h_6 hs hP hD hS (Nat.le_of_ble_eq_true rfl) (Nat.le_of_ble_eq_true rfl) dX4_isSharp_43 hlocks
      · have hs := sp_t c_3 hs
        exact th_row (f := wX g ca) (text := "no such column") 1 (by decide) hx hb hl9 hown (hts (.classLink RX4 79 "java/lang/IndexOutOfBoundsException") (by decide +kernel)) (hts (.initialized "java/lang/IndexOutOfBoundsException") (by decide +kernel)) (by decide +kernel) hC hat1 xg_1 xo_1 hz hAe hs hP hD hS (hl.1.trans hml.symm) dX4_isSharp_27 dX4_isSharp_30 dX4_isSharp_31 dX4_isSharp_33 dX4_isSharp_36 hex (Nat.le_of_ble_eq_true rfl) (Nat.le_of_ble_eq_true rfl) (Nat.le_of_ble_eq_true rfl) (Nat.le_of_ble_eq_true rfl) hlocks (Nat.le_of_ble_eq_true rfl) (Nat.le_of_ble_eq_true rfl)
  rw [hHe, hle] at hgo
  exact hgo
def s_X4_light (x : XS) (a1 : Int32) : Option (Nat × Int32 × XS) := (s_X4_isColumn a1).bind fun v_1 => (if v_1 = 0 then some (1, 0, x) else (s_X4_lightOf x a1).bind fun v_3 => some (0, v_3, x))
set_option maxHeartbeats 4000000 in
set_option maxRecDepth 100000 in
theorem c_X4_light (l : Launch) (hl9 : l.stackTraces = false) (D : va_G) (ca : Nat → ClassId) (g : Nat → Nat) (x : XS) (a1 : Int32) {r : (Nat × Int32 × XS)} (hs : s_X4_light x a1 = some r) (sz : Nat) : vx_Met l yX4_light wsX4_light ({ frames := 6, cells := 1, slots := 6, locals := 140 }) (tP [.ref (g 0), .int (a1)] D ca (wX g ca x) sz) (tQi r D (wX g ca x) (wX g ca) sz) (tX r.1 r.2.2 D (wX g ca x) (wX g ca) sz) 1 6 (va_A (wX g ca x) sz) := by
  refine vx_ofW (cc := cX4_light) (maxL := 2) (ret := (some .int)) (by decide) rfl ?_
  intro p e s m args below meth c s₁ B hml hex hv
  obtain ⟨rfl, hsz, hP, hC, hD0, hz⟩ := hv
  have hx := B.exec
  have hb := B.bytes
  have hr := B.returns
  have hts := atoms_spec (ws := wsX4_light) B.pre
  have hown : s.vm.findClass RX4 = some m.cls := findClass_of_methodNamed B.named
  have hlocks := B.notSynchronized
  have hK := hC.1
  subst hsz
  have hD := hD0.self (sz := s.heap.size)
  generalize hAe : va_A (wX g ca x) s.heap.size = A at hD hz ⊢
  have hA : ∀ q : Nat, s.heap.size ≤ q → A q := fun q h => by rw [← hAe]; exact Or.inr h
  have hS : va_S A s.heap s.heap [] := va_S.rf
  skip
  have hat1 : ∀ w ∈ (vx_atS RX4 83 "java/lang/IndexOutOfBoundsException" ["java/lang/RuntimeException", "java/lang/Exception"]).filter goodWord, w.before _ s = true := fun w hw => hts w (List.mem_cons_of_mem _ (List.mem_append_right _ hw))
  have hl := lv_entry ([.ref (g 0), .int (a1)]) (n := 2) (Nat.le_of_ble_eq_true rfl)
  rw [lg_entry_eq]
  generalize (lg_sl ([.ref (g 0), .int (a1)]) ++ List.replicate (2 - (lg_sl ([.ref (g 0), .int (a1)])).length) Slot.unset).toArray = ls at hl ⊢
  have hl : lv_has ls 2 [(0, .ref (g 0)), (1, .int (a1))] := hl
  unfold s_X4_light at hs
  obtain ⟨H, hHe⟩ : ∃ H, H = s.heap := ⟨_, rfl⟩
  obtain ⟨locs, hle⟩ : ∃ z : List Loc, z = [] := ⟨_, rfl⟩
  have hP : va_P D vwCl (wX g ca x) H := by rw [hHe]; exact hP
  have hS : va_S A s.heap H locs := by rw [hHe, hle]; exact hS
  show W p l e (headSpec wsX4_light ({ frames := 6, cells := 1, slots := 6, locals := 140 })).room s m #[.ref (g 0), .int (a1)] below meth c s.heap [] 0 0 _ _
  have hgo : W p l e (headSpec wsX4_light ({ frames := 6, cells := 1, slots := 6, locals := 140 })).room s m #[.ref (g 0), .int (a1)] below meth c H locs 0 0 (vx_MQ below (tQi r D (wX g ca x) (wX g ca) s.heap.size) (tX r.1 r.2.2 D (wX g ca x) (wX g ca) s.heap.size) #[.ref (g 0), .int (a1)] s 1 6 A) (F0 m 0 ls []) := by
    refine lv_iload_n hx hb dX4_light_0 rfl (lv_at hl 1 rfl) ?_
    obtain ⟨v_1, h_1, hs⟩ := sp_b hs
    refine rd_i (va_runS (As := [.int (a1)]) (rest := []) ⟨hx, hb, hml, hown, hts⟩ (c_X4_isColumn l D ca a1 h_1) (va_cwS 1 hts gX4_light_X4_isColumn rfl rfl rfl (by decide +kernel) ⟨Nat.le_of_ble_eq_true rfl, Nat.le_of_ble_eq_true rfl⟩) (rP_S va_P_nil hC) rfl rfl hl.1 rfl (lv_room (Nat.le_of_ble_eq_true rfl)) dX4_light_1 ⟨Nat.zero_le _, Nat.zero_le _⟩) ?_
    refine lv_if_ne (tgt := 17) hx hb dX4_light_4 (by decide) (fun c_2 => ?_) (fun c_2 => ?_)
    · have hs := sp_f c_2 hs
      refine lv_aload_n hx hb dX4_light_17 rfl (lv_at hl 0 rfl) ?_
      refine lv_iload_n hx hb dX4_light_18 rfl (lv_at hl 1 rfl) ?_
      obtain ⟨v_3, h_3, hs⟩ := sp_b hs
      refine rd_i (va_runV (As := [.int (a1)]) (rest := []) ⟨hx, hb, hml, hown, hts⟩ (c_X4_lightOf l D ca g x a1 h_3) (cwV 1 hts gX4_light_X4_lightOf rfl rfl rfl (by decide +kernel) ⟨Nat.le_of_ble_eq_true rfl, Nat.le_of_ble_eq_true rfl⟩) (rP_V (q := (RX4, TX4, 16)) hP hC 0 rfl rfl) rfl rfl hl.1 rfl (lv_room (Nat.le_of_ble_eq_true rfl)) dX4_light_19 ⟨Nat.zero_le _, Nat.zero_le _⟩) ?_
      exact tt_i (f := wX g ca) hx hb hr hAe hs hP hD hS (Nat.le_of_ble_eq_true rfl) (Nat.le_of_ble_eq_true rfl) dX4_light_22 hlocks
    · have hs := sp_t c_2 hs
      exact th_row (f := wX g ca) (text := "no such column") 1 (by decide) hx hb hl9 hown (hts (.classLink RX4 79 "java/lang/IndexOutOfBoundsException") (by decide +kernel)) (hts (.initialized "java/lang/IndexOutOfBoundsException") (by decide +kernel)) (by decide +kernel) hC hat1 xg_1 xo_1 hz hAe hs hP hD hS (hl.1.trans hml.symm) dX4_light_7 dX4_light_10 dX4_light_11 dX4_light_13 dX4_light_16 hex (Nat.le_of_ble_eq_true rfl) (Nat.le_of_ble_eq_true rfl) (Nat.le_of_ble_eq_true rfl) (Nat.le_of_ble_eq_true rfl) hlocks (Nat.le_of_ble_eq_true rfl) (Nat.le_of_ble_eq_true rfl)
  rw [hHe, hle] at hgo
  exact hgo
