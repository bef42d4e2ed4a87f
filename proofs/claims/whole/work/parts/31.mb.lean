def s_X5_column_b39 (a1 : Int32) (a2 : Int32) (a3 : Int32) (xx : XS) (q0 : Int32) : Option XS := (s_X5_goesWell xx q0).bind fun v_1 => (if v_1.1 = 0 then some (v_1.2) else chk 16 a1 (chk 16 a1 (some (si (si (v_1.2) 1 a1.toNatClampNeg a2) 2 a1.toNatClampNeg a3))))
def s_X5_column (x : XS) (a1 : Int32) (a2 : Int32) (a3 : Int32) : Option XS := (s_X5_isColumn a1).bind fun v_5 => (if v_5 = 0 then s_X5_column_b39 a1 a2 a3  (x) (1) else (s_X5_in a2 0 2).bind fun v_7 => (if v_7 = 0 then s_X5_column_b39 a1 a2 a3  (x) (2) else (s_X5_in a3 0 2).bind fun v_9 => (if v_9 = 0 then s_X5_column_b39 a1 a2 a3  (x) (2) else s_X5_column_b39 a1 a2 a3  (x) (0))))
set_option maxHeartbeats 4000000 in
set_option maxRecDepth 100000 in
theorem c_X5_column (l : Launch) (D : va_G) (ca : Nat → ClassId) (h : Nat → Nat) (x : XS) (a1 : Int32) (a2 : Int32) (a3 : Int32) {r : XS} (hs : s_X5_column x a1 a2 a3 = some r) (sz : Nat) : Met l yX5_column wsX5_column ({ frames := 2, cells := 0, slots := 0, locals := 42 }) (wP [.ref (h 0), .int (a1), .int (a2), .int (a3)] D ca (wM h ca x) sz) (wQv D (wM h ca x) (wM h ca r) sz) 0 0 (va_A (wM h ca x) sz) := by
  refine Met.ofW (cc := cX5_column) (maxL := 5) (ret := none) (by decide) rfl ?_
  intro p e s m args below meth c s₁ B hml hv
  obtain ⟨rfl, hsz, hP, hC, hD0⟩ := hv
  have hx := B.exec
  have hb := B.bytes
  have hr := B.returns
  have hts := atoms_spec (ws := wsX5_column) B.pre
  have hown : s.vm.findClass RX5 = some m.cls := findClass_of_methodNamed B.named
  have hlocks := B.notSynchronized
  have hK := hC.1
  subst hsz
  have hD := hD0.self (sz := s.heap.size)
  generalize hAe : va_A (wM h ca x) s.heap.size = A at hD ⊢
  have hA : ∀ q : Nat, s.heap.size ≤ q → A q := fun q h => by rw [← hAe]; exact Or.inr h
  have hS : va_S A s.heap s.heap [] := va_S.rf
  skip
  have iX5 : ∀ w ∈ u_ws RX5 TX5 30, w ∈ wsX5_column := by decide +kernel
  have hl := lv_entry ([.ref (h 0), .int (a1), .int (a2), .int (a3)]) (n := 5) (Nat.le_of_ble_eq_true rfl)
  rw [lg_entry_eq]
  generalize (lg_sl ([.ref (h 0), .int (a1), .int (a2), .int (a3)]) ++ List.replicate (5 - (lg_sl ([.ref (h 0), .int (a1), .int (a2), .int (a3)])).length) Slot.unset).toArray = ls at hl ⊢
  have hl : lv_has ls 5 [(0, .ref (h 0)), (1, .int (a1)), (2, .int (a2)), (3, .int (a3))] := hl
  have b39 : ∀ (xx : XS) (q0 : Int32), s_X5_column_b39 a1 a2 a3 xx q0 = some r → ∀ (H : Heap) (locs : List Loc), va_P D vwCl (wM h ca xx) H → va_D A (wM h ca xx) → va_S A s.heap H locs → ∀ (ls : Array Slot), lv_has ls 5 [(0, .ref (h 0)), (1, .int (a1)), (2, .int (a2)), (3, .int (a3))] → W p l e (headSpec wsX5_column ({ frames := 2, cells := 0, slots := 0, locals := 42 })).room s m #[.ref (h 0), .int (a1), .int (a2), .int (a3)] below meth c H locs 0 0 (MQ below (wQv D (wM h ca x) (wM h ca r) s.heap.size) #[.ref (h 0), .int (a1), .int (a2), .int (a3)] s 0 0 A) (F0 m 39 ls [.int (q0), .ref (h 0)]) := by
    intro xx q0 hs H locs hP hD hS ls hl
    unfold s_X5_column_b39 at hs
    obtain ⟨v_1, h_1, hs⟩ := sp_b hs
    refine wr_i (va_runV (As := [.int (q0)]) (rest := []) ⟨hx, hb, hml, hown, hts⟩ (c_X5_goesWell l D ca h xx q0 h_1 H.size) (cwV 1 hts gX5_column_X5_goesWell rfl rfl rfl (by decide +kernel) ⟨Nat.le_of_ble_eq_true rfl, Nat.le_of_ble_eq_true rfl⟩) (wP_V (q := (RX5, TX5, 30)) hP hC hD 0 rfl rfl) rfl rfl hl.1 rfl (lv_room (Nat.le_of_ble_eq_true rfl)) dX5_column_39 ⟨Nat.zero_le _, Nat.zero_le _⟩) hD hS hA (fun H locs hP hD hS => ?_)
    refine lv_if_eq (tgt := 59) hx hb dX5_column_42 (by decide) (fun c_2 => ?_) (fun c_2 => ?_)
    · have hs := sp_t c_2 hs
      exact wt_v (f := wM h ca) hx hb hr hAe hs hP hD hS dX5_column_59 hlocks
    · have hs := sp_f c_2 hs
      refine lv_aload_n hx hb dX5_column_45 rfl (lv_at hl 0 rfl) ?_
      refine va_get (D := D) (ci := 5) (fs := fsM h (v_1.2)) (v := .ref (h 1)) (C := RX5) (T := TX5) (N := 30) hx hb hts iX5 hown hK hP 0 rfl rfl 1 (by decide) (hts (.fieldLink RX5 7 "FacadeShowModel" "relief" "[I") (by decide +kernel)) (fun _ h9 => h9) rfl dX5_column_46 ?_
      refine lv_iload_n hx hb dX5_column_49 rfl (lv_at hl 1 rfl) ?_
      refine lv_iload_n hx hb dX5_column_50 rfl (lv_at hl 2 rfl) ?_
      obtain ⟨h_3, hs⟩ := sp_c hs
      refine va_iast (D := D) (cA := ca 0) (n := 16) (f := (v_1.2).1 1) hx hb hK hP hD hS 1 0 rfl rfl h_3 dX5_column_51 (fun H locs hP hD hS => ?_)
      rw [wM_a1] at hP hD
      refine lv_aload_n hx hb dX5_column_52 rfl (lv_at hl 0 rfl) ?_
      refine va_get (D := D) (ci := 5) (fs := fsM h (si (v_1.2) 1 a1.toNatClampNeg a2)) (v := .ref (h 2)) (C := RX5) (T := TX5) (N := 30) hx hb hts iX5 hown hK hP 0 rfl rfl 2 (by decide) (hts (.fieldLink RX5 13 "FacadeShowModel" "surface" "[I") (by decide +kernel)) (fun _ h9 => h9) rfl dX5_column_53 ?_
      refine lv_iload_n hx hb dX5_column_56 rfl (lv_at hl 1 rfl) ?_
      refine lv_iload_n hx hb dX5_column_57 rfl (lv_at hl 3 rfl) ?_
      obtain ⟨h_4, hs⟩ := sp_c hs
      refine va_iast (D := D) (cA := ca 0) (n := 16) (f := (si (v_1.2) 1 a1.toNatClampNeg a2).1 2) hx hb hK hP hD hS 2 0 rfl rfl h_4 dX5_column_58 (fun H locs hP hD hS => ?_)
      rw [wM_a2] at hP hD
      exact wt_v (f := wM h ca) hx hb hr hAe hs hP hD hS dX5_column_59 hlocks
  unfold s_X5_column at hs
  obtain ⟨H, hHe⟩ : ∃ H, H = s.heap := ⟨_, rfl⟩
  obtain ⟨locs, hle⟩ : ∃ z : List Loc, z = [] := ⟨_, rfl⟩
  have hP : va_P D vwCl (wM h ca x) H := by rw [hHe]; exact hP
  have hS : va_S A s.heap H locs := by rw [hHe, hle]; exact hS
  show W p l e (headSpec wsX5_column ({ frames := 2, cells := 0, slots := 0, locals := 42 })).room s m #[.ref (h 0), .int (a1), .int (a2), .int (a3)] below meth c s.heap [] 0 0 _ _
  have hgo : W p l e (headSpec wsX5_column ({ frames := 2, cells := 0, slots := 0, locals := 42 })).room s m #[.ref (h 0), .int (a1), .int (a2), .int (a3)] below meth c H locs 0 0 (MQ below (wQv D (wM h ca x) (wM h ca r) s.heap.size) #[.ref (h 0), .int (a1), .int (a2), .int (a3)] s 0 0 A) (F0 m 0 ls []) := by
    refine lv_iload_n hx hb dX5_column_0 rfl (lv_at hl 1 rfl) ?_
    obtain ⟨v_5, h_5, hs⟩ := sp_b hs
    refine rd_i (va_runS (As := [.int (a1)]) (rest := []) ⟨hx, hb, hml, hown, hts⟩ (c_X5_isColumn l D ca a1 h_5) (va_cwS 1 hts gX5_column_X5_isColumn rfl rfl rfl (by decide +kernel) ⟨Nat.le_of_ble_eq_true rfl, Nat.le_of_ble_eq_true rfl⟩) (rP_S va_P_nil hC) rfl rfl hl.1 rfl (lv_room (Nat.le_of_ble_eq_true rfl)) dX5_column_1 ⟨Nat.zero_le _, Nat.zero_le _⟩) ?_
    refine lv_istore (lv' := [(4, .int (v_5)), (0, .ref (h 0)), (1, .int (a1)), (2, .int (a2)), (3, .int (a3))]) hx hb dX5_column_4 hl (by decide) rfl (fun ls hl => ?_)
    refine lv_aload_n hx hb dX5_column_6 rfl (lv_at hl 1 rfl) ?_
    refine lv_iload hx hb dX5_column_7 (lv_at hl 0 rfl) ?_
    refine lv_if_ne (tgt := 16) hx hb dX5_column_9 (by decide) (fun c_6 => ?_) (fun c_6 => ?_)
    · have hs := sp_f c_6 hs
      refine lv_iload_n hx hb dX5_column_16 rfl (lv_at hl 3 rfl) ?_
      refine lv_iconst (v := 0) hx hb dX5_column_17 (by decide) ?_
      refine lv_iconst (v := 2) hx hb dX5_column_18 (by decide) ?_
      obtain ⟨v_7, h_7, hs⟩ := sp_b hs
      refine rd_i (va_runS (As := [.int (a2), .int (0), .int (2)]) (rest := [.ref (h 0)]) ⟨hx, hb, hml, hown, hts⟩ (c_X5_in l D ca a2 0 2 h_7) (va_cwS 3 hts gX5_column_X5_in rfl rfl rfl (by decide +kernel) ⟨Nat.le_of_ble_eq_true rfl, Nat.le_of_ble_eq_true rfl⟩) (rP_S va_P_nil hC) rfl rfl hl.1 rfl (lv_room (Nat.le_of_ble_eq_true rfl)) dX5_column_19 ⟨Nat.zero_le _, Nat.zero_le _⟩) ?_
      refine lv_if_eq (tgt := 38) hx hb dX5_column_22 (by decide) (fun c_8 => ?_) (fun c_8 => ?_)
      · have hs := sp_t c_8 hs
        refine lv_iconst (v := 2) hx hb dX5_column_38 (by decide) ?_
        exact b39  (x) (2) hs H locs hP hD hS ls (lv_sub hl [1, 2, 3, 4] rfl)
      · have hs := sp_f c_8 hs
        refine lv_iload_n hx hb dX5_column_25 rfl (lv_at hl 4 rfl) ?_
        refine lv_iconst (v := 0) hx hb dX5_column_26 (by decide) ?_
        refine lv_iconst (v := 2) hx hb dX5_column_27 (by decide) ?_
        obtain ⟨v_9, h_9, hs⟩ := sp_b hs
        refine rd_i (va_runS (As := [.int (a3), .int (0), .int (2)]) (rest := [.ref (h 0)]) ⟨hx, hb, hml, hown, hts⟩ (c_X5_in l D ca a3 0 2 h_9) (va_cwS 3 hts gX5_column_X5_in rfl rfl rfl (by decide +kernel) ⟨Nat.le_of_ble_eq_true rfl, Nat.le_of_ble_eq_true rfl⟩) (rP_S va_P_nil hC) rfl rfl hl.1 rfl (lv_room (Nat.le_of_ble_eq_true rfl)) dX5_column_28 ⟨Nat.zero_le _, Nat.zero_le _⟩) ?_
        refine lv_if_eq (tgt := 38) hx hb dX5_column_31 (by decide) (fun c_10 => ?_) (fun c_10 => ?_)
        · have hs := sp_t c_10 hs
          refine lv_iconst (v := 2) hx hb dX5_column_38 (by decide) ?_
          exact b39  (x) (2) hs H locs hP hD hS ls (lv_sub hl [1, 2, 3, 4] rfl)
        · have hs := sp_f c_10 hs
          refine lv_iconst (v := 0) hx hb dX5_column_34 (by decide) ?_
          refine lv_goto (tgt := 39) hx hb dX5_column_35 (by decide) ?_
          exact b39  (x) (0) hs H locs hP hD hS ls (lv_sub hl [1, 2, 3, 4] rfl)
    · have hs := sp_t c_6 hs
      refine lv_iconst (v := 1) hx hb dX5_column_12 (by decide) ?_
      refine lv_goto (tgt := 39) hx hb dX5_column_13 (by decide) ?_
      exact b39  (x) (1) hs H locs hP hD hS ls (lv_sub hl [1, 2, 3, 4] rfl)
  rw [hHe, hle] at hgo
  exact hgo
def s_X5_cell_b48 (a1 : Int32) (a2 : Int32) (a3 : Int32) (xx : XS) (q0 : Int32) : Option (Int32 × XS) := (s_X5_goesWell xx q0).bind fun v_1 => (if v_1.1 = 0 then some (0, v_1.2) else (s_X5_at a1 a2).bind fun v_3 => chk 192 v_3 ((s_X5_at a1 a2).bind fun v_5 => chk 192 v_5 (some (v_1.2.1 4 v_3.toNatClampNeg, si (v_1.2) 4 v_5.toNatClampNeg a3))))
def s_X5_cell (x : XS) (a1 : Int32) (a2 : Int32) (a3 : Int32) : Option (Int32 × XS) := (s_X5_isCell a1 a2).bind fun v_7 => (if v_7 = 0 then s_X5_cell_b48 a1 a2 a3  (x) (1) else (s_X5_in a3 0 3).bind fun v_9 => (if v_9 = 0 then s_X5_cell_b48 a1 a2 a3  (x) (2) else (s_X5_at a1 a2).bind fun v_11 => chk 192 v_11 ((if (x.1 5 v_11.toNatClampNeg) = 0 then s_X5_cell_b48 a1 a2 a3  (x) (0) else s_X5_cell_b48 a1 a2 a3  (x) (3)))))
set_option maxHeartbeats 4000000 in
set_option maxRecDepth 100000 in
theorem c_X5_cell (l : Launch) (D : va_G) (ca : Nat → ClassId) (h : Nat → Nat) (x : XS) (a1 : Int32) (a2 : Int32) (a3 : Int32) {r : (Int32 × XS)} (hs : s_X5_cell x a1 a2 a3 = some r) (sz : Nat) : Met l yX5_cell wsX5_cell ({ frames := 3, cells := 0, slots := 0, locals := 63 }) (wP [.ref (h 0), .int (a1), .int (a2), .int (a3)] D ca (wM h ca x) sz) (wQi r.1 D (wM h ca x) (wM h ca r.2) sz) 0 0 (va_A (wM h ca x) sz) := by
  refine Met.ofW (cc := cX5_cell) (maxL := 6) (ret := (some .int)) (by decide) rfl ?_
  intro p e s m args below meth c s₁ B hml hv
  obtain ⟨rfl, hsz, hP, hC, hD0⟩ := hv
  have hx := B.exec
  have hb := B.bytes
  have hr := B.returns
  have hts := atoms_spec (ws := wsX5_cell) B.pre
  have hown : s.vm.findClass RX5 = some m.cls := findClass_of_methodNamed B.named
  have hlocks := B.notSynchronized
  have hK := hC.1
  subst hsz
  have hD := hD0.self (sz := s.heap.size)
  generalize hAe : va_A (wM h ca x) s.heap.size = A at hD ⊢
  have hA : ∀ q : Nat, s.heap.size ≤ q → A q := fun q h => by rw [← hAe]; exact Or.inr h
  have hS : va_S A s.heap s.heap [] := va_S.rf
  skip
  have iX5 : ∀ w ∈ u_ws RX5 TX5 30, w ∈ wsX5_cell := by decide +kernel
  have hl := lv_entry ([.ref (h 0), .int (a1), .int (a2), .int (a3)]) (n := 6) (Nat.le_of_ble_eq_true rfl)
  rw [lg_entry_eq]
  generalize (lg_sl ([.ref (h 0), .int (a1), .int (a2), .int (a3)]) ++ List.replicate (6 - (lg_sl ([.ref (h 0), .int (a1), .int (a2), .int (a3)])).length) Slot.unset).toArray = ls at hl ⊢
  have hl : lv_has ls 6 [(0, .ref (h 0)), (1, .int (a1)), (2, .int (a2)), (3, .int (a3))] := hl
  have b48 : ∀ (xx : XS) (q0 : Int32), s_X5_cell_b48 a1 a2 a3 xx q0 = some r → ∀ (H : Heap) (locs : List Loc), va_P D vwCl (wM h ca xx) H → va_D A (wM h ca xx) → va_S A s.heap H locs → ∀ (ls : Array Slot), lv_has ls 6 [(0, .ref (h 0)), (1, .int (a1)), (2, .int (a2)), (3, .int (a3))] → W p l e (headSpec wsX5_cell ({ frames := 3, cells := 0, slots := 0, locals := 63 })).room s m #[.ref (h 0), .int (a1), .int (a2), .int (a3)] below meth c H locs 0 0 (MQ below (wQi r.1 D (wM h ca x) (wM h ca r.2) s.heap.size) #[.ref (h 0), .int (a1), .int (a2), .int (a3)] s 0 0 A) (F0 m 48 ls [.int (q0), .ref (h 0)]) := by
    intro xx q0 hs H locs hP hD hS ls hl
    unfold s_X5_cell_b48 at hs
    obtain ⟨v_1, h_1, hs⟩ := sp_b hs
    refine wr_i (va_runV (As := [.int (q0)]) (rest := []) ⟨hx, hb, hml, hown, hts⟩ (c_X5_goesWell l D ca h xx q0 h_1 H.size) (cwV 1 hts gX5_cell_X5_goesWell rfl rfl rfl (by decide +kernel) ⟨Nat.le_of_ble_eq_true rfl, Nat.le_of_ble_eq_true rfl⟩) (wP_V (q := (RX5, TX5, 30)) hP hC hD 0 rfl rfl) rfl rfl hl.1 rfl (lv_room (Nat.le_of_ble_eq_true rfl)) dX5_cell_48 ⟨Nat.zero_le _, Nat.zero_le _⟩) hD hS hA (fun H locs hP hD hS => ?_)
    refine lv_if_ne (tgt := 56) hx hb dX5_cell_51 (by decide) (fun c_2 => ?_) (fun c_2 => ?_)
    · have hs := sp_f c_2 hs
      refine lv_aload_n hx hb dX5_cell_56 rfl (lv_at hl 0 rfl) ?_
      refine va_get (D := D) (ci := 5) (fs := fsM h (v_1.2)) (v := .ref (h 4)) (C := RX5) (T := TX5) (N := 30) hx hb hts iX5 hown hK hP 0 rfl rfl 4 (by decide) (hts (.fieldLink RX5 19 "FacadeShowModel" "cells" "[I") (by decide +kernel)) (fun _ h9 => h9) rfl dX5_cell_57 ?_
      refine lv_iload_n hx hb dX5_cell_60 rfl (lv_at hl 1 rfl) ?_
      refine lv_iload_n hx hb dX5_cell_61 rfl (lv_at hl 2 rfl) ?_
      obtain ⟨v_3, h_3, hs⟩ := sp_b hs
      refine rd_i (va_runS (As := [.int (a1), .int (a2)]) (rest := [.ref (h 4)]) ⟨hx, hb, hml, hown, hts⟩ (c_X5_at l D ca a1 a2 h_3) (va_cwS 2 hts gX5_cell_X5_at rfl rfl rfl (by decide +kernel) ⟨Nat.le_of_ble_eq_true rfl, Nat.le_of_ble_eq_true rfl⟩) (rP_S va_P_nil hC) rfl rfl hl.1 rfl (lv_room (Nat.le_of_ble_eq_true rfl)) dX5_cell_62 ⟨Nat.zero_le _, Nat.zero_le _⟩) ?_
      obtain ⟨h_4, hs⟩ := sp_c hs
      refine va_iald (D := D) (cA := ca 0) (n := 192) (f := (v_1.2).1 4) hx hb hK hP 4 0 rfl rfl h_4 dX5_cell_65 ?_
      refine lv_istore (lv' := [(5, .int (v_1.2.1 4 v_3.toNatClampNeg)), (0, .ref (h 0)), (1, .int (a1)), (2, .int (a2)), (3, .int (a3))]) hx hb dX5_cell_66 hl (by decide) rfl (fun ls hl => ?_)
      refine lv_aload_n hx hb dX5_cell_68 rfl (lv_at hl 1 rfl) ?_
      refine va_get (D := D) (ci := 5) (fs := fsM h (v_1.2)) (v := .ref (h 4)) (C := RX5) (T := TX5) (N := 30) hx hb hts iX5 hown hK hP 0 rfl rfl 4 (by decide) (hts (.fieldLink RX5 19 "FacadeShowModel" "cells" "[I") (by decide +kernel)) (fun _ h9 => h9) rfl dX5_cell_69 ?_
      refine lv_iload_n hx hb dX5_cell_72 rfl (lv_at hl 2 rfl) ?_
      refine lv_iload_n hx hb dX5_cell_73 rfl (lv_at hl 3 rfl) ?_
      obtain ⟨v_5, h_5, hs⟩ := sp_b hs
      refine rd_i (va_runS (As := [.int (a1), .int (a2)]) (rest := [.ref (h 4)]) ⟨hx, hb, hml, hown, hts⟩ (c_X5_at l D ca a1 a2 h_5) (va_cwS 2 hts gX5_cell_X5_at rfl rfl rfl (by decide +kernel) ⟨Nat.le_of_ble_eq_true rfl, Nat.le_of_ble_eq_true rfl⟩) (rP_S va_P_nil hC) rfl rfl hl.1 rfl (lv_room (Nat.le_of_ble_eq_true rfl)) dX5_cell_74 ⟨Nat.zero_le _, Nat.zero_le _⟩) ?_
      refine lv_iload_n hx hb dX5_cell_77 rfl (lv_at hl 4 rfl) ?_
      obtain ⟨h_6, hs⟩ := sp_c hs
      refine va_iast (D := D) (cA := ca 0) (n := 192) (f := (v_1.2).1 4) hx hb hK hP hD hS 4 0 rfl rfl h_6 dX5_cell_78 (fun H locs hP hD hS => ?_)
      rw [wM_a4] at hP hD
      refine lv_iload hx hb dX5_cell_79 (lv_at hl 0 rfl) ?_
      exact wt_i (f := wM h ca) hx hb hr hAe hs hP hD hS dX5_cell_81 hlocks
    · have hs := sp_t c_2 hs
      refine lv_iconst (v := 0) hx hb dX5_cell_54 (by decide) ?_
      exact wt_i (f := wM h ca) hx hb hr hAe hs hP hD hS dX5_cell_55 hlocks
  unfold s_X5_cell at hs
  obtain ⟨H, hHe⟩ : ∃ H, H = s.heap := ⟨_, rfl⟩
  obtain ⟨locs, hle⟩ : ∃ z : List Loc, z = [] := ⟨_, rfl⟩
  have hP : va_P D vwCl (wM h ca x) H := by rw [hHe]; exact hP
  have hS : va_S A s.heap H locs := by rw [hHe, hle]; exact hS
  show W p l e (headSpec wsX5_cell ({ frames := 3, cells := 0, slots := 0, locals := 63 })).room s m #[.ref (h 0), .int (a1), .int (a2), .int (a3)] below meth c s.heap [] 0 0 _ _
  have hgo : W p l e (headSpec wsX5_cell ({ frames := 3, cells := 0, slots := 0, locals := 63 })).room s m #[.ref (h 0), .int (a1), .int (a2), .int (a3)] below meth c H locs 0 0 (MQ below (wQi r.1 D (wM h ca x) (wM h ca r.2) s.heap.size) #[.ref (h 0), .int (a1), .int (a2), .int (a3)] s 0 0 A) (F0 m 0 ls []) := by
    refine lv_iload_n hx hb dX5_cell_0 rfl (lv_at hl 1 rfl) ?_
    refine lv_iload_n hx hb dX5_cell_1 rfl (lv_at hl 2 rfl) ?_
    obtain ⟨v_7, h_7, hs⟩ := sp_b hs
    refine rd_i (va_runS (As := [.int (a1), .int (a2)]) (rest := []) ⟨hx, hb, hml, hown, hts⟩ (c_X5_isCell l D ca a1 a2 h_7) (va_cwS 2 hts gX5_cell_X5_isCell rfl rfl rfl (by decide +kernel) ⟨Nat.le_of_ble_eq_true rfl, Nat.le_of_ble_eq_true rfl⟩) (rP_S va_P_nil hC) rfl rfl hl.1 rfl (lv_room (Nat.le_of_ble_eq_true rfl)) dX5_cell_2 ⟨Nat.zero_le _, Nat.zero_le _⟩) ?_
    refine lv_istore (lv' := [(4, .int (v_7)), (0, .ref (h 0)), (1, .int (a1)), (2, .int (a2)), (3, .int (a3))]) hx hb dX5_cell_5 hl (by decide) rfl (fun ls hl => ?_)
    refine lv_aload_n hx hb dX5_cell_7 rfl (lv_at hl 1 rfl) ?_
    refine lv_iload hx hb dX5_cell_8 (lv_at hl 0 rfl) ?_
    refine lv_if_ne (tgt := 17) hx hb dX5_cell_10 (by decide) (fun c_8 => ?_) (fun c_8 => ?_)
    · have hs := sp_f c_8 hs
      refine lv_iload_n hx hb dX5_cell_17 rfl (lv_at hl 4 rfl) ?_
      refine lv_iconst (v := 0) hx hb dX5_cell_18 (by decide) ?_
      refine lv_iconst (v := 3) hx hb dX5_cell_19 (by decide) ?_
      obtain ⟨v_9, h_9, hs⟩ := sp_b hs
      refine rd_i (va_runS (As := [.int (a3), .int (0), .int (3)]) (rest := [.ref (h 0)]) ⟨hx, hb, hml, hown, hts⟩ (c_X5_in l D ca a3 0 3 h_9) (va_cwS 3 hts gX5_cell_X5_in rfl rfl rfl (by decide +kernel) ⟨Nat.le_of_ble_eq_true rfl, Nat.le_of_ble_eq_true rfl⟩) (rP_S va_P_nil hC) rfl rfl hl.1 rfl (lv_room (Nat.le_of_ble_eq_true rfl)) dX5_cell_20 ⟨Nat.zero_le _, Nat.zero_le _⟩) ?_
      refine lv_if_ne (tgt := 30) hx hb dX5_cell_23 (by decide) (fun c_10 => ?_) (fun c_10 => ?_)
      · have hs := sp_f c_10 hs
        refine lv_aload_n hx hb dX5_cell_30 rfl (lv_at hl 1 rfl) ?_
        refine va_get (D := D) (ci := 5) (fs := fsM h (x)) (v := .ref (h 5)) (C := RX5) (T := TX5) (N := 30) hx hb hts iX5 hown hK hP 0 rfl rfl 5 (by decide) (hts (.fieldLink RX5 22 "FacadeShowModel" "hasMast" "[Z") (by decide +kernel)) (fun _ h9 => h9) rfl dX5_cell_31 ?_
        refine lv_iload_n hx hb dX5_cell_34 rfl (lv_at hl 2 rfl) ?_
        refine lv_iload_n hx hb dX5_cell_35 rfl (lv_at hl 3 rfl) ?_
        obtain ⟨v_11, h_11, hs⟩ := sp_b hs
        refine rd_i (va_runS (As := [.int (a1), .int (a2)]) (rest := [.ref (h 5), .ref (h 0)]) ⟨hx, hb, hml, hown, hts⟩ (c_X5_at l D ca a1 a2 h_11) (va_cwS 2 hts gX5_cell_X5_at rfl rfl rfl (by decide +kernel) ⟨Nat.le_of_ble_eq_true rfl, Nat.le_of_ble_eq_true rfl⟩) (rP_S va_P_nil hC) rfl rfl hl.1 rfl (lv_room (Nat.le_of_ble_eq_true rfl)) dX5_cell_36 ⟨Nat.zero_le _, Nat.zero_le _⟩) ?_
        obtain ⟨h_12, hs⟩ := sp_c hs
        refine va_zald (D := D) (cA := ca 1) (n := 192) (f := (x).1 5) hx hb hK hP 5 1 rfl rfl h_12 dX5_cell_39 ?_
        refine lv_if_eq (tgt := 47) hx hb dX5_cell_40 (by decide) (fun c_13 => ?_) (fun c_13 => ?_)
        · have hs := sp_t c_13 hs
          refine lv_iconst (v := 0) hx hb dX5_cell_47 (by decide) ?_
          exact b48  (x) (0) hs H locs hP hD hS ls (lv_sub hl [1, 2, 3, 4] rfl)
        · have hs := sp_f c_13 hs
          refine lv_iconst (v := 3) hx hb dX5_cell_43 (by decide) ?_
          refine lv_goto (tgt := 48) hx hb dX5_cell_44 (by decide) ?_
          exact b48  (x) (3) hs H locs hP hD hS ls (lv_sub hl [1, 2, 3, 4] rfl)
      · have hs := sp_t c_10 hs
        refine lv_iconst (v := 2) hx hb dX5_cell_26 (by decide) ?_
        refine lv_goto (tgt := 48) hx hb dX5_cell_27 (by decide) ?_
        exact b48  (x) (2) hs H locs hP hD hS ls (lv_sub hl [1, 2, 3, 4] rfl)
    · have hs := sp_t c_8 hs
      refine lv_iconst (v := 1) hx hb dX5_cell_13 (by decide) ?_
      refine lv_goto (tgt := 48) hx hb dX5_cell_14 (by decide) ?_
      exact b48  (x) (1) hs H locs hP hD hS ls (lv_sub hl [1, 2, 3, 4] rfl)
  rw [hHe, hle] at hgo
  exact hgo
def s_X5_need_b27 (a1 : Int32) (a2 : Int32) (xx : XS) (q0 : Int32) : Option XS := (s_X5_goesWell xx q0).bind fun v_1 => (if v_1.1 = 0 then some (v_1.2) else some (si (si (v_1.2) 0 6 a1) 0 7 a2))
def s_X5_need (x : XS) (a1 : Int32) (a2 : Int32) : Option XS := (s_X5_in a1 0 65535).bind fun v_3 => (if v_3 = 0 then s_X5_need_b27 a1 a2  (x) (1) else (s_X5_in a2 1 9999).bind fun v_5 => (if v_5 = 0 then s_X5_need_b27 a1 a2  (x) (1) else s_X5_need_b27 a1 a2  (x) (0)))
set_option maxHeartbeats 4000000 in
set_option maxRecDepth 100000 in
theorem c_X5_need (l : Launch) (D : va_G) (ca : Nat → ClassId) (h : Nat → Nat) (x : XS) (a1 : Int32) (a2 : Int32) {r : XS} (hs : s_X5_need x a1 a2 = some r) (sz : Nat) : Met l yX5_need wsX5_need ({ frames := 1, cells := 0, slots := 0, locals := 22 }) (wP [.ref (h 0), .int (a1), .int (a2)] D ca (wM h ca x) sz) (wQv D (wM h ca x) (wM h ca r) sz) 0 0 (va_A (wM h ca x) sz) := by
  refine Met.ofW (cc := cX5_need) (maxL := 3) (ret := none) (by decide) rfl ?_
  intro p e s m args below meth c s₁ B hml hv
  obtain ⟨rfl, hsz, hP, hC, hD0⟩ := hv
  have hx := B.exec
  have hb := B.bytes
  have hr := B.returns
  have hts := atoms_spec (ws := wsX5_need) B.pre
  have hown : s.vm.findClass RX5 = some m.cls := findClass_of_methodNamed B.named
  have hlocks := B.notSynchronized
  have hK := hC.1
  subst hsz
  have hD := hD0.self (sz := s.heap.size)
  generalize hAe : va_A (wM h ca x) s.heap.size = A at hD ⊢
  have hA : ∀ q : Nat, s.heap.size ≤ q → A q := fun q h => by rw [← hAe]; exact Or.inr h
  have hS : va_S A s.heap s.heap [] := va_S.rf
  skip
  have iX5 : ∀ w ∈ u_ws RX5 TX5 30, w ∈ wsX5_need := by decide +kernel
  have hl := lv_entry ([.ref (h 0), .int (a1), .int (a2)]) (n := 3) (Nat.le_of_ble_eq_true rfl)
  rw [lg_entry_eq]
  generalize (lg_sl ([.ref (h 0), .int (a1), .int (a2)]) ++ List.replicate (3 - (lg_sl ([.ref (h 0), .int (a1), .int (a2)])).length) Slot.unset).toArray = ls at hl ⊢
  have hl : lv_has ls 3 [(0, .ref (h 0)), (1, .int (a1)), (2, .int (a2))] := hl
  have b27 : ∀ (xx : XS) (q0 : Int32), s_X5_need_b27 a1 a2 xx q0 = some r → ∀ (H : Heap) (locs : List Loc), va_P D vwCl (wM h ca xx) H → va_D A (wM h ca xx) → va_S A s.heap H locs → ∀ (ls : Array Slot), lv_has ls 3 [(0, .ref (h 0)), (1, .int (a1)), (2, .int (a2))] → W p l e (headSpec wsX5_need ({ frames := 1, cells := 0, slots := 0, locals := 22 })).room s m #[.ref (h 0), .int (a1), .int (a2)] below meth c H locs 0 0 (MQ below (wQv D (wM h ca x) (wM h ca r) s.heap.size) #[.ref (h 0), .int (a1), .int (a2)] s 0 0 A) (F0 m 27 ls [.int (q0), .ref (h 0)]) := by
    intro xx q0 hs H locs hP hD hS ls hl
    unfold s_X5_need_b27 at hs
    obtain ⟨v_1, h_1, hs⟩ := sp_b hs
    refine wr_i (va_runV (As := [.int (q0)]) (rest := []) ⟨hx, hb, hml, hown, hts⟩ (c_X5_goesWell l D ca h xx q0 h_1 H.size) (cwV 1 hts gX5_need_X5_goesWell rfl rfl rfl (by decide +kernel) ⟨Nat.le_of_ble_eq_true rfl, Nat.le_of_ble_eq_true rfl⟩) (wP_V (q := (RX5, TX5, 30)) hP hC hD 0 rfl rfl) rfl rfl hl.1 rfl (lv_room (Nat.le_of_ble_eq_true rfl)) dX5_need_27 ⟨Nat.zero_le _, Nat.zero_le _⟩) hD hS hA (fun H locs hP hD hS => ?_)
    refine lv_if_eq (tgt := 43) hx hb dX5_need_30 (by decide) (fun c_2 => ?_) (fun c_2 => ?_)
    · have hs := sp_t c_2 hs
      exact wt_v (f := wM h ca) hx hb hr hAe hs hP hD hS dX5_need_43 hlocks
    · have hs := sp_f c_2 hs
      refine lv_aload_n hx hb dX5_need_33 rfl (lv_at hl 0 rfl) ?_
      refine lv_iload_n hx hb dX5_need_34 rfl (lv_at hl 1 rfl) ?_
      refine va_put (D := D) (ci := 5) (fs := fsM h (v_1.2)) (v := .int (a1)) (ty := .int) (C := RX5) (T := TX5) (N := 30) hx hb hts iX5 tyX5 tyX5_ok nmX5 hown hK hP hD hS 0 rfl rfl 6 (by decide) (hts (.fieldLink RX5 95 "FacadeShowModel" "needed" "I") (by decide +kernel)) (fun _ h9 => h9) rfl (by decide +kernel) rfl rfl (Nat.le_of_ble_eq_true rfl) dX5_need_35 (fun H locs hP hD hS => ?_)
      rw [wM_f6] at hP hD
      refine lv_aload_n hx hb dX5_need_38 rfl (lv_at hl 0 rfl) ?_
      refine lv_iload_n hx hb dX5_need_39 rfl (lv_at hl 2 rfl) ?_
      refine va_put (D := D) (ci := 5) (fs := fsM h (si (v_1.2) 0 6 a1)) (v := .int (a2)) (ty := .int) (C := RX5) (T := TX5) (N := 30) hx hb hts iX5 tyX5 tyX5_ok nmX5 hown hK hP hD hS 0 rfl rfl 7 (by decide) (hts (.fieldLink RX5 26 "FacadeShowModel" "level" "I") (by decide +kernel)) (fun _ h9 => h9) rfl (by decide +kernel) rfl rfl (Nat.le_of_ble_eq_true rfl) dX5_need_40 (fun H locs hP hD hS => ?_)
      rw [wM_f7] at hP hD
      exact wt_v (f := wM h ca) hx hb hr hAe hs hP hD hS dX5_need_43 hlocks
  unfold s_X5_need at hs
  obtain ⟨H, hHe⟩ : ∃ H, H = s.heap := ⟨_, rfl⟩
  obtain ⟨locs, hle⟩ : ∃ z : List Loc, z = [] := ⟨_, rfl⟩
  have hP : va_P D vwCl (wM h ca x) H := by rw [hHe]; exact hP
  have hS : va_S A s.heap H locs := by rw [hHe, hle]; exact hS
  show W p l e (headSpec wsX5_need ({ frames := 1, cells := 0, slots := 0, locals := 22 })).room s m #[.ref (h 0), .int (a1), .int (a2)] below meth c s.heap [] 0 0 _ _
  have hgo : W p l e (headSpec wsX5_need ({ frames := 1, cells := 0, slots := 0, locals := 22 })).room s m #[.ref (h 0), .int (a1), .int (a2)] below meth c H locs 0 0 (MQ below (wQv D (wM h ca x) (wM h ca r) s.heap.size) #[.ref (h 0), .int (a1), .int (a2)] s 0 0 A) (F0 m 0 ls []) := by
    refine lv_aload_n hx hb dX5_need_0 rfl (lv_at hl 0 rfl) ?_
    refine lv_iload_n hx hb dX5_need_1 rfl (lv_at hl 1 rfl) ?_
    refine lv_iconst (v := 0) hx hb dX5_need_2 (by decide) ?_
    refine lv_ldc (v := 65535) hx hb hown (hts (.constant RX5 94 (65535)) (by decide +kernel)) dX5_need_3 ?_
    obtain ⟨v_3, h_3, hs⟩ := sp_b hs
    refine rd_i (va_runS (As := [.int (a1), .int (0), .int (65535)]) (rest := [.ref (h 0)]) ⟨hx, hb, hml, hown, hts⟩ (c_X5_in l D ca a1 0 65535 h_3) (va_cwS 3 hts gX5_need_X5_in rfl rfl rfl (by decide +kernel) ⟨Nat.le_of_ble_eq_true rfl, Nat.le_of_ble_eq_true rfl⟩) (rP_S va_P_nil hC) rfl rfl hl.1 rfl (lv_room (Nat.le_of_ble_eq_true rfl)) dX5_need_5 ⟨Nat.zero_le _, Nat.zero_le _⟩) ?_
    refine lv_if_eq (tgt := 26) hx hb dX5_need_8 (by decide) (fun c_4 => ?_) (fun c_4 => ?_)
    · have hs := sp_t c_4 hs
      refine lv_iconst (v := 1) hx hb dX5_need_26 (by decide) ?_
      exact b27  (x) (1) hs H locs hP hD hS ls (lv_sub hl [0, 1, 2] rfl)
    · have hs := sp_f c_4 hs
      refine lv_iload_n hx hb dX5_need_11 rfl (lv_at hl 2 rfl) ?_
      refine lv_iconst (v := 1) hx hb dX5_need_12 (by decide) ?_
      refine lv_sipush (v := 9999) hx hb dX5_need_13 (by decide) ?_
      obtain ⟨v_5, h_5, hs⟩ := sp_b hs
      refine rd_i (va_runS (As := [.int (a2), .int (1), .int (9999)]) (rest := [.ref (h 0)]) ⟨hx, hb, hml, hown, hts⟩ (c_X5_in l D ca a2 1 9999 h_5) (va_cwS 3 hts gX5_need_X5_in rfl rfl rfl (by decide +kernel) ⟨Nat.le_of_ble_eq_true rfl, Nat.le_of_ble_eq_true rfl⟩) (rP_S va_P_nil hC) rfl rfl hl.1 rfl (lv_room (Nat.le_of_ble_eq_true rfl)) dX5_need_16 ⟨Nat.zero_le _, Nat.zero_le _⟩) ?_
      refine lv_if_eq (tgt := 26) hx hb dX5_need_19 (by decide) (fun c_6 => ?_) (fun c_6 => ?_)
      · have hs := sp_t c_6 hs
        refine lv_iconst (v := 1) hx hb dX5_need_26 (by decide) ?_
        exact b27  (x) (1) hs H locs hP hD hS ls (lv_sub hl [0, 1, 2] rfl)
      · have hs := sp_f c_6 hs
        refine lv_iconst (v := 0) hx hb dX5_need_22 (by decide) ?_
        refine lv_goto (tgt := 27) hx hb dX5_need_23 (by decide) ?_
        exact b27  (x) (0) hs H locs hP hD hS ls (lv_sub hl [0, 1, 2] rfl)
  rw [hHe, hle] at hgo
  exact hgo
def s_X5_projector_b122 (a1 : Int32) (a2 : Int32) (a3 : Int32) (a4 : Int32) (a5 : Int32) (xx : XS) (q0 : Int32) : Option (Int32 × XS) := (s_X5_goesWell xx q0).bind fun v_1 => (if v_1.1 = 0 then some (0, v_1.2) else (s_X5_at a1 a2).bind fun v_3 => chk 192 v_3 (zb 1 (chk 10 ((si (v_1.2) 5 v_3.toNatClampNeg 1).1 0 8) (chk 10 ((si (si (v_1.2) 5 v_3.toNatClampNeg 1) 6 ((si (v_1.2) 5 v_3.toNatClampNeg 1).1 0 8).toNatClampNeg a1).1 0 8) (chk 10 ((si (si (si (v_1.2) 5 v_3.toNatClampNeg 1) 6 ((si (v_1.2) 5 v_3.toNatClampNeg 1).1 0 8).toNatClampNeg a1) 7 ((si (si (v_1.2) 5 v_3.toNatClampNeg 1) 6 ((si (v_1.2) 5 v_3.toNatClampNeg 1).1 0 8).toNatClampNeg a1).1 0 8).toNatClampNeg a2).1 0 8) (chk 10 ((si (si (si (si (v_1.2) 5 v_3.toNatClampNeg 1) 6 ((si (v_1.2) 5 v_3.toNatClampNeg 1).1 0 8).toNatClampNeg a1) 7 ((si (si (v_1.2) 5 v_3.toNatClampNeg 1) 6 ((si (v_1.2) 5 v_3.toNatClampNeg 1).1 0 8).toNatClampNeg a1).1 0 8).toNatClampNeg a2) 8 ((si (si (si (v_1.2) 5 v_3.toNatClampNeg 1) 6 ((si (v_1.2) 5 v_3.toNatClampNeg 1).1 0 8).toNatClampNeg a1) 7 ((si (si (v_1.2) 5 v_3.toNatClampNeg 1) 6 ((si (v_1.2) 5 v_3.toNatClampNeg 1).1 0 8).toNatClampNeg a1).1 0 8).toNatClampNeg a2).1 0 8).toNatClampNeg a3).1 0 8) (chk 10 ((si (si (si (si (si (v_1.2) 5 v_3.toNatClampNeg 1) 6 ((si (v_1.2) 5 v_3.toNatClampNeg 1).1 0 8).toNatClampNeg a1) 7 ((si (si (v_1.2) 5 v_3.toNatClampNeg 1) 6 ((si (v_1.2) 5 v_3.toNatClampNeg 1).1 0 8).toNatClampNeg a1).1 0 8).toNatClampNeg a2) 8 ((si (si (si (v_1.2) 5 v_3.toNatClampNeg 1) 6 ((si (v_1.2) 5 v_3.toNatClampNeg 1).1 0 8).toNatClampNeg a1) 7 ((si (si (v_1.2) 5 v_3.toNatClampNeg 1) 6 ((si (v_1.2) 5 v_3.toNatClampNeg 1).1 0 8).toNatClampNeg a1).1 0 8).toNatClampNeg a2).1 0 8).toNatClampNeg a3) 9 ((si (si (si (si (v_1.2) 5 v_3.toNatClampNeg 1) 6 ((si (v_1.2) 5 v_3.toNatClampNeg 1).1 0 8).toNatClampNeg a1) 7 ((si (si (v_1.2) 5 v_3.toNatClampNeg 1) 6 ((si (v_1.2) 5 v_3.toNatClampNeg 1).1 0 8).toNatClampNeg a1).1 0 8).toNatClampNeg a2) 8 ((si (si (si (v_1.2) 5 v_3.toNatClampNeg 1) 6 ((si (v_1.2) 5 v_3.toNatClampNeg 1).1 0 8).toNatClampNeg a1) 7 ((si (si (v_1.2) 5 v_3.toNatClampNeg 1) 6 ((si (v_1.2) 5 v_3.toNatClampNeg 1).1 0 8).toNatClampNeg a1).1 0 8).toNatClampNeg a2).1 0 8).toNatClampNeg a3).1 0 8).toNatClampNeg a4).1 0 8) (some (((si (si (si (si (si (si (si (v_1.2) 5 v_3.toNatClampNeg 1) 6 ((si (v_1.2) 5 v_3.toNatClampNeg 1).1 0 8).toNatClampNeg a1) 7 ((si (si (v_1.2) 5 v_3.toNatClampNeg 1) 6 ((si (v_1.2) 5 v_3.toNatClampNeg 1).1 0 8).toNatClampNeg a1).1 0 8).toNatClampNeg a2) 8 ((si (si (si (v_1.2) 5 v_3.toNatClampNeg 1) 6 ((si (v_1.2) 5 v_3.toNatClampNeg 1).1 0 8).toNatClampNeg a1) 7 ((si (si (v_1.2) 5 v_3.toNatClampNeg 1) 6 ((si (v_1.2) 5 v_3.toNatClampNeg 1).1 0 8).toNatClampNeg a1).1 0 8).toNatClampNeg a2).1 0 8).toNatClampNeg a3) 9 ((si (si (si (si (v_1.2) 5 v_3.toNatClampNeg 1) 6 ((si (v_1.2) 5 v_3.toNatClampNeg 1).1 0 8).toNatClampNeg a1) 7 ((si (si (v_1.2) 5 v_3.toNatClampNeg 1) 6 ((si (v_1.2) 5 v_3.toNatClampNeg 1).1 0 8).toNatClampNeg a1).1 0 8).toNatClampNeg a2) 8 ((si (si (si (v_1.2) 5 v_3.toNatClampNeg 1) 6 ((si (v_1.2) 5 v_3.toNatClampNeg 1).1 0 8).toNatClampNeg a1) 7 ((si (si (v_1.2) 5 v_3.toNatClampNeg 1) 6 ((si (v_1.2) 5 v_3.toNatClampNeg 1).1 0 8).toNatClampNeg a1).1 0 8).toNatClampNeg a2).1 0 8).toNatClampNeg a3).1 0 8).toNatClampNeg a4) 10 ((si (si (si (si (si (v_1.2) 5 v_3.toNatClampNeg 1) 6 ((si (v_1.2) 5 v_3.toNatClampNeg 1).1 0 8).toNatClampNeg a1) 7 ((si (si (v_1.2) 5 v_3.toNatClampNeg 1) 6 ((si (v_1.2) 5 v_3.toNatClampNeg 1).1 0 8).toNatClampNeg a1).1 0 8).toNatClampNeg a2) 8 ((si (si (si (v_1.2) 5 v_3.toNatClampNeg 1) 6 ((si (v_1.2) 5 v_3.toNatClampNeg 1).1 0 8).toNatClampNeg a1) 7 ((si (si (v_1.2) 5 v_3.toNatClampNeg 1) 6 ((si (v_1.2) 5 v_3.toNatClampNeg 1).1 0 8).toNatClampNeg a1).1 0 8).toNatClampNeg a2).1 0 8).toNatClampNeg a3) 9 ((si (si (si (si (v_1.2) 5 v_3.toNatClampNeg 1) 6 ((si (v_1.2) 5 v_3.toNatClampNeg 1).1 0 8).toNatClampNeg a1) 7 ((si (si (v_1.2) 5 v_3.toNatClampNeg 1) 6 ((si (v_1.2) 5 v_3.toNatClampNeg 1).1 0 8).toNatClampNeg a1).1 0 8).toNatClampNeg a2) 8 ((si (si (si (v_1.2) 5 v_3.toNatClampNeg 1) 6 ((si (v_1.2) 5 v_3.toNatClampNeg 1).1 0 8).toNatClampNeg a1) 7 ((si (si (v_1.2) 5 v_3.toNatClampNeg 1) 6 ((si (v_1.2) 5 v_3.toNatClampNeg 1).1 0 8).toNatClampNeg a1).1 0 8).toNatClampNeg a2).1 0 8).toNatClampNeg a3).1 0 8).toNatClampNeg a4).1 0 8).toNatClampNeg a5) 0 8 (((si (si (si (si (si (si (v_1.2) 5 v_3.toNatClampNeg 1) 6 ((si (v_1.2) 5 v_3.toNatClampNeg 1).1 0 8).toNatClampNeg a1) 7 ((si (si (v_1.2) 5 v_3.toNatClampNeg 1) 6 ((si (v_1.2) 5 v_3.toNatClampNeg 1).1 0 8).toNatClampNeg a1).1 0 8).toNatClampNeg a2) 8 ((si (si (si (v_1.2) 5 v_3.toNatClampNeg 1) 6 ((si (v_1.2) 5 v_3.toNatClampNeg 1).1 0 8).toNatClampNeg a1) 7 ((si (si (v_1.2) 5 v_3.toNatClampNeg 1) 6 ((si (v_1.2) 5 v_3.toNatClampNeg 1).1 0 8).toNatClampNeg a1).1 0 8).toNatClampNeg a2).1 0 8).toNatClampNeg a3) 9 ((si (si (si (si (v_1.2) 5 v_3.toNatClampNeg 1) 6 ((si (v_1.2) 5 v_3.toNatClampNeg 1).1 0 8).toNatClampNeg a1) 7 ((si (si (v_1.2) 5 v_3.toNatClampNeg 1) 6 ((si (v_1.2) 5 v_3.toNatClampNeg 1).1 0 8).toNatClampNeg a1).1 0 8).toNatClampNeg a2) 8 ((si (si (si (v_1.2) 5 v_3.toNatClampNeg 1) 6 ((si (v_1.2) 5 v_3.toNatClampNeg 1).1 0 8).toNatClampNeg a1) 7 ((si (si (v_1.2) 5 v_3.toNatClampNeg 1) 6 ((si (v_1.2) 5 v_3.toNatClampNeg 1).1 0 8).toNatClampNeg a1).1 0 8).toNatClampNeg a2).1 0 8).toNatClampNeg a3).1 0 8).toNatClampNeg a4) 10 ((si (si (si (si (si (v_1.2) 5 v_3.toNatClampNeg 1) 6 ((si (v_1.2) 5 v_3.toNatClampNeg 1).1 0 8).toNatClampNeg a1) 7 ((si (si (v_1.2) 5 v_3.toNatClampNeg 1) 6 ((si (v_1.2) 5 v_3.toNatClampNeg 1).1 0 8).toNatClampNeg a1).1 0 8).toNatClampNeg a2) 8 ((si (si (si (v_1.2) 5 v_3.toNatClampNeg 1) 6 ((si (v_1.2) 5 v_3.toNatClampNeg 1).1 0 8).toNatClampNeg a1) 7 ((si (si (v_1.2) 5 v_3.toNatClampNeg 1) 6 ((si (v_1.2) 5 v_3.toNatClampNeg 1).1 0 8).toNatClampNeg a1).1 0 8).toNatClampNeg a2).1 0 8).toNatClampNeg a3) 9 ((si (si (si (si (v_1.2) 5 v_3.toNatClampNeg 1) 6 ((si (v_1.2) 5 v_3.toNatClampNeg 1).1 0 8).toNatClampNeg a1) 7 ((si (si (v_1.2) 5 v_3.toNatClampNeg 1) 6 ((si (v_1.2) 5 v_3.toNatClampNeg 1).1 0 8).toNatClampNeg a1).1 0 8).toNatClampNeg a2) 8 ((si (si (si (v_1.2) 5 v_3.toNatClampNeg 1) 6 ((si (v_1.2) 5 v_3.toNatClampNeg 1).1 0 8).toNatClampNeg a1) 7 ((si (si (v_1.2) 5 v_3.toNatClampNeg 1) 6 ((si (v_1.2) 5 v_3.toNatClampNeg 1).1 0 8).toNatClampNeg a1).1 0 8).toNatClampNeg a2).1 0 8).toNatClampNeg a3).1 0 8).toNatClampNeg a4).1 0 8).toNatClampNeg a5).1 0 8) + 1)).1 0 8) - 1, si (si (si (si (si (si (si (v_1.2) 5 v_3.toNatClampNeg 1) 6 ((si (v_1.2) 5 v_3.toNatClampNeg 1).1 0 8).toNatClampNeg a1) 7 ((si (si (v_1.2) 5 v_3.toNatClampNeg 1) 6 ((si (v_1.2) 5 v_3.toNatClampNeg 1).1 0 8).toNatClampNeg a1).1 0 8).toNatClampNeg a2) 8 ((si (si (si (v_1.2) 5 v_3.toNatClampNeg 1) 6 ((si (v_1.2) 5 v_3.toNatClampNeg 1).1 0 8).toNatClampNeg a1) 7 ((si (si (v_1.2) 5 v_3.toNatClampNeg 1) 6 ((si (v_1.2) 5 v_3.toNatClampNeg 1).1 0 8).toNatClampNeg a1).1 0 8).toNatClampNeg a2).1 0 8).toNatClampNeg a3) 9 ((si (si (si (si (v_1.2) 5 v_3.toNatClampNeg 1) 6 ((si (v_1.2) 5 v_3.toNatClampNeg 1).1 0 8).toNatClampNeg a1) 7 ((si (si (v_1.2) 5 v_3.toNatClampNeg 1) 6 ((si (v_1.2) 5 v_3.toNatClampNeg 1).1 0 8).toNatClampNeg a1).1 0 8).toNatClampNeg a2) 8 ((si (si (si (v_1.2) 5 v_3.toNatClampNeg 1) 6 ((si (v_1.2) 5 v_3.toNatClampNeg 1).1 0 8).toNatClampNeg a1) 7 ((si (si (v_1.2) 5 v_3.toNatClampNeg 1) 6 ((si (v_1.2) 5 v_3.toNatClampNeg 1).1 0 8).toNatClampNeg a1).1 0 8).toNatClampNeg a2).1 0 8).toNatClampNeg a3).1 0 8).toNatClampNeg a4) 10 ((si (si (si (si (si (v_1.2) 5 v_3.toNatClampNeg 1) 6 ((si (v_1.2) 5 v_3.toNatClampNeg 1).1 0 8).toNatClampNeg a1) 7 ((si (si (v_1.2) 5 v_3.toNatClampNeg 1) 6 ((si (v_1.2) 5 v_3.toNatClampNeg 1).1 0 8).toNatClampNeg a1).1 0 8).toNatClampNeg a2) 8 ((si (si (si (v_1.2) 5 v_3.toNatClampNeg 1) 6 ((si (v_1.2) 5 v_3.toNatClampNeg 1).1 0 8).toNatClampNeg a1) 7 ((si (si (v_1.2) 5 v_3.toNatClampNeg 1) 6 ((si (v_1.2) 5 v_3.toNatClampNeg 1).1 0 8).toNatClampNeg a1).1 0 8).toNatClampNeg a2).1 0 8).toNatClampNeg a3) 9 ((si (si (si (si (v_1.2) 5 v_3.toNatClampNeg 1) 6 ((si (v_1.2) 5 v_3.toNatClampNeg 1).1 0 8).toNatClampNeg a1) 7 ((si (si (v_1.2) 5 v_3.toNatClampNeg 1) 6 ((si (v_1.2) 5 v_3.toNatClampNeg 1).1 0 8).toNatClampNeg a1).1 0 8).toNatClampNeg a2) 8 ((si (si (si (v_1.2) 5 v_3.toNatClampNeg 1) 6 ((si (v_1.2) 5 v_3.toNatClampNeg 1).1 0 8).toNatClampNeg a1) 7 ((si (si (v_1.2) 5 v_3.toNatClampNeg 1) 6 ((si (v_1.2) 5 v_3.toNatClampNeg 1).1 0 8).toNatClampNeg a1).1 0 8).toNatClampNeg a2).1 0 8).toNatClampNeg a3).1 0 8).toNatClampNeg a4).1 0 8).toNatClampNeg a5) 0 8 (((si (si (si (si (si (si (v_1.2) 5 v_3.toNatClampNeg 1) 6 ((si (v_1.2) 5 v_3.toNatClampNeg 1).1 0 8).toNatClampNeg a1) 7 ((si (si (v_1.2) 5 v_3.toNatClampNeg 1) 6 ((si (v_1.2) 5 v_3.toNatClampNeg 1).1 0 8).toNatClampNeg a1).1 0 8).toNatClampNeg a2) 8 ((si (si (si (v_1.2) 5 v_3.toNatClampNeg 1) 6 ((si (v_1.2) 5 v_3.toNatClampNeg 1).1 0 8).toNatClampNeg a1) 7 ((si (si (v_1.2) 5 v_3.toNatClampNeg 1) 6 ((si (v_1.2) 5 v_3.toNatClampNeg 1).1 0 8).toNatClampNeg a1).1 0 8).toNatClampNeg a2).1 0 8).toNatClampNeg a3) 9 ((si (si (si (si (v_1.2) 5 v_3.toNatClampNeg 1) 6 ((si (v_1.2) 5 v_3.toNatClampNeg 1).1 0 8).toNatClampNeg a1) 7 ((si (si (v_1.2) 5 v_3.toNatClampNeg 1) 6 ((si (v_1.2) 5 v_3.toNatClampNeg 1).1 0 8).toNatClampNeg a1).1 0 8).toNatClampNeg a2) 8 ((si (si (si (v_1.2) 5 v_3.toNatClampNeg 1) 6 ((si (v_1.2) 5 v_3.toNatClampNeg 1).1 0 8).toNatClampNeg a1) 7 ((si (si (v_1.2) 5 v_3.toNatClampNeg 1) 6 ((si (v_1.2) 5 v_3.toNatClampNeg 1).1 0 8).toNatClampNeg a1).1 0 8).toNatClampNeg a2).1 0 8).toNatClampNeg a3).1 0 8).toNatClampNeg a4) 10 ((si (si (si (si (si (v_1.2) 5 v_3.toNatClampNeg 1) 6 ((si (v_1.2) 5 v_3.toNatClampNeg 1).1 0 8).toNatClampNeg a1) 7 ((si (si (v_1.2) 5 v_3.toNatClampNeg 1) 6 ((si (v_1.2) 5 v_3.toNatClampNeg 1).1 0 8).toNatClampNeg a1).1 0 8).toNatClampNeg a2) 8 ((si (si (si (v_1.2) 5 v_3.toNatClampNeg 1) 6 ((si (v_1.2) 5 v_3.toNatClampNeg 1).1 0 8).toNatClampNeg a1) 7 ((si (si (v_1.2) 5 v_3.toNatClampNeg 1) 6 ((si (v_1.2) 5 v_3.toNatClampNeg 1).1 0 8).toNatClampNeg a1).1 0 8).toNatClampNeg a2).1 0 8).toNatClampNeg a3) 9 ((si (si (si (si (v_1.2) 5 v_3.toNatClampNeg 1) 6 ((si (v_1.2) 5 v_3.toNatClampNeg 1).1 0 8).toNatClampNeg a1) 7 ((si (si (v_1.2) 5 v_3.toNatClampNeg 1) 6 ((si (v_1.2) 5 v_3.toNatClampNeg 1).1 0 8).toNatClampNeg a1).1 0 8).toNatClampNeg a2) 8 ((si (si (si (v_1.2) 5 v_3.toNatClampNeg 1) 6 ((si (v_1.2) 5 v_3.toNatClampNeg 1).1 0 8).toNatClampNeg a1) 7 ((si (si (v_1.2) 5 v_3.toNatClampNeg 1) 6 ((si (v_1.2) 5 v_3.toNatClampNeg 1).1 0 8).toNatClampNeg a1).1 0 8).toNatClampNeg a2).1 0 8).toNatClampNeg a3).1 0 8).toNatClampNeg a4).1 0 8).toNatClampNeg a5).1 0 8) + 1))))))))))
def s_X5_projector_b91 (a1 : Int32) (a2 : Int32) (a3 : Int32) (a4 : Int32) (a5 : Int32) (xx : XS) (p6 : Int32) (p7 : Int32) (q0 : Int32) : Option (Int32 × XS) := (if p6 = 0 then s_X5_projector_b122 a1 a2 a3 a4 a5  (xx) (1) else (if p7 = 0 then s_X5_projector_b122 a1 a2 a3 a4 a5  (xx) (2) else (if q0 = 0 then s_X5_projector_b122 a1 a2 a3 a4 a5  (xx) (3) else s_X5_projector_b122 a1 a2 a3 a4 a5  (xx) (0))))
def s_X5_projector_b44 (a1 : Int32) (a2 : Int32) (a3 : Int32) (a4 : Int32) (a5 : Int32) (xx : XS) (p6 : Int32) (q0 : Int32) : Option (Int32 × XS) := (if p6 = 0 then s_X5_projector_b91 a1 a2 a3 a4 a5  (xx) (p6) (q0) (0) else (s_X5_at a1 a2).bind fun v_15 => chk 192 v_15 ((if (xx.1 4 v_15.toNatClampNeg) = 0 then (s_X5_at a1 a2).bind fun v_18 => chk 192 v_18 ((if (xx.1 5 v_18.toNatClampNeg) = 0 then (if 10 ≤ (xx.1 0 8) then s_X5_projector_b91 a1 a2 a3 a4 a5  (xx) (p6) (q0) (0) else s_X5_projector_b91 a1 a2 a3 a4 a5  (xx) (p6) (q0) (1)) else s_X5_projector_b91 a1 a2 a3 a4 a5  (xx) (p6) (q0) (0))) else s_X5_projector_b91 a1 a2 a3 a4 a5  (xx) (p6) (q0) (0))))
def s_X5_projector (x : XS) (a1 : Int32) (a2 : Int32) (a3 : Int32) (a4 : Int32) (a5 : Int32) : Option (Int32 × XS) := (s_X5_isCell a1 a2).bind fun v_22 => (s_X5_in a3 1 9999).bind fun v_23 => (if v_23 = 0 then s_X5_projector_b44 a1 a2 a3 a4 a5  (x) (v_22) (0) else (s_X5_in a4 0 2).bind fun v_25 => (if v_25 = 0 then s_X5_projector_b44 a1 a2 a3 a4 a5  (x) (v_22) (0) else (s_X5_in a5 1 11).bind fun v_27 => (if v_27 = 0 then s_X5_projector_b44 a1 a2 a3 a4 a5  (x) (v_22) (0) else s_X5_projector_b44 a1 a2 a3 a4 a5  (x) (v_22) (1))))
set_option maxHeartbeats 4000000 in
set_option maxRecDepth 100000 in
theorem c_X5_projector (l : Launch) (D : va_G) (ca : Nat → ClassId) (h : Nat → Nat) (x : XS) (a1 : Int32) (a2 : Int32) (a3 : Int32) (a4 : Int32) (a5 : Int32) {r : (Int32 × XS)} (hs : s_X5_projector x a1 a2 a3 a4 a5 = some r) (sz : Nat) : Met l yX5_projector wsX5_projector ({ frames := 3, cells := 0, slots := 0, locals := 63 }) (wP [.ref (h 0), .int (a1), .int (a2), .int (a3), .int (a4), .int (a5)] D ca (wM h ca x) sz) (wQi r.1 D (wM h ca x) (wM h ca r.2) sz) 0 0 (va_A (wM h ca x) sz) := by
  refine Met.ofW (cc := cX5_projector) (maxL := 9) (ret := (some .int)) (by decide) rfl ?_
  intro p e s m args below meth c s₁ B hml hv
  obtain ⟨rfl, hsz, hP, hC, hD0⟩ := hv
  have hx := B.exec
  have hb := B.bytes
  have hr := B.returns
  have hts := atoms_spec (ws := wsX5_projector) B.pre
  have hown : s.vm.findClass RX5 = some m.cls := findClass_of_methodNamed B.named
  have hlocks := B.notSynchronized
  have hK := hC.1
  subst hsz
  have hD := hD0.self (sz := s.heap.size)
  generalize hAe : va_A (wM h ca x) s.heap.size = A at hD ⊢
  have hA : ∀ q : Nat, s.heap.size ≤ q → A q := fun q h => by rw [← hAe]; exact Or.inr h
  have hS : va_S A s.heap s.heap [] := va_S.rf
  skip
  have iX5 : ∀ w ∈ u_ws RX5 TX5 30, w ∈ wsX5_projector := by decide +kernel
  have hl := lv_entry ([.ref (h 0), .int (a1), .int (a2), .int (a3), .int (a4), .int (a5)]) (n := 9) (Nat.le_of_ble_eq_true rfl)
  rw [lg_entry_eq]
  generalize (lg_sl ([.ref (h 0), .int (a1), .int (a2), .int (a3), .int (a4), .int (a5)]) ++ List.replicate (9 - (lg_sl ([.ref (h 0), .int (a1), .int (a2), .int (a3), .int (a4), .int (a5)])).length) Slot.unset).toArray = ls at hl ⊢
  have hl : lv_has ls 9 [(0, .ref (h 0)), (1, .int (a1)), (2, .int (a2)), (3, .int (a3)), (4, .int (a4)), (5, .int (a5))] := hl
  have b122 : ∀ (xx : XS) (q0 : Int32), s_X5_projector_b122 a1 a2 a3 a4 a5 xx q0 = some r → ∀ (H : Heap) (locs : List Loc), va_P D vwCl (wM h ca xx) H → va_D A (wM h ca xx) → va_S A s.heap H locs → ∀ (ls : Array Slot), lv_has ls 9 [(0, .ref (h 0)), (1, .int (a1)), (2, .int (a2)), (3, .int (a3)), (4, .int (a4)), (5, .int (a5))] → W p l e (headSpec wsX5_projector ({ frames := 3, cells := 0, slots := 0, locals := 63 })).room s m #[.ref (h 0), .int (a1), .int (a2), .int (a3), .int (a4), .int (a5)] below meth c H locs 0 0 (MQ below (wQi r.1 D (wM h ca x) (wM h ca r.2) s.heap.size) #[.ref (h 0), .int (a1), .int (a2), .int (a3), .int (a4), .int (a5)] s 0 0 A) (F0 m 122 ls [.int (q0), .ref (h 0)]) := by
    intro xx q0 hs H locs hP hD hS ls hl
    unfold s_X5_projector_b122 at hs
    obtain ⟨v_1, h_1, hs⟩ := sp_b hs
    refine wr_i (va_runV (As := [.int (q0)]) (rest := []) ⟨hx, hb, hml, hown, hts⟩ (c_X5_goesWell l D ca h xx q0 h_1 H.size) (cwV 1 hts gX5_projector_X5_goesWell rfl rfl rfl (by decide +kernel) ⟨Nat.le_of_ble_eq_true rfl, Nat.le_of_ble_eq_true rfl⟩) (wP_V (q := (RX5, TX5, 30)) hP hC hD 0 rfl rfl) rfl rfl hl.1 rfl (lv_room (Nat.le_of_ble_eq_true rfl)) dX5_projector_122 ⟨Nat.zero_le _, Nat.zero_le _⟩) hD hS hA (fun H locs hP hD hS => ?_)
    refine lv_if_ne (tgt := 130) hx hb dX5_projector_125 (by decide) (fun c_2 => ?_) (fun c_2 => ?_)
    · have hs := sp_f c_2 hs
      refine lv_aload_n hx hb dX5_projector_130 rfl (lv_at hl 0 rfl) ?_
      refine va_get (D := D) (ci := 5) (fs := fsM h (v_1.2)) (v := .ref (h 5)) (C := RX5) (T := TX5) (N := 30) hx hb hts iX5 hown hK hP 0 rfl rfl 5 (by decide) (hts (.fieldLink RX5 22 "FacadeShowModel" "hasMast" "[Z") (by decide +kernel)) (fun _ h9 => h9) rfl dX5_projector_131 ?_
      refine lv_iload_n hx hb dX5_projector_134 rfl (lv_at hl 1 rfl) ?_
      refine lv_iload_n hx hb dX5_projector_135 rfl (lv_at hl 2 rfl) ?_
      obtain ⟨v_3, h_3, hs⟩ := sp_b hs
      refine rd_i (va_runS (As := [.int (a1), .int (a2)]) (rest := [.ref (h 5)]) ⟨hx, hb, hml, hown, hts⟩ (c_X5_at l D ca a1 a2 h_3) (va_cwS 2 hts gX5_projector_X5_at rfl rfl rfl (by decide +kernel) ⟨Nat.le_of_ble_eq_true rfl, Nat.le_of_ble_eq_true rfl⟩) (rP_S va_P_nil hC) rfl rfl hl.1 rfl (lv_room (Nat.le_of_ble_eq_true rfl)) dX5_projector_136 ⟨Nat.zero_le _, Nat.zero_le _⟩) ?_
      refine lv_iconst (v := 1) hx hb dX5_projector_139 (by decide) ?_
      obtain ⟨h_4, hs⟩ := sp_c hs
      obtain ⟨h_5, hs⟩ := sp_z hs
      refine va_zast (D := D) (cA := ca 1) (n := 192) (f := (v_1.2).1 5) hx hb hK hP hD hS 5 1 rfl rfl h_4 dX5_projector_140 (fun H locs hP hD hS => ?_)
      rw [nar_b h_5] at hP hD
      rw [wM_a5] at hP hD
      refine lv_aload_n hx hb dX5_projector_141 rfl (lv_at hl 0 rfl) ?_
      refine va_get (D := D) (ci := 5) (fs := fsM h (si (v_1.2) 5 v_3.toNatClampNeg 1)) (v := .ref (h 6)) (C := RX5) (T := TX5) (N := 30) hx hb hts iX5 hown hK hP 0 rfl rfl 9 (by decide) (hts (.fieldLink RX5 30 "FacadeShowModel" "column" "[I") (by decide +kernel)) (fun _ h9 => h9) rfl dX5_projector_142 ?_
      refine lv_aload_n hx hb dX5_projector_145 rfl (lv_at hl 0 rfl) ?_
      refine va_get (D := D) (ci := 5) (fs := fsM h (si (v_1.2) 5 v_3.toNatClampNeg 1)) (v := .int ((si (v_1.2) 5 v_3.toNatClampNeg 1).1 0 8)) (C := RX5) (T := TX5) (N := 30) hx hb hts iX5 hown hK hP 0 rfl rfl 8 (by decide) (hts (.fieldLink RX5 80 "FacadeShowModel" "projectors" "I") (by decide +kernel)) (fun _ h9 => h9) rfl dX5_projector_146 ?_
      refine lv_iload_n hx hb dX5_projector_149 rfl (lv_at hl 1 rfl) ?_
      obtain ⟨h_6, hs⟩ := sp_c hs
      refine va_iast (D := D) (cA := ca 0) (n := 10) (f := (si (v_1.2) 5 v_3.toNatClampNeg 1).1 6) hx hb hK hP hD hS 6 0 rfl rfl h_6 dX5_projector_150 (fun H locs hP hD hS => ?_)
      rw [wM_a6] at hP hD
      refine lv_aload_n hx hb dX5_projector_151 rfl (lv_at hl 0 rfl) ?_
      refine va_get (D := D) (ci := 5) (fs := fsM h (si (si (v_1.2) 5 v_3.toNatClampNeg 1) 6 ((si (v_1.2) 5 v_3.toNatClampNeg 1).1 0 8).toNatClampNeg a1)) (v := .ref (h 7)) (C := RX5) (T := TX5) (N := 30) hx hb hts iX5 hown hK hP 0 rfl rfl 10 (by decide) (hts (.fieldLink RX5 33 "FacadeShowModel" "row" "[I") (by decide +kernel)) (fun _ h9 => h9) rfl dX5_projector_152 ?_
      refine lv_aload_n hx hb dX5_projector_155 rfl (lv_at hl 0 rfl) ?_
      refine va_get (D := D) (ci := 5) (fs := fsM h (si (si (v_1.2) 5 v_3.toNatClampNeg 1) 6 ((si (v_1.2) 5 v_3.toNatClampNeg 1).1 0 8).toNatClampNeg a1)) (v := .int ((si (si (v_1.2) 5 v_3.toNatClampNeg 1) 6 ((si (v_1.2) 5 v_3.toNatClampNeg 1).1 0 8).toNatClampNeg a1).1 0 8)) (C := RX5) (T := TX5) (N := 30) hx hb hts iX5 hown hK hP 0 rfl rfl 8 (by decide) (hts (.fieldLink RX5 80 "FacadeShowModel" "projectors" "I") (by decide +kernel)) (fun _ h9 => h9) rfl dX5_projector_156 ?_
      refine lv_iload_n hx hb dX5_projector_159 rfl (lv_at hl 2 rfl) ?_
      obtain ⟨h_7, hs⟩ := sp_c hs
      refine va_iast (D := D) (cA := ca 0) (n := 10) (f := (si (si (v_1.2) 5 v_3.toNatClampNeg 1) 6 ((si (v_1.2) 5 v_3.toNatClampNeg 1).1 0 8).toNatClampNeg a1).1 7) hx hb hK hP hD hS 7 0 rfl rfl h_7 dX5_projector_160 (fun H locs hP hD hS => ?_)
      rw [wM_a7] at hP hD
      refine lv_aload_n hx hb dX5_projector_161 rfl (lv_at hl 0 rfl) ?_
      refine va_get (D := D) (ci := 5) (fs := fsM h (si (si (si (v_1.2) 5 v_3.toNatClampNeg 1) 6 ((si (v_1.2) 5 v_3.toNatClampNeg 1).1 0 8).toNatClampNeg a1) 7 ((si (si (v_1.2) 5 v_3.toNatClampNeg 1) 6 ((si (v_1.2) 5 v_3.toNatClampNeg 1).1 0 8).toNatClampNeg a1).1 0 8).toNatClampNeg a2)) (v := .ref (h 8)) (C := RX5) (T := TX5) (N := 30) hx hb hts iX5 hown hK hP 0 rfl rfl 11 (by decide) (hts (.fieldLink RX5 36 "FacadeShowModel" "power" "[I") (by decide +kernel)) (fun _ h9 => h9) rfl dX5_projector_162 ?_
      refine lv_aload_n hx hb dX5_projector_165 rfl (lv_at hl 0 rfl) ?_
      refine va_get (D := D) (ci := 5) (fs := fsM h (si (si (si (v_1.2) 5 v_3.toNatClampNeg 1) 6 ((si (v_1.2) 5 v_3.toNatClampNeg 1).1 0 8).toNatClampNeg a1) 7 ((si (si (v_1.2) 5 v_3.toNatClampNeg 1) 6 ((si (v_1.2) 5 v_3.toNatClampNeg 1).1 0 8).toNatClampNeg a1).1 0 8).toNatClampNeg a2)) (v := .int ((si (si (si (v_1.2) 5 v_3.toNatClampNeg 1) 6 ((si (v_1.2) 5 v_3.toNatClampNeg 1).1 0 8).toNatClampNeg a1) 7 ((si (si (v_1.2) 5 v_3.toNatClampNeg 1) 6 ((si (v_1.2) 5 v_3.toNatClampNeg 1).1 0 8).toNatClampNeg a1).1 0 8).toNatClampNeg a2).1 0 8)) (C := RX5) (T := TX5) (N := 30) hx hb hts iX5 hown hK hP 0 rfl rfl 8 (by decide) (hts (.fieldLink RX5 80 "FacadeShowModel" "projectors" "I") (by decide +kernel)) (fun _ h9 => h9) rfl dX5_projector_166 ?_
      refine lv_iload_n hx hb dX5_projector_169 rfl (lv_at hl 3 rfl) ?_
      obtain ⟨h_8, hs⟩ := sp_c hs
      refine va_iast (D := D) (cA := ca 0) (n := 10) (f := (si (si (si (v_1.2) 5 v_3.toNatClampNeg 1) 6 ((si (v_1.2) 5 v_3.toNatClampNeg 1).1 0 8).toNatClampNeg a1) 7 ((si (si (v_1.2) 5 v_3.toNatClampNeg 1) 6 ((si (v_1.2) 5 v_3.toNatClampNeg 1).1 0 8).toNatClampNeg a1).1 0 8).toNatClampNeg a2).1 8) hx hb hK hP hD hS 8 0 rfl rfl h_8 dX5_projector_170 (fun H locs hP hD hS => ?_)
      rw [wM_a8] at hP hD
      refine lv_aload_n hx hb dX5_projector_171 rfl (lv_at hl 0 rfl) ?_
      refine va_get (D := D) (ci := 5) (fs := fsM h (si (si (si (si (v_1.2) 5 v_3.toNatClampNeg 1) 6 ((si (v_1.2) 5 v_3.toNatClampNeg 1).1 0 8).toNatClampNeg a1) 7 ((si (si (v_1.2) 5 v_3.toNatClampNeg 1) 6 ((si (v_1.2) 5 v_3.toNatClampNeg 1).1 0 8).toNatClampNeg a1).1 0 8).toNatClampNeg a2) 8 ((si (si (si (v_1.2) 5 v_3.toNatClampNeg 1) 6 ((si (v_1.2) 5 v_3.toNatClampNeg 1).1 0 8).toNatClampNeg a1) 7 ((si (si (v_1.2) 5 v_3.toNatClampNeg 1) 6 ((si (v_1.2) 5 v_3.toNatClampNeg 1).1 0 8).toNatClampNeg a1).1 0 8).toNatClampNeg a2).1 0 8).toNatClampNeg a3)) (v := .ref (h 9)) (C := RX5) (T := TX5) (N := 30) hx hb hts iX5 hown hK hP 0 rfl rfl 12 (by decide) (hts (.fieldLink RX5 39 "FacadeShowModel" "phase" "[I") (by decide +kernel)) (fun _ h9 => h9) rfl dX5_projector_172 ?_
      refine lv_aload_n hx hb dX5_projector_175 rfl (lv_at hl 0 rfl) ?_
      refine va_get (D := D) (ci := 5) (fs := fsM h (si (si (si (si (v_1.2) 5 v_3.toNatClampNeg 1) 6 ((si (v_1.2) 5 v_3.toNatClampNeg 1).1 0 8).toNatClampNeg a1) 7 ((si (si (v_1.2) 5 v_3.toNatClampNeg 1) 6 ((si (v_1.2) 5 v_3.toNatClampNeg 1).1 0 8).toNatClampNeg a1).1 0 8).toNatClampNeg a2) 8 ((si (si (si (v_1.2) 5 v_3.toNatClampNeg 1) 6 ((si (v_1.2) 5 v_3.toNatClampNeg 1).1 0 8).toNatClampNeg a1) 7 ((si (si (v_1.2) 5 v_3.toNatClampNeg 1) 6 ((si (v_1.2) 5 v_3.toNatClampNeg 1).1 0 8).toNatClampNeg a1).1 0 8).toNatClampNeg a2).1 0 8).toNatClampNeg a3)) (v := .int ((si (si (si (si (v_1.2) 5 v_3.toNatClampNeg 1) 6 ((si (v_1.2) 5 v_3.toNatClampNeg 1).1 0 8).toNatClampNeg a1) 7 ((si (si (v_1.2) 5 v_3.toNatClampNeg 1) 6 ((si (v_1.2) 5 v_3.toNatClampNeg 1).1 0 8).toNatClampNeg a1).1 0 8).toNatClampNeg a2) 8 ((si (si (si (v_1.2) 5 v_3.toNatClampNeg 1) 6 ((si (v_1.2) 5 v_3.toNatClampNeg 1).1 0 8).toNatClampNeg a1) 7 ((si (si (v_1.2) 5 v_3.toNatClampNeg 1) 6 ((si (v_1.2) 5 v_3.toNatClampNeg 1).1 0 8).toNatClampNeg a1).1 0 8).toNatClampNeg a2).1 0 8).toNatClampNeg a3).1 0 8)) (C := RX5) (T := TX5) (N := 30) hx hb hts iX5 hown hK hP 0 rfl rfl 8 (by decide) (hts (.fieldLink RX5 80 "FacadeShowModel" "projectors" "I") (by decide +kernel)) (fun _ h9 => h9) rfl dX5_projector_176 ?_
      refine lv_iload hx hb dX5_projector_179 (lv_at hl 4 rfl) ?_
      obtain ⟨h_9, hs⟩ := sp_c hs
      refine va_iast (D := D) (cA := ca 0) (n := 10) (f := (si (si (si (si (v_1.2) 5 v_3.toNatClampNeg 1) 6 ((si (v_1.2) 5 v_3.toNatClampNeg 1).1 0 8).toNatClampNeg a1) 7 ((si (si (v_1.2) 5 v_3.toNatClampNeg 1) 6 ((si (v_1.2) 5 v_3.toNatClampNeg 1).1 0 8).toNatClampNeg a1).1 0 8).toNatClampNeg a2) 8 ((si (si (si (v_1.2) 5 v_3.toNatClampNeg 1) 6 ((si (v_1.2) 5 v_3.toNatClampNeg 1).1 0 8).toNatClampNeg a1) 7 ((si (si (v_1.2) 5 v_3.toNatClampNeg 1) 6 ((si (v_1.2) 5 v_3.toNatClampNeg 1).1 0 8).toNatClampNeg a1).1 0 8).toNatClampNeg a2).1 0 8).toNatClampNeg a3).1 9) hx hb hK hP hD hS 9 0 rfl rfl h_9 dX5_projector_181 (fun H locs hP hD hS => ?_)
      rw [wM_a9] at hP hD
      refine lv_aload_n hx hb dX5_projector_182 rfl (lv_at hl 0 rfl) ?_
      refine va_get (D := D) (ci := 5) (fs := fsM h (si (si (si (si (si (v_1.2) 5 v_3.toNatClampNeg 1) 6 ((si (v_1.2) 5 v_3.toNatClampNeg 1).1 0 8).toNatClampNeg a1) 7 ((si (si (v_1.2) 5 v_3.toNatClampNeg 1) 6 ((si (v_1.2) 5 v_3.toNatClampNeg 1).1 0 8).toNatClampNeg a1).1 0 8).toNatClampNeg a2) 8 ((si (si (si (v_1.2) 5 v_3.toNatClampNeg 1) 6 ((si (v_1.2) 5 v_3.toNatClampNeg 1).1 0 8).toNatClampNeg a1) 7 ((si (si (v_1.2) 5 v_3.toNatClampNeg 1) 6 ((si (v_1.2) 5 v_3.toNatClampNeg 1).1 0 8).toNatClampNeg a1).1 0 8).toNatClampNeg a2).1 0 8).toNatClampNeg a3) 9 ((si (si (si (si (v_1.2) 5 v_3.toNatClampNeg 1) 6 ((si (v_1.2) 5 v_3.toNatClampNeg 1).1 0 8).toNatClampNeg a1) 7 ((si (si (v_1.2) 5 v_3.toNatClampNeg 1) 6 ((si (v_1.2) 5 v_3.toNatClampNeg 1).1 0 8).toNatClampNeg a1).1 0 8).toNatClampNeg a2) 8 ((si (si (si (v_1.2) 5 v_3.toNatClampNeg 1) 6 ((si (v_1.2) 5 v_3.toNatClampNeg 1).1 0 8).toNatClampNeg a1) 7 ((si (si (v_1.2) 5 v_3.toNatClampNeg 1) 6 ((si (v_1.2) 5 v_3.toNatClampNeg 1).1 0 8).toNatClampNeg a1).1 0 8).toNatClampNeg a2).1 0 8).toNatClampNeg a3).1 0 8).toNatClampNeg a4)) (v := .ref (h 10)) (C := RX5) (T := TX5) (N := 30) hx hb hts iX5 hown hK hP 0 rfl rfl 13 (by decide) (hts (.fieldLink RX5 42 "FacadeShowModel" "focus" "[I") (by decide +kernel)) (fun _ h9 => h9) rfl dX5_projector_183 ?_
      refine lv_aload_n hx hb dX5_projector_186 rfl (lv_at hl 0 rfl) ?_
      refine va_get (D := D) (ci := 5) (fs := fsM h (si (si (si (si (si (v_1.2) 5 v_3.toNatClampNeg 1) 6 ((si (v_1.2) 5 v_3.toNatClampNeg 1).1 0 8).toNatClampNeg a1) 7 ((si (si (v_1.2) 5 v_3.toNatClampNeg 1) 6 ((si (v_1.2) 5 v_3.toNatClampNeg 1).1 0 8).toNatClampNeg a1).1 0 8).toNatClampNeg a2) 8 ((si (si (si (v_1.2) 5 v_3.toNatClampNeg 1) 6 ((si (v_1.2) 5 v_3.toNatClampNeg 1).1 0 8).toNatClampNeg a1) 7 ((si (si (v_1.2) 5 v_3.toNatClampNeg 1) 6 ((si (v_1.2) 5 v_3.toNatClampNeg 1).1 0 8).toNatClampNeg a1).1 0 8).toNatClampNeg a2).1 0 8).toNatClampNeg a3) 9 ((si (si (si (si (v_1.2) 5 v_3.toNatClampNeg 1) 6 ((si (v_1.2) 5 v_3.toNatClampNeg 1).1 0 8).toNatClampNeg a1) 7 ((si (si (v_1.2) 5 v_3.toNatClampNeg 1) 6 ((si (v_1.2) 5 v_3.toNatClampNeg 1).1 0 8).toNatClampNeg a1).1 0 8).toNatClampNeg a2) 8 ((si (si (si (v_1.2) 5 v_3.toNatClampNeg 1) 6 ((si (v_1.2) 5 v_3.toNatClampNeg 1).1 0 8).toNatClampNeg a1) 7 ((si (si (v_1.2) 5 v_3.toNatClampNeg 1) 6 ((si (v_1.2) 5 v_3.toNatClampNeg 1).1 0 8).toNatClampNeg a1).1 0 8).toNatClampNeg a2).1 0 8).toNatClampNeg a3).1 0 8).toNatClampNeg a4)) (v := .int ((si (si (si (si (si (v_1.2) 5 v_3.toNatClampNeg 1) 6 ((si (v_1.2) 5 v_3.toNatClampNeg 1).1 0 8).toNatClampNeg a1) 7 ((si (si (v_1.2) 5 v_3.toNatClampNeg 1) 6 ((si (v_1.2) 5 v_3.toNatClampNeg 1).1 0 8).toNatClampNeg a1).1 0 8).toNatClampNeg a2) 8 ((si (si (si (v_1.2) 5 v_3.toNatClampNeg 1) 6 ((si (v_1.2) 5 v_3.toNatClampNeg 1).1 0 8).toNatClampNeg a1) 7 ((si (si (v_1.2) 5 v_3.toNatClampNeg 1) 6 ((si (v_1.2) 5 v_3.toNatClampNeg 1).1 0 8).toNatClampNeg a1).1 0 8).toNatClampNeg a2).1 0 8).toNatClampNeg a3) 9 ((si (si (si (si (v_1.2) 5 v_3.toNatClampNeg 1) 6 ((si (v_1.2) 5 v_3.toNatClampNeg 1).1 0 8).toNatClampNeg a1) 7 ((si (si (v_1.2) 5 v_3.toNatClampNeg 1) 6 ((si (v_1.2) 5 v_3.toNatClampNeg 1).1 0 8).toNatClampNeg a1).1 0 8).toNatClampNeg a2) 8 ((si (si (si (v_1.2) 5 v_3.toNatClampNeg 1) 6 ((si (v_1.2) 5 v_3.toNatClampNeg 1).1 0 8).toNatClampNeg a1) 7 ((si (si (v_1.2) 5 v_3.toNatClampNeg 1) 6 ((si (v_1.2) 5 v_3.toNatClampNeg 1).1 0 8).toNatClampNeg a1).1 0 8).toNatClampNeg a2).1 0 8).toNatClampNeg a3).1 0 8).toNatClampNeg a4).1 0 8)) (C := RX5) (T := TX5) (N := 30) hx hb hts iX5 hown hK hP 0 rfl rfl 8 (by decide) (hts (.fieldLink RX5 80 "FacadeShowModel" "projectors" "I") (by decide +kernel)) (fun _ h9 => h9) rfl dX5_projector_187 ?_
      refine lv_iload hx hb dX5_projector_190 (lv_at hl 5 rfl) ?_
      obtain ⟨h_10, hs⟩ := sp_c hs
      refine va_iast (D := D) (cA := ca 0) (n := 10) (f := (si (si (si (si (si (v_1.2) 5 v_3.toNatClampNeg 1) 6 ((si (v_1.2) 5 v_3.toNatClampNeg 1).1 0 8).toNatClampNeg a1) 7 ((si (si (v_1.2) 5 v_3.toNatClampNeg 1) 6 ((si (v_1.2) 5 v_3.toNatClampNeg 1).1 0 8).toNatClampNeg a1).1 0 8).toNatClampNeg a2) 8 ((si (si (si (v_1.2) 5 v_3.toNatClampNeg 1) 6 ((si (v_1.2) 5 v_3.toNatClampNeg 1).1 0 8).toNatClampNeg a1) 7 ((si (si (v_1.2) 5 v_3.toNatClampNeg 1) 6 ((si (v_1.2) 5 v_3.toNatClampNeg 1).1 0 8).toNatClampNeg a1).1 0 8).toNatClampNeg a2).1 0 8).toNatClampNeg a3) 9 ((si (si (si (si (v_1.2) 5 v_3.toNatClampNeg 1) 6 ((si (v_1.2) 5 v_3.toNatClampNeg 1).1 0 8).toNatClampNeg a1) 7 ((si (si (v_1.2) 5 v_3.toNatClampNeg 1) 6 ((si (v_1.2) 5 v_3.toNatClampNeg 1).1 0 8).toNatClampNeg a1).1 0 8).toNatClampNeg a2) 8 ((si (si (si (v_1.2) 5 v_3.toNatClampNeg 1) 6 ((si (v_1.2) 5 v_3.toNatClampNeg 1).1 0 8).toNatClampNeg a1) 7 ((si (si (v_1.2) 5 v_3.toNatClampNeg 1) 6 ((si (v_1.2) 5 v_3.toNatClampNeg 1).1 0 8).toNatClampNeg a1).1 0 8).toNatClampNeg a2).1 0 8).toNatClampNeg a3).1 0 8).toNatClampNeg a4).1 10) hx hb hK hP hD hS 10 0 rfl rfl h_10 dX5_projector_192 (fun H locs hP hD hS => ?_)
      rw [wM_a10] at hP hD
      refine lv_aload_n hx hb dX5_projector_193 rfl (lv_at hl 0 rfl) ?_
      refine lv_dup hx hb dX5_projector_194 rfl ?_
      refine va_get (D := D) (ci := 5) (fs := fsM h (si (si (si (si (si (si (v_1.2) 5 v_3.toNatClampNeg 1) 6 ((si (v_1.2) 5 v_3.toNatClampNeg 1).1 0 8).toNatClampNeg a1) 7 ((si (si (v_1.2) 5 v_3.toNatClampNeg 1) 6 ((si (v_1.2) 5 v_3.toNatClampNeg 1).1 0 8).toNatClampNeg a1).1 0 8).toNatClampNeg a2) 8 ((si (si (si (v_1.2) 5 v_3.toNatClampNeg 1) 6 ((si (v_1.2) 5 v_3.toNatClampNeg 1).1 0 8).toNatClampNeg a1) 7 ((si (si (v_1.2) 5 v_3.toNatClampNeg 1) 6 ((si (v_1.2) 5 v_3.toNatClampNeg 1).1 0 8).toNatClampNeg a1).1 0 8).toNatClampNeg a2).1 0 8).toNatClampNeg a3) 9 ((si (si (si (si (v_1.2) 5 v_3.toNatClampNeg 1) 6 ((si (v_1.2) 5 v_3.toNatClampNeg 1).1 0 8).toNatClampNeg a1) 7 ((si (si (v_1.2) 5 v_3.toNatClampNeg 1) 6 ((si (v_1.2) 5 v_3.toNatClampNeg 1).1 0 8).toNatClampNeg a1).1 0 8).toNatClampNeg a2) 8 ((si (si (si (v_1.2) 5 v_3.toNatClampNeg 1) 6 ((si (v_1.2) 5 v_3.toNatClampNeg 1).1 0 8).toNatClampNeg a1) 7 ((si (si (v_1.2) 5 v_3.toNatClampNeg 1) 6 ((si (v_1.2) 5 v_3.toNatClampNeg 1).1 0 8).toNatClampNeg a1).1 0 8).toNatClampNeg a2).1 0 8).toNatClampNeg a3).1 0 8).toNatClampNeg a4) 10 ((si (si (si (si (si (v_1.2) 5 v_3.toNatClampNeg 1) 6 ((si (v_1.2) 5 v_3.toNatClampNeg 1).1 0 8).toNatClampNeg a1) 7 ((si (si (v_1.2) 5 v_3.toNatClampNeg 1) 6 ((si (v_1.2) 5 v_3.toNatClampNeg 1).1 0 8).toNatClampNeg a1).1 0 8).toNatClampNeg a2) 8 ((si (si (si (v_1.2) 5 v_3.toNatClampNeg 1) 6 ((si (v_1.2) 5 v_3.toNatClampNeg 1).1 0 8).toNatClampNeg a1) 7 ((si (si (v_1.2) 5 v_3.toNatClampNeg 1) 6 ((si (v_1.2) 5 v_3.toNatClampNeg 1).1 0 8).toNatClampNeg a1).1 0 8).toNatClampNeg a2).1 0 8).toNatClampNeg a3) 9 ((si (si (si (si (v_1.2) 5 v_3.toNatClampNeg 1) 6 ((si (v_1.2) 5 v_3.toNatClampNeg 1).1 0 8).toNatClampNeg a1) 7 ((si (si (v_1.2) 5 v_3.toNatClampNeg 1) 6 ((si (v_1.2) 5 v_3.toNatClampNeg 1).1 0 8).toNatClampNeg a1).1 0 8).toNatClampNeg a2) 8 ((si (si (si (v_1.2) 5 v_3.toNatClampNeg 1) 6 ((si (v_1.2) 5 v_3.toNatClampNeg 1).1 0 8).toNatClampNeg a1) 7 ((si (si (v_1.2) 5 v_3.toNatClampNeg 1) 6 ((si (v_1.2) 5 v_3.toNatClampNeg 1).1 0 8).toNatClampNeg a1).1 0 8).toNatClampNeg a2).1 0 8).toNatClampNeg a3).1 0 8).toNatClampNeg a4).1 0 8).toNatClampNeg a5)) (v := .int ((si (si (si (si (si (si (v_1.2) 5 v_3.toNatClampNeg 1) 6 ((si (v_1.2) 5 v_3.toNatClampNeg 1).1 0 8).toNatClampNeg a1) 7 ((si (si (v_1.2) 5 v_3.toNatClampNeg 1) 6 ((si (v_1.2) 5 v_3.toNatClampNeg 1).1 0 8).toNatClampNeg a1).1 0 8).toNatClampNeg a2) 8 ((si (si (si (v_1.2) 5 v_3.toNatClampNeg 1) 6 ((si (v_1.2) 5 v_3.toNatClampNeg 1).1 0 8).toNatClampNeg a1) 7 ((si (si (v_1.2) 5 v_3.toNatClampNeg 1) 6 ((si (v_1.2) 5 v_3.toNatClampNeg 1).1 0 8).toNatClampNeg a1).1 0 8).toNatClampNeg a2).1 0 8).toNatClampNeg a3) 9 ((si (si (si (si (v_1.2) 5 v_3.toNatClampNeg 1) 6 ((si (v_1.2) 5 v_3.toNatClampNeg 1).1 0 8).toNatClampNeg a1) 7 ((si (si (v_1.2) 5 v_3.toNatClampNeg 1) 6 ((si (v_1.2) 5 v_3.toNatClampNeg 1).1 0 8).toNatClampNeg a1).1 0 8).toNatClampNeg a2) 8 ((si (si (si (v_1.2) 5 v_3.toNatClampNeg 1) 6 ((si (v_1.2) 5 v_3.toNatClampNeg 1).1 0 8).toNatClampNeg a1) 7 ((si (si (v_1.2) 5 v_3.toNatClampNeg 1) 6 ((si (v_1.2) 5 v_3.toNatClampNeg 1).1 0 8).toNatClampNeg a1).1 0 8).toNatClampNeg a2).1 0 8).toNatClampNeg a3).1 0 8).toNatClampNeg a4) 10 ((si (si (si (si (si (v_1.2) 5 v_3.toNatClampNeg 1) 6 ((si (v_1.2) 5 v_3.toNatClampNeg 1).1 0 8).toNatClampNeg a1) 7 ((si (si (v_1.2) 5 v_3.toNatClampNeg 1) 6 ((si (v_1.2) 5 v_3.toNatClampNeg 1).1 0 8).toNatClampNeg a1).1 0 8).toNatClampNeg a2) 8 ((si (si (si (v_1.2) 5 v_3.toNatClampNeg 1) 6 ((si (v_1.2) 5 v_3.toNatClampNeg 1).1 0 8).toNatClampNeg a1) 7 ((si (si (v_1.2) 5 v_3.toNatClampNeg 1) 6 ((si (v_1.2) 5 v_3.toNatClampNeg 1).1 0 8).toNatClampNeg a1).1 0 8).toNatClampNeg a2).1 0 8).toNatClampNeg a3) 9 ((si (si (si (si (v_1.2) 5 v_3.toNatClampNeg 1) 6 ((si (v_1.2) 5 v_3.toNatClampNeg 1).1 0 8).toNatClampNeg a1) 7 ((si (si (v_1.2) 5 v_3.toNatClampNeg 1) 6 ((si (v_1.2) 5 v_3.toNatClampNeg 1).1 0 8).toNatClampNeg a1).1 0 8).toNatClampNeg a2) 8 ((si (si (si (v_1.2) 5 v_3.toNatClampNeg 1) 6 ((si (v_1.2) 5 v_3.toNatClampNeg 1).1 0 8).toNatClampNeg a1) 7 ((si (si (v_1.2) 5 v_3.toNatClampNeg 1) 6 ((si (v_1.2) 5 v_3.toNatClampNeg 1).1 0 8).toNatClampNeg a1).1 0 8).toNatClampNeg a2).1 0 8).toNatClampNeg a3).1 0 8).toNatClampNeg a4).1 0 8).toNatClampNeg a5).1 0 8)) (C := RX5) (T := TX5) (N := 30) hx hb hts iX5 hown hK hP 0 rfl rfl 8 (by decide) (hts (.fieldLink RX5 80 "FacadeShowModel" "projectors" "I") (by decide +kernel)) (fun _ h9 => h9) rfl dX5_projector_195 ?_
      refine lv_iconst (v := 1) hx hb dX5_projector_198 (by decide) ?_
      refine lv_iadd hx hb dX5_projector_199 ?_
      refine va_put (D := D) (ci := 5) (fs := fsM h (si (si (si (si (si (si (v_1.2) 5 v_3.toNatClampNeg 1) 6 ((si (v_1.2) 5 v_3.toNatClampNeg 1).1 0 8).toNatClampNeg a1) 7 ((si (si (v_1.2) 5 v_3.toNatClampNeg 1) 6 ((si (v_1.2) 5 v_3.toNatClampNeg 1).1 0 8).toNatClampNeg a1).1 0 8).toNatClampNeg a2) 8 ((si (si (si (v_1.2) 5 v_3.toNatClampNeg 1) 6 ((si (v_1.2) 5 v_3.toNatClampNeg 1).1 0 8).toNatClampNeg a1) 7 ((si (si (v_1.2) 5 v_3.toNatClampNeg 1) 6 ((si (v_1.2) 5 v_3.toNatClampNeg 1).1 0 8).toNatClampNeg a1).1 0 8).toNatClampNeg a2).1 0 8).toNatClampNeg a3) 9 ((si (si (si (si (v_1.2) 5 v_3.toNatClampNeg 1) 6 ((si (v_1.2) 5 v_3.toNatClampNeg 1).1 0 8).toNatClampNeg a1) 7 ((si (si (v_1.2) 5 v_3.toNatClampNeg 1) 6 ((si (v_1.2) 5 v_3.toNatClampNeg 1).1 0 8).toNatClampNeg a1).1 0 8).toNatClampNeg a2) 8 ((si (si (si (v_1.2) 5 v_3.toNatClampNeg 1) 6 ((si (v_1.2) 5 v_3.toNatClampNeg 1).1 0 8).toNatClampNeg a1) 7 ((si (si (v_1.2) 5 v_3.toNatClampNeg 1) 6 ((si (v_1.2) 5 v_3.toNatClampNeg 1).1 0 8).toNatClampNeg a1).1 0 8).toNatClampNeg a2).1 0 8).toNatClampNeg a3).1 0 8).toNatClampNeg a4) 10 ((si (si (si (si (si (v_1.2) 5 v_3.toNatClampNeg 1) 6 ((si (v_1.2) 5 v_3.toNatClampNeg 1).1 0 8).toNatClampNeg a1) 7 ((si (si (v_1.2) 5 v_3.toNatClampNeg 1) 6 ((si (v_1.2) 5 v_3.toNatClampNeg 1).1 0 8).toNatClampNeg a1).1 0 8).toNatClampNeg a2) 8 ((si (si (si (v_1.2) 5 v_3.toNatClampNeg 1) 6 ((si (v_1.2) 5 v_3.toNatClampNeg 1).1 0 8).toNatClampNeg a1) 7 ((si (si (v_1.2) 5 v_3.toNatClampNeg 1) 6 ((si (v_1.2) 5 v_3.toNatClampNeg 1).1 0 8).toNatClampNeg a1).1 0 8).toNatClampNeg a2).1 0 8).toNatClampNeg a3) 9 ((si (si (si (si (v_1.2) 5 v_3.toNatClampNeg 1) 6 ((si (v_1.2) 5 v_3.toNatClampNeg 1).1 0 8).toNatClampNeg a1) 7 ((si (si (v_1.2) 5 v_3.toNatClampNeg 1) 6 ((si (v_1.2) 5 v_3.toNatClampNeg 1).1 0 8).toNatClampNeg a1).1 0 8).toNatClampNeg a2) 8 ((si (si (si (v_1.2) 5 v_3.toNatClampNeg 1) 6 ((si (v_1.2) 5 v_3.toNatClampNeg 1).1 0 8).toNatClampNeg a1) 7 ((si (si (v_1.2) 5 v_3.toNatClampNeg 1) 6 ((si (v_1.2) 5 v_3.toNatClampNeg 1).1 0 8).toNatClampNeg a1).1 0 8).toNatClampNeg a2).1 0 8).toNatClampNeg a3).1 0 8).toNatClampNeg a4).1 0 8).toNatClampNeg a5)) (v := .int (((si (si (si (si (si (si (v_1.2) 5 v_3.toNatClampNeg 1) 6 ((si (v_1.2) 5 v_3.toNatClampNeg 1).1 0 8).toNatClampNeg a1) 7 ((si (si (v_1.2) 5 v_3.toNatClampNeg 1) 6 ((si (v_1.2) 5 v_3.toNatClampNeg 1).1 0 8).toNatClampNeg a1).1 0 8).toNatClampNeg a2) 8 ((si (si (si (v_1.2) 5 v_3.toNatClampNeg 1) 6 ((si (v_1.2) 5 v_3.toNatClampNeg 1).1 0 8).toNatClampNeg a1) 7 ((si (si (v_1.2) 5 v_3.toNatClampNeg 1) 6 ((si (v_1.2) 5 v_3.toNatClampNeg 1).1 0 8).toNatClampNeg a1).1 0 8).toNatClampNeg a2).1 0 8).toNatClampNeg a3) 9 ((si (si (si (si (v_1.2) 5 v_3.toNatClampNeg 1) 6 ((si (v_1.2) 5 v_3.toNatClampNeg 1).1 0 8).toNatClampNeg a1) 7 ((si (si (v_1.2) 5 v_3.toNatClampNeg 1) 6 ((si (v_1.2) 5 v_3.toNatClampNeg 1).1 0 8).toNatClampNeg a1).1 0 8).toNatClampNeg a2) 8 ((si (si (si (v_1.2) 5 v_3.toNatClampNeg 1) 6 ((si (v_1.2) 5 v_3.toNatClampNeg 1).1 0 8).toNatClampNeg a1) 7 ((si (si (v_1.2) 5 v_3.toNatClampNeg 1) 6 ((si (v_1.2) 5 v_3.toNatClampNeg 1).1 0 8).toNatClampNeg a1).1 0 8).toNatClampNeg a2).1 0 8).toNatClampNeg a3).1 0 8).toNatClampNeg a4) 10 ((si (si (si (si (si (v_1.2) 5 v_3.toNatClampNeg 1) 6 ((si (v_1.2) 5 v_3.toNatClampNeg 1).1 0 8).toNatClampNeg a1) 7 ((si (si (v_1.2) 5 v_3.toNatClampNeg 1) 6 ((si (v_1.2) 5 v_3.toNatClampNeg 1).1 0 8).toNatClampNeg a1).1 0 8).toNatClampNeg a2) 8 ((si (si (si (v_1.2) 5 v_3.toNatClampNeg 1) 6 ((si (v_1.2) 5 v_3.toNatClampNeg 1).1 0 8).toNatClampNeg a1) 7 ((si (si (v_1.2) 5 v_3.toNatClampNeg 1) 6 ((si (v_1.2) 5 v_3.toNatClampNeg 1).1 0 8).toNatClampNeg a1).1 0 8).toNatClampNeg a2).1 0 8).toNatClampNeg a3) 9 ((si (si (si (si (v_1.2) 5 v_3.toNatClampNeg 1) 6 ((si (v_1.2) 5 v_3.toNatClampNeg 1).1 0 8).toNatClampNeg a1) 7 ((si (si (v_1.2) 5 v_3.toNatClampNeg 1) 6 ((si (v_1.2) 5 v_3.toNatClampNeg 1).1 0 8).toNatClampNeg a1).1 0 8).toNatClampNeg a2) 8 ((si (si (si (v_1.2) 5 v_3.toNatClampNeg 1) 6 ((si (v_1.2) 5 v_3.toNatClampNeg 1).1 0 8).toNatClampNeg a1) 7 ((si (si (v_1.2) 5 v_3.toNatClampNeg 1) 6 ((si (v_1.2) 5 v_3.toNatClampNeg 1).1 0 8).toNatClampNeg a1).1 0 8).toNatClampNeg a2).1 0 8).toNatClampNeg a3).1 0 8).toNatClampNeg a4).1 0 8).toNatClampNeg a5).1 0 8) + 1)) (ty := .int) (C := RX5) (T := TX5) (N := 30) hx hb hts iX5 tyX5 tyX5_ok nmX5 hown hK hP hD hS 0 rfl rfl 8 (by decide) (hts (.fieldLink RX5 80 "FacadeShowModel" "projectors" "I") (by decide +kernel)) (fun _ h9 => h9) rfl (by decide +kernel) rfl rfl (Nat.le_of_ble_eq_true rfl) dX5_projector_200 (fun H locs hP hD hS => ?_)
      rw [wM_f8] at hP hD
      refine lv_aload_n hx hb dX5_projector_203 rfl (lv_at hl 0 rfl) ?_
      refine va_get (D := D) (ci := 5) (fs := fsM h (si (si (si (si (si (si (si (v_1.2) 5 v_3.toNatClampNeg 1) 6 ((si (v_1.2) 5 v_3.toNatClampNeg 1).1 0 8).toNatClampNeg a1) 7 ((si (si (v_1.2) 5 v_3.toNatClampNeg 1) 6 ((si (v_1.2) 5 v_3.toNatClampNeg 1).1 0 8).toNatClampNeg a1).1 0 8).toNatClampNeg a2) 8 ((si (si (si (v_1.2) 5 v_3.toNatClampNeg 1) 6 ((si (v_1.2) 5 v_3.toNatClampNeg 1).1 0 8).toNatClampNeg a1) 7 ((si (si (v_1.2) 5 v_3.toNatClampNeg 1) 6 ((si (v_1.2) 5 v_3.toNatClampNeg 1).1 0 8).toNatClampNeg a1).1 0 8).toNatClampNeg a2).1 0 8).toNatClampNeg a3) 9 ((si (si (si (si (v_1.2) 5 v_3.toNatClampNeg 1) 6 ((si (v_1.2) 5 v_3.toNatClampNeg 1).1 0 8).toNatClampNeg a1) 7 ((si (si (v_1.2) 5 v_3.toNatClampNeg 1) 6 ((si (v_1.2) 5 v_3.toNatClampNeg 1).1 0 8).toNatClampNeg a1).1 0 8).toNatClampNeg a2) 8 ((si (si (si (v_1.2) 5 v_3.toNatClampNeg 1) 6 ((si (v_1.2) 5 v_3.toNatClampNeg 1).1 0 8).toNatClampNeg a1) 7 ((si (si (v_1.2) 5 v_3.toNatClampNeg 1) 6 ((si (v_1.2) 5 v_3.toNatClampNeg 1).1 0 8).toNatClampNeg a1).1 0 8).toNatClampNeg a2).1 0 8).toNatClampNeg a3).1 0 8).toNatClampNeg a4) 10 ((si (si (si (si (si (v_1.2) 5 v_3.toNatClampNeg 1) 6 ((si (v_1.2) 5 v_3.toNatClampNeg 1).1 0 8).toNatClampNeg a1) 7 ((si (si (v_1.2) 5 v_3.toNatClampNeg 1) 6 ((si (v_1.2) 5 v_3.toNatClampNeg 1).1 0 8).toNatClampNeg a1).1 0 8).toNatClampNeg a2) 8 ((si (si (si (v_1.2) 5 v_3.toNatClampNeg 1) 6 ((si (v_1.2) 5 v_3.toNatClampNeg 1).1 0 8).toNatClampNeg a1) 7 ((si (si (v_1.2) 5 v_3.toNatClampNeg 1) 6 ((si (v_1.2) 5 v_3.toNatClampNeg 1).1 0 8).toNatClampNeg a1).1 0 8).toNatClampNeg a2).1 0 8).toNatClampNeg a3) 9 ((si (si (si (si (v_1.2) 5 v_3.toNatClampNeg 1) 6 ((si (v_1.2) 5 v_3.toNatClampNeg 1).1 0 8).toNatClampNeg a1) 7 ((si (si (v_1.2) 5 v_3.toNatClampNeg 1) 6 ((si (v_1.2) 5 v_3.toNatClampNeg 1).1 0 8).toNatClampNeg a1).1 0 8).toNatClampNeg a2) 8 ((si (si (si (v_1.2) 5 v_3.toNatClampNeg 1) 6 ((si (v_1.2) 5 v_3.toNatClampNeg 1).1 0 8).toNatClampNeg a1) 7 ((si (si (v_1.2) 5 v_3.toNatClampNeg 1) 6 ((si (v_1.2) 5 v_3.toNatClampNeg 1).1 0 8).toNatClampNeg a1).1 0 8).toNatClampNeg a2).1 0 8).toNatClampNeg a3).1 0 8).toNatClampNeg a4).1 0 8).toNatClampNeg a5) 0 8 (((si (si (si (si (si (si (v_1.2) 5 v_3.toNatClampNeg 1) 6 ((si (v_1.2) 5 v_3.toNatClampNeg 1).1 0 8).toNatClampNeg a1) 7 ((si (si (v_1.2) 5 v_3.toNatClampNeg 1) 6 ((si (v_1.2) 5 v_3.toNatClampNeg 1).1 0 8).toNatClampNeg a1).1 0 8).toNatClampNeg a2) 8 ((si (si (si (v_1.2) 5 v_3.toNatClampNeg 1) 6 ((si (v_1.2) 5 v_3.toNatClampNeg 1).1 0 8).toNatClampNeg a1) 7 ((si (si (v_1.2) 5 v_3.toNatClampNeg 1) 6 ((si (v_1.2) 5 v_3.toNatClampNeg 1).1 0 8).toNatClampNeg a1).1 0 8).toNatClampNeg a2).1 0 8).toNatClampNeg a3) 9 ((si (si (si (si (v_1.2) 5 v_3.toNatClampNeg 1) 6 ((si (v_1.2) 5 v_3.toNatClampNeg 1).1 0 8).toNatClampNeg a1) 7 ((si (si (v_1.2) 5 v_3.toNatClampNeg 1) 6 ((si (v_1.2) 5 v_3.toNatClampNeg 1).1 0 8).toNatClampNeg a1).1 0 8).toNatClampNeg a2) 8 ((si (si (si (v_1.2) 5 v_3.toNatClampNeg 1) 6 ((si (v_1.2) 5 v_3.toNatClampNeg 1).1 0 8).toNatClampNeg a1) 7 ((si (si (v_1.2) 5 v_3.toNatClampNeg 1) 6 ((si (v_1.2) 5 v_3.toNatClampNeg 1).1 0 8).toNatClampNeg a1).1 0 8).toNatClampNeg a2).1 0 8).toNatClampNeg a3).1 0 8).toNatClampNeg a4) 10 ((si (si (si (si (si (v_1.2) 5 v_3.toNatClampNeg 1) 6 ((si (v_1.2) 5 v_3.toNatClampNeg 1).1 0 8).toNatClampNeg a1) 7 ((si (si (v_1.2) 5 v_3.toNatClampNeg 1) 6 ((si (v_1.2) 5 v_3.toNatClampNeg 1).1 0 8).toNatClampNeg a1).1 0 8).toNatClampNeg a2) 8 ((si (si (si (v_1.2) 5 v_3.toNatClampNeg 1) 6 ((si (v_1.2) 5 v_3.toNatClampNeg 1).1 0 8).toNatClampNeg a1) 7 ((si (si (v_1.2) 5 v_3.toNatClampNeg 1) 6 ((si (v_1.2) 5 v_3.toNatClampNeg 1).1 0 8).toNatClampNeg a1).1 0 8).toNatClampNeg a2).1 0 8).toNatClampNeg a3) 9 ((si (si (si (si (v_1.2) 5 v_3.toNatClampNeg 1) 6 ((si (v_1.2) 5 v_3.toNatClampNeg 1).1 0 8).toNatClampNeg a1) 7 ((si (si (v_1.2) 5 v_3.toNatClampNeg 1) 6 ((si (v_1.2) 5 v_3.toNatClampNeg 1).1 0 8).toNatClampNeg a1).1 0 8).toNatClampNeg a2) 8 ((si (si (si (v_1.2) 5 v_3.toNatClampNeg 1) 6 ((si (v_1.2) 5 v_3.toNatClampNeg 1).1 0 8).toNatClampNeg a1) 7 ((si (si (v_1.2) 5 v_3.toNatClampNeg 1) 6 ((si (v_1.2) 5 v_3.toNatClampNeg 1).1 0 8).toNatClampNeg a1).1 0 8).toNatClampNeg a2).1 0 8).toNatClampNeg a3).1 0 8).toNatClampNeg a4).1 0 8).toNatClampNeg a5).1 0 8) + 1))) (v := .int ((si (si (si (si (si (si (si (v_1.2) 5 v_3.toNatClampNeg 1) 6 ((si (v_1.2) 5 v_3.toNatClampNeg 1).1 0 8).toNatClampNeg a1) 7 ((si (si (v_1.2) 5 v_3.toNatClampNeg 1) 6 ((si (v_1.2) 5 v_3.toNatClampNeg 1).1 0 8).toNatClampNeg a1).1 0 8).toNatClampNeg a2) 8 ((si (si (si (v_1.2) 5 v_3.toNatClampNeg 1) 6 ((si (v_1.2) 5 v_3.toNatClampNeg 1).1 0 8).toNatClampNeg a1) 7 ((si (si (v_1.2) 5 v_3.toNatClampNeg 1) 6 ((si (v_1.2) 5 v_3.toNatClampNeg 1).1 0 8).toNatClampNeg a1).1 0 8).toNatClampNeg a2).1 0 8).toNatClampNeg a3) 9 ((si (si (si (si (v_1.2) 5 v_3.toNatClampNeg 1) 6 ((si (v_1.2) 5 v_3.toNatClampNeg 1).1 0 8).toNatClampNeg a1) 7 ((si (si (v_1.2) 5 v_3.toNatClampNeg 1) 6 ((si (v_1.2) 5 v_3.toNatClampNeg 1).1 0 8).toNatClampNeg a1).1 0 8).toNatClampNeg a2) 8 ((si (si (si (v_1.2) 5 v_3.toNatClampNeg 1) 6 ((si (v_1.2) 5 v_3.toNatClampNeg 1).1 0 8).toNatClampNeg a1) 7 ((si (si (v_1.2) 5 v_3.toNatClampNeg 1) 6 ((si (v_1.2) 5 v_3.toNatClampNeg 1).1 0 8).toNatClampNeg a1).1 0 8).toNatClampNeg a2).1 0 8).toNatClampNeg a3).1 0 8).toNatClampNeg a4) 10 ((si (si (si (si (si (v_1.2) 5 v_3.toNatClampNeg 1) 6 ((si (v_1.2) 5 v_3.toNatClampNeg 1).1 0 8).toNatClampNeg a1) 7 ((si (si (v_1.2) 5 v_3.toNatClampNeg 1) 6 ((si (v_1.2) 5 v_3.toNatClampNeg 1).1 0 8).toNatClampNeg a1).1 0 8).toNatClampNeg a2) 8 ((si (si (si (v_1.2) 5 v_3.toNatClampNeg 1) 6 ((si (v_1.2) 5 v_3.toNatClampNeg 1).1 0 8).toNatClampNeg a1) 7 ((si (si (v_1.2) 5 v_3.toNatClampNeg 1) 6 ((si (v_1.2) 5 v_3.toNatClampNeg 1).1 0 8).toNatClampNeg a1).1 0 8).toNatClampNeg a2).1 0 8).toNatClampNeg a3) 9 ((si (si (si (si (v_1.2) 5 v_3.toNatClampNeg 1) 6 ((si (v_1.2) 5 v_3.toNatClampNeg 1).1 0 8).toNatClampNeg a1) 7 ((si (si (v_1.2) 5 v_3.toNatClampNeg 1) 6 ((si (v_1.2) 5 v_3.toNatClampNeg 1).1 0 8).toNatClampNeg a1).1 0 8).toNatClampNeg a2) 8 ((si (si (si (v_1.2) 5 v_3.toNatClampNeg 1) 6 ((si (v_1.2) 5 v_3.toNatClampNeg 1).1 0 8).toNatClampNeg a1) 7 ((si (si (v_1.2) 5 v_3.toNatClampNeg 1) 6 ((si (v_1.2) 5 v_3.toNatClampNeg 1).1 0 8).toNatClampNeg a1).1 0 8).toNatClampNeg a2).1 0 8).toNatClampNeg a3).1 0 8).toNatClampNeg a4).1 0 8).toNatClampNeg a5) 0 8 (((si (si (si (si (si (si (v_1.2) 5 v_3.toNatClampNeg 1) 6 ((si (v_1.2) 5 v_3.toNatClampNeg 1).1 0 8).toNatClampNeg a1) 7 ((si (si (v_1.2) 5 v_3.toNatClampNeg 1) 6 ((si (v_1.2) 5 v_3.toNatClampNeg 1).1 0 8).toNatClampNeg a1).1 0 8).toNatClampNeg a2) 8 ((si (si (si (v_1.2) 5 v_3.toNatClampNeg 1) 6 ((si (v_1.2) 5 v_3.toNatClampNeg 1).1 0 8).toNatClampNeg a1) 7 ((si (si (v_1.2) 5 v_3.toNatClampNeg 1) 6 ((si (v_1.2) 5 v_3.toNatClampNeg 1).1 0 8).toNatClampNeg a1).1 0 8).toNatClampNeg a2).1 0 8).toNatClampNeg a3) 9 ((si (si (si (si (v_1.2) 5 v_3.toNatClampNeg 1) 6 ((si (v_1.2) 5 v_3.toNatClampNeg 1).1 0 8).toNatClampNeg a1) 7 ((si (si (v_1.2) 5 v_3.toNatClampNeg 1) 6 ((si (v_1.2) 5 v_3.toNatClampNeg 1).1 0 8).toNatClampNeg a1).1 0 8).toNatClampNeg a2) 8 ((si (si (si (v_1.2) 5 v_3.toNatClampNeg 1) 6 ((si (v_1.2) 5 v_3.toNatClampNeg 1).1 0 8).toNatClampNeg a1) 7 ((si (si (v_1.2) 5 v_3.toNatClampNeg 1) 6 ((si (v_1.2) 5 v_3.toNatClampNeg 1).1 0 8).toNatClampNeg a1).1 0 8).toNatClampNeg a2).1 0 8).toNatClampNeg a3).1 0 8).toNatClampNeg a4) 10 ((si (si (si (si (si (v_1.2) 5 v_3.toNatClampNeg 1) 6 ((si (v_1.2) 5 v_3.toNatClampNeg 1).1 0 8).toNatClampNeg a1) 7 ((si (si (v_1.2) 5 v_3.toNatClampNeg 1) 6 ((si (v_1.2) 5 v_3.toNatClampNeg 1).1 0 8).toNatClampNeg a1).1 0 8).toNatClampNeg a2) 8 ((si (si (si (v_1.2) 5 v_3.toNatClampNeg 1) 6 ((si (v_1.2) 5 v_3.toNatClampNeg 1).1 0 8).toNatClampNeg a1) 7 ((si (si (v_1.2) 5 v_3.toNatClampNeg 1) 6 ((si (v_1.2) 5 v_3.toNatClampNeg 1).1 0 8).toNatClampNeg a1).1 0 8).toNatClampNeg a2).1 0 8).toNatClampNeg a3) 9 ((si (si (si (si (v_1.2) 5 v_3.toNatClampNeg 1) 6 ((si (v_1.2) 5 v_3.toNatClampNeg 1).1 0 8).toNatClampNeg a1) 7 ((si (si (v_1.2) 5 v_3.toNatClampNeg 1) 6 ((si (v_1.2) 5 v_3.toNatClampNeg 1).1 0 8).toNatClampNeg a1).1 0 8).toNatClampNeg a2) 8 ((si (si (si (v_1.2) 5 v_3.toNatClampNeg 1) 6 ((si (v_1.2) 5 v_3.toNatClampNeg 1).1 0 8).toNatClampNeg a1) 7 ((si (si (v_1.2) 5 v_3.toNatClampNeg 1) 6 ((si (v_1.2) 5 v_3.toNatClampNeg 1).1 0 8).toNatClampNeg a1).1 0 8).toNatClampNeg a2).1 0 8).toNatClampNeg a3).1 0 8).toNatClampNeg a4).1 0 8).toNatClampNeg a5).1 0 8) + 1)).1 0 8)) (C := RX5) (T := TX5) (N := 30) hx hb hts iX5 hown hK hP 0 rfl rfl 8 (by decide) (hts (.fieldLink RX5 80 "FacadeShowModel" "projectors" "I") (by decide +kernel)) (fun _ h9 => h9) rfl dX5_projector_204 ?_
      refine lv_iconst (v := 1) hx hb dX5_projector_207 (by decide) ?_
      refine lv_isub hx hb dX5_projector_208 ?_
      exact wt_i (f := wM h ca) hx hb hr hAe hs hP hD hS dX5_projector_209 hlocks
    · have hs := sp_t c_2 hs
      refine lv_iconst (v := 0) hx hb dX5_projector_128 (by decide) ?_
      exact wt_i (f := wM h ca) hx hb hr hAe hs hP hD hS dX5_projector_129 hlocks
  have b91 : ∀ (xx : XS) (p6 : Int32) (p7 : Int32) (q0 : Int32), s_X5_projector_b91 a1 a2 a3 a4 a5 xx p6 p7 q0 = some r → ∀ (H : Heap) (locs : List Loc), va_P D vwCl (wM h ca xx) H → va_D A (wM h ca xx) → va_S A s.heap H locs → ∀ (ls : Array Slot), lv_has ls 9 [(0, .ref (h 0)), (1, .int (a1)), (2, .int (a2)), (3, .int (a3)), (4, .int (a4)), (5, .int (a5)), (6, .int (p6)), (7, .int (p7))] → W p l e (headSpec wsX5_projector ({ frames := 3, cells := 0, slots := 0, locals := 63 })).room s m #[.ref (h 0), .int (a1), .int (a2), .int (a3), .int (a4), .int (a5)] below meth c H locs 0 0 (MQ below (wQi r.1 D (wM h ca x) (wM h ca r.2) s.heap.size) #[.ref (h 0), .int (a1), .int (a2), .int (a3), .int (a4), .int (a5)] s 0 0 A) (F0 m 91 ls [.int (q0)]) := by
    intro xx p6 p7 q0 hs H locs hP hD hS ls hl
    unfold s_X5_projector_b91 at hs
    refine lv_istore (lv' := [(8, .int (q0)), (0, .ref (h 0)), (1, .int (a1)), (2, .int (a2)), (3, .int (a3)), (4, .int (a4)), (5, .int (a5)), (6, .int (p6)), (7, .int (p7))]) hx hb dX5_projector_91 hl (by decide) rfl (fun ls hl => ?_)
    refine lv_aload_n hx hb dX5_projector_93 rfl (lv_at hl 1 rfl) ?_
    refine lv_iload hx hb dX5_projector_94 (lv_at hl 7 rfl) ?_
    refine lv_if_ne (tgt := 103) hx hb dX5_projector_96 (by decide) (fun c_11 => ?_) (fun c_11 => ?_)
    · have hs := sp_f c_11 hs
      refine lv_iload hx hb dX5_projector_103 (lv_at hl 8 rfl) ?_
      refine lv_if_ne (tgt := 112) hx hb dX5_projector_105 (by decide) (fun c_12 => ?_) (fun c_12 => ?_)
      · have hs := sp_f c_12 hs
        refine lv_iload hx hb dX5_projector_112 (lv_at hl 0 rfl) ?_
        refine lv_if_eq (tgt := 121) hx hb dX5_projector_114 (by decide) (fun c_13 => ?_) (fun c_13 => ?_)
        · have hs := sp_t c_13 hs
          refine lv_iconst (v := 3) hx hb dX5_projector_121 (by decide) ?_
          exact b122  (xx) (3) hs H locs hP hD hS ls (lv_sub hl [1, 2, 3, 4, 5, 6] rfl)
        · have hs := sp_f c_13 hs
          refine lv_iconst (v := 0) hx hb dX5_projector_117 (by decide) ?_
          refine lv_goto (tgt := 122) hx hb dX5_projector_118 (by decide) ?_
          exact b122  (xx) (0) hs H locs hP hD hS ls (lv_sub hl [1, 2, 3, 4, 5, 6] rfl)
      · have hs := sp_t c_12 hs
        refine lv_iconst (v := 2) hx hb dX5_projector_108 (by decide) ?_
        refine lv_goto (tgt := 122) hx hb dX5_projector_109 (by decide) ?_
        exact b122  (xx) (2) hs H locs hP hD hS ls (lv_sub hl [1, 2, 3, 4, 5, 6] rfl)
    · have hs := sp_t c_11 hs
      refine lv_iconst (v := 1) hx hb dX5_projector_99 (by decide) ?_
      refine lv_goto (tgt := 122) hx hb dX5_projector_100 (by decide) ?_
      exact b122  (xx) (1) hs H locs hP hD hS ls (lv_sub hl [1, 2, 3, 4, 5, 6] rfl)
  have b44 : ∀ (xx : XS) (p6 : Int32) (q0 : Int32), s_X5_projector_b44 a1 a2 a3 a4 a5 xx p6 q0 = some r → ∀ (H : Heap) (locs : List Loc), va_P D vwCl (wM h ca xx) H → va_D A (wM h ca xx) → va_S A s.heap H locs → ∀ (ls : Array Slot), lv_has ls 9 [(0, .ref (h 0)), (1, .int (a1)), (2, .int (a2)), (3, .int (a3)), (4, .int (a4)), (5, .int (a5)), (6, .int (p6))] → W p l e (headSpec wsX5_projector ({ frames := 3, cells := 0, slots := 0, locals := 63 })).room s m #[.ref (h 0), .int (a1), .int (a2), .int (a3), .int (a4), .int (a5)] below meth c H locs 0 0 (MQ below (wQi r.1 D (wM h ca x) (wM h ca r.2) s.heap.size) #[.ref (h 0), .int (a1), .int (a2), .int (a3), .int (a4), .int (a5)] s 0 0 A) (F0 m 44 ls [.int (q0)]) := by
    intro xx p6 q0 hs H locs hP hD hS ls hl
    unfold s_X5_projector_b44 at hs
    refine lv_istore (lv' := [(7, .int (q0)), (0, .ref (h 0)), (1, .int (a1)), (2, .int (a2)), (3, .int (a3)), (4, .int (a4)), (5, .int (a5)), (6, .int (p6))]) hx hb dX5_projector_44 hl (by decide) rfl (fun ls hl => ?_)
    refine lv_iload hx hb dX5_projector_46 (lv_at hl 7 rfl) ?_
    refine lv_if_eq (tgt := 90) hx hb dX5_projector_48 (by decide) (fun c_14 => ?_) (fun c_14 => ?_)
    · have hs := sp_t c_14 hs
      refine lv_iconst (v := 0) hx hb dX5_projector_90 (by decide) ?_
      exact b91  (xx) (p6) (q0) (0) hs H locs hP hD hS ls (lv_sub hl [1, 2, 3, 4, 5, 6, 7, 0] rfl)
    · have hs := sp_f c_14 hs
      refine lv_aload_n hx hb dX5_projector_51 rfl (lv_at hl 1 rfl) ?_
      refine va_get (D := D) (ci := 5) (fs := fsM h (xx)) (v := .ref (h 4)) (C := RX5) (T := TX5) (N := 30) hx hb hts iX5 hown hK hP 0 rfl rfl 4 (by decide) (hts (.fieldLink RX5 19 "FacadeShowModel" "cells" "[I") (by decide +kernel)) (fun _ h9 => h9) rfl dX5_projector_52 ?_
      refine lv_iload_n hx hb dX5_projector_55 rfl (lv_at hl 2 rfl) ?_
      refine lv_iload_n hx hb dX5_projector_56 rfl (lv_at hl 3 rfl) ?_
      obtain ⟨v_15, h_15, hs⟩ := sp_b hs
      refine rd_i (va_runS (As := [.int (a1), .int (a2)]) (rest := [.ref (h 4)]) ⟨hx, hb, hml, hown, hts⟩ (c_X5_at l D ca a1 a2 h_15) (va_cwS 2 hts gX5_projector_X5_at rfl rfl rfl (by decide +kernel) ⟨Nat.le_of_ble_eq_true rfl, Nat.le_of_ble_eq_true rfl⟩) (rP_S va_P_nil hC) rfl rfl hl.1 rfl (lv_room (Nat.le_of_ble_eq_true rfl)) dX5_projector_57 ⟨Nat.zero_le _, Nat.zero_le _⟩) ?_
      obtain ⟨h_16, hs⟩ := sp_c hs
      refine va_iald (D := D) (cA := ca 0) (n := 192) (f := (xx).1 4) hx hb hK hP 4 0 rfl rfl h_16 dX5_projector_60 ?_
      refine lv_if_ne (tgt := 90) hx hb dX5_projector_61 (by decide) (fun c_17 => ?_) (fun c_17 => ?_)
      · have hs := sp_f c_17 hs
        refine lv_iconst (v := 0) hx hb dX5_projector_90 (by decide) ?_
        exact b91  (xx) (p6) (q0) (0) hs H locs hP hD hS ls (lv_sub hl [1, 2, 3, 4, 5, 6, 7, 0] rfl)
      · have hs := sp_t c_17 hs
        refine lv_aload_n hx hb dX5_projector_64 rfl (lv_at hl 1 rfl) ?_
        refine va_get (D := D) (ci := 5) (fs := fsM h (xx)) (v := .ref (h 5)) (C := RX5) (T := TX5) (N := 30) hx hb hts iX5 hown hK hP 0 rfl rfl 5 (by decide) (hts (.fieldLink RX5 22 "FacadeShowModel" "hasMast" "[Z") (by decide +kernel)) (fun _ h9 => h9) rfl dX5_projector_65 ?_
        refine lv_iload_n hx hb dX5_projector_68 rfl (lv_at hl 2 rfl) ?_
        refine lv_iload_n hx hb dX5_projector_69 rfl (lv_at hl 3 rfl) ?_
        obtain ⟨v_18, h_18, hs⟩ := sp_b hs
        refine rd_i (va_runS (As := [.int (a1), .int (a2)]) (rest := [.ref (h 5)]) ⟨hx, hb, hml, hown, hts⟩ (c_X5_at l D ca a1 a2 h_18) (va_cwS 2 hts gX5_projector_X5_at rfl rfl rfl (by decide +kernel) ⟨Nat.le_of_ble_eq_true rfl, Nat.le_of_ble_eq_true rfl⟩) (rP_S va_P_nil hC) rfl rfl hl.1 rfl (lv_room (Nat.le_of_ble_eq_true rfl)) dX5_projector_70 ⟨Nat.zero_le _, Nat.zero_le _⟩) ?_
        obtain ⟨h_19, hs⟩ := sp_c hs
        refine va_zald (D := D) (cA := ca 1) (n := 192) (f := (xx).1 5) hx hb hK hP 5 1 rfl rfl h_19 dX5_projector_73 ?_
        refine lv_if_ne (tgt := 90) hx hb dX5_projector_74 (by decide) (fun c_20 => ?_) (fun c_20 => ?_)
        · have hs := sp_f c_20 hs
          refine lv_iconst (v := 0) hx hb dX5_projector_90 (by decide) ?_
          exact b91  (xx) (p6) (q0) (0) hs H locs hP hD hS ls (lv_sub hl [1, 2, 3, 4, 5, 6, 7, 0] rfl)
        · have hs := sp_t c_20 hs
          refine lv_aload_n hx hb dX5_projector_77 rfl (lv_at hl 1 rfl) ?_
          refine va_get (D := D) (ci := 5) (fs := fsM h (xx)) (v := .int (xx.1 0 8)) (C := RX5) (T := TX5) (N := 30) hx hb hts iX5 hown hK hP 0 rfl rfl 8 (by decide) (hts (.fieldLink RX5 80 "FacadeShowModel" "projectors" "I") (by decide +kernel)) (fun _ h9 => h9) rfl dX5_projector_78 ?_
          refine lv_bipush (v := 10) hx hb dX5_projector_81 (by decide) ?_
          refine lv_icmp_ge (tgt := 90) hx hb dX5_projector_83 (by decide) (fun c_21 => ?_) (fun c_21 => ?_)
          · have hs := sp_t c_21 hs
            refine lv_iconst (v := 0) hx hb dX5_projector_90 (by decide) ?_
            exact b91  (xx) (p6) (q0) (0) hs H locs hP hD hS ls (lv_sub hl [1, 2, 3, 4, 5, 6, 7, 0] rfl)
          · have hs := sp_f c_21 hs
            refine lv_iconst (v := 1) hx hb dX5_projector_86 (by decide) ?_
            refine lv_goto (tgt := 91) hx hb dX5_projector_87 (by decide) ?_
            exact b91  (xx) (p6) (q0) (1) hs H locs hP hD hS ls (lv_sub hl [1, 2, 3, 4, 5, 6, 7, 0] rfl)
  unfold s_X5_projector at hs
  obtain ⟨H, hHe⟩ : ∃ H, H = s.heap := ⟨_, rfl⟩
  obtain ⟨locs, hle⟩ : ∃ z : List Loc, z = [] := ⟨_, rfl⟩
  have hP : va_P D vwCl (wM h ca x) H := by rw [hHe]; exact hP
  have hS : va_S A s.heap H locs := by rw [hHe, hle]; exact hS
  show W p l e (headSpec wsX5_projector ({ frames := 3, cells := 0, slots := 0, locals := 63 })).room s m #[.ref (h 0), .int (a1), .int (a2), .int (a3), .int (a4), .int (a5)] below meth c s.heap [] 0 0 _ _
  have hgo : W p l e (headSpec wsX5_projector ({ frames := 3, cells := 0, slots := 0, locals := 63 })).room s m #[.ref (h 0), .int (a1), .int (a2), .int (a3), .int (a4), .int (a5)] below meth c H locs 0 0 (MQ below (wQi r.1 D (wM h ca x) (wM h ca r.2) s.heap.size) #[.ref (h 0), .int (a1), .int (a2), .int (a3), .int (a4), .int (a5)] s 0 0 A) (F0 m 0 ls []) := by
    refine lv_iload_n hx hb dX5_projector_0 rfl (lv_at hl 1 rfl) ?_
    refine lv_iload_n hx hb dX5_projector_1 rfl (lv_at hl 2 rfl) ?_
    obtain ⟨v_22, h_22, hs⟩ := sp_b hs
    refine rd_i (va_runS (As := [.int (a1), .int (a2)]) (rest := []) ⟨hx, hb, hml, hown, hts⟩ (c_X5_isCell l D ca a1 a2 h_22) (va_cwS 2 hts gX5_projector_X5_isCell rfl rfl rfl (by decide +kernel) ⟨Nat.le_of_ble_eq_true rfl, Nat.le_of_ble_eq_true rfl⟩) (rP_S va_P_nil hC) rfl rfl hl.1 rfl (lv_room (Nat.le_of_ble_eq_true rfl)) dX5_projector_2 ⟨Nat.zero_le _, Nat.zero_le _⟩) ?_
    refine lv_istore (lv' := [(6, .int (v_22)), (0, .ref (h 0)), (1, .int (a1)), (2, .int (a2)), (3, .int (a3)), (4, .int (a4)), (5, .int (a5))]) hx hb dX5_projector_5 hl (by decide) rfl (fun ls hl => ?_)
    refine lv_iload_n hx hb dX5_projector_7 rfl (lv_at hl 4 rfl) ?_
    refine lv_iconst (v := 1) hx hb dX5_projector_8 (by decide) ?_
    refine lv_sipush (v := 9999) hx hb dX5_projector_9 (by decide) ?_
    obtain ⟨v_23, h_23, hs⟩ := sp_b hs
    refine rd_i (va_runS (As := [.int (a3), .int (1), .int (9999)]) (rest := []) ⟨hx, hb, hml, hown, hts⟩ (c_X5_in l D ca a3 1 9999 h_23) (va_cwS 3 hts gX5_projector_X5_in rfl rfl rfl (by decide +kernel) ⟨Nat.le_of_ble_eq_true rfl, Nat.le_of_ble_eq_true rfl⟩) (rP_S va_P_nil hC) rfl rfl hl.1 rfl (lv_room (Nat.le_of_ble_eq_true rfl)) dX5_projector_12 ⟨Nat.zero_le _, Nat.zero_le _⟩) ?_
    refine lv_if_eq (tgt := 43) hx hb dX5_projector_15 (by decide) (fun c_24 => ?_) (fun c_24 => ?_)
    · have hs := sp_t c_24 hs
      refine lv_iconst (v := 0) hx hb dX5_projector_43 (by decide) ?_
      exact b44  (x) (v_22) (0) hs H locs hP hD hS ls (lv_sub hl [1, 2, 3, 4, 5, 6, 0] rfl)
    · have hs := sp_f c_24 hs
      refine lv_iload hx hb dX5_projector_18 (lv_at hl 5 rfl) ?_
      refine lv_iconst (v := 0) hx hb dX5_projector_20 (by decide) ?_
      refine lv_iconst (v := 2) hx hb dX5_projector_21 (by decide) ?_
      obtain ⟨v_25, h_25, hs⟩ := sp_b hs
      refine rd_i (va_runS (As := [.int (a4), .int (0), .int (2)]) (rest := []) ⟨hx, hb, hml, hown, hts⟩ (c_X5_in l D ca a4 0 2 h_25) (va_cwS 3 hts gX5_projector_X5_in rfl rfl rfl (by decide +kernel) ⟨Nat.le_of_ble_eq_true rfl, Nat.le_of_ble_eq_true rfl⟩) (rP_S va_P_nil hC) rfl rfl hl.1 rfl (lv_room (Nat.le_of_ble_eq_true rfl)) dX5_projector_22 ⟨Nat.zero_le _, Nat.zero_le _⟩) ?_
      refine lv_if_eq (tgt := 43) hx hb dX5_projector_25 (by decide) (fun c_26 => ?_) (fun c_26 => ?_)
      · have hs := sp_t c_26 hs
        refine lv_iconst (v := 0) hx hb dX5_projector_43 (by decide) ?_
        exact b44  (x) (v_22) (0) hs H locs hP hD hS ls (lv_sub hl [1, 2, 3, 4, 5, 6, 0] rfl)
      · have hs := sp_f c_26 hs
        refine lv_iload hx hb dX5_projector_28 (lv_at hl 6 rfl) ?_
        refine lv_iconst (v := 1) hx hb dX5_projector_30 (by decide) ?_
        refine lv_bipush (v := 11) hx hb dX5_projector_31 (by decide) ?_
        obtain ⟨v_27, h_27, hs⟩ := sp_b hs
        refine rd_i (va_runS (As := [.int (a5), .int (1), .int (11)]) (rest := []) ⟨hx, hb, hml, hown, hts⟩ (c_X5_in l D ca a5 1 11 h_27) (va_cwS 3 hts gX5_projector_X5_in rfl rfl rfl (by decide +kernel) ⟨Nat.le_of_ble_eq_true rfl, Nat.le_of_ble_eq_true rfl⟩) (rP_S va_P_nil hC) rfl rfl hl.1 rfl (lv_room (Nat.le_of_ble_eq_true rfl)) dX5_projector_33 ⟨Nat.zero_le _, Nat.zero_le _⟩) ?_
        refine lv_if_eq (tgt := 43) hx hb dX5_projector_36 (by decide) (fun c_28 => ?_) (fun c_28 => ?_)
        · have hs := sp_t c_28 hs
          refine lv_iconst (v := 0) hx hb dX5_projector_43 (by decide) ?_
          exact b44  (x) (v_22) (0) hs H locs hP hD hS ls (lv_sub hl [1, 2, 3, 4, 5, 6, 0] rfl)
        · have hs := sp_f c_28 hs
          refine lv_iconst (v := 1) hx hb dX5_projector_39 (by decide) ?_
          refine lv_goto (tgt := 44) hx hb dX5_projector_40 (by decide) ?_
          exact b44  (x) (v_22) (1) hs H locs hP hD hS ls (lv_sub hl [1, 2, 3, 4, 5, 6, 0] rfl)
  rw [hHe, hle] at hgo
  exact hgo
def s_X5_aim_b56 (a1 : Int32) (a2 : Int32) (a3 : Int32) (xx : XS) (q0 : Int32) : Option XS := (s_X5_goesWell xx q0).bind fun v_1 => (if v_1.1 = 0 then some (v_1.2) else chk 10 a1 (chk 10 a1 (some (si (si (v_1.2) 11 a1.toNatClampNeg a2) 12 a1.toNatClampNeg a3))))
def s_X5_aim_b27 (a1 : Int32) (a2 : Int32) (a3 : Int32) (xx : XS) (q0 : Int32) : Option XS := (if q0 = 0 then s_X5_aim_b56 a1 a2 a3  (xx) (1) else (s_X5_in a3 a2 (a2 + 7)).bind fun v_6 => (if v_6 = 0 then s_X5_aim_b56 a1 a2 a3  (xx) (2) else s_X5_aim_b56 a1 a2 a3  (xx) (0)))
def s_X5_aim (x : XS) (a1 : Int32) (a2 : Int32) (a3 : Int32) : Option XS := (s_X5_isProjector x a1).bind fun v_8 => (if v_8 = 0 then s_X5_aim_b27 a1 a2 a3  (x) (0) else (s_X5_isColumn a2).bind fun v_10 => (if v_10 = 0 then s_X5_aim_b27 a1 a2 a3  (x) (0) else (s_X5_isColumn a3).bind fun v_12 => (if v_12 = 0 then s_X5_aim_b27 a1 a2 a3  (x) (0) else s_X5_aim_b27 a1 a2 a3  (x) (1))))
set_option maxHeartbeats 4000000 in
set_option maxRecDepth 100000 in
theorem c_X5_aim (l : Launch) (D : va_G) (ca : Nat → ClassId) (h : Nat → Nat) (x : XS) (a1 : Int32) (a2 : Int32) (a3 : Int32) {r : XS} (hs : s_X5_aim x a1 a2 a3 = some r) (sz : Nat) : Met l yX5_aim wsX5_aim ({ frames := 2, cells := 0, slots := 0, locals := 43 }) (wP [.ref (h 0), .int (a1), .int (a2), .int (a3)] D ca (wM h ca x) sz) (wQv D (wM h ca x) (wM h ca r) sz) 0 0 (va_A (wM h ca x) sz) := by
  refine Met.ofW (cc := cX5_aim) (maxL := 5) (ret := none) (by decide) rfl ?_
  intro p e s m args below meth c s₁ B hml hv
  obtain ⟨rfl, hsz, hP, hC, hD0⟩ := hv
  have hx := B.exec
  have hb := B.bytes
  have hr := B.returns
  have hts := atoms_spec (ws := wsX5_aim) B.pre
  have hown : s.vm.findClass RX5 = some m.cls := findClass_of_methodNamed B.named
  have hlocks := B.notSynchronized
  have hK := hC.1
  subst hsz
  have hD := hD0.self (sz := s.heap.size)
  generalize hAe : va_A (wM h ca x) s.heap.size = A at hD ⊢
  have hA : ∀ q : Nat, s.heap.size ≤ q → A q := fun q h => by rw [← hAe]; exact Or.inr h
  have hS : va_S A s.heap s.heap [] := va_S.rf
  skip
  have iX5 : ∀ w ∈ u_ws RX5 TX5 30, w ∈ wsX5_aim := by decide +kernel
  have hl := lv_entry ([.ref (h 0), .int (a1), .int (a2), .int (a3)]) (n := 5) (Nat.le_of_ble_eq_true rfl)
  rw [lg_entry_eq]
  generalize (lg_sl ([.ref (h 0), .int (a1), .int (a2), .int (a3)]) ++ List.replicate (5 - (lg_sl ([.ref (h 0), .int (a1), .int (a2), .int (a3)])).length) Slot.unset).toArray = ls at hl ⊢
  have hl : lv_has ls 5 [(0, .ref (h 0)), (1, .int (a1)), (2, .int (a2)), (3, .int (a3))] := hl
  have b56 : ∀ (xx : XS) (q0 : Int32), s_X5_aim_b56 a1 a2 a3 xx q0 = some r → ∀ (H : Heap) (locs : List Loc), va_P D vwCl (wM h ca xx) H → va_D A (wM h ca xx) → va_S A s.heap H locs → ∀ (ls : Array Slot), lv_has ls 5 [(0, .ref (h 0)), (1, .int (a1)), (2, .int (a2)), (3, .int (a3))] → W p l e (headSpec wsX5_aim ({ frames := 2, cells := 0, slots := 0, locals := 43 })).room s m #[.ref (h 0), .int (a1), .int (a2), .int (a3)] below meth c H locs 0 0 (MQ below (wQv D (wM h ca x) (wM h ca r) s.heap.size) #[.ref (h 0), .int (a1), .int (a2), .int (a3)] s 0 0 A) (F0 m 56 ls [.int (q0), .ref (h 0)]) := by
    intro xx q0 hs H locs hP hD hS ls hl
    unfold s_X5_aim_b56 at hs
    obtain ⟨v_1, h_1, hs⟩ := sp_b hs
    refine wr_i (va_runV (As := [.int (q0)]) (rest := []) ⟨hx, hb, hml, hown, hts⟩ (c_X5_goesWell l D ca h xx q0 h_1 H.size) (cwV 1 hts gX5_aim_X5_goesWell rfl rfl rfl (by decide +kernel) ⟨Nat.le_of_ble_eq_true rfl, Nat.le_of_ble_eq_true rfl⟩) (wP_V (q := (RX5, TX5, 30)) hP hC hD 0 rfl rfl) rfl rfl hl.1 rfl (lv_room (Nat.le_of_ble_eq_true rfl)) dX5_aim_56 ⟨Nat.zero_le _, Nat.zero_le _⟩) hD hS hA (fun H locs hP hD hS => ?_)
    refine lv_if_eq (tgt := 76) hx hb dX5_aim_59 (by decide) (fun c_2 => ?_) (fun c_2 => ?_)
    · have hs := sp_t c_2 hs
      exact wt_v (f := wM h ca) hx hb hr hAe hs hP hD hS dX5_aim_76 hlocks
    · have hs := sp_f c_2 hs
      refine lv_aload_n hx hb dX5_aim_62 rfl (lv_at hl 0 rfl) ?_
      refine va_get (D := D) (ci := 5) (fs := fsM h (v_1.2)) (v := .ref (h 11)) (C := RX5) (T := TX5) (N := 30) hx hb hts iX5 hown hK hP 0 rfl rfl 14 (by decide) (hts (.fieldLink RX5 45 "FacadeShowModel" "first" "[I") (by decide +kernel)) (fun _ h9 => h9) rfl dX5_aim_63 ?_
      refine lv_iload_n hx hb dX5_aim_66 rfl (lv_at hl 1 rfl) ?_
      refine lv_iload_n hx hb dX5_aim_67 rfl (lv_at hl 2 rfl) ?_
      obtain ⟨h_3, hs⟩ := sp_c hs
      refine va_iast (D := D) (cA := ca 0) (n := 10) (f := (v_1.2).1 11) hx hb hK hP hD hS 11 0 rfl rfl h_3 dX5_aim_68 (fun H locs hP hD hS => ?_)
      rw [wM_a11] at hP hD
      refine lv_aload_n hx hb dX5_aim_69 rfl (lv_at hl 0 rfl) ?_
      refine va_get (D := D) (ci := 5) (fs := fsM h (si (v_1.2) 11 a1.toNatClampNeg a2)) (v := .ref (h 12)) (C := RX5) (T := TX5) (N := 30) hx hb hts iX5 hown hK hP 0 rfl rfl 15 (by decide) (hts (.fieldLink RX5 48 "FacadeShowModel" "last" "[I") (by decide +kernel)) (fun _ h9 => h9) rfl dX5_aim_70 ?_
      refine lv_iload_n hx hb dX5_aim_73 rfl (lv_at hl 1 rfl) ?_
      refine lv_iload_n hx hb dX5_aim_74 rfl (lv_at hl 3 rfl) ?_
      obtain ⟨h_4, hs⟩ := sp_c hs
      refine va_iast (D := D) (cA := ca 0) (n := 10) (f := (si (v_1.2) 11 a1.toNatClampNeg a2).1 12) hx hb hK hP hD hS 12 0 rfl rfl h_4 dX5_aim_75 (fun H locs hP hD hS => ?_)
      rw [wM_a12] at hP hD
      exact wt_v (f := wM h ca) hx hb hr hAe hs hP hD hS dX5_aim_76 hlocks
  have b27 : ∀ (xx : XS) (q0 : Int32), s_X5_aim_b27 a1 a2 a3 xx q0 = some r → ∀ (H : Heap) (locs : List Loc), va_P D vwCl (wM h ca xx) H → va_D A (wM h ca xx) → va_S A s.heap H locs → ∀ (ls : Array Slot), lv_has ls 5 [(0, .ref (h 0)), (1, .int (a1)), (2, .int (a2)), (3, .int (a3))] → W p l e (headSpec wsX5_aim ({ frames := 2, cells := 0, slots := 0, locals := 43 })).room s m #[.ref (h 0), .int (a1), .int (a2), .int (a3)] below meth c H locs 0 0 (MQ below (wQv D (wM h ca x) (wM h ca r) s.heap.size) #[.ref (h 0), .int (a1), .int (a2), .int (a3)] s 0 0 A) (F0 m 27 ls [.int (q0)]) := by
    intro xx q0 hs H locs hP hD hS ls hl
    unfold s_X5_aim_b27 at hs
    refine lv_istore (lv' := [(4, .int (q0)), (0, .ref (h 0)), (1, .int (a1)), (2, .int (a2)), (3, .int (a3))]) hx hb dX5_aim_27 hl (by decide) rfl (fun ls hl => ?_)
    refine lv_aload_n hx hb dX5_aim_29 rfl (lv_at hl 1 rfl) ?_
    refine lv_iload hx hb dX5_aim_30 (lv_at hl 0 rfl) ?_
    refine lv_if_ne (tgt := 39) hx hb dX5_aim_32 (by decide) (fun c_5 => ?_) (fun c_5 => ?_)
    · have hs := sp_f c_5 hs
      refine lv_iload_n hx hb dX5_aim_39 rfl (lv_at hl 4 rfl) ?_
      refine lv_iload_n hx hb dX5_aim_40 rfl (lv_at hl 3 rfl) ?_
      refine lv_iload_n hx hb dX5_aim_41 rfl (lv_at hl 3 rfl) ?_
      refine lv_bipush (v := 7) hx hb dX5_aim_42 (by decide) ?_
      refine lv_iadd hx hb dX5_aim_44 ?_
      obtain ⟨v_6, h_6, hs⟩ := sp_b hs
      refine rd_i (va_runS (As := [.int (a3), .int (a2), .int (a2 + 7)]) (rest := [.ref (h 0)]) ⟨hx, hb, hml, hown, hts⟩ (c_X5_in l D ca a3 a2 (a2 + 7) h_6) (va_cwS 3 hts gX5_aim_X5_in rfl rfl rfl (by decide +kernel) ⟨Nat.le_of_ble_eq_true rfl, Nat.le_of_ble_eq_true rfl⟩) (rP_S va_P_nil hC) rfl rfl hl.1 rfl (lv_room (Nat.le_of_ble_eq_true rfl)) dX5_aim_45 ⟨Nat.zero_le _, Nat.zero_le _⟩) ?_
      refine lv_if_eq (tgt := 55) hx hb dX5_aim_48 (by decide) (fun c_7 => ?_) (fun c_7 => ?_)
      · have hs := sp_t c_7 hs
        refine lv_iconst (v := 2) hx hb dX5_aim_55 (by decide) ?_
        exact b56  (xx) (2) hs H locs hP hD hS ls (lv_sub hl [1, 2, 3, 4] rfl)
      · have hs := sp_f c_7 hs
        refine lv_iconst (v := 0) hx hb dX5_aim_51 (by decide) ?_
        refine lv_goto (tgt := 56) hx hb dX5_aim_52 (by decide) ?_
        exact b56  (xx) (0) hs H locs hP hD hS ls (lv_sub hl [1, 2, 3, 4] rfl)
    · have hs := sp_t c_5 hs
      refine lv_iconst (v := 1) hx hb dX5_aim_35 (by decide) ?_
      refine lv_goto (tgt := 56) hx hb dX5_aim_36 (by decide) ?_
      exact b56  (xx) (1) hs H locs hP hD hS ls (lv_sub hl [1, 2, 3, 4] rfl)
  unfold s_X5_aim at hs
  obtain ⟨H, hHe⟩ : ∃ H, H = s.heap := ⟨_, rfl⟩
  obtain ⟨locs, hle⟩ : ∃ z : List Loc, z = [] := ⟨_, rfl⟩
  have hP : va_P D vwCl (wM h ca x) H := by rw [hHe]; exact hP
  have hS : va_S A s.heap H locs := by rw [hHe, hle]; exact hS
  show W p l e (headSpec wsX5_aim ({ frames := 2, cells := 0, slots := 0, locals := 43 })).room s m #[.ref (h 0), .int (a1), .int (a2), .int (a3)] below meth c s.heap [] 0 0 _ _
  have hgo : W p l e (headSpec wsX5_aim ({ frames := 2, cells := 0, slots := 0, locals := 43 })).room s m #[.ref (h 0), .int (a1), .int (a2), .int (a3)] below meth c H locs 0 0 (MQ below (wQv D (wM h ca x) (wM h ca r) s.heap.size) #[.ref (h 0), .int (a1), .int (a2), .int (a3)] s 0 0 A) (F0 m 0 ls []) := by
    refine lv_aload_n hx hb dX5_aim_0 rfl (lv_at hl 0 rfl) ?_
    refine lv_iload_n hx hb dX5_aim_1 rfl (lv_at hl 1 rfl) ?_
    obtain ⟨v_8, h_8, hs⟩ := sp_b hs
    refine rd_i (va_runV (As := [.int (a1)]) (rest := []) ⟨hx, hb, hml, hown, hts⟩ (c_X5_isProjector l D ca h x a1 h_8) (cwV 1 hts gX5_aim_X5_isProjector rfl rfl rfl (by decide +kernel) ⟨Nat.le_of_ble_eq_true rfl, Nat.le_of_ble_eq_true rfl⟩) (rP_V (q := (RX5, TX5, 30)) hP hC 0 rfl rfl) rfl rfl hl.1 rfl (lv_room (Nat.le_of_ble_eq_true rfl)) dX5_aim_2 ⟨Nat.zero_le _, Nat.zero_le _⟩) ?_
    refine lv_if_eq (tgt := 26) hx hb dX5_aim_5 (by decide) (fun c_9 => ?_) (fun c_9 => ?_)
    · have hs := sp_t c_9 hs
      refine lv_iconst (v := 0) hx hb dX5_aim_26 (by decide) ?_
      exact b27  (x) (0) hs H locs hP hD hS ls (lv_sub hl [0, 1, 2, 3] rfl)
    · have hs := sp_f c_9 hs
      refine lv_iload_n hx hb dX5_aim_8 rfl (lv_at hl 2 rfl) ?_
      obtain ⟨v_10, h_10, hs⟩ := sp_b hs
      refine rd_i (va_runS (As := [.int (a2)]) (rest := []) ⟨hx, hb, hml, hown, hts⟩ (c_X5_isColumn l D ca a2 h_10) (va_cwS 1 hts gX5_aim_X5_isColumn rfl rfl rfl (by decide +kernel) ⟨Nat.le_of_ble_eq_true rfl, Nat.le_of_ble_eq_true rfl⟩) (rP_S va_P_nil hC) rfl rfl hl.1 rfl (lv_room (Nat.le_of_ble_eq_true rfl)) dX5_aim_9 ⟨Nat.zero_le _, Nat.zero_le _⟩) ?_
      refine lv_if_eq (tgt := 26) hx hb dX5_aim_12 (by decide) (fun c_11 => ?_) (fun c_11 => ?_)
      · have hs := sp_t c_11 hs
        refine lv_iconst (v := 0) hx hb dX5_aim_26 (by decide) ?_
        exact b27  (x) (0) hs H locs hP hD hS ls (lv_sub hl [0, 1, 2, 3] rfl)
      · have hs := sp_f c_11 hs
        refine lv_iload_n hx hb dX5_aim_15 rfl (lv_at hl 3 rfl) ?_
        obtain ⟨v_12, h_12, hs⟩ := sp_b hs
        refine rd_i (va_runS (As := [.int (a3)]) (rest := []) ⟨hx, hb, hml, hown, hts⟩ (c_X5_isColumn l D ca a3 h_12) (va_cwS 1 hts gX5_aim_X5_isColumn rfl rfl rfl (by decide +kernel) ⟨Nat.le_of_ble_eq_true rfl, Nat.le_of_ble_eq_true rfl⟩) (rP_S va_P_nil hC) rfl rfl hl.1 rfl (lv_room (Nat.le_of_ble_eq_true rfl)) dX5_aim_16 ⟨Nat.zero_le _, Nat.zero_le _⟩) ?_
        refine lv_if_eq (tgt := 26) hx hb dX5_aim_19 (by decide) (fun c_13 => ?_) (fun c_13 => ?_)
        · have hs := sp_t c_13 hs
          refine lv_iconst (v := 0) hx hb dX5_aim_26 (by decide) ?_
          exact b27  (x) (0) hs H locs hP hD hS ls (lv_sub hl [0, 1, 2, 3] rfl)
        · have hs := sp_f c_13 hs
          refine lv_iconst (v := 1) hx hb dX5_aim_22 (by decide) ?_
          refine lv_goto (tgt := 27) hx hb dX5_aim_23 (by decide) ?_
          exact b27  (x) (1) hs H locs hP hD hS ls (lv_sub hl [0, 1, 2, 3] rfl)
  rw [hHe, hle] at hgo
  exact hgo
def s_X5_turn_b80 (a1 : Int32) (a2 : Int32) (xx : XS) (q0 : Int32) : Option (Int32 × XS) := (s_X5_goesWell xx q0).bind fun v_1 => (if v_1.1 = 0 then some (0, v_1.2) else chk 10 a1 (chk 10 a1 (zb a2 (zb (v_1.2.1 13 a1.toNatClampNeg) (some (v_1.2.1 13 a1.toNatClampNeg, si (v_1.2) 13 a1.toNatClampNeg a2))))))
def s_X5_turn_b59 (a1 : Int32) (a2 : Int32) (xx : XS) (p3 : Int32) (q0 : Int32) : Option (Int32 × XS) := (if p3 = 0 then s_X5_turn_b80 a1 a2  (xx) (1) else (if q0 = 0 then s_X5_turn_b80 a1 a2  (xx) (2) else s_X5_turn_b80 a1 a2  (xx) (0)))
def s_X5_turn (x : XS) (a1 : Int32) (a2 : Int32) : Option (Int32 × XS) := (s_X5_isProjector x a1).bind fun v_9 => (if v_9 = 0 then s_X5_turn_b59 a1 a2  (x) (v_9) (0) else (if a2 = 0 then s_X5_turn_b59 a1 a2  (x) (v_9) (1) else chk 10 a1 ((if (x.1 13 a1.toNatClampNeg) = 0 then chk 10 a1 ((s_X5_borne x (x.1 9 a1.toNatClampNeg)).bind fun v_15 => chk 10 a1 (chk 10 a1 (chk 3 (x.1 9 a1.toNatClampNeg) ((if (x.1 16 (x.1 9 a1.toNatClampNeg).toNatClampNeg) < (v_15 + (x.1 8 a1.toNatClampNeg)) then s_X5_turn_b59 a1 a2  (x) (v_9) (0) else s_X5_turn_b59 a1 a2  (x) (v_9) (1)))))) else s_X5_turn_b59 a1 a2  (x) (v_9) (1)))))
set_option maxHeartbeats 4000000 in
set_option maxRecDepth 100000 in
theorem c_X5_turn (l : Launch) (D : va_G) (ca : Nat → ClassId) (h : Nat → Nat) (x : XS) (a1 : Int32) (a2 : Int32) {r : (Int32 × XS)} (hs : s_X5_turn x a1 a2 = some r) (sz : Nat) : Met l yX5_turn wsX5_turn ({ frames := 2, cells := 0, slots := 0, locals := 43 }) (wP [.ref (h 0), .int (a1), .int (a2)] D ca (wM h ca x) sz) (wQi r.1 D (wM h ca x) (wM h ca r.2) sz) 0 0 (va_A (wM h ca x) sz) := by
  refine Met.ofW (cc := cX5_turn) (maxL := 6) (ret := (some .boolean)) (by decide) rfl ?_
  intro p e s m args below meth c s₁ B hml hv
  obtain ⟨rfl, hsz, hP, hC, hD0⟩ := hv
  have hx := B.exec
  have hb := B.bytes
  have hr := B.returns
  have hts := atoms_spec (ws := wsX5_turn) B.pre
  have hown : s.vm.findClass RX5 = some m.cls := findClass_of_methodNamed B.named
  have hlocks := B.notSynchronized
  have hK := hC.1
  subst hsz
  have hD := hD0.self (sz := s.heap.size)
  generalize hAe : va_A (wM h ca x) s.heap.size = A at hD ⊢
  have hA : ∀ q : Nat, s.heap.size ≤ q → A q := fun q h => by rw [← hAe]; exact Or.inr h
  have hS : va_S A s.heap s.heap [] := va_S.rf
  skip
  have iX5 : ∀ w ∈ u_ws RX5 TX5 30, w ∈ wsX5_turn := by decide +kernel
  have hl := lv_entry ([.ref (h 0), .int (a1), .int (a2)]) (n := 6) (Nat.le_of_ble_eq_true rfl)
  rw [lg_entry_eq]
  generalize (lg_sl ([.ref (h 0), .int (a1), .int (a2)]) ++ List.replicate (6 - (lg_sl ([.ref (h 0), .int (a1), .int (a2)])).length) Slot.unset).toArray = ls at hl ⊢
  have hl : lv_has ls 6 [(0, .ref (h 0)), (1, .int (a1)), (2, .int (a2))] := hl
  have b80 : ∀ (xx : XS) (q0 : Int32), s_X5_turn_b80 a1 a2 xx q0 = some r → ∀ (H : Heap) (locs : List Loc), va_P D vwCl (wM h ca xx) H → va_D A (wM h ca xx) → va_S A s.heap H locs → ∀ (ls : Array Slot), lv_has ls 6 [(0, .ref (h 0)), (1, .int (a1)), (2, .int (a2))] → W p l e (headSpec wsX5_turn ({ frames := 2, cells := 0, slots := 0, locals := 43 })).room s m #[.ref (h 0), .int (a1), .int (a2)] below meth c H locs 0 0 (MQ below (wQi r.1 D (wM h ca x) (wM h ca r.2) s.heap.size) #[.ref (h 0), .int (a1), .int (a2)] s 0 0 A) (F0 m 80 ls [.int (q0), .ref (h 0)]) := by
    intro xx q0 hs H locs hP hD hS ls hl
    unfold s_X5_turn_b80 at hs
    obtain ⟨v_1, h_1, hs⟩ := sp_b hs
    refine wr_i (va_runV (As := [.int (q0)]) (rest := []) ⟨hx, hb, hml, hown, hts⟩ (c_X5_goesWell l D ca h xx q0 h_1 H.size) (cwV 1 hts gX5_turn_X5_goesWell rfl rfl rfl (by decide +kernel) ⟨Nat.le_of_ble_eq_true rfl, Nat.le_of_ble_eq_true rfl⟩) (wP_V (q := (RX5, TX5, 30)) hP hC hD 0 rfl rfl) rfl rfl hl.1 rfl (lv_room (Nat.le_of_ble_eq_true rfl)) dX5_turn_80 ⟨Nat.zero_le _, Nat.zero_le _⟩) hD hS hA (fun H locs hP hD hS => ?_)
    refine lv_if_ne (tgt := 88) hx hb dX5_turn_83 (by decide) (fun c_2 => ?_) (fun c_2 => ?_)
    · have hs := sp_f c_2 hs
      refine lv_aload_n hx hb dX5_turn_88 rfl (lv_at hl 0 rfl) ?_
      refine va_get (D := D) (ci := 5) (fs := fsM h (v_1.2)) (v := .ref (h 13)) (C := RX5) (T := TX5) (N := 30) hx hb hts iX5 hown hK hP 0 rfl rfl 16 (by decide) (hts (.fieldLink RX5 51 "FacadeShowModel" "isOn" "[Z") (by decide +kernel)) (fun _ h9 => h9) rfl dX5_turn_89 ?_
      refine lv_iload_n hx hb dX5_turn_92 rfl (lv_at hl 1 rfl) ?_
      obtain ⟨h_3, hs⟩ := sp_c hs
      refine va_zald (D := D) (cA := ca 1) (n := 10) (f := (v_1.2).1 13) hx hb hK hP 13 1 rfl rfl h_3 dX5_turn_93 ?_
      refine lv_istore (lv' := [(5, .int (v_1.2.1 13 a1.toNatClampNeg)), (0, .ref (h 0)), (1, .int (a1)), (2, .int (a2))]) hx hb dX5_turn_94 hl (by decide) rfl (fun ls hl => ?_)
      refine lv_aload_n hx hb dX5_turn_96 rfl (lv_at hl 1 rfl) ?_
      refine va_get (D := D) (ci := 5) (fs := fsM h (v_1.2)) (v := .ref (h 13)) (C := RX5) (T := TX5) (N := 30) hx hb hts iX5 hown hK hP 0 rfl rfl 16 (by decide) (hts (.fieldLink RX5 51 "FacadeShowModel" "isOn" "[Z") (by decide +kernel)) (fun _ h9 => h9) rfl dX5_turn_97 ?_
      refine lv_iload_n hx hb dX5_turn_100 rfl (lv_at hl 2 rfl) ?_
      refine lv_iload_n hx hb dX5_turn_101 rfl (lv_at hl 3 rfl) ?_
      obtain ⟨h_4, hs⟩ := sp_c hs
      obtain ⟨h_5, hs⟩ := sp_z hs
      refine va_zast (D := D) (cA := ca 1) (n := 10) (f := (v_1.2).1 13) hx hb hK hP hD hS 13 1 rfl rfl h_4 dX5_turn_102 (fun H locs hP hD hS => ?_)
      rw [nar_b h_5] at hP hD
      rw [wM_a13] at hP hD
      refine lv_iload hx hb dX5_turn_103 (lv_at hl 0 rfl) ?_
      obtain ⟨h_6, hs⟩ := sp_z hs
      exact wt_z (f := wM h ca) hx hb hr hAe h_6 hs hP hD hS dX5_turn_105 hlocks
    · have hs := sp_t c_2 hs
      refine lv_iconst (v := 0) hx hb dX5_turn_86 (by decide) ?_
      exact wt_z (f := wM h ca) hx hb hr hAe (by decide) hs hP hD hS dX5_turn_87 hlocks
  have b59 : ∀ (xx : XS) (p3 : Int32) (q0 : Int32), s_X5_turn_b59 a1 a2 xx p3 q0 = some r → ∀ (H : Heap) (locs : List Loc), va_P D vwCl (wM h ca xx) H → va_D A (wM h ca xx) → va_S A s.heap H locs → ∀ (ls : Array Slot), lv_has ls 6 [(0, .ref (h 0)), (1, .int (a1)), (2, .int (a2)), (3, .int (p3))] → W p l e (headSpec wsX5_turn ({ frames := 2, cells := 0, slots := 0, locals := 43 })).room s m #[.ref (h 0), .int (a1), .int (a2)] below meth c H locs 0 0 (MQ below (wQi r.1 D (wM h ca x) (wM h ca r.2) s.heap.size) #[.ref (h 0), .int (a1), .int (a2)] s 0 0 A) (F0 m 59 ls [.int (q0)]) := by
    intro xx p3 q0 hs H locs hP hD hS ls hl
    unfold s_X5_turn_b59 at hs
    refine lv_istore (lv' := [(4, .int (q0)), (0, .ref (h 0)), (1, .int (a1)), (2, .int (a2)), (3, .int (p3))]) hx hb dX5_turn_59 hl (by decide) rfl (fun ls hl => ?_)
    refine lv_aload_n hx hb dX5_turn_61 rfl (lv_at hl 1 rfl) ?_
    refine lv_iload_n hx hb dX5_turn_62 rfl (lv_at hl 4 rfl) ?_
    refine lv_if_ne (tgt := 70) hx hb dX5_turn_63 (by decide) (fun c_7 => ?_) (fun c_7 => ?_)
    · have hs := sp_f c_7 hs
      refine lv_iload hx hb dX5_turn_70 (lv_at hl 0 rfl) ?_
      refine lv_if_eq (tgt := 79) hx hb dX5_turn_72 (by decide) (fun c_8 => ?_) (fun c_8 => ?_)
      · have hs := sp_t c_8 hs
        refine lv_iconst (v := 2) hx hb dX5_turn_79 (by decide) ?_
        exact b80  (xx) (2) hs H locs hP hD hS ls (lv_sub hl [1, 2, 3] rfl)
      · have hs := sp_f c_8 hs
        refine lv_iconst (v := 0) hx hb dX5_turn_75 (by decide) ?_
        refine lv_goto (tgt := 80) hx hb dX5_turn_76 (by decide) ?_
        exact b80  (xx) (0) hs H locs hP hD hS ls (lv_sub hl [1, 2, 3] rfl)
    · have hs := sp_t c_7 hs
      refine lv_iconst (v := 1) hx hb dX5_turn_66 (by decide) ?_
      refine lv_goto (tgt := 80) hx hb dX5_turn_67 (by decide) ?_
      exact b80  (xx) (1) hs H locs hP hD hS ls (lv_sub hl [1, 2, 3] rfl)
  unfold s_X5_turn at hs
  obtain ⟨H, hHe⟩ : ∃ H, H = s.heap := ⟨_, rfl⟩
  obtain ⟨locs, hle⟩ : ∃ z : List Loc, z = [] := ⟨_, rfl⟩
  have hP : va_P D vwCl (wM h ca x) H := by rw [hHe]; exact hP
  have hS : va_S A s.heap H locs := by rw [hHe, hle]; exact hS
  show W p l e (headSpec wsX5_turn ({ frames := 2, cells := 0, slots := 0, locals := 43 })).room s m #[.ref (h 0), .int (a1), .int (a2)] below meth c s.heap [] 0 0 _ _
  have hgo : W p l e (headSpec wsX5_turn ({ frames := 2, cells := 0, slots := 0, locals := 43 })).room s m #[.ref (h 0), .int (a1), .int (a2)] below meth c H locs 0 0 (MQ below (wQi r.1 D (wM h ca x) (wM h ca r.2) s.heap.size) #[.ref (h 0), .int (a1), .int (a2)] s 0 0 A) (F0 m 0 ls []) := by
    refine lv_aload_n hx hb dX5_turn_0 rfl (lv_at hl 0 rfl) ?_
    refine lv_iload_n hx hb dX5_turn_1 rfl (lv_at hl 1 rfl) ?_
    obtain ⟨v_9, h_9, hs⟩ := sp_b hs
    refine rd_i (va_runV (As := [.int (a1)]) (rest := []) ⟨hx, hb, hml, hown, hts⟩ (c_X5_isProjector l D ca h x a1 h_9) (cwV 1 hts gX5_turn_X5_isProjector rfl rfl rfl (by decide +kernel) ⟨Nat.le_of_ble_eq_true rfl, Nat.le_of_ble_eq_true rfl⟩) (rP_V (q := (RX5, TX5, 30)) hP hC 0 rfl rfl) rfl rfl hl.1 rfl (lv_room (Nat.le_of_ble_eq_true rfl)) dX5_turn_2 ⟨Nat.zero_le _, Nat.zero_le _⟩) ?_
    refine lv_istore_n (lv' := [(3, .int (v_9)), (0, .ref (h 0)), (1, .int (a1)), (2, .int (a2))]) hx hb dX5_turn_5 rfl hl (by decide) rfl (fun ls hl => ?_)
    refine lv_iload_n hx hb dX5_turn_6 rfl (lv_at hl 0 rfl) ?_
    refine lv_if_eq (tgt := 58) hx hb dX5_turn_7 (by decide) (fun c_10 => ?_) (fun c_10 => ?_)
    · have hs := sp_t c_10 hs
      refine lv_iconst (v := 0) hx hb dX5_turn_58 (by decide) ?_
      exact b59  (x) (v_9) (0) hs H locs hP hD hS ls (lv_sub hl [1, 2, 3, 0] rfl)
    · have hs := sp_f c_10 hs
      refine lv_iload_n hx hb dX5_turn_10 rfl (lv_at hl 3 rfl) ?_
      refine lv_if_eq (tgt := 54) hx hb dX5_turn_11 (by decide) (fun c_11 => ?_) (fun c_11 => ?_)
      · have hs := sp_t c_11 hs
        refine lv_iconst (v := 1) hx hb dX5_turn_54 (by decide) ?_
        refine lv_goto (tgt := 59) hx hb dX5_turn_55 (by decide) ?_
        exact b59  (x) (v_9) (1) hs H locs hP hD hS ls (lv_sub hl [1, 2, 3, 0] rfl)
      · have hs := sp_f c_11 hs
        refine lv_aload_n hx hb dX5_turn_14 rfl (lv_at hl 1 rfl) ?_
        refine va_get (D := D) (ci := 5) (fs := fsM h (x)) (v := .ref (h 13)) (C := RX5) (T := TX5) (N := 30) hx hb hts iX5 hown hK hP 0 rfl rfl 16 (by decide) (hts (.fieldLink RX5 51 "FacadeShowModel" "isOn" "[Z") (by decide +kernel)) (fun _ h9 => h9) rfl dX5_turn_15 ?_
        refine lv_iload_n hx hb dX5_turn_18 rfl (lv_at hl 2 rfl) ?_
        obtain ⟨h_12, hs⟩ := sp_c hs
        refine va_zald (D := D) (cA := ca 1) (n := 10) (f := (x).1 13) hx hb hK hP 13 1 rfl rfl h_12 dX5_turn_19 ?_
        refine lv_if_ne (tgt := 54) hx hb dX5_turn_20 (by decide) (fun c_13 => ?_) (fun c_13 => ?_)
        · have hs := sp_f c_13 hs
          refine lv_iconst (v := 1) hx hb dX5_turn_54 (by decide) ?_
          refine lv_goto (tgt := 59) hx hb dX5_turn_55 (by decide) ?_
          exact b59  (x) (v_9) (1) hs H locs hP hD hS ls (lv_sub hl [1, 2, 3, 0] rfl)
        · have hs := sp_t c_13 hs
          refine lv_aload_n hx hb dX5_turn_23 rfl (lv_at hl 1 rfl) ?_
          refine lv_aload_n hx hb dX5_turn_24 rfl (lv_at hl 1 rfl) ?_
          refine va_get (D := D) (ci := 5) (fs := fsM h (x)) (v := .ref (h 9)) (C := RX5) (T := TX5) (N := 30) hx hb hts iX5 hown hK hP 0 rfl rfl 12 (by decide) (hts (.fieldLink RX5 39 "FacadeShowModel" "phase" "[I") (by decide +kernel)) (fun _ h9 => h9) rfl dX5_turn_25 ?_
          refine lv_iload_n hx hb dX5_turn_28 rfl (lv_at hl 2 rfl) ?_
          obtain ⟨h_14, hs⟩ := sp_c hs
          refine va_iald (D := D) (cA := ca 0) (n := 10) (f := (x).1 9) hx hb hK hP 9 0 rfl rfl h_14 dX5_turn_29 ?_
          obtain ⟨v_15, h_15, hs⟩ := sp_b hs
          refine rd_i (va_runV (As := [.int (x.1 9 a1.toNatClampNeg)]) (rest := []) ⟨hx, hb, hml, hown, hts⟩ (c_X5_borne l D ca h x (x.1 9 a1.toNatClampNeg) h_15) (cwV 1 hts gX5_turn_X5_borne rfl rfl rfl (by decide +kernel) ⟨Nat.le_of_ble_eq_true rfl, Nat.le_of_ble_eq_true rfl⟩) (rP_V (q := (RX5, TX5, 30)) hP hC 0 rfl rfl) rfl rfl hl.1 rfl (lv_room (Nat.le_of_ble_eq_true rfl)) dX5_turn_30 ⟨Nat.zero_le _, Nat.zero_le _⟩) ?_
          refine lv_aload_n hx hb dX5_turn_33 rfl (lv_at hl 1 rfl) ?_
          refine va_get (D := D) (ci := 5) (fs := fsM h (x)) (v := .ref (h 8)) (C := RX5) (T := TX5) (N := 30) hx hb hts iX5 hown hK hP 0 rfl rfl 11 (by decide) (hts (.fieldLink RX5 36 "FacadeShowModel" "power" "[I") (by decide +kernel)) (fun _ h9 => h9) rfl dX5_turn_34 ?_
          refine lv_iload_n hx hb dX5_turn_37 rfl (lv_at hl 2 rfl) ?_
          obtain ⟨h_16, hs⟩ := sp_c hs
          refine va_iald (D := D) (cA := ca 0) (n := 10) (f := (x).1 8) hx hb hK hP 8 0 rfl rfl h_16 dX5_turn_38 ?_
          refine lv_iadd hx hb dX5_turn_39 ?_
          refine lv_aload_n hx hb dX5_turn_40 rfl (lv_at hl 1 rfl) ?_
          refine va_get (D := D) (ci := 5) (fs := fsM h (x)) (v := .ref (h 16)) (C := RX5) (T := TX5) (N := 30) hx hb hts iX5 hown hK hP 0 rfl rfl 19 (by decide) (hts (.fieldLink RX5 60 "FacadeShowModel" "bears" "[I") (by decide +kernel)) (fun _ h9 => h9) rfl dX5_turn_41 ?_
          refine lv_aload_n hx hb dX5_turn_44 rfl (lv_at hl 1 rfl) ?_
          refine va_get (D := D) (ci := 5) (fs := fsM h (x)) (v := .ref (h 9)) (C := RX5) (T := TX5) (N := 30) hx hb hts iX5 hown hK hP 0 rfl rfl 12 (by decide) (hts (.fieldLink RX5 39 "FacadeShowModel" "phase" "[I") (by decide +kernel)) (fun _ h9 => h9) rfl dX5_turn_45 ?_
          refine lv_iload_n hx hb dX5_turn_48 rfl (lv_at hl 2 rfl) ?_
          obtain ⟨h_17, hs⟩ := sp_c hs
          refine va_iald (D := D) (cA := ca 0) (n := 10) (f := (x).1 9) hx hb hK hP 9 0 rfl rfl h_17 dX5_turn_49 ?_
          obtain ⟨h_18, hs⟩ := sp_c hs
          refine va_iald (D := D) (cA := ca 0) (n := 3) (f := (x).1 16) hx hb hK hP 16 0 rfl rfl h_18 dX5_turn_50 ?_
          refine lv_icmp_gt (tgt := 58) hx hb dX5_turn_51 (by decide) (fun c_19 => ?_) (fun c_19 => ?_)
          · have hs := sp_t c_19 hs
            refine lv_iconst (v := 0) hx hb dX5_turn_58 (by decide) ?_
            exact b59  (x) (v_9) (0) hs H locs hP hD hS ls (lv_sub hl [1, 2, 3, 0] rfl)
          · have hs := sp_f c_19 hs
            refine lv_iconst (v := 1) hx hb dX5_turn_54 (by decide) ?_
            refine lv_goto (tgt := 59) hx hb dX5_turn_55 (by decide) ?_
            exact b59  (x) (v_9) (1) hs H locs hP hD hS ls (lv_sub hl [1, 2, 3, 0] rfl)
  rw [hHe, hle] at hgo
  exact hgo
def s_X5_fail_b14 (a1 : Int32) (a2 : Int32) (xx : XS) (q0 : Int32) : Option (Int32 × XS) := (s_X5_goesWell xx q0).bind fun v_1 => (if v_1.1 = 0 then some (0, v_1.2) else chk 10 a1 (chk 10 a1 (zb a2 (zb (v_1.2.1 14 a1.toNatClampNeg) (some (v_1.2.1 14 a1.toNatClampNeg, si (v_1.2) 14 a1.toNatClampNeg a2))))))
def s_X5_fail (x : XS) (a1 : Int32) (a2 : Int32) : Option (Int32 × XS) := (s_X5_isProjector x a1).bind fun v_7 => (if v_7 = 0 then s_X5_fail_b14 a1 a2  (x) (1) else s_X5_fail_b14 a1 a2  (x) (0))
set_option maxHeartbeats 4000000 in
set_option maxRecDepth 100000 in
theorem c_X5_fail (l : Launch) (D : va_G) (ca : Nat → ClassId) (h : Nat → Nat) (x : XS) (a1 : Int32) (a2 : Int32) {r : (Int32 × XS)} (hs : s_X5_fail x a1 a2 = some r) (sz : Nat) : Met l yX5_fail wsX5_fail ({ frames := 2, cells := 0, slots := 0, locals := 43 }) (wP [.ref (h 0), .int (a1), .int (a2)] D ca (wM h ca x) sz) (wQi r.1 D (wM h ca x) (wM h ca r.2) sz) 0 0 (va_A (wM h ca x) sz) := by
  refine Met.ofW (cc := cX5_fail) (maxL := 4) (ret := (some .boolean)) (by decide) rfl ?_
  intro p e s m args below meth c s₁ B hml hv
  obtain ⟨rfl, hsz, hP, hC, hD0⟩ := hv
  have hx := B.exec
  have hb := B.bytes
  have hr := B.returns
  have hts := atoms_spec (ws := wsX5_fail) B.pre
  have hown : s.vm.findClass RX5 = some m.cls := findClass_of_methodNamed B.named
  have hlocks := B.notSynchronized
  have hK := hC.1
  subst hsz
  have hD := hD0.self (sz := s.heap.size)
  generalize hAe : va_A (wM h ca x) s.heap.size = A at hD ⊢
  have hA : ∀ q : Nat, s.heap.size ≤ q → A q := fun q h => by rw [← hAe]; exact Or.inr h
  have hS : va_S A s.heap s.heap [] := va_S.rf
  skip
  have iX5 : ∀ w ∈ u_ws RX5 TX5 30, w ∈ wsX5_fail := by decide +kernel
  have hl := lv_entry ([.ref (h 0), .int (a1), .int (a2)]) (n := 4) (Nat.le_of_ble_eq_true rfl)
  rw [lg_entry_eq]
  generalize (lg_sl ([.ref (h 0), .int (a1), .int (a2)]) ++ List.replicate (4 - (lg_sl ([.ref (h 0), .int (a1), .int (a2)])).length) Slot.unset).toArray = ls at hl ⊢
  have hl : lv_has ls 4 [(0, .ref (h 0)), (1, .int (a1)), (2, .int (a2))] := hl
  have b14 : ∀ (xx : XS) (q0 : Int32), s_X5_fail_b14 a1 a2 xx q0 = some r → ∀ (H : Heap) (locs : List Loc), va_P D vwCl (wM h ca xx) H → va_D A (wM h ca xx) → va_S A s.heap H locs → ∀ (ls : Array Slot), lv_has ls 4 [(0, .ref (h 0)), (1, .int (a1)), (2, .int (a2))] → W p l e (headSpec wsX5_fail ({ frames := 2, cells := 0, slots := 0, locals := 43 })).room s m #[.ref (h 0), .int (a1), .int (a2)] below meth c H locs 0 0 (MQ below (wQi r.1 D (wM h ca x) (wM h ca r.2) s.heap.size) #[.ref (h 0), .int (a1), .int (a2)] s 0 0 A) (F0 m 14 ls [.int (q0), .ref (h 0)]) := by
    intro xx q0 hs H locs hP hD hS ls hl
    unfold s_X5_fail_b14 at hs
    obtain ⟨v_1, h_1, hs⟩ := sp_b hs
    refine wr_i (va_runV (As := [.int (q0)]) (rest := []) ⟨hx, hb, hml, hown, hts⟩ (c_X5_goesWell l D ca h xx q0 h_1 H.size) (cwV 1 hts gX5_fail_X5_goesWell rfl rfl rfl (by decide +kernel) ⟨Nat.le_of_ble_eq_true rfl, Nat.le_of_ble_eq_true rfl⟩) (wP_V (q := (RX5, TX5, 30)) hP hC hD 0 rfl rfl) rfl rfl hl.1 rfl (lv_room (Nat.le_of_ble_eq_true rfl)) dX5_fail_14 ⟨Nat.zero_le _, Nat.zero_le _⟩) hD hS hA (fun H locs hP hD hS => ?_)
    refine lv_if_ne (tgt := 22) hx hb dX5_fail_17 (by decide) (fun c_2 => ?_) (fun c_2 => ?_)
    · have hs := sp_f c_2 hs
      refine lv_aload_n hx hb dX5_fail_22 rfl (lv_at hl 0 rfl) ?_
      refine va_get (D := D) (ci := 5) (fs := fsM h (v_1.2)) (v := .ref (h 14)) (C := RX5) (T := TX5) (N := 30) hx hb hts iX5 hown hK hP 0 rfl rfl 17 (by decide) (hts (.fieldLink RX5 54 "FacadeShowModel" "hasFailed" "[Z") (by decide +kernel)) (fun _ h9 => h9) rfl dX5_fail_23 ?_
      refine lv_iload_n hx hb dX5_fail_26 rfl (lv_at hl 1 rfl) ?_
      obtain ⟨h_3, hs⟩ := sp_c hs
      refine va_zald (D := D) (cA := ca 1) (n := 10) (f := (v_1.2).1 14) hx hb hK hP 14 1 rfl rfl h_3 dX5_fail_27 ?_
      refine lv_istore_n (lv' := [(3, .int (v_1.2.1 14 a1.toNatClampNeg)), (0, .ref (h 0)), (1, .int (a1)), (2, .int (a2))]) hx hb dX5_fail_28 rfl hl (by decide) rfl (fun ls hl => ?_)
      refine lv_aload_n hx hb dX5_fail_29 rfl (lv_at hl 1 rfl) ?_
      refine va_get (D := D) (ci := 5) (fs := fsM h (v_1.2)) (v := .ref (h 14)) (C := RX5) (T := TX5) (N := 30) hx hb hts iX5 hown hK hP 0 rfl rfl 17 (by decide) (hts (.fieldLink RX5 54 "FacadeShowModel" "hasFailed" "[Z") (by decide +kernel)) (fun _ h9 => h9) rfl dX5_fail_30 ?_
      refine lv_iload_n hx hb dX5_fail_33 rfl (lv_at hl 2 rfl) ?_
      refine lv_iload_n hx hb dX5_fail_34 rfl (lv_at hl 3 rfl) ?_
      obtain ⟨h_4, hs⟩ := sp_c hs
      obtain ⟨h_5, hs⟩ := sp_z hs
      refine va_zast (D := D) (cA := ca 1) (n := 10) (f := (v_1.2).1 14) hx hb hK hP hD hS 14 1 rfl rfl h_4 dX5_fail_35 (fun H locs hP hD hS => ?_)
      rw [nar_b h_5] at hP hD
      rw [wM_a14] at hP hD
      refine lv_iload_n hx hb dX5_fail_36 rfl (lv_at hl 0 rfl) ?_
      obtain ⟨h_6, hs⟩ := sp_z hs
      exact wt_z (f := wM h ca) hx hb hr hAe h_6 hs hP hD hS dX5_fail_37 hlocks
    · have hs := sp_t c_2 hs
      refine lv_iconst (v := 0) hx hb dX5_fail_20 (by decide) ?_
      exact wt_z (f := wM h ca) hx hb hr hAe (by decide) hs hP hD hS dX5_fail_21 hlocks
  unfold s_X5_fail at hs
  obtain ⟨H, hHe⟩ : ∃ H, H = s.heap := ⟨_, rfl⟩
  obtain ⟨locs, hle⟩ : ∃ z : List Loc, z = [] := ⟨_, rfl⟩
  have hP : va_P D vwCl (wM h ca x) H := by rw [hHe]; exact hP
  have hS : va_S A s.heap H locs := by rw [hHe, hle]; exact hS
  show W p l e (headSpec wsX5_fail ({ frames := 2, cells := 0, slots := 0, locals := 43 })).room s m #[.ref (h 0), .int (a1), .int (a2)] below meth c s.heap [] 0 0 _ _
  have hgo : W p l e (headSpec wsX5_fail ({ frames := 2, cells := 0, slots := 0, locals := 43 })).room s m #[.ref (h 0), .int (a1), .int (a2)] below meth c H locs 0 0 (MQ below (wQi r.1 D (wM h ca x) (wM h ca r.2) s.heap.size) #[.ref (h 0), .int (a1), .int (a2)] s 0 0 A) (F0 m 0 ls []) := by
    refine lv_aload_n hx hb dX5_fail_0 rfl (lv_at hl 0 rfl) ?_
    refine lv_aload_n hx hb dX5_fail_1 rfl (lv_at hl 0 rfl) ?_
    refine lv_iload_n hx hb dX5_fail_2 rfl (lv_at hl 1 rfl) ?_
    obtain ⟨v_7, h_7, hs⟩ := sp_b hs
    refine rd_i (va_runV (As := [.int (a1)]) (rest := [.ref (h 0)]) ⟨hx, hb, hml, hown, hts⟩ (c_X5_isProjector l D ca h x a1 h_7) (cwV 1 hts gX5_fail_X5_isProjector rfl rfl rfl (by decide +kernel) ⟨Nat.le_of_ble_eq_true rfl, Nat.le_of_ble_eq_true rfl⟩) (rP_V (q := (RX5, TX5, 30)) hP hC 0 rfl rfl) rfl rfl hl.1 rfl (lv_room (Nat.le_of_ble_eq_true rfl)) dX5_fail_3 ⟨Nat.zero_le _, Nat.zero_le _⟩) ?_
    refine lv_if_eq (tgt := 13) hx hb dX5_fail_6 (by decide) (fun c_8 => ?_) (fun c_8 => ?_)
    · have hs := sp_t c_8 hs
      refine lv_iconst (v := 1) hx hb dX5_fail_13 (by decide) ?_
      exact b14  (x) (1) hs H locs hP hD hS ls (lv_sub hl [0, 1, 2] rfl)
    · have hs := sp_f c_8 hs
      refine lv_iconst (v := 0) hx hb dX5_fail_9 (by decide) ?_
      refine lv_goto (tgt := 14) hx hb dX5_fail_10 (by decide) ?_
      exact b14  (x) (0) hs H locs hP hD hS ls (lv_sub hl [0, 1, 2] rfl)
  rw [hHe, hle] at hgo
  exact hgo
def s_X5_phase_b25 (a1 : Int32) (a2 : Int32) (xx : XS) (q0 : Int32) : Option (Int32 × XS) := (s_X5_goesWell xx q0).bind fun v_1 => (if v_1.1 = 0 then some (0, v_1.2) else chk 3 a1 (chk 3 a1 (some (v_1.2.1 16 a1.toNatClampNeg, si (v_1.2) 16 a1.toNatClampNeg a2))))
def s_X5_phase (x : XS) (a1 : Int32) (a2 : Int32) : Option (Int32 × XS) := (s_X5_in a1 0 2).bind fun v_5 => (if v_5 = 0 then s_X5_phase_b25 a1 a2  (x) (1) else (s_X5_in a2 0 99999).bind fun v_7 => (if v_7 = 0 then s_X5_phase_b25 a1 a2  (x) (1) else s_X5_phase_b25 a1 a2  (x) (0)))
set_option maxHeartbeats 4000000 in
set_option maxRecDepth 100000 in
theorem c_X5_phase (l : Launch) (D : va_G) (ca : Nat → ClassId) (h : Nat → Nat) (x : XS) (a1 : Int32) (a2 : Int32) {r : (Int32 × XS)} (hs : s_X5_phase x a1 a2 = some r) (sz : Nat) : Met l yX5_phase wsX5_phase ({ frames := 1, cells := 0, slots := 0, locals := 22 }) (wP [.ref (h 0), .int (a1), .int (a2)] D ca (wM h ca x) sz) (wQi r.1 D (wM h ca x) (wM h ca r.2) sz) 0 0 (va_A (wM h ca x) sz) := by
  refine Met.ofW (cc := cX5_phase) (maxL := 4) (ret := (some .int)) (by decide) rfl ?_
  intro p e s m args below meth c s₁ B hml hv
  obtain ⟨rfl, hsz, hP, hC, hD0⟩ := hv
  have hx := B.exec
  have hb := B.bytes
  have hr := B.returns
  have hts := atoms_spec (ws := wsX5_phase) B.pre
  have hown : s.vm.findClass RX5 = some m.cls := findClass_of_methodNamed B.named
  have hlocks := B.notSynchronized
  have hK := hC.1
  subst hsz
  have hD := hD0.self (sz := s.heap.size)
  generalize hAe : va_A (wM h ca x) s.heap.size = A at hD ⊢
  have hA : ∀ q : Nat, s.heap.size ≤ q → A q := fun q h => by rw [← hAe]; exact Or.inr h
  have hS : va_S A s.heap s.heap [] := va_S.rf
  skip
  have iX5 : ∀ w ∈ u_ws RX5 TX5 30, w ∈ wsX5_phase := by decide +kernel
  have hl := lv_entry ([.ref (h 0), .int (a1), .int (a2)]) (n := 4) (Nat.le_of_ble_eq_true rfl)
  rw [lg_entry_eq]
  generalize (lg_sl ([.ref (h 0), .int (a1), .int (a2)]) ++ List.replicate (4 - (lg_sl ([.ref (h 0), .int (a1), .int (a2)])).length) Slot.unset).toArray = ls at hl ⊢
  have hl : lv_has ls 4 [(0, .ref (h 0)), (1, .int (a1)), (2, .int (a2))] := hl
  have b25 : ∀ (xx : XS) (q0 : Int32), s_X5_phase_b25 a1 a2 xx q0 = some r → ∀ (H : Heap) (locs : List Loc), va_P D vwCl (wM h ca xx) H → va_D A (wM h ca xx) → va_S A s.heap H locs → ∀ (ls : Array Slot), lv_has ls 4 [(0, .ref (h 0)), (1, .int (a1)), (2, .int (a2))] → W p l e (headSpec wsX5_phase ({ frames := 1, cells := 0, slots := 0, locals := 22 })).room s m #[.ref (h 0), .int (a1), .int (a2)] below meth c H locs 0 0 (MQ below (wQi r.1 D (wM h ca x) (wM h ca r.2) s.heap.size) #[.ref (h 0), .int (a1), .int (a2)] s 0 0 A) (F0 m 25 ls [.int (q0), .ref (h 0)]) := by
    intro xx q0 hs H locs hP hD hS ls hl
    unfold s_X5_phase_b25 at hs
    obtain ⟨v_1, h_1, hs⟩ := sp_b hs
    refine wr_i (va_runV (As := [.int (q0)]) (rest := []) ⟨hx, hb, hml, hown, hts⟩ (c_X5_goesWell l D ca h xx q0 h_1 H.size) (cwV 1 hts gX5_phase_X5_goesWell rfl rfl rfl (by decide +kernel) ⟨Nat.le_of_ble_eq_true rfl, Nat.le_of_ble_eq_true rfl⟩) (wP_V (q := (RX5, TX5, 30)) hP hC hD 0 rfl rfl) rfl rfl hl.1 rfl (lv_room (Nat.le_of_ble_eq_true rfl)) dX5_phase_25 ⟨Nat.zero_le _, Nat.zero_le _⟩) hD hS hA (fun H locs hP hD hS => ?_)
    refine lv_if_ne (tgt := 33) hx hb dX5_phase_28 (by decide) (fun c_2 => ?_) (fun c_2 => ?_)
    · have hs := sp_f c_2 hs
      refine lv_aload_n hx hb dX5_phase_33 rfl (lv_at hl 0 rfl) ?_
      refine va_get (D := D) (ci := 5) (fs := fsM h (v_1.2)) (v := .ref (h 16)) (C := RX5) (T := TX5) (N := 30) hx hb hts iX5 hown hK hP 0 rfl rfl 19 (by decide) (hts (.fieldLink RX5 60 "FacadeShowModel" "bears" "[I") (by decide +kernel)) (fun _ h9 => h9) rfl dX5_phase_34 ?_
      refine lv_iload_n hx hb dX5_phase_37 rfl (lv_at hl 1 rfl) ?_
      obtain ⟨h_3, hs⟩ := sp_c hs
      refine va_iald (D := D) (cA := ca 0) (n := 3) (f := (v_1.2).1 16) hx hb hK hP 16 0 rfl rfl h_3 dX5_phase_38 ?_
      refine lv_istore_n (lv' := [(3, .int (v_1.2.1 16 a1.toNatClampNeg)), (0, .ref (h 0)), (1, .int (a1)), (2, .int (a2))]) hx hb dX5_phase_39 rfl hl (by decide) rfl (fun ls hl => ?_)
      refine lv_aload_n hx hb dX5_phase_40 rfl (lv_at hl 1 rfl) ?_
      refine va_get (D := D) (ci := 5) (fs := fsM h (v_1.2)) (v := .ref (h 16)) (C := RX5) (T := TX5) (N := 30) hx hb hts iX5 hown hK hP 0 rfl rfl 19 (by decide) (hts (.fieldLink RX5 60 "FacadeShowModel" "bears" "[I") (by decide +kernel)) (fun _ h9 => h9) rfl dX5_phase_41 ?_
      refine lv_iload_n hx hb dX5_phase_44 rfl (lv_at hl 2 rfl) ?_
      refine lv_iload_n hx hb dX5_phase_45 rfl (lv_at hl 3 rfl) ?_
      obtain ⟨h_4, hs⟩ := sp_c hs
      refine va_iast (D := D) (cA := ca 0) (n := 3) (f := (v_1.2).1 16) hx hb hK hP hD hS 16 0 rfl rfl h_4 dX5_phase_46 (fun H locs hP hD hS => ?_)
      rw [wM_a16] at hP hD
      refine lv_iload_n hx hb dX5_phase_47 rfl (lv_at hl 0 rfl) ?_
      exact wt_i (f := wM h ca) hx hb hr hAe hs hP hD hS dX5_phase_48 hlocks
    · have hs := sp_t c_2 hs
      refine lv_iconst (v := 0) hx hb dX5_phase_31 (by decide) ?_
      exact wt_i (f := wM h ca) hx hb hr hAe hs hP hD hS dX5_phase_32 hlocks
  unfold s_X5_phase at hs
  obtain ⟨H, hHe⟩ : ∃ H, H = s.heap := ⟨_, rfl⟩
  obtain ⟨locs, hle⟩ : ∃ z : List Loc, z = [] := ⟨_, rfl⟩
  have hP : va_P D vwCl (wM h ca x) H := by rw [hHe]; exact hP
  have hS : va_S A s.heap H locs := by rw [hHe, hle]; exact hS
  show W p l e (headSpec wsX5_phase ({ frames := 1, cells := 0, slots := 0, locals := 22 })).room s m #[.ref (h 0), .int (a1), .int (a2)] below meth c s.heap [] 0 0 _ _
  have hgo : W p l e (headSpec wsX5_phase ({ frames := 1, cells := 0, slots := 0, locals := 22 })).room s m #[.ref (h 0), .int (a1), .int (a2)] below meth c H locs 0 0 (MQ below (wQi r.1 D (wM h ca x) (wM h ca r.2) s.heap.size) #[.ref (h 0), .int (a1), .int (a2)] s 0 0 A) (F0 m 0 ls []) := by
    refine lv_aload_n hx hb dX5_phase_0 rfl (lv_at hl 0 rfl) ?_
    refine lv_iload_n hx hb dX5_phase_1 rfl (lv_at hl 1 rfl) ?_
    refine lv_iconst (v := 0) hx hb dX5_phase_2 (by decide) ?_
    refine lv_iconst (v := 2) hx hb dX5_phase_3 (by decide) ?_
    obtain ⟨v_5, h_5, hs⟩ := sp_b hs
    refine rd_i (va_runS (As := [.int (a1), .int (0), .int (2)]) (rest := [.ref (h 0)]) ⟨hx, hb, hml, hown, hts⟩ (c_X5_in l D ca a1 0 2 h_5) (va_cwS 3 hts gX5_phase_X5_in rfl rfl rfl (by decide +kernel) ⟨Nat.le_of_ble_eq_true rfl, Nat.le_of_ble_eq_true rfl⟩) (rP_S va_P_nil hC) rfl rfl hl.1 rfl (lv_room (Nat.le_of_ble_eq_true rfl)) dX5_phase_4 ⟨Nat.zero_le _, Nat.zero_le _⟩) ?_
    refine lv_if_eq (tgt := 24) hx hb dX5_phase_7 (by decide) (fun c_6 => ?_) (fun c_6 => ?_)
    · have hs := sp_t c_6 hs
      refine lv_iconst (v := 1) hx hb dX5_phase_24 (by decide) ?_
      exact b25  (x) (1) hs H locs hP hD hS ls (lv_sub hl [0, 1, 2] rfl)
    · have hs := sp_f c_6 hs
      refine lv_iload_n hx hb dX5_phase_10 rfl (lv_at hl 2 rfl) ?_
      refine lv_iconst (v := 0) hx hb dX5_phase_11 (by decide) ?_
      refine lv_ldc (v := 99999) hx hb hown (hts (.constant RX5 105 (99999)) (by decide +kernel)) dX5_phase_12 ?_
      obtain ⟨v_7, h_7, hs⟩ := sp_b hs
      refine rd_i (va_runS (As := [.int (a2), .int (0), .int (99999)]) (rest := [.ref (h 0)]) ⟨hx, hb, hml, hown, hts⟩ (c_X5_in l D ca a2 0 99999 h_7) (va_cwS 3 hts gX5_phase_X5_in rfl rfl rfl (by decide +kernel) ⟨Nat.le_of_ble_eq_true rfl, Nat.le_of_ble_eq_true rfl⟩) (rP_S va_P_nil hC) rfl rfl hl.1 rfl (lv_room (Nat.le_of_ble_eq_true rfl)) dX5_phase_14 ⟨Nat.zero_le _, Nat.zero_le _⟩) ?_
      refine lv_if_eq (tgt := 24) hx hb dX5_phase_17 (by decide) (fun c_8 => ?_) (fun c_8 => ?_)
      · have hs := sp_t c_8 hs
        refine lv_iconst (v := 1) hx hb dX5_phase_24 (by decide) ?_
        exact b25  (x) (1) hs H locs hP hD hS ls (lv_sub hl [0, 1, 2] rfl)
      · have hs := sp_f c_8 hs
        refine lv_iconst (v := 0) hx hb dX5_phase_20 (by decide) ?_
        refine lv_goto (tgt := 25) hx hb dX5_phase_21 (by decide) ?_
        exact b25  (x) (0) hs H locs hP hD hS ls (lv_sub hl [0, 1, 2] rfl)
  rw [hHe, hle] at hgo
  exact hgo
def s_X5_wind_b16 (a1 : Int32) (xx : XS) (q0 : Int32) : Option (Int32 × XS) := (s_X5_goesWell xx q0).bind fun v_1 => (if v_1.1 = 0 then some (0, v_1.2) else some (v_1.2.1 0 20, si (v_1.2) 0 20 a1))
def s_X5_wind (x : XS) (a1 : Int32) : Option (Int32 × XS) := (s_X5_in a1 0 8).bind fun v_3 => (if v_3 = 0 then s_X5_wind_b16 a1  (x) (1) else s_X5_wind_b16 a1  (x) (0))
set_option maxHeartbeats 4000000 in
set_option maxRecDepth 100000 in
theorem c_X5_wind (l : Launch) (D : va_G) (ca : Nat → ClassId) (h : Nat → Nat) (x : XS) (a1 : Int32) {r : (Int32 × XS)} (hs : s_X5_wind x a1 = some r) (sz : Nat) : Met l yX5_wind wsX5_wind ({ frames := 1, cells := 0, slots := 0, locals := 22 }) (wP [.ref (h 0), .int (a1)] D ca (wM h ca x) sz) (wQi r.1 D (wM h ca x) (wM h ca r.2) sz) 0 0 (va_A (wM h ca x) sz) := by
  refine Met.ofW (cc := cX5_wind) (maxL := 3) (ret := (some .int)) (by decide) rfl ?_
  intro p e s m args below meth c s₁ B hml hv
  obtain ⟨rfl, hsz, hP, hC, hD0⟩ := hv
  have hx := B.exec
  have hb := B.bytes
  have hr := B.returns
  have hts := atoms_spec (ws := wsX5_wind) B.pre
  have hown : s.vm.findClass RX5 = some m.cls := findClass_of_methodNamed B.named
  have hlocks := B.notSynchronized
  have hK := hC.1
  subst hsz
  have hD := hD0.self (sz := s.heap.size)
  generalize hAe : va_A (wM h ca x) s.heap.size = A at hD ⊢
  have hA : ∀ q : Nat, s.heap.size ≤ q → A q := fun q h => by rw [← hAe]; exact Or.inr h
  have hS : va_S A s.heap s.heap [] := va_S.rf
  skip
  have iX5 : ∀ w ∈ u_ws RX5 TX5 30, w ∈ wsX5_wind := by decide +kernel
  have hl := lv_entry ([.ref (h 0), .int (a1)]) (n := 3) (Nat.le_of_ble_eq_true rfl)
  rw [lg_entry_eq]
  generalize (lg_sl ([.ref (h 0), .int (a1)]) ++ List.replicate (3 - (lg_sl ([.ref (h 0), .int (a1)])).length) Slot.unset).toArray = ls at hl ⊢
  have hl : lv_has ls 3 [(0, .ref (h 0)), (1, .int (a1))] := hl
  have b16 : ∀ (xx : XS) (q0 : Int32), s_X5_wind_b16 a1 xx q0 = some r → ∀ (H : Heap) (locs : List Loc), va_P D vwCl (wM h ca xx) H → va_D A (wM h ca xx) → va_S A s.heap H locs → ∀ (ls : Array Slot), lv_has ls 3 [(0, .ref (h 0)), (1, .int (a1))] → W p l e (headSpec wsX5_wind ({ frames := 1, cells := 0, slots := 0, locals := 22 })).room s m #[.ref (h 0), .int (a1)] below meth c H locs 0 0 (MQ below (wQi r.1 D (wM h ca x) (wM h ca r.2) s.heap.size) #[.ref (h 0), .int (a1)] s 0 0 A) (F0 m 16 ls [.int (q0), .ref (h 0)]) := by
    intro xx q0 hs H locs hP hD hS ls hl
    unfold s_X5_wind_b16 at hs
    obtain ⟨v_1, h_1, hs⟩ := sp_b hs
    refine wr_i (va_runV (As := [.int (q0)]) (rest := []) ⟨hx, hb, hml, hown, hts⟩ (c_X5_goesWell l D ca h xx q0 h_1 H.size) (cwV 1 hts gX5_wind_X5_goesWell rfl rfl rfl (by decide +kernel) ⟨Nat.le_of_ble_eq_true rfl, Nat.le_of_ble_eq_true rfl⟩) (wP_V (q := (RX5, TX5, 30)) hP hC hD 0 rfl rfl) rfl rfl hl.1 rfl (lv_room (Nat.le_of_ble_eq_true rfl)) dX5_wind_16 ⟨Nat.zero_le _, Nat.zero_le _⟩) hD hS hA (fun H locs hP hD hS => ?_)
    refine lv_if_ne (tgt := 24) hx hb dX5_wind_19 (by decide) (fun c_2 => ?_) (fun c_2 => ?_)
    · have hs := sp_f c_2 hs
      refine lv_aload_n hx hb dX5_wind_24 rfl (lv_at hl 0 rfl) ?_
      refine va_get (D := D) (ci := 5) (fs := fsM h (v_1.2)) (v := .int (v_1.2.1 0 20)) (C := RX5) (T := TX5) (N := 30) hx hb hts iX5 hown hK hP 0 rfl rfl 20 (by decide) (hts (.fieldLink RX5 106 "FacadeShowModel" "wind" "I") (by decide +kernel)) (fun _ h9 => h9) rfl dX5_wind_25 ?_
      refine lv_istore_n (lv' := [(2, .int (v_1.2.1 0 20)), (0, .ref (h 0)), (1, .int (a1))]) hx hb dX5_wind_28 rfl hl (by decide) rfl (fun ls hl => ?_)
      refine lv_aload_n hx hb dX5_wind_29 rfl (lv_at hl 1 rfl) ?_
      refine lv_iload_n hx hb dX5_wind_30 rfl (lv_at hl 2 rfl) ?_
      refine va_put (D := D) (ci := 5) (fs := fsM h (v_1.2)) (v := .int (a1)) (ty := .int) (C := RX5) (T := TX5) (N := 30) hx hb hts iX5 tyX5 tyX5_ok nmX5 hown hK hP hD hS 0 rfl rfl 20 (by decide) (hts (.fieldLink RX5 106 "FacadeShowModel" "wind" "I") (by decide +kernel)) (fun _ h9 => h9) rfl (by decide +kernel) rfl rfl (Nat.le_of_ble_eq_true rfl) dX5_wind_31 (fun H locs hP hD hS => ?_)
      rw [wM_f20] at hP hD
      refine lv_iload_n hx hb dX5_wind_34 rfl (lv_at hl 0 rfl) ?_
      exact wt_i (f := wM h ca) hx hb hr hAe hs hP hD hS dX5_wind_35 hlocks
    · have hs := sp_t c_2 hs
      refine lv_iconst (v := 0) hx hb dX5_wind_22 (by decide) ?_
      exact wt_i (f := wM h ca) hx hb hr hAe hs hP hD hS dX5_wind_23 hlocks
  unfold s_X5_wind at hs
  obtain ⟨H, hHe⟩ : ∃ H, H = s.heap := ⟨_, rfl⟩
  obtain ⟨locs, hle⟩ : ∃ z : List Loc, z = [] := ⟨_, rfl⟩
  have hP : va_P D vwCl (wM h ca x) H := by rw [hHe]; exact hP
  have hS : va_S A s.heap H locs := by rw [hHe, hle]; exact hS
  show W p l e (headSpec wsX5_wind ({ frames := 1, cells := 0, slots := 0, locals := 22 })).room s m #[.ref (h 0), .int (a1)] below meth c s.heap [] 0 0 _ _
  have hgo : W p l e (headSpec wsX5_wind ({ frames := 1, cells := 0, slots := 0, locals := 22 })).room s m #[.ref (h 0), .int (a1)] below meth c H locs 0 0 (MQ below (wQi r.1 D (wM h ca x) (wM h ca r.2) s.heap.size) #[.ref (h 0), .int (a1)] s 0 0 A) (F0 m 0 ls []) := by
    refine lv_aload_n hx hb dX5_wind_0 rfl (lv_at hl 0 rfl) ?_
    refine lv_iload_n hx hb dX5_wind_1 rfl (lv_at hl 1 rfl) ?_
    refine lv_iconst (v := 0) hx hb dX5_wind_2 (by decide) ?_
    refine lv_bipush (v := 8) hx hb dX5_wind_3 (by decide) ?_
    obtain ⟨v_3, h_3, hs⟩ := sp_b hs
    refine rd_i (va_runS (As := [.int (a1), .int (0), .int (8)]) (rest := [.ref (h 0)]) ⟨hx, hb, hml, hown, hts⟩ (c_X5_in l D ca a1 0 8 h_3) (va_cwS 3 hts gX5_wind_X5_in rfl rfl rfl (by decide +kernel) ⟨Nat.le_of_ble_eq_true rfl, Nat.le_of_ble_eq_true rfl⟩) (rP_S va_P_nil hC) rfl rfl hl.1 rfl (lv_room (Nat.le_of_ble_eq_true rfl)) dX5_wind_5 ⟨Nat.zero_le _, Nat.zero_le _⟩) ?_
    refine lv_if_eq (tgt := 15) hx hb dX5_wind_8 (by decide) (fun c_4 => ?_) (fun c_4 => ?_)
    · have hs := sp_t c_4 hs
      refine lv_iconst (v := 1) hx hb dX5_wind_15 (by decide) ?_
      exact b16  (x) (1) hs H locs hP hD hS ls (lv_sub hl [0, 1] rfl)
    · have hs := sp_f c_4 hs
      refine lv_iconst (v := 0) hx hb dX5_wind_11 (by decide) ?_
      refine lv_goto (tgt := 16) hx hb dX5_wind_12 (by decide) ?_
      exact b16  (x) (0) hs H locs hP hD hS ls (lv_sub hl [0, 1] rfl)
  rw [hHe, hle] at hgo
  exact hgo
def s_X5_through_b31 (a1 : Int32) (a2 : Int32) (a3 : Int32) (xx : XS) (q0 : Int32) : Option (Int32 × XS) := (s_X5_goesWell xx q0).bind fun v_1 => (if v_1.1 = 0 then some (0, v_1.2) else chk 16 a2 ((if a3 ≤ (v_1.2.1 1 a2.toNatClampNeg) then some (-1, v_1.2) else chk 10 a1 ((if (v_1.2.1 7 a1.toNatClampNeg) ≤ a3 then some (-1, v_1.2) else (s_X5_cross v_1.2 a1 a2 a3).bind fun v_7 => some (v_7, v_1.2))))))
def s_X5_through (x : XS) (a1 : Int32) (a2 : Int32) (a3 : Int32) : Option (Int32 × XS) := (s_X5_isProjector x a1).bind fun v_8 => (if v_8 = 0 then s_X5_through_b31 a1 a2 a3  (x) (1) else (s_X5_isColumn a2).bind fun v_10 => (if v_10 = 0 then s_X5_through_b31 a1 a2 a3  (x) (1) else (s_X5_in a3 0 11).bind fun v_12 => (if v_12 = 0 then s_X5_through_b31 a1 a2 a3  (x) (1) else s_X5_through_b31 a1 a2 a3  (x) (0))))
set_option maxHeartbeats 4000000 in
set_option maxRecDepth 100000 in
theorem c_X5_through (l : Launch) (D : va_G) (ca : Nat → ClassId) (h : Nat → Nat) (x : XS) (a1 : Int32) (a2 : Int32) (a3 : Int32) {r : (Int32 × XS)} (hs : s_X5_through x a1 a2 a3 = some r) (sz : Nat) : Met l yX5_through wsX5_through ({ frames := 2, cells := 0, slots := 0, locals := 43 }) (wP [.ref (h 0), .int (a1), .int (a2), .int (a3)] D ca (wM h ca x) sz) (wQi r.1 D (wM h ca x) (wM h ca r.2) sz) 0 0 (va_A (wM h ca x) sz) := by
  refine Met.ofW (cc := cX5_through) (maxL := 4) (ret := (some .int)) (by decide) rfl ?_
  intro p e s m args below meth c s₁ B hml hv
  obtain ⟨rfl, hsz, hP, hC, hD0⟩ := hv
  have hx := B.exec
  have hb := B.bytes
  have hr := B.returns
  have hts := atoms_spec (ws := wsX5_through) B.pre
  have hown : s.vm.findClass RX5 = some m.cls := findClass_of_methodNamed B.named
  have hlocks := B.notSynchronized
  have hK := hC.1
  subst hsz
  have hD := hD0.self (sz := s.heap.size)
  generalize hAe : va_A (wM h ca x) s.heap.size = A at hD ⊢
  have hA : ∀ q : Nat, s.heap.size ≤ q → A q := fun q h => by rw [← hAe]; exact Or.inr h
  have hS : va_S A s.heap s.heap [] := va_S.rf
  skip
  have iX5 : ∀ w ∈ u_ws RX5 TX5 30, w ∈ wsX5_through := by decide +kernel
  have hl := lv_entry ([.ref (h 0), .int (a1), .int (a2), .int (a3)]) (n := 4) (Nat.le_of_ble_eq_true rfl)
  rw [lg_entry_eq]
  generalize (lg_sl ([.ref (h 0), .int (a1), .int (a2), .int (a3)]) ++ List.replicate (4 - (lg_sl ([.ref (h 0), .int (a1), .int (a2), .int (a3)])).length) Slot.unset).toArray = ls at hl ⊢
  have hl : lv_has ls 4 [(0, .ref (h 0)), (1, .int (a1)), (2, .int (a2)), (3, .int (a3))] := hl
  have b31 : ∀ (xx : XS) (q0 : Int32), s_X5_through_b31 a1 a2 a3 xx q0 = some r → ∀ (H : Heap) (locs : List Loc), va_P D vwCl (wM h ca xx) H → va_D A (wM h ca xx) → va_S A s.heap H locs → ∀ (ls : Array Slot), lv_has ls 4 [(0, .ref (h 0)), (1, .int (a1)), (2, .int (a2)), (3, .int (a3))] → W p l e (headSpec wsX5_through ({ frames := 2, cells := 0, slots := 0, locals := 43 })).room s m #[.ref (h 0), .int (a1), .int (a2), .int (a3)] below meth c H locs 0 0 (MQ below (wQi r.1 D (wM h ca x) (wM h ca r.2) s.heap.size) #[.ref (h 0), .int (a1), .int (a2), .int (a3)] s 0 0 A) (F0 m 31 ls [.int (q0), .ref (h 0)]) := by
    intro xx q0 hs H locs hP hD hS ls hl
    unfold s_X5_through_b31 at hs
    obtain ⟨v_1, h_1, hs⟩ := sp_b hs
    refine wr_i (va_runV (As := [.int (q0)]) (rest := []) ⟨hx, hb, hml, hown, hts⟩ (c_X5_goesWell l D ca h xx q0 h_1 H.size) (cwV 1 hts gX5_through_X5_goesWell rfl rfl rfl (by decide +kernel) ⟨Nat.le_of_ble_eq_true rfl, Nat.le_of_ble_eq_true rfl⟩) (wP_V (q := (RX5, TX5, 30)) hP hC hD 0 rfl rfl) rfl rfl hl.1 rfl (lv_room (Nat.le_of_ble_eq_true rfl)) dX5_through_31 ⟨Nat.zero_le _, Nat.zero_le _⟩) hD hS hA (fun H locs hP hD hS => ?_)
    refine lv_if_ne (tgt := 39) hx hb dX5_through_34 (by decide) (fun c_2 => ?_) (fun c_2 => ?_)
    · have hs := sp_f c_2 hs
      refine lv_iload_n hx hb dX5_through_39 rfl (lv_at hl 3 rfl) ?_
      refine lv_aload_n hx hb dX5_through_40 rfl (lv_at hl 0 rfl) ?_
      refine va_get (D := D) (ci := 5) (fs := fsM h (v_1.2)) (v := .ref (h 1)) (C := RX5) (T := TX5) (N := 30) hx hb hts iX5 hown hK hP 0 rfl rfl 1 (by decide) (hts (.fieldLink RX5 7 "FacadeShowModel" "relief" "[I") (by decide +kernel)) (fun _ h9 => h9) rfl dX5_through_41 ?_
      refine lv_iload_n hx hb dX5_through_44 rfl (lv_at hl 2 rfl) ?_
      obtain ⟨h_3, hs⟩ := sp_c hs
      refine va_iald (D := D) (cA := ca 0) (n := 16) (f := (v_1.2).1 1) hx hb hK hP 1 0 rfl rfl h_3 dX5_through_45 ?_
      refine lv_icmp_le (tgt := 69) hx hb dX5_through_46 (by decide) (fun c_4 => ?_) (fun c_4 => ?_)
      · have hs := sp_t c_4 hs
        refine lv_iconst (v := -1) hx hb dX5_through_69 (by decide) ?_
        exact wt_i (f := wM h ca) hx hb hr hAe hs hP hD hS dX5_through_70 hlocks
      · have hs := sp_f c_4 hs
        refine lv_iload_n hx hb dX5_through_49 rfl (lv_at hl 3 rfl) ?_
        refine lv_aload_n hx hb dX5_through_50 rfl (lv_at hl 0 rfl) ?_
        refine va_get (D := D) (ci := 5) (fs := fsM h (v_1.2)) (v := .ref (h 7)) (C := RX5) (T := TX5) (N := 30) hx hb hts iX5 hown hK hP 0 rfl rfl 10 (by decide) (hts (.fieldLink RX5 33 "FacadeShowModel" "row" "[I") (by decide +kernel)) (fun _ h9 => h9) rfl dX5_through_51 ?_
        refine lv_iload_n hx hb dX5_through_54 rfl (lv_at hl 1 rfl) ?_
        obtain ⟨h_5, hs⟩ := sp_c hs
        refine va_iald (D := D) (cA := ca 0) (n := 10) (f := (v_1.2).1 7) hx hb hK hP 7 0 rfl rfl h_5 dX5_through_55 ?_
        refine lv_icmp_ge (tgt := 69) hx hb dX5_through_56 (by decide) (fun c_6 => ?_) (fun c_6 => ?_)
        · have hs := sp_t c_6 hs
          refine lv_iconst (v := -1) hx hb dX5_through_69 (by decide) ?_
          exact wt_i (f := wM h ca) hx hb hr hAe hs hP hD hS dX5_through_70 hlocks
        · have hs := sp_f c_6 hs
          refine lv_aload_n hx hb dX5_through_59 rfl (lv_at hl 0 rfl) ?_
          refine lv_iload_n hx hb dX5_through_60 rfl (lv_at hl 1 rfl) ?_
          refine lv_iload_n hx hb dX5_through_61 rfl (lv_at hl 2 rfl) ?_
          refine lv_iload_n hx hb dX5_through_62 rfl (lv_at hl 3 rfl) ?_
          obtain ⟨v_7, h_7, hs⟩ := sp_b hs
          refine rd_i (va_runV (As := [.int (a1), .int (a2), .int (a3)]) (rest := []) ⟨hx, hb, hml, hown, hts⟩ (c_X5_cross l D ca h v_1.2 a1 a2 a3 h_7) (cwV 3 hts gX5_through_X5_cross rfl rfl rfl (by decide +kernel) ⟨Nat.le_of_ble_eq_true rfl, Nat.le_of_ble_eq_true rfl⟩) (rP_V (q := (RX5, TX5, 30)) hP hC 0 rfl rfl) rfl rfl hl.1 rfl (lv_room (Nat.le_of_ble_eq_true rfl)) dX5_through_63 ⟨Nat.zero_le _, Nat.zero_le _⟩) ?_
          refine lv_goto (tgt := 70) hx hb dX5_through_66 (by decide) ?_
          exact wt_i (f := wM h ca) hx hb hr hAe hs hP hD hS dX5_through_70 hlocks
    · have hs := sp_t c_2 hs
      refine lv_iconst (v := 0) hx hb dX5_through_37 (by decide) ?_
      exact wt_i (f := wM h ca) hx hb hr hAe hs hP hD hS dX5_through_38 hlocks
  unfold s_X5_through at hs
  obtain ⟨H, hHe⟩ : ∃ H, H = s.heap := ⟨_, rfl⟩
  obtain ⟨locs, hle⟩ : ∃ z : List Loc, z = [] := ⟨_, rfl⟩
  have hP : va_P D vwCl (wM h ca x) H := by rw [hHe]; exact hP
  have hS : va_S A s.heap H locs := by rw [hHe, hle]; exact hS
  show W p l e (headSpec wsX5_through ({ frames := 2, cells := 0, slots := 0, locals := 43 })).room s m #[.ref (h 0), .int (a1), .int (a2), .int (a3)] below meth c s.heap [] 0 0 _ _
  have hgo : W p l e (headSpec wsX5_through ({ frames := 2, cells := 0, slots := 0, locals := 43 })).room s m #[.ref (h 0), .int (a1), .int (a2), .int (a3)] below meth c H locs 0 0 (MQ below (wQi r.1 D (wM h ca x) (wM h ca r.2) s.heap.size) #[.ref (h 0), .int (a1), .int (a2), .int (a3)] s 0 0 A) (F0 m 0 ls []) := by
    refine lv_aload_n hx hb dX5_through_0 rfl (lv_at hl 0 rfl) ?_
    refine lv_aload_n hx hb dX5_through_1 rfl (lv_at hl 0 rfl) ?_
    refine lv_iload_n hx hb dX5_through_2 rfl (lv_at hl 1 rfl) ?_
    obtain ⟨v_8, h_8, hs⟩ := sp_b hs
    refine rd_i (va_runV (As := [.int (a1)]) (rest := [.ref (h 0)]) ⟨hx, hb, hml, hown, hts⟩ (c_X5_isProjector l D ca h x a1 h_8) (cwV 1 hts gX5_through_X5_isProjector rfl rfl rfl (by decide +kernel) ⟨Nat.le_of_ble_eq_true rfl, Nat.le_of_ble_eq_true rfl⟩) (rP_V (q := (RX5, TX5, 30)) hP hC 0 rfl rfl) rfl rfl hl.1 rfl (lv_room (Nat.le_of_ble_eq_true rfl)) dX5_through_3 ⟨Nat.zero_le _, Nat.zero_le _⟩) ?_
    refine lv_if_eq (tgt := 30) hx hb dX5_through_6 (by decide) (fun c_9 => ?_) (fun c_9 => ?_)
    · have hs := sp_t c_9 hs
      refine lv_iconst (v := 1) hx hb dX5_through_30 (by decide) ?_
      exact b31  (x) (1) hs H locs hP hD hS ls (lv_sub hl [0, 1, 2, 3] rfl)
    · have hs := sp_f c_9 hs
      refine lv_iload_n hx hb dX5_through_9 rfl (lv_at hl 2 rfl) ?_
      obtain ⟨v_10, h_10, hs⟩ := sp_b hs
      refine rd_i (va_runS (As := [.int (a2)]) (rest := [.ref (h 0)]) ⟨hx, hb, hml, hown, hts⟩ (c_X5_isColumn l D ca a2 h_10) (va_cwS 1 hts gX5_through_X5_isColumn rfl rfl rfl (by decide +kernel) ⟨Nat.le_of_ble_eq_true rfl, Nat.le_of_ble_eq_true rfl⟩) (rP_S va_P_nil hC) rfl rfl hl.1 rfl (lv_room (Nat.le_of_ble_eq_true rfl)) dX5_through_10 ⟨Nat.zero_le _, Nat.zero_le _⟩) ?_
      refine lv_if_eq (tgt := 30) hx hb dX5_through_13 (by decide) (fun c_11 => ?_) (fun c_11 => ?_)
      · have hs := sp_t c_11 hs
        refine lv_iconst (v := 1) hx hb dX5_through_30 (by decide) ?_
        exact b31  (x) (1) hs H locs hP hD hS ls (lv_sub hl [0, 1, 2, 3] rfl)
      · have hs := sp_f c_11 hs
        refine lv_iload_n hx hb dX5_through_16 rfl (lv_at hl 3 rfl) ?_
        refine lv_iconst (v := 0) hx hb dX5_through_17 (by decide) ?_
        refine lv_bipush (v := 11) hx hb dX5_through_18 (by decide) ?_
        obtain ⟨v_12, h_12, hs⟩ := sp_b hs
        refine rd_i (va_runS (As := [.int (a3), .int (0), .int (11)]) (rest := [.ref (h 0)]) ⟨hx, hb, hml, hown, hts⟩ (c_X5_in l D ca a3 0 11 h_12) (va_cwS 3 hts gX5_through_X5_in rfl rfl rfl (by decide +kernel) ⟨Nat.le_of_ble_eq_true rfl, Nat.le_of_ble_eq_true rfl⟩) (rP_S va_P_nil hC) rfl rfl hl.1 rfl (lv_room (Nat.le_of_ble_eq_true rfl)) dX5_through_20 ⟨Nat.zero_le _, Nat.zero_le _⟩) ?_
        refine lv_if_eq (tgt := 30) hx hb dX5_through_23 (by decide) (fun c_13 => ?_) (fun c_13 => ?_)
        · have hs := sp_t c_13 hs
          refine lv_iconst (v := 1) hx hb dX5_through_30 (by decide) ?_
          exact b31  (x) (1) hs H locs hP hD hS ls (lv_sub hl [0, 1, 2, 3] rfl)
        · have hs := sp_f c_13 hs
          refine lv_iconst (v := 0) hx hb dX5_through_26 (by decide) ?_
          refine lv_goto (tgt := 31) hx hb dX5_through_27 (by decide) ?_
          exact b31  (x) (0) hs H locs hP hD hS ls (lv_sub hl [0, 1, 2, 3] rfl)
  rw [hHe, hle] at hgo
  exact hgo
def s_X5_gives_b21 (a1 : Int32) (a2 : Int32) (xx : XS) (q0 : Int32) : Option (Int32 × XS) := (s_X5_goesWell xx q0).bind fun v_1 => (if v_1.1 = 0 then some (0, v_1.2) else (s_X5_lightOf v_1.2 a1 a2).bind fun v_3 => some (v_3, v_1.2))
def s_X5_gives (x : XS) (a1 : Int32) (a2 : Int32) : Option (Int32 × XS) := (s_X5_isProjector x a1).bind fun v_4 => (if v_4 = 0 then s_X5_gives_b21 a1 a2  (x) (1) else (s_X5_isColumn a2).bind fun v_6 => (if v_6 = 0 then s_X5_gives_b21 a1 a2  (x) (1) else s_X5_gives_b21 a1 a2  (x) (0)))
set_option maxHeartbeats 4000000 in
set_option maxRecDepth 100000 in
theorem c_X5_gives (l : Launch) (D : va_G) (ca : Nat → ClassId) (h : Nat → Nat) (x : XS) (a1 : Int32) (a2 : Int32) {r : (Int32 × XS)} (hs : s_X5_gives x a1 a2 = some r) (sz : Nat) : Met l yX5_gives wsX5_gives ({ frames := 3, cells := 0, slots := 0, locals := 75 }) (wP [.ref (h 0), .int (a1), .int (a2)] D ca (wM h ca x) sz) (wQi r.1 D (wM h ca x) (wM h ca r.2) sz) 0 0 (va_A (wM h ca x) sz) := by
  refine Met.ofW (cc := cX5_gives) (maxL := 3) (ret := (some .int)) (by decide) rfl ?_
  intro p e s m args below meth c s₁ B hml hv
  obtain ⟨rfl, hsz, hP, hC, hD0⟩ := hv
  have hx := B.exec
  have hb := B.bytes
  have hr := B.returns
  have hts := atoms_spec (ws := wsX5_gives) B.pre
  have hown : s.vm.findClass RX5 = some m.cls := findClass_of_methodNamed B.named
  have hlocks := B.notSynchronized
  have hK := hC.1
  subst hsz
  have hD := hD0.self (sz := s.heap.size)
  generalize hAe : va_A (wM h ca x) s.heap.size = A at hD ⊢
  have hA : ∀ q : Nat, s.heap.size ≤ q → A q := fun q h => by rw [← hAe]; exact Or.inr h
  have hS : va_S A s.heap s.heap [] := va_S.rf
  skip
  have hl := lv_entry ([.ref (h 0), .int (a1), .int (a2)]) (n := 3) (Nat.le_of_ble_eq_true rfl)
  rw [lg_entry_eq]
  generalize (lg_sl ([.ref (h 0), .int (a1), .int (a2)]) ++ List.replicate (3 - (lg_sl ([.ref (h 0), .int (a1), .int (a2)])).length) Slot.unset).toArray = ls at hl ⊢
  have hl : lv_has ls 3 [(0, .ref (h 0)), (1, .int (a1)), (2, .int (a2))] := hl
  have b21 : ∀ (xx : XS) (q0 : Int32), s_X5_gives_b21 a1 a2 xx q0 = some r → ∀ (H : Heap) (locs : List Loc), va_P D vwCl (wM h ca xx) H → va_D A (wM h ca xx) → va_S A s.heap H locs → ∀ (ls : Array Slot), lv_has ls 3 [(0, .ref (h 0)), (1, .int (a1)), (2, .int (a2))] → W p l e (headSpec wsX5_gives ({ frames := 3, cells := 0, slots := 0, locals := 75 })).room s m #[.ref (h 0), .int (a1), .int (a2)] below meth c H locs 0 0 (MQ below (wQi r.1 D (wM h ca x) (wM h ca r.2) s.heap.size) #[.ref (h 0), .int (a1), .int (a2)] s 0 0 A) (F0 m 21 ls [.int (q0), .ref (h 0)]) := by
    intro xx q0 hs H locs hP hD hS ls hl
    unfold s_X5_gives_b21 at hs
    obtain ⟨v_1, h_1, hs⟩ := sp_b hs
    refine wr_i (va_runV (As := [.int (q0)]) (rest := []) ⟨hx, hb, hml, hown, hts⟩ (c_X5_goesWell l D ca h xx q0 h_1 H.size) (cwV 1 hts gX5_gives_X5_goesWell rfl rfl rfl (by decide +kernel) ⟨Nat.le_of_ble_eq_true rfl, Nat.le_of_ble_eq_true rfl⟩) (wP_V (q := (RX5, TX5, 30)) hP hC hD 0 rfl rfl) rfl rfl hl.1 rfl (lv_room (Nat.le_of_ble_eq_true rfl)) dX5_gives_21 ⟨Nat.zero_le _, Nat.zero_le _⟩) hD hS hA (fun H locs hP hD hS => ?_)
    refine lv_if_eq (tgt := 36) hx hb dX5_gives_24 (by decide) (fun c_2 => ?_) (fun c_2 => ?_)
    · have hs := sp_t c_2 hs
      refine lv_iconst (v := 0) hx hb dX5_gives_36 (by decide) ?_
      exact wt_i (f := wM h ca) hx hb hr hAe hs hP hD hS dX5_gives_37 hlocks
    · have hs := sp_f c_2 hs
      refine lv_aload_n hx hb dX5_gives_27 rfl (lv_at hl 0 rfl) ?_
      refine lv_iload_n hx hb dX5_gives_28 rfl (lv_at hl 1 rfl) ?_
      refine lv_iload_n hx hb dX5_gives_29 rfl (lv_at hl 2 rfl) ?_
      obtain ⟨v_3, h_3, hs⟩ := sp_b hs
      refine rd_i (va_runV (As := [.int (a1), .int (a2)]) (rest := []) ⟨hx, hb, hml, hown, hts⟩ (c_X5_lightOf l D ca h v_1.2 a1 a2 h_3) (cwV 2 hts gX5_gives_X5_lightOf rfl rfl rfl (by decide +kernel) ⟨Nat.le_of_ble_eq_true rfl, Nat.le_of_ble_eq_true rfl⟩) (rP_V (q := (RX5, TX5, 30)) hP hC 0 rfl rfl) rfl rfl hl.1 rfl (lv_room (Nat.le_of_ble_eq_true rfl)) dX5_gives_30 ⟨Nat.zero_le _, Nat.zero_le _⟩) ?_
      refine lv_goto (tgt := 37) hx hb dX5_gives_33 (by decide) ?_
      exact wt_i (f := wM h ca) hx hb hr hAe hs hP hD hS dX5_gives_37 hlocks
  unfold s_X5_gives at hs
  obtain ⟨H, hHe⟩ : ∃ H, H = s.heap := ⟨_, rfl⟩
  obtain ⟨locs, hle⟩ : ∃ z : List Loc, z = [] := ⟨_, rfl⟩
  have hP : va_P D vwCl (wM h ca x) H := by rw [hHe]; exact hP
  have hS : va_S A s.heap H locs := by rw [hHe, hle]; exact hS
  show W p l e (headSpec wsX5_gives ({ frames := 3, cells := 0, slots := 0, locals := 75 })).room s m #[.ref (h 0), .int (a1), .int (a2)] below meth c s.heap [] 0 0 _ _
  have hgo : W p l e (headSpec wsX5_gives ({ frames := 3, cells := 0, slots := 0, locals := 75 })).room s m #[.ref (h 0), .int (a1), .int (a2)] below meth c H locs 0 0 (MQ below (wQi r.1 D (wM h ca x) (wM h ca r.2) s.heap.size) #[.ref (h 0), .int (a1), .int (a2)] s 0 0 A) (F0 m 0 ls []) := by
    refine lv_aload_n hx hb dX5_gives_0 rfl (lv_at hl 0 rfl) ?_
    refine lv_aload_n hx hb dX5_gives_1 rfl (lv_at hl 0 rfl) ?_
    refine lv_iload_n hx hb dX5_gives_2 rfl (lv_at hl 1 rfl) ?_
    obtain ⟨v_4, h_4, hs⟩ := sp_b hs
    refine rd_i (va_runV (As := [.int (a1)]) (rest := [.ref (h 0)]) ⟨hx, hb, hml, hown, hts⟩ (c_X5_isProjector l D ca h x a1 h_4) (cwV 1 hts gX5_gives_X5_isProjector rfl rfl rfl (by decide +kernel) ⟨Nat.le_of_ble_eq_true rfl, Nat.le_of_ble_eq_true rfl⟩) (rP_V (q := (RX5, TX5, 30)) hP hC 0 rfl rfl) rfl rfl hl.1 rfl (lv_room (Nat.le_of_ble_eq_true rfl)) dX5_gives_3 ⟨Nat.zero_le _, Nat.zero_le _⟩) ?_
    refine lv_if_eq (tgt := 20) hx hb dX5_gives_6 (by decide) (fun c_5 => ?_) (fun c_5 => ?_)
    · have hs := sp_t c_5 hs
      refine lv_iconst (v := 1) hx hb dX5_gives_20 (by decide) ?_
      exact b21  (x) (1) hs H locs hP hD hS ls (lv_sub hl [0, 1, 2] rfl)
    · have hs := sp_f c_5 hs
      refine lv_iload_n hx hb dX5_gives_9 rfl (lv_at hl 2 rfl) ?_
      obtain ⟨v_6, h_6, hs⟩ := sp_b hs
      refine rd_i (va_runS (As := [.int (a2)]) (rest := [.ref (h 0)]) ⟨hx, hb, hml, hown, hts⟩ (c_X5_isColumn l D ca a2 h_6) (va_cwS 1 hts gX5_gives_X5_isColumn rfl rfl rfl (by decide +kernel) ⟨Nat.le_of_ble_eq_true rfl, Nat.le_of_ble_eq_true rfl⟩) (rP_S va_P_nil hC) rfl rfl hl.1 rfl (lv_room (Nat.le_of_ble_eq_true rfl)) dX5_gives_10 ⟨Nat.zero_le _, Nat.zero_le _⟩) ?_
      refine lv_if_eq (tgt := 20) hx hb dX5_gives_13 (by decide) (fun c_7 => ?_) (fun c_7 => ?_)
      · have hs := sp_t c_7 hs
        refine lv_iconst (v := 1) hx hb dX5_gives_20 (by decide) ?_
        exact b21  (x) (1) hs H locs hP hD hS ls (lv_sub hl [0, 1, 2] rfl)
      · have hs := sp_f c_7 hs
        refine lv_iconst (v := 0) hx hb dX5_gives_16 (by decide) ?_
        refine lv_goto (tgt := 21) hx hb dX5_gives_17 (by decide) ?_
        exact b21  (x) (0) hs H locs hP hD hS ls (lv_sub hl [0, 1, 2] rfl)
  rw [hHe, hle] at hgo
  exact hgo
def s_X5_isSharp_b21 (a1 : Int32) (a2 : Int32) (xx : XS) (q0 : Int32) : Option (Int32 × XS) := (s_X5_goesWell xx q0).bind fun v_1 => (if v_1.1 = 0 then some (0, v_1.2) else (s_X5_isSharpAt v_1.2 a1 a2).bind fun v_3 => (if v_3 = 0 then some (0, v_1.2) else some (1, v_1.2)))
def s_X5_isSharp (x : XS) (a1 : Int32) (a2 : Int32) : Option (Int32 × XS) := (s_X5_isProjector x a1).bind fun v_5 => (if v_5 = 0 then s_X5_isSharp_b21 a1 a2  (x) (1) else (s_X5_isColumn a2).bind fun v_7 => (if v_7 = 0 then s_X5_isSharp_b21 a1 a2  (x) (1) else s_X5_isSharp_b21 a1 a2  (x) (0)))
set_option maxHeartbeats 4000000 in
set_option maxRecDepth 100000 in
theorem c_X5_isSharp (l : Launch) (D : va_G) (ca : Nat → ClassId) (h : Nat → Nat) (x : XS) (a1 : Int32) (a2 : Int32) {r : (Int32 × XS)} (hs : s_X5_isSharp x a1 a2 = some r) (sz : Nat) : Met l yX5_isSharp wsX5_isSharp ({ frames := 2, cells := 0, slots := 0, locals := 44 }) (wP [.ref (h 0), .int (a1), .int (a2)] D ca (wM h ca x) sz) (wQi r.1 D (wM h ca x) (wM h ca r.2) sz) 0 0 (va_A (wM h ca x) sz) := by
  refine Met.ofW (cc := cX5_isSharp) (maxL := 3) (ret := (some .boolean)) (by decide) rfl ?_
  intro p e s m args below meth c s₁ B hml hv
  obtain ⟨rfl, hsz, hP, hC, hD0⟩ := hv
  have hx := B.exec
  have hb := B.bytes
  have hr := B.returns
  have hts := atoms_spec (ws := wsX5_isSharp) B.pre
  have hown : s.vm.findClass RX5 = some m.cls := findClass_of_methodNamed B.named
  have hlocks := B.notSynchronized
  have hK := hC.1
  subst hsz
  have hD := hD0.self (sz := s.heap.size)
  generalize hAe : va_A (wM h ca x) s.heap.size = A at hD ⊢
  have hA : ∀ q : Nat, s.heap.size ≤ q → A q := fun q h => by rw [← hAe]; exact Or.inr h
  have hS : va_S A s.heap s.heap [] := va_S.rf
  skip
  have hl := lv_entry ([.ref (h 0), .int (a1), .int (a2)]) (n := 3) (Nat.le_of_ble_eq_true rfl)
  rw [lg_entry_eq]
  generalize (lg_sl ([.ref (h 0), .int (a1), .int (a2)]) ++ List.replicate (3 - (lg_sl ([.ref (h 0), .int (a1), .int (a2)])).length) Slot.unset).toArray = ls at hl ⊢
  have hl : lv_has ls 3 [(0, .ref (h 0)), (1, .int (a1)), (2, .int (a2))] := hl
  have b21 : ∀ (xx : XS) (q0 : Int32), s_X5_isSharp_b21 a1 a2 xx q0 = some r → ∀ (H : Heap) (locs : List Loc), va_P D vwCl (wM h ca xx) H → va_D A (wM h ca xx) → va_S A s.heap H locs → ∀ (ls : Array Slot), lv_has ls 3 [(0, .ref (h 0)), (1, .int (a1)), (2, .int (a2))] → W p l e (headSpec wsX5_isSharp ({ frames := 2, cells := 0, slots := 0, locals := 44 })).room s m #[.ref (h 0), .int (a1), .int (a2)] below meth c H locs 0 0 (MQ below (wQi r.1 D (wM h ca x) (wM h ca r.2) s.heap.size) #[.ref (h 0), .int (a1), .int (a2)] s 0 0 A) (F0 m 21 ls [.int (q0), .ref (h 0)]) := by
    intro xx q0 hs H locs hP hD hS ls hl
    unfold s_X5_isSharp_b21 at hs
    obtain ⟨v_1, h_1, hs⟩ := sp_b hs
    refine wr_i (va_runV (As := [.int (q0)]) (rest := []) ⟨hx, hb, hml, hown, hts⟩ (c_X5_goesWell l D ca h xx q0 h_1 H.size) (cwV 1 hts gX5_isSharp_X5_goesWell rfl rfl rfl (by decide +kernel) ⟨Nat.le_of_ble_eq_true rfl, Nat.le_of_ble_eq_true rfl⟩) (wP_V (q := (RX5, TX5, 30)) hP hC hD 0 rfl rfl) rfl rfl hl.1 rfl (lv_room (Nat.le_of_ble_eq_true rfl)) dX5_isSharp_21 ⟨Nat.zero_le _, Nat.zero_le _⟩) hD hS hA (fun H locs hP hD hS => ?_)
    refine lv_if_eq (tgt := 40) hx hb dX5_isSharp_24 (by decide) (fun c_2 => ?_) (fun c_2 => ?_)
    · have hs := sp_t c_2 hs
      refine lv_iconst (v := 0) hx hb dX5_isSharp_40 (by decide) ?_
      exact wt_z (f := wM h ca) hx hb hr hAe (by decide) hs hP hD hS dX5_isSharp_41 hlocks
    · have hs := sp_f c_2 hs
      refine lv_aload_n hx hb dX5_isSharp_27 rfl (lv_at hl 0 rfl) ?_
      refine lv_iload_n hx hb dX5_isSharp_28 rfl (lv_at hl 1 rfl) ?_
      refine lv_iload_n hx hb dX5_isSharp_29 rfl (lv_at hl 2 rfl) ?_
      obtain ⟨v_3, h_3, hs⟩ := sp_b hs
      refine rd_i (va_runV (As := [.int (a1), .int (a2)]) (rest := []) ⟨hx, hb, hml, hown, hts⟩ (c_X5_isSharpAt l D ca h v_1.2 a1 a2 h_3) (cwV 2 hts gX5_isSharp_X5_isSharpAt rfl rfl rfl (by decide +kernel) ⟨Nat.le_of_ble_eq_true rfl, Nat.le_of_ble_eq_true rfl⟩) (rP_V (q := (RX5, TX5, 30)) hP hC 0 rfl rfl) rfl rfl hl.1 rfl (lv_room (Nat.le_of_ble_eq_true rfl)) dX5_isSharp_30 ⟨Nat.zero_le _, Nat.zero_le _⟩) ?_
      refine lv_if_eq (tgt := 40) hx hb dX5_isSharp_33 (by decide) (fun c_4 => ?_) (fun c_4 => ?_)
      · have hs := sp_t c_4 hs
        refine lv_iconst (v := 0) hx hb dX5_isSharp_40 (by decide) ?_
        exact wt_z (f := wM h ca) hx hb hr hAe (by decide) hs hP hD hS dX5_isSharp_41 hlocks
      · have hs := sp_f c_4 hs
        refine lv_iconst (v := 1) hx hb dX5_isSharp_36 (by decide) ?_
        refine lv_goto (tgt := 41) hx hb dX5_isSharp_37 (by decide) ?_
        exact wt_z (f := wM h ca) hx hb hr hAe (by decide) hs hP hD hS dX5_isSharp_41 hlocks
  unfold s_X5_isSharp at hs
  obtain ⟨H, hHe⟩ : ∃ H, H = s.heap := ⟨_, rfl⟩
  obtain ⟨locs, hle⟩ : ∃ z : List Loc, z = [] := ⟨_, rfl⟩
  have hP : va_P D vwCl (wM h ca x) H := by rw [hHe]; exact hP
  have hS : va_S A s.heap H locs := by rw [hHe, hle]; exact hS
  show W p l e (headSpec wsX5_isSharp ({ frames := 2, cells := 0, slots := 0, locals := 44 })).room s m #[.ref (h 0), .int (a1), .int (a2)] below meth c s.heap [] 0 0 _ _
  have hgo : W p l e (headSpec wsX5_isSharp ({ frames := 2, cells := 0, slots := 0, locals := 44 })).room s m #[.ref (h 0), .int (a1), .int (a2)] below meth c H locs 0 0 (MQ below (wQi r.1 D (wM h ca x) (wM h ca r.2) s.heap.size) #[.ref (h 0), .int (a1), .int (a2)] s 0 0 A) (F0 m 0 ls []) := by
    refine lv_aload_n hx hb dX5_isSharp_0 rfl (lv_at hl 0 rfl) ?_
    refine lv_aload_n hx hb dX5_isSharp_1 rfl (lv_at hl 0 rfl) ?_
    refine lv_iload_n hx hb dX5_isSharp_2 rfl (lv_at hl 1 rfl) ?_
    obtain ⟨v_5, h_5, hs⟩ := sp_b hs
    refine rd_i (va_runV (As := [.int (a1)]) (rest := [.ref (h 0)]) ⟨hx, hb, hml, hown, hts⟩ (c_X5_isProjector l D ca h x a1 h_5) (cwV 1 hts gX5_isSharp_X5_isProjector rfl rfl rfl (by decide +kernel) ⟨Nat.le_of_ble_eq_true rfl, Nat.le_of_ble_eq_true rfl⟩) (rP_V (q := (RX5, TX5, 30)) hP hC 0 rfl rfl) rfl rfl hl.1 rfl (lv_room (Nat.le_of_ble_eq_true rfl)) dX5_isSharp_3 ⟨Nat.zero_le _, Nat.zero_le _⟩) ?_
    refine lv_if_eq (tgt := 20) hx hb dX5_isSharp_6 (by decide) (fun c_6 => ?_) (fun c_6 => ?_)
    · have hs := sp_t c_6 hs
      refine lv_iconst (v := 1) hx hb dX5_isSharp_20 (by decide) ?_
      exact b21  (x) (1) hs H locs hP hD hS ls (lv_sub hl [0, 1, 2] rfl)
    · have hs := sp_f c_6 hs
      refine lv_iload_n hx hb dX5_isSharp_9 rfl (lv_at hl 2 rfl) ?_
      obtain ⟨v_7, h_7, hs⟩ := sp_b hs
      refine rd_i (va_runS (As := [.int (a2)]) (rest := [.ref (h 0)]) ⟨hx, hb, hml, hown, hts⟩ (c_X5_isColumn l D ca a2 h_7) (va_cwS 1 hts gX5_isSharp_X5_isColumn rfl rfl rfl (by decide +kernel) ⟨Nat.le_of_ble_eq_true rfl, Nat.le_of_ble_eq_true rfl⟩) (rP_S va_P_nil hC) rfl rfl hl.1 rfl (lv_room (Nat.le_of_ble_eq_true rfl)) dX5_isSharp_10 ⟨Nat.zero_le _, Nat.zero_le _⟩) ?_
      refine lv_if_eq (tgt := 20) hx hb dX5_isSharp_13 (by decide) (fun c_8 => ?_) (fun c_8 => ?_)
      · have hs := sp_t c_8 hs
        refine lv_iconst (v := 1) hx hb dX5_isSharp_20 (by decide) ?_
        exact b21  (x) (1) hs H locs hP hD hS ls (lv_sub hl [0, 1, 2] rfl)
      · have hs := sp_f c_8 hs
        refine lv_iconst (v := 0) hx hb dX5_isSharp_16 (by decide) ?_
        refine lv_goto (tgt := 21) hx hb dX5_isSharp_17 (by decide) ?_
        exact b21  (x) (0) hs H locs hP hD hS ls (lv_sub hl [0, 1, 2] rfl)
  rw [hHe, hle] at hgo
  exact hgo
def s_X5_light_b13 (a1 : Int32) (xx : XS) (q0 : Int32) : Option (Int32 × XS) := (s_X5_goesWell xx q0).bind fun v_1 => (if v_1.1 = 0 then some (0, v_1.2) else (s_X5_lightAt v_1.2 a1).bind fun v_3 => some (v_3, v_1.2))
def s_X5_light (x : XS) (a1 : Int32) : Option (Int32 × XS) := (s_X5_isColumn a1).bind fun v_4 => (if v_4 = 0 then s_X5_light_b13 a1  (x) (1) else s_X5_light_b13 a1  (x) (0))
set_option maxHeartbeats 4000000 in
set_option maxRecDepth 100000 in
theorem c_X5_light (l : Launch) (D : va_G) (ca : Nat → ClassId) (h : Nat → Nat) (x : XS) (a1 : Int32) {r : (Int32 × XS)} (hs : s_X5_light x a1 = some r) (sz : Nat) : Met l yX5_light wsX5_light ({ frames := 4, cells := 0, slots := 0, locals := 98 }) (wP [.ref (h 0), .int (a1)] D ca (wM h ca x) sz) (wQi r.1 D (wM h ca x) (wM h ca r.2) sz) 0 0 (va_A (wM h ca x) sz) := by
  refine Met.ofW (cc := cX5_light) (maxL := 2) (ret := (some .int)) (by decide) rfl ?_
  intro p e s m args below meth c s₁ B hml hv
  obtain ⟨rfl, hsz, hP, hC, hD0⟩ := hv
  have hx := B.exec
  have hb := B.bytes
  have hr := B.returns
  have hts := atoms_spec (ws := wsX5_light) B.pre
  have hown : s.vm.findClass RX5 = some m.cls := findClass_of_methodNamed B.named
  have hlocks := B.notSynchronized
  have hK := hC.1
  subst hsz
  have hD := hD0.self (sz := s.heap.size)
  generalize hAe : va_A (wM h ca x) s.heap.size = A at hD ⊢
  have hA : ∀ q : Nat, s.heap.size ≤ q → A q := fun q h => by rw [← hAe]; exact Or.inr h
  have hS : va_S A s.heap s.heap [] := va_S.rf
  skip
  have hl := lv_entry ([.ref (h 0), .int (a1)]) (n := 2) (Nat.le_of_ble_eq_true rfl)
  rw [lg_entry_eq]
  generalize (lg_sl ([.ref (h 0), .int (a1)]) ++ List.replicate (2 - (lg_sl ([.ref (h 0), .int (a1)])).length) Slot.unset).toArray = ls at hl ⊢
  have hl : lv_has ls 2 [(0, .ref (h 0)), (1, .int (a1))] := hl
  have b13 : ∀ (xx : XS) (q0 : Int32), s_X5_light_b13 a1 xx q0 = some r → ∀ (H : Heap) (locs : List Loc), va_P D vwCl (wM h ca xx) H → va_D A (wM h ca xx) → va_S A s.heap H locs → ∀ (ls : Array Slot), lv_has ls 2 [(0, .ref (h 0)), (1, .int (a1))] → W p l e (headSpec wsX5_light ({ frames := 4, cells := 0, slots := 0, locals := 98 })).room s m #[.ref (h 0), .int (a1)] below meth c H locs 0 0 (MQ below (wQi r.1 D (wM h ca x) (wM h ca r.2) s.heap.size) #[.ref (h 0), .int (a1)] s 0 0 A) (F0 m 13 ls [.int (q0), .ref (h 0)]) := by
    intro xx q0 hs H locs hP hD hS ls hl
    unfold s_X5_light_b13 at hs
    obtain ⟨v_1, h_1, hs⟩ := sp_b hs
    refine wr_i (va_runV (As := [.int (q0)]) (rest := []) ⟨hx, hb, hml, hown, hts⟩ (c_X5_goesWell l D ca h xx q0 h_1 H.size) (cwV 1 hts gX5_light_X5_goesWell rfl rfl rfl (by decide +kernel) ⟨Nat.le_of_ble_eq_true rfl, Nat.le_of_ble_eq_true rfl⟩) (wP_V (q := (RX5, TX5, 30)) hP hC hD 0 rfl rfl) rfl rfl hl.1 rfl (lv_room (Nat.le_of_ble_eq_true rfl)) dX5_light_13 ⟨Nat.zero_le _, Nat.zero_le _⟩) hD hS hA (fun H locs hP hD hS => ?_)
    refine lv_if_eq (tgt := 27) hx hb dX5_light_16 (by decide) (fun c_2 => ?_) (fun c_2 => ?_)
    · have hs := sp_t c_2 hs
      refine lv_iconst (v := 0) hx hb dX5_light_27 (by decide) ?_
      exact wt_i (f := wM h ca) hx hb hr hAe hs hP hD hS dX5_light_28 hlocks
    · have hs := sp_f c_2 hs
      refine lv_aload_n hx hb dX5_light_19 rfl (lv_at hl 0 rfl) ?_
      refine lv_iload_n hx hb dX5_light_20 rfl (lv_at hl 1 rfl) ?_
      obtain ⟨v_3, h_3, hs⟩ := sp_b hs
      refine rd_i (va_runV (As := [.int (a1)]) (rest := []) ⟨hx, hb, hml, hown, hts⟩ (c_X5_lightAt l D ca h v_1.2 a1 h_3) (cwV 1 hts gX5_light_X5_lightAt rfl rfl rfl (by decide +kernel) ⟨Nat.le_of_ble_eq_true rfl, Nat.le_of_ble_eq_true rfl⟩) (rP_V (q := (RX5, TX5, 30)) hP hC 0 rfl rfl) rfl rfl hl.1 rfl (lv_room (Nat.le_of_ble_eq_true rfl)) dX5_light_21 ⟨Nat.zero_le _, Nat.zero_le _⟩) ?_
      refine lv_goto (tgt := 28) hx hb dX5_light_24 (by decide) ?_
      exact wt_i (f := wM h ca) hx hb hr hAe hs hP hD hS dX5_light_28 hlocks
  unfold s_X5_light at hs
  obtain ⟨H, hHe⟩ : ∃ H, H = s.heap := ⟨_, rfl⟩
  obtain ⟨locs, hle⟩ : ∃ z : List Loc, z = [] := ⟨_, rfl⟩
  have hP : va_P D vwCl (wM h ca x) H := by rw [hHe]; exact hP
  have hS : va_S A s.heap H locs := by rw [hHe, hle]; exact hS
  show W p l e (headSpec wsX5_light ({ frames := 4, cells := 0, slots := 0, locals := 98 })).room s m #[.ref (h 0), .int (a1)] below meth c s.heap [] 0 0 _ _
  have hgo : W p l e (headSpec wsX5_light ({ frames := 4, cells := 0, slots := 0, locals := 98 })).room s m #[.ref (h 0), .int (a1)] below meth c H locs 0 0 (MQ below (wQi r.1 D (wM h ca x) (wM h ca r.2) s.heap.size) #[.ref (h 0), .int (a1)] s 0 0 A) (F0 m 0 ls []) := by
    refine lv_aload_n hx hb dX5_light_0 rfl (lv_at hl 0 rfl) ?_
    refine lv_iload_n hx hb dX5_light_1 rfl (lv_at hl 1 rfl) ?_
    obtain ⟨v_4, h_4, hs⟩ := sp_b hs
    refine rd_i (va_runS (As := [.int (a1)]) (rest := [.ref (h 0)]) ⟨hx, hb, hml, hown, hts⟩ (c_X5_isColumn l D ca a1 h_4) (va_cwS 1 hts gX5_light_X5_isColumn rfl rfl rfl (by decide +kernel) ⟨Nat.le_of_ble_eq_true rfl, Nat.le_of_ble_eq_true rfl⟩) (rP_S va_P_nil hC) rfl rfl hl.1 rfl (lv_room (Nat.le_of_ble_eq_true rfl)) dX5_light_2 ⟨Nat.zero_le _, Nat.zero_le _⟩) ?_
    refine lv_if_eq (tgt := 12) hx hb dX5_light_5 (by decide) (fun c_5 => ?_) (fun c_5 => ?_)
    · have hs := sp_t c_5 hs
      refine lv_iconst (v := 1) hx hb dX5_light_12 (by decide) ?_
      exact b13  (x) (1) hs H locs hP hD hS ls (lv_sub hl [0, 1] rfl)
    · have hs := sp_f c_5 hs
      refine lv_iconst (v := 0) hx hb dX5_light_8 (by decide) ?_
      refine lv_goto (tgt := 13) hx hb dX5_light_9 (by decide) ?_
      exact b13  (x) (0) hs H locs hP hD hS ls (lv_sub hl [0, 1] rfl)
  rw [hHe, hle] at hgo
  exact hgo
def s_X5_blended_b47 (a1 : Int32) (a2 : Int32) (xx : XS) (q0 : Int32) : Option (Int32 × XS) := (s_X5_lightAt xx a2).bind fun v_1 => (if v_1 ≤ (xx.1 0 7) then some (q0, xx) else dvzL v_1.toInt64 (some (((q0.toInt64 * ((xx.1 0 7).toInt64)) / v_1.toInt64).toInt32, xx)))
def s_X5_blended_b21 (a1 : Int32) (a2 : Int32) (xx : XS) (q0 : Int32) : Option (Int32 × XS) := (s_X5_goesWell xx q0).bind fun v_4 => (if v_4.1 = 0 then some (0, v_4.2) else (s_X5_shines v_4.2 a1).bind fun v_6 => (if v_6 = 0 then s_X5_blended_b47 a1 a2  (v_4.2) (0) else (s_X5_lightOf v_4.2 a1 a2).bind fun v_8 => s_X5_blended_b47 a1 a2  (v_4.2) (v_8)))
def s_X5_blended (x : XS) (a1 : Int32) (a2 : Int32) : Option (Int32 × XS) := (s_X5_isProjector x a1).bind fun v_9 => (if v_9 = 0 then s_X5_blended_b21 a1 a2  (x) (1) else (s_X5_isColumn a2).bind fun v_11 => (if v_11 = 0 then s_X5_blended_b21 a1 a2  (x) (1) else s_X5_blended_b21 a1 a2  (x) (0)))
set_option maxHeartbeats 4000000 in
set_option maxRecDepth 100000 in
theorem c_X5_blended (l : Launch) (D : va_G) (ca : Nat → ClassId) (h : Nat → Nat) (x : XS) (a1 : Int32) (a2 : Int32) {r : (Int32 × XS)} (hs : s_X5_blended x a1 a2 = some r) (sz : Nat) : Met l yX5_blended wsX5_blended ({ frames := 4, cells := 0, slots := 0, locals := 98 }) (wP [.ref (h 0), .int (a1), .int (a2)] D ca (wM h ca x) sz) (wQi r.1 D (wM h ca x) (wM h ca r.2) sz) 0 0 (va_A (wM h ca x) sz) := by
  refine Met.ofW (cc := cX5_blended) (maxL := 5) (ret := (some .int)) (by decide) rfl ?_
  intro p e s m args below meth c s₁ B hml hv
  obtain ⟨rfl, hsz, hP, hC, hD0⟩ := hv
  have hx := B.exec
  have hb := B.bytes
  have hr := B.returns
  have hts := atoms_spec (ws := wsX5_blended) B.pre
  have hown : s.vm.findClass RX5 = some m.cls := findClass_of_methodNamed B.named
  have hlocks := B.notSynchronized
  have hK := hC.1
  subst hsz
  have hD := hD0.self (sz := s.heap.size)
  generalize hAe : va_A (wM h ca x) s.heap.size = A at hD ⊢
  have hA : ∀ q : Nat, s.heap.size ≤ q → A q := fun q h => by rw [← hAe]; exact Or.inr h
  have hS : va_S A s.heap s.heap [] := va_S.rf
  skip
  have iX5 : ∀ w ∈ u_ws RX5 TX5 30, w ∈ wsX5_blended := by decide +kernel
  have hl := lv_entry ([.ref (h 0), .int (a1), .int (a2)]) (n := 5) (Nat.le_of_ble_eq_true rfl)
  rw [lg_entry_eq]
  generalize (lg_sl ([.ref (h 0), .int (a1), .int (a2)]) ++ List.replicate (5 - (lg_sl ([.ref (h 0), .int (a1), .int (a2)])).length) Slot.unset).toArray = ls at hl ⊢
  have hl : lv_has ls 5 [(0, .ref (h 0)), (1, .int (a1)), (2, .int (a2))] := hl
  have b47 : ∀ (xx : XS) (q0 : Int32), s_X5_blended_b47 a1 a2 xx q0 = some r → ∀ (H : Heap) (locs : List Loc), va_P D vwCl (wM h ca xx) H → va_D A (wM h ca xx) → va_S A s.heap H locs → ∀ (ls : Array Slot), lv_has ls 5 [(0, .ref (h 0)), (2, .int (a2))] → W p l e (headSpec wsX5_blended ({ frames := 4, cells := 0, slots := 0, locals := 98 })).room s m #[.ref (h 0), .int (a1), .int (a2)] below meth c H locs 0 0 (MQ below (wQi r.1 D (wM h ca x) (wM h ca r.2) s.heap.size) #[.ref (h 0), .int (a1), .int (a2)] s 0 0 A) (F0 m 47 ls [.int (q0)]) := by
    intro xx q0 hs H locs hP hD hS ls hl
    unfold s_X5_blended_b47 at hs
    refine lv_istore_n (lv' := [(3, .int (q0)), (0, .ref (h 0)), (2, .int (a2))]) hx hb dX5_blended_47 rfl hl (by decide) rfl (fun ls hl => ?_)
    refine lv_aload_n hx hb dX5_blended_48 rfl (lv_at hl 1 rfl) ?_
    refine lv_iload_n hx hb dX5_blended_49 rfl (lv_at hl 2 rfl) ?_
    obtain ⟨v_1, h_1, hs⟩ := sp_b hs
    refine rd_i (va_runV (As := [.int (a2)]) (rest := []) ⟨hx, hb, hml, hown, hts⟩ (c_X5_lightAt l D ca h xx a2 h_1) (cwV 1 hts gX5_blended_X5_lightAt rfl rfl rfl (by decide +kernel) ⟨Nat.le_of_ble_eq_true rfl, Nat.le_of_ble_eq_true rfl⟩) (rP_V (q := (RX5, TX5, 30)) hP hC 0 rfl rfl) rfl rfl hl.1 rfl (lv_room (Nat.le_of_ble_eq_true rfl)) dX5_blended_50 ⟨Nat.zero_le _, Nat.zero_le _⟩) ?_
    refine lv_istore (lv' := [(4, .int (v_1)), (3, .int (q0)), (0, .ref (h 0)), (2, .int (a2))]) hx hb dX5_blended_53 hl (by decide) rfl (fun ls hl => ?_)
    refine lv_iload hx hb dX5_blended_55 (lv_at hl 0 rfl) ?_
    refine lv_aload_n hx hb dX5_blended_57 rfl (lv_at hl 2 rfl) ?_
    refine va_get (D := D) (ci := 5) (fs := fsM h (xx)) (v := .int (xx.1 0 7)) (C := RX5) (T := TX5) (N := 30) hx hb hts iX5 hown hK hP 0 rfl rfl 7 (by decide) (hts (.fieldLink RX5 26 "FacadeShowModel" "level" "I") (by decide +kernel)) (fun _ h9 => h9) rfl dX5_blended_58 ?_
    refine lv_icmp_le (tgt := 80) hx hb dX5_blended_61 (by decide) (fun c_2 => ?_) (fun c_2 => ?_)
    · have hs := sp_t c_2 hs
      refine lv_iload_n hx hb dX5_blended_80 rfl (lv_at hl 1 rfl) ?_
      exact wt_i (f := wM h ca) hx hb hr hAe hs hP hD hS dX5_blended_81 hlocks
    · have hs := sp_f c_2 hs
      refine lv_iload_n hx hb dX5_blended_64 rfl (lv_at hl 1 rfl) ?_
      refine lv_i2l hx hb dX5_blended_65 rfl ?_
      refine lv_aload_n hx hb dX5_blended_66 rfl (lv_at hl 2 rfl) ?_
      refine va_get (D := D) (ci := 5) (fs := fsM h (xx)) (v := .int (xx.1 0 7)) (C := RX5) (T := TX5) (N := 30) hx hb hts iX5 hown hK hP 0 rfl rfl 7 (by decide) (hts (.fieldLink RX5 26 "FacadeShowModel" "level" "I") (by decide +kernel)) (fun _ h9 => h9) rfl dX5_blended_67 ?_
      refine lv_i2l hx hb dX5_blended_70 rfl ?_
      refine lv_lmul hx hb dX5_blended_71 ?_
      refine lv_iload hx hb dX5_blended_72 (lv_at hl 0 rfl) ?_
      refine lv_i2l hx hb dX5_blended_74 rfl ?_
      obtain ⟨h_3, hs⟩ := sp_dL hs
      refine lv_ldiv hx hb dX5_blended_75 h_3 ?_
      refine lv_l2i hx hb dX5_blended_76 rfl ?_
      refine lv_goto (tgt := 81) hx hb dX5_blended_77 (by decide) ?_
      exact wt_i (f := wM h ca) hx hb hr hAe hs hP hD hS dX5_blended_81 hlocks
  have b21 : ∀ (xx : XS) (q0 : Int32), s_X5_blended_b21 a1 a2 xx q0 = some r → ∀ (H : Heap) (locs : List Loc), va_P D vwCl (wM h ca xx) H → va_D A (wM h ca xx) → va_S A s.heap H locs → ∀ (ls : Array Slot), lv_has ls 5 [(0, .ref (h 0)), (1, .int (a1)), (2, .int (a2))] → W p l e (headSpec wsX5_blended ({ frames := 4, cells := 0, slots := 0, locals := 98 })).room s m #[.ref (h 0), .int (a1), .int (a2)] below meth c H locs 0 0 (MQ below (wQi r.1 D (wM h ca x) (wM h ca r.2) s.heap.size) #[.ref (h 0), .int (a1), .int (a2)] s 0 0 A) (F0 m 21 ls [.int (q0), .ref (h 0)]) := by
    intro xx q0 hs H locs hP hD hS ls hl
    unfold s_X5_blended_b21 at hs
    obtain ⟨v_4, h_4, hs⟩ := sp_b hs
    refine wr_i (va_runV (As := [.int (q0)]) (rest := []) ⟨hx, hb, hml, hown, hts⟩ (c_X5_goesWell l D ca h xx q0 h_4 H.size) (cwV 1 hts gX5_blended_X5_goesWell rfl rfl rfl (by decide +kernel) ⟨Nat.le_of_ble_eq_true rfl, Nat.le_of_ble_eq_true rfl⟩) (wP_V (q := (RX5, TX5, 30)) hP hC hD 0 rfl rfl) rfl rfl hl.1 rfl (lv_room (Nat.le_of_ble_eq_true rfl)) dX5_blended_21 ⟨Nat.zero_le _, Nat.zero_le _⟩) hD hS hA (fun H locs hP hD hS => ?_)
    refine lv_if_ne (tgt := 29) hx hb dX5_blended_24 (by decide) (fun c_5 => ?_) (fun c_5 => ?_)
    · have hs := sp_f c_5 hs
      refine lv_aload_n hx hb dX5_blended_29 rfl (lv_at hl 0 rfl) ?_
      refine lv_iload_n hx hb dX5_blended_30 rfl (lv_at hl 1 rfl) ?_
      obtain ⟨v_6, h_6, hs⟩ := sp_b hs
      refine rd_i (va_runV (As := [.int (a1)]) (rest := []) ⟨hx, hb, hml, hown, hts⟩ (c_X5_shines l D ca h v_4.2 a1 h_6) (cwV 1 hts gX5_blended_X5_shines rfl rfl rfl (by decide +kernel) ⟨Nat.le_of_ble_eq_true rfl, Nat.le_of_ble_eq_true rfl⟩) (rP_V (q := (RX5, TX5, 30)) hP hC 0 rfl rfl) rfl rfl hl.1 rfl (lv_room (Nat.le_of_ble_eq_true rfl)) dX5_blended_31 ⟨Nat.zero_le _, Nat.zero_le _⟩) ?_
      refine lv_if_eq (tgt := 46) hx hb dX5_blended_34 (by decide) (fun c_7 => ?_) (fun c_7 => ?_)
      · have hs := sp_t c_7 hs
        refine lv_iconst (v := 0) hx hb dX5_blended_46 (by decide) ?_
        exact b47  (v_4.2) (0) hs H locs hP hD hS ls (lv_sub hl [0, 2] rfl)
      · have hs := sp_f c_7 hs
        refine lv_aload_n hx hb dX5_blended_37 rfl (lv_at hl 0 rfl) ?_
        refine lv_iload_n hx hb dX5_blended_38 rfl (lv_at hl 1 rfl) ?_
        refine lv_iload_n hx hb dX5_blended_39 rfl (lv_at hl 2 rfl) ?_
        obtain ⟨v_8, h_8, hs⟩ := sp_b hs
        refine rd_i (va_runV (As := [.int (a1), .int (a2)]) (rest := []) ⟨hx, hb, hml, hown, hts⟩ (c_X5_lightOf l D ca h v_4.2 a1 a2 h_8) (cwV 2 hts gX5_blended_X5_lightOf rfl rfl rfl (by decide +kernel) ⟨Nat.le_of_ble_eq_true rfl, Nat.le_of_ble_eq_true rfl⟩) (rP_V (q := (RX5, TX5, 30)) hP hC 0 rfl rfl) rfl rfl hl.1 rfl (lv_room (Nat.le_of_ble_eq_true rfl)) dX5_blended_40 ⟨Nat.zero_le _, Nat.zero_le _⟩) ?_
        refine lv_goto (tgt := 47) hx hb dX5_blended_43 (by decide) ?_
        exact b47  (v_4.2) (v_8) hs H locs hP hD hS ls (lv_sub hl [0, 2] rfl)
    · have hs := sp_t c_5 hs
      refine lv_iconst (v := 0) hx hb dX5_blended_27 (by decide) ?_
      exact wt_i (f := wM h ca) hx hb hr hAe hs hP hD hS dX5_blended_28 hlocks
  unfold s_X5_blended at hs
  obtain ⟨H, hHe⟩ : ∃ H, H = s.heap := ⟨_, rfl⟩
  obtain ⟨locs, hle⟩ : ∃ z : List Loc, z = [] := ⟨_, rfl⟩
  have hP : va_P D vwCl (wM h ca x) H := by rw [hHe]; exact hP
  have hS : va_S A s.heap H locs := by rw [hHe, hle]; exact hS
  show W p l e (headSpec wsX5_blended ({ frames := 4, cells := 0, slots := 0, locals := 98 })).room s m #[.ref (h 0), .int (a1), .int (a2)] below meth c s.heap [] 0 0 _ _
  have hgo : W p l e (headSpec wsX5_blended ({ frames := 4, cells := 0, slots := 0, locals := 98 })).room s m #[.ref (h 0), .int (a1), .int (a2)] below meth c H locs 0 0 (MQ below (wQi r.1 D (wM h ca x) (wM h ca r.2) s.heap.size) #[.ref (h 0), .int (a1), .int (a2)] s 0 0 A) (F0 m 0 ls []) := by
    refine lv_aload_n hx hb dX5_blended_0 rfl (lv_at hl 0 rfl) ?_
    refine lv_aload_n hx hb dX5_blended_1 rfl (lv_at hl 0 rfl) ?_
    refine lv_iload_n hx hb dX5_blended_2 rfl (lv_at hl 1 rfl) ?_
    obtain ⟨v_9, h_9, hs⟩ := sp_b hs
    refine rd_i (va_runV (As := [.int (a1)]) (rest := [.ref (h 0)]) ⟨hx, hb, hml, hown, hts⟩ (c_X5_isProjector l D ca h x a1 h_9) (cwV 1 hts gX5_blended_X5_isProjector rfl rfl rfl (by decide +kernel) ⟨Nat.le_of_ble_eq_true rfl, Nat.le_of_ble_eq_true rfl⟩) (rP_V (q := (RX5, TX5, 30)) hP hC 0 rfl rfl) rfl rfl hl.1 rfl (lv_room (Nat.le_of_ble_eq_true rfl)) dX5_blended_3 ⟨Nat.zero_le _, Nat.zero_le _⟩) ?_
    refine lv_if_eq (tgt := 20) hx hb dX5_blended_6 (by decide) (fun c_10 => ?_) (fun c_10 => ?_)
    · have hs := sp_t c_10 hs
      refine lv_iconst (v := 1) hx hb dX5_blended_20 (by decide) ?_
      exact b21  (x) (1) hs H locs hP hD hS ls (lv_sub hl [0, 1, 2] rfl)
    · have hs := sp_f c_10 hs
      refine lv_iload_n hx hb dX5_blended_9 rfl (lv_at hl 2 rfl) ?_
      obtain ⟨v_11, h_11, hs⟩ := sp_b hs
      refine rd_i (va_runS (As := [.int (a2)]) (rest := [.ref (h 0)]) ⟨hx, hb, hml, hown, hts⟩ (c_X5_isColumn l D ca a2 h_11) (va_cwS 1 hts gX5_blended_X5_isColumn rfl rfl rfl (by decide +kernel) ⟨Nat.le_of_ble_eq_true rfl, Nat.le_of_ble_eq_true rfl⟩) (rP_S va_P_nil hC) rfl rfl hl.1 rfl (lv_room (Nat.le_of_ble_eq_true rfl)) dX5_blended_10 ⟨Nat.zero_le _, Nat.zero_le _⟩) ?_
      refine lv_if_eq (tgt := 20) hx hb dX5_blended_13 (by decide) (fun c_12 => ?_) (fun c_12 => ?_)
      · have hs := sp_t c_12 hs
        refine lv_iconst (v := 1) hx hb dX5_blended_20 (by decide) ?_
        exact b21  (x) (1) hs H locs hP hD hS ls (lv_sub hl [0, 1, 2] rfl)
      · have hs := sp_f c_12 hs
        refine lv_iconst (v := 0) hx hb dX5_blended_16 (by decide) ?_
        refine lv_goto (tgt := 21) hx hb dX5_blended_17 (by decide) ?_
        exact b21  (x) (0) hs H locs hP hD hS ls (lv_sub hl [0, 1, 2] rfl)
  rw [hHe, hle] at hgo
  exact hgo
def s_X5_covered_b14 (a1 : Int32) (xx : XS) (q0 : Int32) : Option (Int32 × XS) := (s_X5_goesWell xx q0).bind fun v_1 => (if v_1.1 = 0 then some (0, v_1.2) else (s_X5_coveredBy v_1.2 a1).bind fun v_3 => some (v_3, v_1.2))
def s_X5_covered (x : XS) (a1 : Int32) : Option (Int32 × XS) := (s_X5_isSet x a1).bind fun v_4 => (if v_4 = 0 then s_X5_covered_b14 a1  (x) (1) else s_X5_covered_b14 a1  (x) (0))
set_option maxHeartbeats 4000000 in
set_option maxRecDepth 100000 in
theorem c_X5_covered (l : Launch) (D : va_G) (ca : Nat → ClassId) (h : Nat → Nat) (x : XS) (a1 : Int32) {r : (Int32 × XS)} (hs : s_X5_covered x a1 = some r) (sz : Nat) : Met l yX5_covered wsX5_covered ({ frames := 5, cells := 0, slots := 0, locals := 124 }) (wP [.ref (h 0), .int (a1)] D ca (wM h ca x) sz) (wQi r.1 D (wM h ca x) (wM h ca r.2) sz) 0 0 (va_A (wM h ca x) sz) := by
  refine Met.ofW (cc := cX5_covered) (maxL := 2) (ret := (some .int)) (by decide) rfl ?_
  intro p e s m args below meth c s₁ B hml hv
  obtain ⟨rfl, hsz, hP, hC, hD0⟩ := hv
  have hx := B.exec
  have hb := B.bytes
  have hr := B.returns
  have hts := atoms_spec (ws := wsX5_covered) B.pre
  have hown : s.vm.findClass RX5 = some m.cls := findClass_of_methodNamed B.named
  have hlocks := B.notSynchronized
  have hK := hC.1
  subst hsz
  have hD := hD0.self (sz := s.heap.size)
  generalize hAe : va_A (wM h ca x) s.heap.size = A at hD ⊢
  have hA : ∀ q : Nat, s.heap.size ≤ q → A q := fun q h => by rw [← hAe]; exact Or.inr h
  have hS : va_S A s.heap s.heap [] := va_S.rf
  skip
  have hl := lv_entry ([.ref (h 0), .int (a1)]) (n := 2) (Nat.le_of_ble_eq_true rfl)
  rw [lg_entry_eq]
  generalize (lg_sl ([.ref (h 0), .int (a1)]) ++ List.replicate (2 - (lg_sl ([.ref (h 0), .int (a1)])).length) Slot.unset).toArray = ls at hl ⊢
  have hl : lv_has ls 2 [(0, .ref (h 0)), (1, .int (a1))] := hl
  have b14 : ∀ (xx : XS) (q0 : Int32), s_X5_covered_b14 a1 xx q0 = some r → ∀ (H : Heap) (locs : List Loc), va_P D vwCl (wM h ca xx) H → va_D A (wM h ca xx) → va_S A s.heap H locs → ∀ (ls : Array Slot), lv_has ls 2 [(0, .ref (h 0)), (1, .int (a1))] → W p l e (headSpec wsX5_covered ({ frames := 5, cells := 0, slots := 0, locals := 124 })).room s m #[.ref (h 0), .int (a1)] below meth c H locs 0 0 (MQ below (wQi r.1 D (wM h ca x) (wM h ca r.2) s.heap.size) #[.ref (h 0), .int (a1)] s 0 0 A) (F0 m 14 ls [.int (q0), .ref (h 0)]) := by
    intro xx q0 hs H locs hP hD hS ls hl
    unfold s_X5_covered_b14 at hs
    obtain ⟨v_1, h_1, hs⟩ := sp_b hs
    refine wr_i (va_runV (As := [.int (q0)]) (rest := []) ⟨hx, hb, hml, hown, hts⟩ (c_X5_goesWell l D ca h xx q0 h_1 H.size) (cwV 1 hts gX5_covered_X5_goesWell rfl rfl rfl (by decide +kernel) ⟨Nat.le_of_ble_eq_true rfl, Nat.le_of_ble_eq_true rfl⟩) (wP_V (q := (RX5, TX5, 30)) hP hC hD 0 rfl rfl) rfl rfl hl.1 rfl (lv_room (Nat.le_of_ble_eq_true rfl)) dX5_covered_14 ⟨Nat.zero_le _, Nat.zero_le _⟩) hD hS hA (fun H locs hP hD hS => ?_)
    refine lv_if_eq (tgt := 28) hx hb dX5_covered_17 (by decide) (fun c_2 => ?_) (fun c_2 => ?_)
    · have hs := sp_t c_2 hs
      refine lv_iconst (v := 0) hx hb dX5_covered_28 (by decide) ?_
      exact wt_i (f := wM h ca) hx hb hr hAe hs hP hD hS dX5_covered_29 hlocks
    · have hs := sp_f c_2 hs
      refine lv_aload_n hx hb dX5_covered_20 rfl (lv_at hl 0 rfl) ?_
      refine lv_iload_n hx hb dX5_covered_21 rfl (lv_at hl 1 rfl) ?_
      obtain ⟨v_3, h_3, hs⟩ := sp_b hs
      refine rd_i (va_runV (As := [.int (a1)]) (rest := []) ⟨hx, hb, hml, hown, hts⟩ (c_X5_coveredBy l D ca h v_1.2 a1 h_3) (cwV 1 hts gX5_covered_X5_coveredBy rfl rfl rfl (by decide +kernel) ⟨Nat.le_of_ble_eq_true rfl, Nat.le_of_ble_eq_true rfl⟩) (rP_V (q := (RX5, TX5, 30)) hP hC 0 rfl rfl) rfl rfl hl.1 rfl (lv_room (Nat.le_of_ble_eq_true rfl)) dX5_covered_22 ⟨Nat.zero_le _, Nat.zero_le _⟩) ?_
      refine lv_goto (tgt := 29) hx hb dX5_covered_25 (by decide) ?_
      exact wt_i (f := wM h ca) hx hb hr hAe hs hP hD hS dX5_covered_29 hlocks
  unfold s_X5_covered at hs
  obtain ⟨H, hHe⟩ : ∃ H, H = s.heap := ⟨_, rfl⟩
  obtain ⟨locs, hle⟩ : ∃ z : List Loc, z = [] := ⟨_, rfl⟩
  have hP : va_P D vwCl (wM h ca x) H := by rw [hHe]; exact hP
  have hS : va_S A s.heap H locs := by rw [hHe, hle]; exact hS
  show W p l e (headSpec wsX5_covered ({ frames := 5, cells := 0, slots := 0, locals := 124 })).room s m #[.ref (h 0), .int (a1)] below meth c s.heap [] 0 0 _ _
  have hgo : W p l e (headSpec wsX5_covered ({ frames := 5, cells := 0, slots := 0, locals := 124 })).room s m #[.ref (h 0), .int (a1)] below meth c H locs 0 0 (MQ below (wQi r.1 D (wM h ca x) (wM h ca r.2) s.heap.size) #[.ref (h 0), .int (a1)] s 0 0 A) (F0 m 0 ls []) := by
    refine lv_aload_n hx hb dX5_covered_0 rfl (lv_at hl 0 rfl) ?_
    refine lv_aload_n hx hb dX5_covered_1 rfl (lv_at hl 0 rfl) ?_
    refine lv_iload_n hx hb dX5_covered_2 rfl (lv_at hl 1 rfl) ?_
    obtain ⟨v_4, h_4, hs⟩ := sp_b hs
    refine rd_i (va_runV (As := [.int (a1)]) (rest := [.ref (h 0)]) ⟨hx, hb, hml, hown, hts⟩ (c_X5_isSet l D ca h x a1 h_4) (cwV 1 hts gX5_covered_X5_isSet rfl rfl rfl (by decide +kernel) ⟨Nat.le_of_ble_eq_true rfl, Nat.le_of_ble_eq_true rfl⟩) (rP_V (q := (RX5, TX5, 30)) hP hC 0 rfl rfl) rfl rfl hl.1 rfl (lv_room (Nat.le_of_ble_eq_true rfl)) dX5_covered_3 ⟨Nat.zero_le _, Nat.zero_le _⟩) ?_
    refine lv_if_eq (tgt := 13) hx hb dX5_covered_6 (by decide) (fun c_5 => ?_) (fun c_5 => ?_)
    · have hs := sp_t c_5 hs
      refine lv_iconst (v := 1) hx hb dX5_covered_13 (by decide) ?_
      exact b14  (x) (1) hs H locs hP hD hS ls (lv_sub hl [0, 1] rfl)
    · have hs := sp_f c_5 hs
      refine lv_iconst (v := 0) hx hb dX5_covered_9 (by decide) ?_
      refine lv_goto (tgt := 14) hx hb dX5_covered_10 (by decide) ?_
      exact b14  (x) (0) hs H locs hP hD hS ls (lv_sub hl [0, 1] rfl)
  rw [hHe, hle] at hgo
  exact hgo
def s_X5_least (x : XS) : Option (Int32 × XS) := (s_X5_leastSet (si (x) 0 0 0)).bind fun v_1 => some (v_1, si (x) 0 0 0)
set_option maxHeartbeats 4000000 in
set_option maxRecDepth 100000 in
theorem c_X5_least (l : Launch) (D : va_G) (ca : Nat → ClassId) (h : Nat → Nat) (x : XS) {r : (Int32 × XS)} (hs : s_X5_least x = some r) (sz : Nat) : Met l yX5_least wsX5_least ({ frames := 7, cells := 0, slots := 0, locals := 169 }) (wP [.ref (h 0)] D ca (wM h ca x) sz) (wQi r.1 D (wM h ca x) (wM h ca r.2) sz) 0 0 (va_A (wM h ca x) sz) := by
  refine Met.ofW (cc := cX5_least) (maxL := 1) (ret := (some .int)) (by decide) rfl ?_
  intro p e s m args below meth c s₁ B hml hv
  obtain ⟨rfl, hsz, hP, hC, hD0⟩ := hv
  have hx := B.exec
  have hb := B.bytes
  have hr := B.returns
  have hts := atoms_spec (ws := wsX5_least) B.pre
  have hown : s.vm.findClass RX5 = some m.cls := findClass_of_methodNamed B.named
  have hlocks := B.notSynchronized
  have hK := hC.1
  subst hsz
  have hD := hD0.self (sz := s.heap.size)
  generalize hAe : va_A (wM h ca x) s.heap.size = A at hD ⊢
  have hA : ∀ q : Nat, s.heap.size ≤ q → A q := fun q h => by rw [← hAe]; exact Or.inr h
  have hS : va_S A s.heap s.heap [] := va_S.rf
  skip
  have iX5 : ∀ w ∈ u_ws RX5 TX5 30, w ∈ wsX5_least := by decide +kernel
  have hl := lv_entry ([.ref (h 0)]) (n := 1) (Nat.le_of_ble_eq_true rfl)
  rw [lg_entry_eq]
  generalize (lg_sl ([.ref (h 0)]) ++ List.replicate (1 - (lg_sl ([.ref (h 0)])).length) Slot.unset).toArray = ls at hl ⊢
  have hl : lv_has ls 1 [(0, .ref (h 0))] := hl
  unfold s_X5_least at hs
  obtain ⟨H, hHe⟩ : ∃ H, H = s.heap := ⟨_, rfl⟩
  obtain ⟨locs, hle⟩ : ∃ z : List Loc, z = [] := ⟨_, rfl⟩
  have hP : va_P D vwCl (wM h ca x) H := by rw [hHe]; exact hP
  have hS : va_S A s.heap H locs := by rw [hHe, hle]; exact hS
  show W p l e (headSpec wsX5_least ({ frames := 7, cells := 0, slots := 0, locals := 169 })).room s m #[.ref (h 0)] below meth c s.heap [] 0 0 _ _
  have hgo : W p l e (headSpec wsX5_least ({ frames := 7, cells := 0, slots := 0, locals := 169 })).room s m #[.ref (h 0)] below meth c H locs 0 0 (MQ below (wQi r.1 D (wM h ca x) (wM h ca r.2) s.heap.size) #[.ref (h 0)] s 0 0 A) (F0 m 0 ls []) := by
    refine lv_aload_n hx hb dX5_least_0 rfl (lv_at hl 0 rfl) ?_
    refine lv_iconst (v := 0) hx hb dX5_least_1 (by decide) ?_
    refine va_put (D := D) (ci := 5) (fs := fsM h (x)) (v := .int (0)) (ty := .int) (C := RX5) (T := TX5) (N := 30) hx hb hts iX5 tyX5 tyX5_ok nmX5 hown hK hP hD hS 0 rfl rfl 0 (by decide) (hts (.fieldLink RX5 69 "FacadeShowModel" "thrown" "I") (by decide +kernel)) (fun _ h9 => h9) rfl (by decide +kernel) rfl rfl (Nat.le_of_ble_eq_true rfl) dX5_least_2 (fun H locs hP hD hS => ?_)
    rw [wM_f0] at hP hD
    refine lv_aload_n hx hb dX5_least_5 rfl (lv_at hl 0 rfl) ?_
    obtain ⟨v_1, h_1, hs⟩ := sp_b hs
    refine rd_i (va_runV (As := []) (rest := []) ⟨hx, hb, hml, hown, hts⟩ (c_X5_leastSet l D ca h (si (x) 0 0 0) h_1) (cwV 0 hts gX5_least_X5_leastSet rfl rfl rfl (by decide +kernel) ⟨Nat.le_of_ble_eq_true rfl, Nat.le_of_ble_eq_true rfl⟩) (rP_V (q := (RX5, TX5, 30)) hP hC 0 rfl rfl) rfl rfl hl.1 rfl (lv_room (Nat.le_of_ble_eq_true rfl)) dX5_least_6 ⟨Nat.zero_le _, Nat.zero_le _⟩) ?_
    exact wt_i (f := wM h ca) hx hb hr hAe hs hP hD hS dX5_least_9 hlocks
  rw [hHe, hle] at hgo
  exact hgo
def s_X5_leastAnew (x : XS) : Option (Int32 × XS) := (s_X5_leastSet (si (x) 0 0 0)).bind fun v_1 => (if v_1 = (-1) then some (-1, si (x) 0 0 0) else (s_X5_bits v_1).bind fun v_3 => some (v_3, si (x) 0 0 0))
set_option maxHeartbeats 4000000 in
set_option maxRecDepth 100000 in
theorem c_X5_leastAnew (l : Launch) (D : va_G) (ca : Nat → ClassId) (h : Nat → Nat) (x : XS) {r : (Int32 × XS)} (hs : s_X5_leastAnew x = some r) (sz : Nat) : Met l yX5_leastAnew wsX5_leastAnew ({ frames := 7, cells := 0, slots := 0, locals := 169 }) (wP [.ref (h 0)] D ca (wM h ca x) sz) (wQi r.1 D (wM h ca x) (wM h ca r.2) sz) 0 0 (va_A (wM h ca x) sz) := by
  refine Met.ofW (cc := cX5_leastAnew) (maxL := 2) (ret := (some .int)) (by decide) rfl ?_
  intro p e s m args below meth c s₁ B hml hv
  obtain ⟨rfl, hsz, hP, hC, hD0⟩ := hv
  have hx := B.exec
  have hb := B.bytes
  have hr := B.returns
  have hts := atoms_spec (ws := wsX5_leastAnew) B.pre
  have hown : s.vm.findClass RX5 = some m.cls := findClass_of_methodNamed B.named
  have hlocks := B.notSynchronized
  have hK := hC.1
  subst hsz
  have hD := hD0.self (sz := s.heap.size)
  generalize hAe : va_A (wM h ca x) s.heap.size = A at hD ⊢
  have hA : ∀ q : Nat, s.heap.size ≤ q → A q := fun q h => by rw [← hAe]; exact Or.inr h
  have hS : va_S A s.heap s.heap [] := va_S.rf
  skip
  have iX5 : ∀ w ∈ u_ws RX5 TX5 30, w ∈ wsX5_leastAnew := by decide +kernel
  have hl := lv_entry ([.ref (h 0)]) (n := 2) (Nat.le_of_ble_eq_true rfl)
  rw [lg_entry_eq]
  generalize (lg_sl ([.ref (h 0)]) ++ List.replicate (2 - (lg_sl ([.ref (h 0)])).length) Slot.unset).toArray = ls at hl ⊢
  have hl : lv_has ls 2 [(0, .ref (h 0))] := hl
  unfold s_X5_leastAnew at hs
  obtain ⟨H, hHe⟩ : ∃ H, H = s.heap := ⟨_, rfl⟩
  obtain ⟨locs, hle⟩ : ∃ z : List Loc, z = [] := ⟨_, rfl⟩
  have hP : va_P D vwCl (wM h ca x) H := by rw [hHe]; exact hP
  have hS : va_S A s.heap H locs := by rw [hHe, hle]; exact hS
  show W p l e (headSpec wsX5_leastAnew ({ frames := 7, cells := 0, slots := 0, locals := 169 })).room s m #[.ref (h 0)] below meth c s.heap [] 0 0 _ _
  have hgo : W p l e (headSpec wsX5_leastAnew ({ frames := 7, cells := 0, slots := 0, locals := 169 })).room s m #[.ref (h 0)] below meth c H locs 0 0 (MQ below (wQi r.1 D (wM h ca x) (wM h ca r.2) s.heap.size) #[.ref (h 0)] s 0 0 A) (F0 m 0 ls []) := by
    refine lv_aload_n hx hb dX5_leastAnew_0 rfl (lv_at hl 0 rfl) ?_
    refine lv_iconst (v := 0) hx hb dX5_leastAnew_1 (by decide) ?_
    refine va_put (D := D) (ci := 5) (fs := fsM h (x)) (v := .int (0)) (ty := .int) (C := RX5) (T := TX5) (N := 30) hx hb hts iX5 tyX5 tyX5_ok nmX5 hown hK hP hD hS 0 rfl rfl 0 (by decide) (hts (.fieldLink RX5 69 "FacadeShowModel" "thrown" "I") (by decide +kernel)) (fun _ h9 => h9) rfl (by decide +kernel) rfl rfl (Nat.le_of_ble_eq_true rfl) dX5_leastAnew_2 (fun H locs hP hD hS => ?_)
    rw [wM_f0] at hP hD
    refine lv_aload_n hx hb dX5_leastAnew_5 rfl (lv_at hl 0 rfl) ?_
    obtain ⟨v_1, h_1, hs⟩ := sp_b hs
    refine rd_i (va_runV (As := []) (rest := []) ⟨hx, hb, hml, hown, hts⟩ (c_X5_leastSet l D ca h (si (x) 0 0 0) h_1) (cwV 0 hts gX5_leastAnew_X5_leastSet rfl rfl rfl (by decide +kernel) ⟨Nat.le_of_ble_eq_true rfl, Nat.le_of_ble_eq_true rfl⟩) (rP_V (q := (RX5, TX5, 30)) hP hC 0 rfl rfl) rfl rfl hl.1 rfl (lv_room (Nat.le_of_ble_eq_true rfl)) dX5_leastAnew_6 ⟨Nat.zero_le _, Nat.zero_le _⟩) ?_
    refine lv_istore_n (lv' := [(1, .int (v_1)), (0, .ref (h 0))]) hx hb dX5_leastAnew_9 rfl hl (by decide) rfl (fun ls hl => ?_)
    refine lv_iload_n hx hb dX5_leastAnew_10 rfl (lv_at hl 0 rfl) ?_
    refine lv_iconst (v := -1) hx hb dX5_leastAnew_11 (by decide) ?_
    refine lv_icmp_ne (tgt := 19) hx hb dX5_leastAnew_12 (by decide) (fun c_2 => ?_) (fun c_2 => ?_)
    · have hs := sp_f c_2 hs
      refine lv_iload_n hx hb dX5_leastAnew_19 rfl (lv_at hl 0 rfl) ?_
      obtain ⟨v_3, h_3, hs⟩ := sp_b hs
      refine rd_i (va_runS (As := [.int (v_1)]) (rest := []) ⟨hx, hb, hml, hown, hts⟩ (c_X5_bits l D ca v_1 h_3) (va_cwS 1 hts gX5_leastAnew_X5_bits rfl rfl rfl (by decide +kernel) ⟨Nat.le_of_ble_eq_true rfl, Nat.le_of_ble_eq_true rfl⟩) (rP_S va_P_nil hC) rfl rfl hl.1 rfl (lv_room (Nat.le_of_ble_eq_true rfl)) dX5_leastAnew_20 ⟨Nat.zero_le _, Nat.zero_le _⟩) ?_
      exact wt_i (f := wM h ca) hx hb hr hAe hs hP hD hS dX5_leastAnew_23 hlocks
    · have hs := sp_t c_2 hs
      refine lv_iconst (v := -1) hx hb dX5_leastAnew_15 (by decide) ?_
      refine lv_goto (tgt := 23) hx hb dX5_leastAnew_16 (by decide) ?_
      exact wt_i (f := wM h ca) hx hb hr hAe hs hP hD hS dX5_leastAnew_23 hlocks
  rw [hHe, hle] at hgo
  exact hgo
def s_X5_bears_b30 (a1 : Int32) : Nat → XS → Int32 → Int32 → Option (Int32 × XS)
  | 0, _, _, _ => none
  | F + 1, xx, p2, p3 => (if (xx.1 0 8) ≤ p3 then zb p2 (some (p2, xx)) else (if p2 = 0 then s_X5_bears_b30 a1 F (xx) (0) (p3 + 1) else (if ((a1 >>> (p3 &&& 31)) &&& 1) = 0 then s_X5_bears_b30 a1 F (xx) (1) (p3 + 1) else (s_X5_isEnough xx (a1 &&& ((1 <<< (p3 &&& 31)) ^^^ (-1)))).bind fun v_5 => (if v_5 = 0 then s_X5_bears_b30 a1 F (xx) (0) (p3 + 1) else s_X5_bears_b30 a1 F (xx) (1) (p3 + 1)))))
def s_X5_bears_b14 (a1 : Int32) (xx : XS) (q0 : Int32) : Option (Int32 × XS) := (s_X5_goesWell xx q0).bind fun v_7 => (if v_7.1 = 0 then some (0, v_7.2) else (s_X5_isEnough v_7.2 a1).bind fun v_9 => s_X5_bears_b30 a1  FU (v_7.2) (v_9) (0))
def s_X5_bears (x : XS) (a1 : Int32) : Option (Int32 × XS) := (s_X5_isSet x a1).bind fun v_10 => (if v_10 = 0 then s_X5_bears_b14 a1  (x) (1) else s_X5_bears_b14 a1  (x) (0))
set_option maxHeartbeats 4000000 in
set_option maxRecDepth 100000 in
theorem c_X5_bears (l : Launch) (D : va_G) (ca : Nat → ClassId) (h : Nat → Nat) (x : XS) (a1 : Int32) {r : (Int32 × XS)} (hs : s_X5_bears x a1 = some r) (sz : Nat) : Met l yX5_bears wsX5_bears ({ frames := 6, cells := 0, slots := 0, locals := 145 }) (wP [.ref (h 0), .int (a1)] D ca (wM h ca x) sz) (wQi r.1 D (wM h ca x) (wM h ca r.2) sz) 0 0 (va_A (wM h ca x) sz) := by
  refine Met.ofW (cc := cX5_bears) (maxL := 4) (ret := (some .boolean)) (by decide) rfl ?_
  intro p e s m args below meth c s₁ B hml hv
  obtain ⟨rfl, hsz, hP, hC, hD0⟩ := hv
  have hx := B.exec
  have hb := B.bytes
  have hr := B.returns
  have hts := atoms_spec (ws := wsX5_bears) B.pre
  have hown : s.vm.findClass RX5 = some m.cls := findClass_of_methodNamed B.named
  have hlocks := B.notSynchronized
  have hK := hC.1
  subst hsz
  have hD := hD0.self (sz := s.heap.size)
  generalize hAe : va_A (wM h ca x) s.heap.size = A at hD ⊢
  have hA : ∀ q : Nat, s.heap.size ≤ q → A q := fun q h => by rw [← hAe]; exact Or.inr h
  have hS : va_S A s.heap s.heap [] := va_S.rf
  skip
  have iX5 : ∀ w ∈ u_ws RX5 TX5 30, w ∈ wsX5_bears := by decide +kernel
  have hl := lv_entry ([.ref (h 0), .int (a1)]) (n := 4) (Nat.le_of_ble_eq_true rfl)
  rw [lg_entry_eq]
  generalize (lg_sl ([.ref (h 0), .int (a1)]) ++ List.replicate (4 - (lg_sl ([.ref (h 0), .int (a1)])).length) Slot.unset).toArray = ls at hl ⊢
  have hl : lv_has ls 4 [(0, .ref (h 0)), (1, .int (a1))] := hl
  have b30 : ∀ (F : Nat) (xx : XS) (p2 : Int32) (p3 : Int32), s_X5_bears_b30 a1 F xx p2 p3 = some r → ∀ (H : Heap) (locs : List Loc), va_P D vwCl (wM h ca xx) H → va_D A (wM h ca xx) → va_S A s.heap H locs → ∀ (ls : Array Slot), lv_has ls 4 [(0, .ref (h 0)), (1, .int (a1)), (2, .int (p2)), (3, .int (p3))] → W p l e (headSpec wsX5_bears ({ frames := 6, cells := 0, slots := 0, locals := 145 })).room s m #[.ref (h 0), .int (a1)] below meth c H locs 0 0 (MQ below (wQi r.1 D (wM h ca x) (wM h ca r.2) s.heap.size) #[.ref (h 0), .int (a1)] s 0 0 A) (F0 m 30 ls []) := by
    intro F
    induction F with
    | zero =>
      intro xx p2 p3 hs
      simp [s_X5_bears_b30] at hs
    | succ F ih30 =>
      intro xx p2 p3 hs H locs hP hD hS ls hl
      rw [s_X5_bears_b30] at hs
      refine lv_iload_n hx hb dX5_bears_30 rfl (lv_at hl 3 rfl) ?_
      refine lv_aload_n hx hb dX5_bears_31 rfl (lv_at hl 0 rfl) ?_
      refine va_get (D := D) (ci := 5) (fs := fsM h (xx)) (v := .int (xx.1 0 8)) (C := RX5) (T := TX5) (N := 30) hx hb hts iX5 hown hK hP 0 rfl rfl 8 (by decide) (hts (.fieldLink RX5 80 "FacadeShowModel" "projectors" "I") (by decide +kernel)) (fun _ h9 => h9) rfl dX5_bears_32 ?_
      refine lv_icmp_ge (tgt := 76) hx hb dX5_bears_35 (by decide) (fun c_1 => ?_) (fun c_1 => ?_)
      · have hs := sp_t c_1 hs
        refine lv_iload_n hx hb dX5_bears_76 rfl (lv_at hl 2 rfl) ?_
        obtain ⟨h_2, hs⟩ := sp_z hs
        exact wt_z (f := wM h ca) hx hb hr hAe h_2 hs hP hD hS dX5_bears_77 hlocks
      · have hs := sp_f c_1 hs
        refine lv_iload_n hx hb dX5_bears_38 rfl (lv_at hl 2 rfl) ?_
        refine lv_if_eq (tgt := 68) hx hb dX5_bears_39 (by decide) (fun c_3 => ?_) (fun c_3 => ?_)
        · have hs := sp_t c_3 hs
          refine lv_iconst (v := 0) hx hb dX5_bears_68 (by decide) ?_
          refine lv_istore_n (lv' := [(2, .int (0)), (0, .ref (h 0)), (1, .int (a1)), (3, .int (p3))]) hx hb dX5_bears_69 rfl hl (by decide) rfl (fun ls hl => ?_)
          refine lv_iinc (v := p3 + 1) (lv' := [(3, .int (p3 + 1)), (2, .int (0)), (0, .ref (h 0)), (1, .int (a1))]) hx hb dX5_bears_70 hl (k := 3) rfl rfl (by decide) rfl (fun ls hl => ?_)
          refine lv_goto (tgt := 30) hx hb dX5_bears_73 (by decide) ?_
          exact ih30  (xx) (0) (p3 + 1) hs H locs hP hD hS ls (lv_sub hl [2, 3, 1, 0] rfl)
        · have hs := sp_f c_3 hs
          refine lv_iload_n hx hb dX5_bears_42 rfl (lv_at hl 1 rfl) ?_
          refine lv_iload_n hx hb dX5_bears_43 rfl (lv_at hl 3 rfl) ?_
          refine lv_ishr hx hb dX5_bears_44 ?_
          refine lv_iconst (v := 1) hx hb dX5_bears_45 (by decide) ?_
          refine lv_iand hx hb dX5_bears_46 ?_
          refine lv_if_eq (tgt := 64) hx hb dX5_bears_47 (by decide) (fun c_4 => ?_) (fun c_4 => ?_)
          · have hs := sp_t c_4 hs
            refine lv_iconst (v := 1) hx hb dX5_bears_64 (by decide) ?_
            refine lv_goto (tgt := 69) hx hb dX5_bears_65 (by decide) ?_
            refine lv_istore_n (lv' := [(2, .int (1)), (0, .ref (h 0)), (1, .int (a1)), (3, .int (p3))]) hx hb dX5_bears_69 rfl hl (by decide) rfl (fun ls hl => ?_)
            refine lv_iinc (v := p3 + 1) (lv' := [(3, .int (p3 + 1)), (2, .int (1)), (0, .ref (h 0)), (1, .int (a1))]) hx hb dX5_bears_70 hl (k := 3) rfl rfl (by decide) rfl (fun ls hl => ?_)
            refine lv_goto (tgt := 30) hx hb dX5_bears_73 (by decide) ?_
            exact ih30  (xx) (1) (p3 + 1) hs H locs hP hD hS ls (lv_sub hl [2, 3, 1, 0] rfl)
          · have hs := sp_f c_4 hs
            refine lv_aload_n hx hb dX5_bears_50 rfl (lv_at hl 0 rfl) ?_
            refine lv_iload_n hx hb dX5_bears_51 rfl (lv_at hl 1 rfl) ?_
            refine lv_iconst (v := 1) hx hb dX5_bears_52 (by decide) ?_
            refine lv_iload_n hx hb dX5_bears_53 rfl (lv_at hl 3 rfl) ?_
            refine lv_ishl hx hb dX5_bears_54 ?_
            refine lv_iconst (v := -1) hx hb dX5_bears_55 (by decide) ?_
            refine lv_ixor hx hb dX5_bears_56 ?_
            refine lv_iand hx hb dX5_bears_57 ?_
            obtain ⟨v_5, h_5, hs⟩ := sp_b hs
            refine rd_i (va_runV (As := [.int (a1 &&& ((1 <<< (p3 &&& 31)) ^^^ (-1)))]) (rest := []) ⟨hx, hb, hml, hown, hts⟩ (c_X5_isEnough l D ca h xx (a1 &&& ((1 <<< (p3 &&& 31)) ^^^ (-1))) h_5) (cwV 1 hts gX5_bears_X5_isEnough rfl rfl rfl (by decide +kernel) ⟨Nat.le_of_ble_eq_true rfl, Nat.le_of_ble_eq_true rfl⟩) (rP_V (q := (RX5, TX5, 30)) hP hC 0 rfl rfl) rfl rfl hl.1 rfl (lv_room (Nat.le_of_ble_eq_true rfl)) dX5_bears_58 ⟨Nat.zero_le _, Nat.zero_le _⟩) ?_
            refine lv_if_eq (tgt := 68) hx hb dX5_bears_61 (by decide) (fun c_6 => ?_) (fun c_6 => ?_)
            · have hs := sp_t c_6 hs
              refine lv_iconst (v := 0) hx hb dX5_bears_68 (by decide) ?_
              refine lv_istore_n (lv' := [(2, .int (0)), (0, .ref (h 0)), (1, .int (a1)), (3, .int (p3))]) hx hb dX5_bears_69 rfl hl (by decide) rfl (fun ls hl => ?_)
              refine lv_iinc (v := p3 + 1) (lv' := [(3, .int (p3 + 1)), (2, .int (0)), (0, .ref (h 0)), (1, .int (a1))]) hx hb dX5_bears_70 hl (k := 3) rfl rfl (by decide) rfl (fun ls hl => ?_)
              refine lv_goto (tgt := 30) hx hb dX5_bears_73 (by decide) ?_
              exact ih30  (xx) (0) (p3 + 1) hs H locs hP hD hS ls (lv_sub hl [2, 3, 1, 0] rfl)
            · have hs := sp_f c_6 hs
              refine lv_iconst (v := 1) hx hb dX5_bears_64 (by decide) ?_
              refine lv_goto (tgt := 69) hx hb dX5_bears_65 (by decide) ?_
              refine lv_istore_n (lv' := [(2, .int (1)), (0, .ref (h 0)), (1, .int (a1)), (3, .int (p3))]) hx hb dX5_bears_69 rfl hl (by decide) rfl (fun ls hl => ?_)
              refine lv_iinc (v := p3 + 1) (lv' := [(3, .int (p3 + 1)), (2, .int (1)), (0, .ref (h 0)), (1, .int (a1))]) hx hb dX5_bears_70 hl (k := 3) rfl rfl (by decide) rfl (fun ls hl => ?_)
              refine lv_goto (tgt := 30) hx hb dX5_bears_73 (by decide) ?_
              exact ih30  (xx) (1) (p3 + 1) hs H locs hP hD hS ls (lv_sub hl [2, 3, 1, 0] rfl)
  have b14 : ∀ (xx : XS) (q0 : Int32), s_X5_bears_b14 a1 xx q0 = some r → ∀ (H : Heap) (locs : List Loc), va_P D vwCl (wM h ca xx) H → va_D A (wM h ca xx) → va_S A s.heap H locs → ∀ (ls : Array Slot), lv_has ls 4 [(0, .ref (h 0)), (1, .int (a1))] → W p l e (headSpec wsX5_bears ({ frames := 6, cells := 0, slots := 0, locals := 145 })).room s m #[.ref (h 0), .int (a1)] below meth c H locs 0 0 (MQ below (wQi r.1 D (wM h ca x) (wM h ca r.2) s.heap.size) #[.ref (h 0), .int (a1)] s 0 0 A) (F0 m 14 ls [.int (q0), .ref (h 0)]) := by
    intro xx q0 hs H locs hP hD hS ls hl
    unfold s_X5_bears_b14 at hs
    obtain ⟨v_7, h_7, hs⟩ := sp_b hs
    refine wr_i (va_runV (As := [.int (q0)]) (rest := []) ⟨hx, hb, hml, hown, hts⟩ (c_X5_goesWell l D ca h xx q0 h_7 H.size) (cwV 1 hts gX5_bears_X5_goesWell rfl rfl rfl (by decide +kernel) ⟨Nat.le_of_ble_eq_true rfl, Nat.le_of_ble_eq_true rfl⟩) (wP_V (q := (RX5, TX5, 30)) hP hC hD 0 rfl rfl) rfl rfl hl.1 rfl (lv_room (Nat.le_of_ble_eq_true rfl)) dX5_bears_14 ⟨Nat.zero_le _, Nat.zero_le _⟩) hD hS hA (fun H locs hP hD hS => ?_)
    refine lv_if_ne (tgt := 22) hx hb dX5_bears_17 (by decide) (fun c_8 => ?_) (fun c_8 => ?_)
    · have hs := sp_f c_8 hs
      refine lv_aload_n hx hb dX5_bears_22 rfl (lv_at hl 0 rfl) ?_
      refine lv_iload_n hx hb dX5_bears_23 rfl (lv_at hl 1 rfl) ?_
      obtain ⟨v_9, h_9, hs⟩ := sp_b hs
      refine rd_i (va_runV (As := [.int (a1)]) (rest := []) ⟨hx, hb, hml, hown, hts⟩ (c_X5_isEnough l D ca h v_7.2 a1 h_9) (cwV 1 hts gX5_bears_X5_isEnough rfl rfl rfl (by decide +kernel) ⟨Nat.le_of_ble_eq_true rfl, Nat.le_of_ble_eq_true rfl⟩) (rP_V (q := (RX5, TX5, 30)) hP hC 0 rfl rfl) rfl rfl hl.1 rfl (lv_room (Nat.le_of_ble_eq_true rfl)) dX5_bears_24 ⟨Nat.zero_le _, Nat.zero_le _⟩) ?_
      refine lv_istore_n (lv' := [(2, .int (v_9)), (0, .ref (h 0)), (1, .int (a1))]) hx hb dX5_bears_27 rfl hl (by decide) rfl (fun ls hl => ?_)
      refine lv_iconst (v := 0) hx hb dX5_bears_28 (by decide) ?_
      refine lv_istore_n (lv' := [(3, .int (0)), (2, .int (v_9)), (0, .ref (h 0)), (1, .int (a1))]) hx hb dX5_bears_29 rfl hl (by decide) rfl (fun ls hl => ?_)
      exact b30  FU (v_7.2) (v_9) (0) hs H locs hP hD hS ls (lv_sub hl [2, 3, 1, 0] rfl)
    · have hs := sp_t c_8 hs
      refine lv_iconst (v := 0) hx hb dX5_bears_20 (by decide) ?_
      exact wt_z (f := wM h ca) hx hb hr hAe (by decide) hs hP hD hS dX5_bears_21 hlocks
  unfold s_X5_bears at hs
  obtain ⟨H, hHe⟩ : ∃ H, H = s.heap := ⟨_, rfl⟩
  obtain ⟨locs, hle⟩ : ∃ z : List Loc, z = [] := ⟨_, rfl⟩
  have hP : va_P D vwCl (wM h ca x) H := by rw [hHe]; exact hP
  have hS : va_S A s.heap H locs := by rw [hHe, hle]; exact hS
  show W p l e (headSpec wsX5_bears ({ frames := 6, cells := 0, slots := 0, locals := 145 })).room s m #[.ref (h 0), .int (a1)] below meth c s.heap [] 0 0 _ _
  have hgo : W p l e (headSpec wsX5_bears ({ frames := 6, cells := 0, slots := 0, locals := 145 })).room s m #[.ref (h 0), .int (a1)] below meth c H locs 0 0 (MQ below (wQi r.1 D (wM h ca x) (wM h ca r.2) s.heap.size) #[.ref (h 0), .int (a1)] s 0 0 A) (F0 m 0 ls []) := by
    refine lv_aload_n hx hb dX5_bears_0 rfl (lv_at hl 0 rfl) ?_
    refine lv_aload_n hx hb dX5_bears_1 rfl (lv_at hl 0 rfl) ?_
    refine lv_iload_n hx hb dX5_bears_2 rfl (lv_at hl 1 rfl) ?_
    obtain ⟨v_10, h_10, hs⟩ := sp_b hs
    refine rd_i (va_runV (As := [.int (a1)]) (rest := [.ref (h 0)]) ⟨hx, hb, hml, hown, hts⟩ (c_X5_isSet l D ca h x a1 h_10) (cwV 1 hts gX5_bears_X5_isSet rfl rfl rfl (by decide +kernel) ⟨Nat.le_of_ble_eq_true rfl, Nat.le_of_ble_eq_true rfl⟩) (rP_V (q := (RX5, TX5, 30)) hP hC 0 rfl rfl) rfl rfl hl.1 rfl (lv_room (Nat.le_of_ble_eq_true rfl)) dX5_bears_3 ⟨Nat.zero_le _, Nat.zero_le _⟩) ?_
    refine lv_if_eq (tgt := 13) hx hb dX5_bears_6 (by decide) (fun c_11 => ?_) (fun c_11 => ?_)
    · have hs := sp_t c_11 hs
      refine lv_iconst (v := 1) hx hb dX5_bears_13 (by decide) ?_
      exact b14  (x) (1) hs H locs hP hD hS ls (lv_sub hl [0, 1] rfl)
    · have hs := sp_f c_11 hs
      refine lv_iconst (v := 0) hx hb dX5_bears_9 (by decide) ?_
      refine lv_goto (tgt := 14) hx hb dX5_bears_10 (by decide) ?_
      exact b14  (x) (0) hs H locs hP hD hS ls (lv_sub hl [0, 1] rfl)
  rw [hHe, hle] at hgo
  exact hgo
def s_X5_breaches (x : XS) : Option (Int32 × XS) := (s_X5_breachesNow (si (x) 0 0 0)).bind fun v_1 => some (v_1, si (x) 0 0 0)
set_option maxHeartbeats 4000000 in
set_option maxRecDepth 100000 in
theorem c_X5_breaches (l : Launch) (D : va_G) (ca : Nat → ClassId) (h : Nat → Nat) (x : XS) {r : (Int32 × XS)} (hs : s_X5_breaches x = some r) (sz : Nat) : Met l yX5_breaches wsX5_breaches ({ frames := 3, cells := 0, slots := 0, locals := 73 }) (wP [.ref (h 0)] D ca (wM h ca x) sz) (wQi r.1 D (wM h ca x) (wM h ca r.2) sz) 0 0 (va_A (wM h ca x) sz) := by
  refine Met.ofW (cc := cX5_breaches) (maxL := 1) (ret := (some .int)) (by decide) rfl ?_
  intro p e s m args below meth c s₁ B hml hv
  obtain ⟨rfl, hsz, hP, hC, hD0⟩ := hv
  have hx := B.exec
  have hb := B.bytes
  have hr := B.returns
  have hts := atoms_spec (ws := wsX5_breaches) B.pre
  have hown : s.vm.findClass RX5 = some m.cls := findClass_of_methodNamed B.named
  have hlocks := B.notSynchronized
  have hK := hC.1
  subst hsz
  have hD := hD0.self (sz := s.heap.size)
  generalize hAe : va_A (wM h ca x) s.heap.size = A at hD ⊢
  have hA : ∀ q : Nat, s.heap.size ≤ q → A q := fun q h => by rw [← hAe]; exact Or.inr h
  have hS : va_S A s.heap s.heap [] := va_S.rf
  skip
  have iX5 : ∀ w ∈ u_ws RX5 TX5 30, w ∈ wsX5_breaches := by decide +kernel
  have hl := lv_entry ([.ref (h 0)]) (n := 1) (Nat.le_of_ble_eq_true rfl)
  rw [lg_entry_eq]
  generalize (lg_sl ([.ref (h 0)]) ++ List.replicate (1 - (lg_sl ([.ref (h 0)])).length) Slot.unset).toArray = ls at hl ⊢
  have hl : lv_has ls 1 [(0, .ref (h 0))] := hl
  unfold s_X5_breaches at hs
  obtain ⟨H, hHe⟩ : ∃ H, H = s.heap := ⟨_, rfl⟩
  obtain ⟨locs, hle⟩ : ∃ z : List Loc, z = [] := ⟨_, rfl⟩
  have hP : va_P D vwCl (wM h ca x) H := by rw [hHe]; exact hP
  have hS : va_S A s.heap H locs := by rw [hHe, hle]; exact hS
  show W p l e (headSpec wsX5_breaches ({ frames := 3, cells := 0, slots := 0, locals := 73 })).room s m #[.ref (h 0)] below meth c s.heap [] 0 0 _ _
  have hgo : W p l e (headSpec wsX5_breaches ({ frames := 3, cells := 0, slots := 0, locals := 73 })).room s m #[.ref (h 0)] below meth c H locs 0 0 (MQ below (wQi r.1 D (wM h ca x) (wM h ca r.2) s.heap.size) #[.ref (h 0)] s 0 0 A) (F0 m 0 ls []) := by
    refine lv_aload_n hx hb dX5_breaches_0 rfl (lv_at hl 0 rfl) ?_
    refine lv_iconst (v := 0) hx hb dX5_breaches_1 (by decide) ?_
    refine va_put (D := D) (ci := 5) (fs := fsM h (x)) (v := .int (0)) (ty := .int) (C := RX5) (T := TX5) (N := 30) hx hb hts iX5 tyX5 tyX5_ok nmX5 hown hK hP hD hS 0 rfl rfl 0 (by decide) (hts (.fieldLink RX5 69 "FacadeShowModel" "thrown" "I") (by decide +kernel)) (fun _ h9 => h9) rfl (by decide +kernel) rfl rfl (Nat.le_of_ble_eq_true rfl) dX5_breaches_2 (fun H locs hP hD hS => ?_)
    rw [wM_f0] at hP hD
    refine lv_aload_n hx hb dX5_breaches_5 rfl (lv_at hl 0 rfl) ?_
    obtain ⟨v_1, h_1, hs⟩ := sp_b hs
    refine rd_i (va_runV (As := []) (rest := []) ⟨hx, hb, hml, hown, hts⟩ (c_X5_breachesNow l D ca h (si (x) 0 0 0) h_1) (cwV 0 hts gX5_breaches_X5_breachesNow rfl rfl rfl (by decide +kernel) ⟨Nat.le_of_ble_eq_true rfl, Nat.le_of_ble_eq_true rfl⟩) (rP_V (q := (RX5, TX5, 30)) hP hC 0 rfl rfl) rfl rfl hl.1 rfl (lv_room (Nat.le_of_ble_eq_true rfl)) dX5_breaches_6 ⟨Nat.zero_le _, Nat.zero_le _⟩) ?_
    exact wt_i (f := wM h ca) hx hb hr hAe hs hP hD hS dX5_breaches_9 hlocks
  rw [hHe, hle] at hgo
  exact hgo
def s_X5_curfew_b28 (a1 : Int32) (a2 : Int32) (xx : XS) (q0 : Int32) : Option XS := (s_X5_goesWell xx q0).bind fun v_1 => (if v_1.1 = 0 then some (v_1.2) else some (si (si (v_1.2) 0 21 a1) 0 22 a2))
def s_X5_curfew (x : XS) (a1 : Int32) (a2 : Int32) : Option XS := (s_X5_in a1 0 1439).bind fun v_3 => (if v_3 = 0 then s_X5_curfew_b28 a1 a2  (x) (1) else (s_X5_in a2 a1 1440).bind fun v_5 => (if v_5 = 0 then s_X5_curfew_b28 a1 a2  (x) (1) else s_X5_curfew_b28 a1 a2  (x) (0)))
set_option maxHeartbeats 4000000 in
set_option maxRecDepth 100000 in
theorem c_X5_curfew (l : Launch) (D : va_G) (ca : Nat → ClassId) (h : Nat → Nat) (x : XS) (a1 : Int32) (a2 : Int32) {r : XS} (hs : s_X5_curfew x a1 a2 = some r) (sz : Nat) : Met l yX5_curfew wsX5_curfew ({ frames := 1, cells := 0, slots := 0, locals := 22 }) (wP [.ref (h 0), .int (a1), .int (a2)] D ca (wM h ca x) sz) (wQv D (wM h ca x) (wM h ca r) sz) 0 0 (va_A (wM h ca x) sz) := by
  refine Met.ofW (cc := cX5_curfew) (maxL := 3) (ret := none) (by decide) rfl ?_
  intro p e s m args below meth c s₁ B hml hv
  obtain ⟨rfl, hsz, hP, hC, hD0⟩ := hv
  have hx := B.exec
  have hb := B.bytes
  have hr := B.returns
  have hts := atoms_spec (ws := wsX5_curfew) B.pre
  have hown : s.vm.findClass RX5 = some m.cls := findClass_of_methodNamed B.named
  have hlocks := B.notSynchronized
  have hK := hC.1
  subst hsz
  have hD := hD0.self (sz := s.heap.size)
  generalize hAe : va_A (wM h ca x) s.heap.size = A at hD ⊢
  have hA : ∀ q : Nat, s.heap.size ≤ q → A q := fun q h => by rw [← hAe]; exact Or.inr h
  have hS : va_S A s.heap s.heap [] := va_S.rf
  skip
  have iX5 : ∀ w ∈ u_ws RX5 TX5 30, w ∈ wsX5_curfew := by decide +kernel
  have hl := lv_entry ([.ref (h 0), .int (a1), .int (a2)]) (n := 3) (Nat.le_of_ble_eq_true rfl)
  rw [lg_entry_eq]
  generalize (lg_sl ([.ref (h 0), .int (a1), .int (a2)]) ++ List.replicate (3 - (lg_sl ([.ref (h 0), .int (a1), .int (a2)])).length) Slot.unset).toArray = ls at hl ⊢
  have hl : lv_has ls 3 [(0, .ref (h 0)), (1, .int (a1)), (2, .int (a2))] := hl
  have b28 : ∀ (xx : XS) (q0 : Int32), s_X5_curfew_b28 a1 a2 xx q0 = some r → ∀ (H : Heap) (locs : List Loc), va_P D vwCl (wM h ca xx) H → va_D A (wM h ca xx) → va_S A s.heap H locs → ∀ (ls : Array Slot), lv_has ls 3 [(0, .ref (h 0)), (1, .int (a1)), (2, .int (a2))] → W p l e (headSpec wsX5_curfew ({ frames := 1, cells := 0, slots := 0, locals := 22 })).room s m #[.ref (h 0), .int (a1), .int (a2)] below meth c H locs 0 0 (MQ below (wQv D (wM h ca x) (wM h ca r) s.heap.size) #[.ref (h 0), .int (a1), .int (a2)] s 0 0 A) (F0 m 28 ls [.int (q0), .ref (h 0)]) := by
    intro xx q0 hs H locs hP hD hS ls hl
    unfold s_X5_curfew_b28 at hs
    obtain ⟨v_1, h_1, hs⟩ := sp_b hs
    refine wr_i (va_runV (As := [.int (q0)]) (rest := []) ⟨hx, hb, hml, hown, hts⟩ (c_X5_goesWell l D ca h xx q0 h_1 H.size) (cwV 1 hts gX5_curfew_X5_goesWell rfl rfl rfl (by decide +kernel) ⟨Nat.le_of_ble_eq_true rfl, Nat.le_of_ble_eq_true rfl⟩) (wP_V (q := (RX5, TX5, 30)) hP hC hD 0 rfl rfl) rfl rfl hl.1 rfl (lv_room (Nat.le_of_ble_eq_true rfl)) dX5_curfew_28 ⟨Nat.zero_le _, Nat.zero_le _⟩) hD hS hA (fun H locs hP hD hS => ?_)
    refine lv_if_eq (tgt := 44) hx hb dX5_curfew_31 (by decide) (fun c_2 => ?_) (fun c_2 => ?_)
    · have hs := sp_t c_2 hs
      exact wt_v (f := wM h ca) hx hb hr hAe hs hP hD hS dX5_curfew_44 hlocks
    · have hs := sp_f c_2 hs
      refine lv_aload_n hx hb dX5_curfew_34 rfl (lv_at hl 0 rfl) ?_
      refine lv_iload_n hx hb dX5_curfew_35 rfl (lv_at hl 1 rfl) ?_
      refine va_put (D := D) (ci := 5) (fs := fsM h (v_1.2)) (v := .int (a1)) (ty := .int) (C := RX5) (T := TX5) (N := 30) hx hb hts iX5 tyX5 tyX5_ok nmX5 hown hK hP hD hS 0 rfl rfl 21 (by decide) (hts (.fieldLink RX5 156 "FacadeShowModel" "curfewFrom" "I") (by decide +kernel)) (fun _ h9 => h9) rfl (by decide +kernel) rfl rfl (Nat.le_of_ble_eq_true rfl) dX5_curfew_36 (fun H locs hP hD hS => ?_)
      rw [wM_f21] at hP hD
      refine lv_aload_n hx hb dX5_curfew_39 rfl (lv_at hl 0 rfl) ?_
      refine lv_iload_n hx hb dX5_curfew_40 rfl (lv_at hl 2 rfl) ?_
      refine va_put (D := D) (ci := 5) (fs := fsM h (si (v_1.2) 0 21 a1)) (v := .int (a2)) (ty := .int) (C := RX5) (T := TX5) (N := 30) hx hb hts iX5 tyX5 tyX5_ok nmX5 hown hK hP hD hS 0 rfl rfl 22 (by decide) (hts (.fieldLink RX5 159 "FacadeShowModel" "curfewTo" "I") (by decide +kernel)) (fun _ h9 => h9) rfl (by decide +kernel) rfl rfl (Nat.le_of_ble_eq_true rfl) dX5_curfew_41 (fun H locs hP hD hS => ?_)
      rw [wM_f22] at hP hD
      exact wt_v (f := wM h ca) hx hb hr hAe hs hP hD hS dX5_curfew_44 hlocks
  unfold s_X5_curfew at hs
  obtain ⟨H, hHe⟩ : ∃ H, H = s.heap := ⟨_, rfl⟩
  obtain ⟨locs, hle⟩ : ∃ z : List Loc, z = [] := ⟨_, rfl⟩
  have hP : va_P D vwCl (wM h ca x) H := by rw [hHe]; exact hP
  have hS : va_S A s.heap H locs := by rw [hHe, hle]; exact hS
  show W p l e (headSpec wsX5_curfew ({ frames := 1, cells := 0, slots := 0, locals := 22 })).room s m #[.ref (h 0), .int (a1), .int (a2)] below meth c s.heap [] 0 0 _ _
  have hgo : W p l e (headSpec wsX5_curfew ({ frames := 1, cells := 0, slots := 0, locals := 22 })).room s m #[.ref (h 0), .int (a1), .int (a2)] below meth c H locs 0 0 (MQ below (wQv D (wM h ca x) (wM h ca r) s.heap.size) #[.ref (h 0), .int (a1), .int (a2)] s 0 0 A) (F0 m 0 ls []) := by
    refine lv_aload_n hx hb dX5_curfew_0 rfl (lv_at hl 0 rfl) ?_
    refine lv_iload_n hx hb dX5_curfew_1 rfl (lv_at hl 1 rfl) ?_
    refine lv_iconst (v := 0) hx hb dX5_curfew_2 (by decide) ?_
    refine lv_sipush (v := 1439) hx hb dX5_curfew_3 (by decide) ?_
    obtain ⟨v_3, h_3, hs⟩ := sp_b hs
    refine rd_i (va_runS (As := [.int (a1), .int (0), .int (1439)]) (rest := [.ref (h 0)]) ⟨hx, hb, hml, hown, hts⟩ (c_X5_in l D ca a1 0 1439 h_3) (va_cwS 3 hts gX5_curfew_X5_in rfl rfl rfl (by decide +kernel) ⟨Nat.le_of_ble_eq_true rfl, Nat.le_of_ble_eq_true rfl⟩) (rP_S va_P_nil hC) rfl rfl hl.1 rfl (lv_room (Nat.le_of_ble_eq_true rfl)) dX5_curfew_6 ⟨Nat.zero_le _, Nat.zero_le _⟩) ?_
    refine lv_if_eq (tgt := 27) hx hb dX5_curfew_9 (by decide) (fun c_4 => ?_) (fun c_4 => ?_)
    · have hs := sp_t c_4 hs
      refine lv_iconst (v := 1) hx hb dX5_curfew_27 (by decide) ?_
      exact b28  (x) (1) hs H locs hP hD hS ls (lv_sub hl [0, 1, 2] rfl)
    · have hs := sp_f c_4 hs
      refine lv_iload_n hx hb dX5_curfew_12 rfl (lv_at hl 2 rfl) ?_
      refine lv_iload_n hx hb dX5_curfew_13 rfl (lv_at hl 1 rfl) ?_
      refine lv_sipush (v := 1440) hx hb dX5_curfew_14 (by decide) ?_
      obtain ⟨v_5, h_5, hs⟩ := sp_b hs
      refine rd_i (va_runS (As := [.int (a2), .int (a1), .int (1440)]) (rest := [.ref (h 0)]) ⟨hx, hb, hml, hown, hts⟩ (c_X5_in l D ca a2 a1 1440 h_5) (va_cwS 3 hts gX5_curfew_X5_in rfl rfl rfl (by decide +kernel) ⟨Nat.le_of_ble_eq_true rfl, Nat.le_of_ble_eq_true rfl⟩) (rP_S va_P_nil hC) rfl rfl hl.1 rfl (lv_room (Nat.le_of_ble_eq_true rfl)) dX5_curfew_17 ⟨Nat.zero_le _, Nat.zero_le _⟩) ?_
      refine lv_if_eq (tgt := 27) hx hb dX5_curfew_20 (by decide) (fun c_6 => ?_) (fun c_6 => ?_)
      · have hs := sp_t c_6 hs
        refine lv_iconst (v := 1) hx hb dX5_curfew_27 (by decide) ?_
        exact b28  (x) (1) hs H locs hP hD hS ls (lv_sub hl [0, 1, 2] rfl)
      · have hs := sp_f c_6 hs
        refine lv_iconst (v := 0) hx hb dX5_curfew_23 (by decide) ?_
        refine lv_goto (tgt := 28) hx hb dX5_curfew_24 (by decide) ?_
        exact b28  (x) (0) hs H locs hP hD hS ls (lv_sub hl [0, 1, 2] rfl)
  rw [hHe, hle] at hgo
  exact hgo
def s_X5_ready_b30 (a1 : Int32) (a2 : Int32) (xx : XS) (q0 : Int32) : Option (Int32 × XS) := (s_X5_goesWell xx q0).bind fun v_1 => (if v_1.1 = 0 then some (0, v_1.2) else chk 10 a1 (chk 10 a1 (some (v_1.2.1 15 a1.toNatClampNeg, si (v_1.2) 15 a1.toNatClampNeg a2))))
def s_X5_ready (x : XS) (a1 : Int32) (a2 : Int32) : Option (Int32 × XS) := (s_X5_isProjector x a1).bind fun v_5 => (if v_5 = 0 then s_X5_ready_b30 a1 a2  (x) (1) else (s_X5_in a2 0 99999).bind fun v_7 => (if v_7 = 0 then s_X5_ready_b30 a1 a2  (x) (2) else s_X5_ready_b30 a1 a2  (x) (0)))
set_option maxHeartbeats 4000000 in
set_option maxRecDepth 100000 in
theorem c_X5_ready (l : Launch) (D : va_G) (ca : Nat → ClassId) (h : Nat → Nat) (x : XS) (a1 : Int32) (a2 : Int32) {r : (Int32 × XS)} (hs : s_X5_ready x a1 a2 = some r) (sz : Nat) : Met l yX5_ready wsX5_ready ({ frames := 2, cells := 0, slots := 0, locals := 43 }) (wP [.ref (h 0), .int (a1), .int (a2)] D ca (wM h ca x) sz) (wQi r.1 D (wM h ca x) (wM h ca r.2) sz) 0 0 (va_A (wM h ca x) sz) := by
  refine Met.ofW (cc := cX5_ready) (maxL := 5) (ret := (some .int)) (by decide) rfl ?_
  intro p e s m args below meth c s₁ B hml hv
  obtain ⟨rfl, hsz, hP, hC, hD0⟩ := hv
  have hx := B.exec
  have hb := B.bytes
  have hr := B.returns
  have hts := atoms_spec (ws := wsX5_ready) B.pre
  have hown : s.vm.findClass RX5 = some m.cls := findClass_of_methodNamed B.named
  have hlocks := B.notSynchronized
  have hK := hC.1
  subst hsz
  have hD := hD0.self (sz := s.heap.size)
  generalize hAe : va_A (wM h ca x) s.heap.size = A at hD ⊢
  have hA : ∀ q : Nat, s.heap.size ≤ q → A q := fun q h => by rw [← hAe]; exact Or.inr h
  have hS : va_S A s.heap s.heap [] := va_S.rf
  skip
  have iX5 : ∀ w ∈ u_ws RX5 TX5 30, w ∈ wsX5_ready := by decide +kernel
  have hl := lv_entry ([.ref (h 0), .int (a1), .int (a2)]) (n := 5) (Nat.le_of_ble_eq_true rfl)
  rw [lg_entry_eq]
  generalize (lg_sl ([.ref (h 0), .int (a1), .int (a2)]) ++ List.replicate (5 - (lg_sl ([.ref (h 0), .int (a1), .int (a2)])).length) Slot.unset).toArray = ls at hl ⊢
  have hl : lv_has ls 5 [(0, .ref (h 0)), (1, .int (a1)), (2, .int (a2))] := hl
  have b30 : ∀ (xx : XS) (q0 : Int32), s_X5_ready_b30 a1 a2 xx q0 = some r → ∀ (H : Heap) (locs : List Loc), va_P D vwCl (wM h ca xx) H → va_D A (wM h ca xx) → va_S A s.heap H locs → ∀ (ls : Array Slot), lv_has ls 5 [(0, .ref (h 0)), (1, .int (a1)), (2, .int (a2))] → W p l e (headSpec wsX5_ready ({ frames := 2, cells := 0, slots := 0, locals := 43 })).room s m #[.ref (h 0), .int (a1), .int (a2)] below meth c H locs 0 0 (MQ below (wQi r.1 D (wM h ca x) (wM h ca r.2) s.heap.size) #[.ref (h 0), .int (a1), .int (a2)] s 0 0 A) (F0 m 30 ls [.int (q0), .ref (h 0)]) := by
    intro xx q0 hs H locs hP hD hS ls hl
    unfold s_X5_ready_b30 at hs
    obtain ⟨v_1, h_1, hs⟩ := sp_b hs
    refine wr_i (va_runV (As := [.int (q0)]) (rest := []) ⟨hx, hb, hml, hown, hts⟩ (c_X5_goesWell l D ca h xx q0 h_1 H.size) (cwV 1 hts gX5_ready_X5_goesWell rfl rfl rfl (by decide +kernel) ⟨Nat.le_of_ble_eq_true rfl, Nat.le_of_ble_eq_true rfl⟩) (wP_V (q := (RX5, TX5, 30)) hP hC hD 0 rfl rfl) rfl rfl hl.1 rfl (lv_room (Nat.le_of_ble_eq_true rfl)) dX5_ready_30 ⟨Nat.zero_le _, Nat.zero_le _⟩) hD hS hA (fun H locs hP hD hS => ?_)
    refine lv_if_ne (tgt := 38) hx hb dX5_ready_33 (by decide) (fun c_2 => ?_) (fun c_2 => ?_)
    · have hs := sp_f c_2 hs
      refine lv_aload_n hx hb dX5_ready_38 rfl (lv_at hl 0 rfl) ?_
      refine va_get (D := D) (ci := 5) (fs := fsM h (v_1.2)) (v := .ref (h 15)) (C := RX5) (T := TX5) (N := 30) hx hb hts iX5 hown hK hP 0 rfl rfl 18 (by decide) (hts (.fieldLink RX5 57 "FacadeShowModel" "ready" "[I") (by decide +kernel)) (fun _ h9 => h9) rfl dX5_ready_39 ?_
      refine lv_iload_n hx hb dX5_ready_42 rfl (lv_at hl 1 rfl) ?_
      obtain ⟨h_3, hs⟩ := sp_c hs
      refine va_iald (D := D) (cA := ca 0) (n := 10) (f := (v_1.2).1 15) hx hb hK hP 15 0 rfl rfl h_3 dX5_ready_43 ?_
      refine lv_istore (lv' := [(4, .int (v_1.2.1 15 a1.toNatClampNeg)), (0, .ref (h 0)), (1, .int (a1)), (2, .int (a2))]) hx hb dX5_ready_44 hl (by decide) rfl (fun ls hl => ?_)
      refine lv_aload_n hx hb dX5_ready_46 rfl (lv_at hl 1 rfl) ?_
      refine va_get (D := D) (ci := 5) (fs := fsM h (v_1.2)) (v := .ref (h 15)) (C := RX5) (T := TX5) (N := 30) hx hb hts iX5 hown hK hP 0 rfl rfl 18 (by decide) (hts (.fieldLink RX5 57 "FacadeShowModel" "ready" "[I") (by decide +kernel)) (fun _ h9 => h9) rfl dX5_ready_47 ?_
      refine lv_iload_n hx hb dX5_ready_50 rfl (lv_at hl 2 rfl) ?_
      refine lv_iload_n hx hb dX5_ready_51 rfl (lv_at hl 3 rfl) ?_
      obtain ⟨h_4, hs⟩ := sp_c hs
      refine va_iast (D := D) (cA := ca 0) (n := 10) (f := (v_1.2).1 15) hx hb hK hP hD hS 15 0 rfl rfl h_4 dX5_ready_52 (fun H locs hP hD hS => ?_)
      rw [wM_a15] at hP hD
      refine lv_iload hx hb dX5_ready_53 (lv_at hl 0 rfl) ?_
      exact wt_i (f := wM h ca) hx hb hr hAe hs hP hD hS dX5_ready_55 hlocks
    · have hs := sp_t c_2 hs
      refine lv_iconst (v := 0) hx hb dX5_ready_36 (by decide) ?_
      exact wt_i (f := wM h ca) hx hb hr hAe hs hP hD hS dX5_ready_37 hlocks
  unfold s_X5_ready at hs
  obtain ⟨H, hHe⟩ : ∃ H, H = s.heap := ⟨_, rfl⟩
  obtain ⟨locs, hle⟩ : ∃ z : List Loc, z = [] := ⟨_, rfl⟩
  have hP : va_P D vwCl (wM h ca x) H := by rw [hHe]; exact hP
  have hS : va_S A s.heap H locs := by rw [hHe, hle]; exact hS
  show W p l e (headSpec wsX5_ready ({ frames := 2, cells := 0, slots := 0, locals := 43 })).room s m #[.ref (h 0), .int (a1), .int (a2)] below meth c s.heap [] 0 0 _ _
  have hgo : W p l e (headSpec wsX5_ready ({ frames := 2, cells := 0, slots := 0, locals := 43 })).room s m #[.ref (h 0), .int (a1), .int (a2)] below meth c H locs 0 0 (MQ below (wQi r.1 D (wM h ca x) (wM h ca r.2) s.heap.size) #[.ref (h 0), .int (a1), .int (a2)] s 0 0 A) (F0 m 0 ls []) := by
    refine lv_aload_n hx hb dX5_ready_0 rfl (lv_at hl 0 rfl) ?_
    refine lv_iload_n hx hb dX5_ready_1 rfl (lv_at hl 1 rfl) ?_
    obtain ⟨v_5, h_5, hs⟩ := sp_b hs
    refine rd_i (va_runV (As := [.int (a1)]) (rest := []) ⟨hx, hb, hml, hown, hts⟩ (c_X5_isProjector l D ca h x a1 h_5) (cwV 1 hts gX5_ready_X5_isProjector rfl rfl rfl (by decide +kernel) ⟨Nat.le_of_ble_eq_true rfl, Nat.le_of_ble_eq_true rfl⟩) (rP_V (q := (RX5, TX5, 30)) hP hC 0 rfl rfl) rfl rfl hl.1 rfl (lv_room (Nat.le_of_ble_eq_true rfl)) dX5_ready_2 ⟨Nat.zero_le _, Nat.zero_le _⟩) ?_
    refine lv_istore_n (lv' := [(3, .int (v_5)), (0, .ref (h 0)), (1, .int (a1)), (2, .int (a2))]) hx hb dX5_ready_5 rfl hl (by decide) rfl (fun ls hl => ?_)
    refine lv_aload_n hx hb dX5_ready_6 rfl (lv_at hl 1 rfl) ?_
    refine lv_iload_n hx hb dX5_ready_7 rfl (lv_at hl 0 rfl) ?_
    refine lv_if_ne (tgt := 15) hx hb dX5_ready_8 (by decide) (fun c_6 => ?_) (fun c_6 => ?_)
    · have hs := sp_f c_6 hs
      refine lv_iload_n hx hb dX5_ready_15 rfl (lv_at hl 3 rfl) ?_
      refine lv_iconst (v := 0) hx hb dX5_ready_16 (by decide) ?_
      refine lv_ldc (v := 99999) hx hb hown (hts (.constant RX5 105 (99999)) (by decide +kernel)) dX5_ready_17 ?_
      obtain ⟨v_7, h_7, hs⟩ := sp_b hs
      refine rd_i (va_runS (As := [.int (a2), .int (0), .int (99999)]) (rest := [.ref (h 0)]) ⟨hx, hb, hml, hown, hts⟩ (c_X5_in l D ca a2 0 99999 h_7) (va_cwS 3 hts gX5_ready_X5_in rfl rfl rfl (by decide +kernel) ⟨Nat.le_of_ble_eq_true rfl, Nat.le_of_ble_eq_true rfl⟩) (rP_S va_P_nil hC) rfl rfl hl.1 rfl (lv_room (Nat.le_of_ble_eq_true rfl)) dX5_ready_19 ⟨Nat.zero_le _, Nat.zero_le _⟩) ?_
      refine lv_if_eq (tgt := 29) hx hb dX5_ready_22 (by decide) (fun c_8 => ?_) (fun c_8 => ?_)
      · have hs := sp_t c_8 hs
        refine lv_iconst (v := 2) hx hb dX5_ready_29 (by decide) ?_
        exact b30  (x) (2) hs H locs hP hD hS ls (lv_sub hl [1, 2, 3] rfl)
      · have hs := sp_f c_8 hs
        refine lv_iconst (v := 0) hx hb dX5_ready_25 (by decide) ?_
        refine lv_goto (tgt := 30) hx hb dX5_ready_26 (by decide) ?_
        exact b30  (x) (0) hs H locs hP hD hS ls (lv_sub hl [1, 2, 3] rfl)
    · have hs := sp_t c_6 hs
      refine lv_iconst (v := 1) hx hb dX5_ready_11 (by decide) ?_
      refine lv_goto (tgt := 30) hx hb dX5_ready_12 (by decide) ?_
      exact b30  (x) (1) hs H locs hP hD hS ls (lv_sub hl [1, 2, 3] rfl)
  rw [hHe, hle] at hgo
  exact hgo
def s_X5_propose_b32 (a1 : Int32) (a2 : Int32) (xx : XS) (q0 : Int32) : Option (Int32 × XS) := (s_X5_goesWell xx q0).bind fun v_1 => (if v_1.1 = 0 then some (0, v_1.2) else chk 4 a1 (chk 4 a1 (some (v_1.2.1 18 a1.toNatClampNeg, si (v_1.2) 18 a1.toNatClampNeg a2))))
def s_X5_propose (x : XS) (a1 : Int32) (a2 : Int32) : Option (Int32 × XS) := (s_X5_in a1 0 3).bind fun v_5 => (if v_5 = 0 then s_X5_propose_b32 a1 a2  (x) (1) else (s_X5_in a2 0 999).bind fun v_7 => (if v_7 = 0 then s_X5_propose_b32 a1 a2  (x) (2) else s_X5_propose_b32 a1 a2  (x) (0)))
set_option maxHeartbeats 4000000 in
set_option maxRecDepth 100000 in
theorem c_X5_propose (l : Launch) (D : va_G) (ca : Nat → ClassId) (h : Nat → Nat) (x : XS) (a1 : Int32) (a2 : Int32) {r : (Int32 × XS)} (hs : s_X5_propose x a1 a2 = some r) (sz : Nat) : Met l yX5_propose wsX5_propose ({ frames := 1, cells := 0, slots := 0, locals := 22 }) (wP [.ref (h 0), .int (a1), .int (a2)] D ca (wM h ca x) sz) (wQi r.1 D (wM h ca x) (wM h ca r.2) sz) 0 0 (va_A (wM h ca x) sz) := by
  refine Met.ofW (cc := cX5_propose) (maxL := 5) (ret := (some .int)) (by decide) rfl ?_
  intro p e s m args below meth c s₁ B hml hv
  obtain ⟨rfl, hsz, hP, hC, hD0⟩ := hv
  have hx := B.exec
  have hb := B.bytes
  have hr := B.returns
  have hts := atoms_spec (ws := wsX5_propose) B.pre
  have hown : s.vm.findClass RX5 = some m.cls := findClass_of_methodNamed B.named
  have hlocks := B.notSynchronized
  have hK := hC.1
  subst hsz
  have hD := hD0.self (sz := s.heap.size)
  generalize hAe : va_A (wM h ca x) s.heap.size = A at hD ⊢
  have hA : ∀ q : Nat, s.heap.size ≤ q → A q := fun q h => by rw [← hAe]; exact Or.inr h
  have hS : va_S A s.heap s.heap [] := va_S.rf
  skip
  have iX5 : ∀ w ∈ u_ws RX5 TX5 30, w ∈ wsX5_propose := by decide +kernel
  have hl := lv_entry ([.ref (h 0), .int (a1), .int (a2)]) (n := 5) (Nat.le_of_ble_eq_true rfl)
  rw [lg_entry_eq]
  generalize (lg_sl ([.ref (h 0), .int (a1), .int (a2)]) ++ List.replicate (5 - (lg_sl ([.ref (h 0), .int (a1), .int (a2)])).length) Slot.unset).toArray = ls at hl ⊢
  have hl : lv_has ls 5 [(0, .ref (h 0)), (1, .int (a1)), (2, .int (a2))] := hl
  have b32 : ∀ (xx : XS) (q0 : Int32), s_X5_propose_b32 a1 a2 xx q0 = some r → ∀ (H : Heap) (locs : List Loc), va_P D vwCl (wM h ca xx) H → va_D A (wM h ca xx) → va_S A s.heap H locs → ∀ (ls : Array Slot), lv_has ls 5 [(0, .ref (h 0)), (1, .int (a1)), (2, .int (a2))] → W p l e (headSpec wsX5_propose ({ frames := 1, cells := 0, slots := 0, locals := 22 })).room s m #[.ref (h 0), .int (a1), .int (a2)] below meth c H locs 0 0 (MQ below (wQi r.1 D (wM h ca x) (wM h ca r.2) s.heap.size) #[.ref (h 0), .int (a1), .int (a2)] s 0 0 A) (F0 m 32 ls [.int (q0), .ref (h 0)]) := by
    intro xx q0 hs H locs hP hD hS ls hl
    unfold s_X5_propose_b32 at hs
    obtain ⟨v_1, h_1, hs⟩ := sp_b hs
    refine wr_i (va_runV (As := [.int (q0)]) (rest := []) ⟨hx, hb, hml, hown, hts⟩ (c_X5_goesWell l D ca h xx q0 h_1 H.size) (cwV 1 hts gX5_propose_X5_goesWell rfl rfl rfl (by decide +kernel) ⟨Nat.le_of_ble_eq_true rfl, Nat.le_of_ble_eq_true rfl⟩) (wP_V (q := (RX5, TX5, 30)) hP hC hD 0 rfl rfl) rfl rfl hl.1 rfl (lv_room (Nat.le_of_ble_eq_true rfl)) dX5_propose_32 ⟨Nat.zero_le _, Nat.zero_le _⟩) hD hS hA (fun H locs hP hD hS => ?_)
    refine lv_if_ne (tgt := 40) hx hb dX5_propose_35 (by decide) (fun c_2 => ?_) (fun c_2 => ?_)
    · have hs := sp_f c_2 hs
      refine lv_aload_n hx hb dX5_propose_40 rfl (lv_at hl 0 rfl) ?_
      refine va_get (D := D) (ci := 5) (fs := fsM h (v_1.2)) (v := .ref (h 18)) (C := RX5) (T := TX5) (N := 30) hx hb hts iX5 hown hK hP 0 rfl rfl 24 (by decide) (hts (.fieldLink RX5 66 "FacadeShowModel" "proposed" "[I") (by decide +kernel)) (fun _ h9 => h9) rfl dX5_propose_41 ?_
      refine lv_iload_n hx hb dX5_propose_44 rfl (lv_at hl 1 rfl) ?_
      obtain ⟨h_3, hs⟩ := sp_c hs
      refine va_iald (D := D) (cA := ca 0) (n := 4) (f := (v_1.2).1 18) hx hb hK hP 18 0 rfl rfl h_3 dX5_propose_45 ?_
      refine lv_istore (lv' := [(4, .int (v_1.2.1 18 a1.toNatClampNeg)), (0, .ref (h 0)), (1, .int (a1)), (2, .int (a2))]) hx hb dX5_propose_46 hl (by decide) rfl (fun ls hl => ?_)
      refine lv_aload_n hx hb dX5_propose_48 rfl (lv_at hl 1 rfl) ?_
      refine va_get (D := D) (ci := 5) (fs := fsM h (v_1.2)) (v := .ref (h 18)) (C := RX5) (T := TX5) (N := 30) hx hb hts iX5 hown hK hP 0 rfl rfl 24 (by decide) (hts (.fieldLink RX5 66 "FacadeShowModel" "proposed" "[I") (by decide +kernel)) (fun _ h9 => h9) rfl dX5_propose_49 ?_
      refine lv_iload_n hx hb dX5_propose_52 rfl (lv_at hl 2 rfl) ?_
      refine lv_iload_n hx hb dX5_propose_53 rfl (lv_at hl 3 rfl) ?_
      obtain ⟨h_4, hs⟩ := sp_c hs
      refine va_iast (D := D) (cA := ca 0) (n := 4) (f := (v_1.2).1 18) hx hb hK hP hD hS 18 0 rfl rfl h_4 dX5_propose_54 (fun H locs hP hD hS => ?_)
      rw [wM_a18] at hP hD
      refine lv_iload hx hb dX5_propose_55 (lv_at hl 0 rfl) ?_
      exact wt_i (f := wM h ca) hx hb hr hAe hs hP hD hS dX5_propose_57 hlocks
    · have hs := sp_t c_2 hs
      refine lv_iconst (v := 0) hx hb dX5_propose_38 (by decide) ?_
      exact wt_i (f := wM h ca) hx hb hr hAe hs hP hD hS dX5_propose_39 hlocks
  unfold s_X5_propose at hs
  obtain ⟨H, hHe⟩ : ∃ H, H = s.heap := ⟨_, rfl⟩
  obtain ⟨locs, hle⟩ : ∃ z : List Loc, z = [] := ⟨_, rfl⟩
  have hP : va_P D vwCl (wM h ca x) H := by rw [hHe]; exact hP
  have hS : va_S A s.heap H locs := by rw [hHe, hle]; exact hS
  show W p l e (headSpec wsX5_propose ({ frames := 1, cells := 0, slots := 0, locals := 22 })).room s m #[.ref (h 0), .int (a1), .int (a2)] below meth c s.heap [] 0 0 _ _
  have hgo : W p l e (headSpec wsX5_propose ({ frames := 1, cells := 0, slots := 0, locals := 22 })).room s m #[.ref (h 0), .int (a1), .int (a2)] below meth c H locs 0 0 (MQ below (wQi r.1 D (wM h ca x) (wM h ca r.2) s.heap.size) #[.ref (h 0), .int (a1), .int (a2)] s 0 0 A) (F0 m 0 ls []) := by
    refine lv_iload_n hx hb dX5_propose_0 rfl (lv_at hl 1 rfl) ?_
    refine lv_iconst (v := 0) hx hb dX5_propose_1 (by decide) ?_
    refine lv_iconst (v := 3) hx hb dX5_propose_2 (by decide) ?_
    obtain ⟨v_5, h_5, hs⟩ := sp_b hs
    refine rd_i (va_runS (As := [.int (a1), .int (0), .int (3)]) (rest := []) ⟨hx, hb, hml, hown, hts⟩ (c_X5_in l D ca a1 0 3 h_5) (va_cwS 3 hts gX5_propose_X5_in rfl rfl rfl (by decide +kernel) ⟨Nat.le_of_ble_eq_true rfl, Nat.le_of_ble_eq_true rfl⟩) (rP_S va_P_nil hC) rfl rfl hl.1 rfl (lv_room (Nat.le_of_ble_eq_true rfl)) dX5_propose_3 ⟨Nat.zero_le _, Nat.zero_le _⟩) ?_
    refine lv_istore_n (lv' := [(3, .int (v_5)), (0, .ref (h 0)), (1, .int (a1)), (2, .int (a2))]) hx hb dX5_propose_6 rfl hl (by decide) rfl (fun ls hl => ?_)
    refine lv_aload_n hx hb dX5_propose_7 rfl (lv_at hl 1 rfl) ?_
    refine lv_iload_n hx hb dX5_propose_8 rfl (lv_at hl 0 rfl) ?_
    refine lv_if_ne (tgt := 16) hx hb dX5_propose_9 (by decide) (fun c_6 => ?_) (fun c_6 => ?_)
    · have hs := sp_f c_6 hs
      refine lv_iload_n hx hb dX5_propose_16 rfl (lv_at hl 3 rfl) ?_
      refine lv_iconst (v := 0) hx hb dX5_propose_17 (by decide) ?_
      refine lv_sipush (v := 999) hx hb dX5_propose_18 (by decide) ?_
      obtain ⟨v_7, h_7, hs⟩ := sp_b hs
      refine rd_i (va_runS (As := [.int (a2), .int (0), .int (999)]) (rest := [.ref (h 0)]) ⟨hx, hb, hml, hown, hts⟩ (c_X5_in l D ca a2 0 999 h_7) (va_cwS 3 hts gX5_propose_X5_in rfl rfl rfl (by decide +kernel) ⟨Nat.le_of_ble_eq_true rfl, Nat.le_of_ble_eq_true rfl⟩) (rP_S va_P_nil hC) rfl rfl hl.1 rfl (lv_room (Nat.le_of_ble_eq_true rfl)) dX5_propose_21 ⟨Nat.zero_le _, Nat.zero_le _⟩) ?_
      refine lv_if_eq (tgt := 31) hx hb dX5_propose_24 (by decide) (fun c_8 => ?_) (fun c_8 => ?_)
      · have hs := sp_t c_8 hs
        refine lv_iconst (v := 2) hx hb dX5_propose_31 (by decide) ?_
        exact b32  (x) (2) hs H locs hP hD hS ls (lv_sub hl [1, 2, 3] rfl)
      · have hs := sp_f c_8 hs
        refine lv_iconst (v := 0) hx hb dX5_propose_27 (by decide) ?_
        refine lv_goto (tgt := 32) hx hb dX5_propose_28 (by decide) ?_
        exact b32  (x) (0) hs H locs hP hD hS ls (lv_sub hl [1, 2, 3] rfl)
    · have hs := sp_t c_6 hs
      refine lv_iconst (v := 1) hx hb dX5_propose_12 (by decide) ?_
      refine lv_goto (tgt := 32) hx hb dX5_propose_13 (by decide) ?_
      exact b32  (x) (1) hs H locs hP hD hS ls (lv_sub hl [1, 2, 3] rfl)
  rw [hHe, hle] at hgo
  exact hgo
def s_X5_answer_b63 (a1 : Int32) (a2 : Int32) (xx : XS) (q0 : Int32) (q1 : Int32) : Option (Int32 × XS) := chk 4 q1 (chk 4 a1 (chk 4 a1 (some ((si (si (xx) 17 q1.toNatClampNeg q0) 18 a1.toNatClampNeg (-1)).1 17 a1.toNatClampNeg, si (si (xx) 17 q1.toNatClampNeg q0) 18 a1.toNatClampNeg (-1)))))
def s_X5_answer_b31 (a1 : Int32) (a2 : Int32) (xx : XS) (q0 : Int32) : Option (Int32 × XS) := (s_X5_goesWell xx q0).bind fun v_4 => (if v_4.1 = 0 then some (0, v_4.2) else (if a2 = 0 then chk 4 a1 (s_X5_answer_b63 a1 a2  (v_4.2) (v_4.2.1 17 a1.toNatClampNeg) (a1)) else chk 4 a1 (s_X5_answer_b63 a1 a2  (v_4.2) (v_4.2.1 18 a1.toNatClampNeg) (a1))))
def s_X5_answer (x : XS) (a1 : Int32) (a2 : Int32) : Option (Int32 × XS) := (s_X5_in a1 0 3).bind fun v_9 => (if v_9 = 0 then s_X5_answer_b31 a1 a2  (x) (1) else chk 4 a1 ((if (x.1 18 a1.toNatClampNeg) = (-1) then s_X5_answer_b31 a1 a2  (x) (2) else s_X5_answer_b31 a1 a2  (x) (0))))
set_option maxHeartbeats 4000000 in
set_option maxRecDepth 100000 in
theorem c_X5_answer (l : Launch) (D : va_G) (ca : Nat → ClassId) (h : Nat → Nat) (x : XS) (a1 : Int32) (a2 : Int32) {r : (Int32 × XS)} (hs : s_X5_answer x a1 a2 = some r) (sz : Nat) : Met l yX5_answer wsX5_answer ({ frames := 1, cells := 0, slots := 0, locals := 22 }) (wP [.ref (h 0), .int (a1), .int (a2)] D ca (wM h ca x) sz) (wQi r.1 D (wM h ca x) (wM h ca r.2) sz) 0 0 (va_A (wM h ca x) sz) := by
  refine Met.ofW (cc := cX5_answer) (maxL := 4) (ret := (some .int)) (by decide) rfl ?_
  intro p e s m args below meth c s₁ B hml hv
  obtain ⟨rfl, hsz, hP, hC, hD0⟩ := hv
  have hx := B.exec
  have hb := B.bytes
  have hr := B.returns
  have hts := atoms_spec (ws := wsX5_answer) B.pre
  have hown : s.vm.findClass RX5 = some m.cls := findClass_of_methodNamed B.named
  have hlocks := B.notSynchronized
  have hK := hC.1
  subst hsz
  have hD := hD0.self (sz := s.heap.size)
  generalize hAe : va_A (wM h ca x) s.heap.size = A at hD ⊢
  have hA : ∀ q : Nat, s.heap.size ≤ q → A q := fun q h => by rw [← hAe]; exact Or.inr h
  have hS : va_S A s.heap s.heap [] := va_S.rf
  skip
  have iX5 : ∀ w ∈ u_ws RX5 TX5 30, w ∈ wsX5_answer := by decide +kernel
  have hl := lv_entry ([.ref (h 0), .int (a1), .int (a2)]) (n := 4) (Nat.le_of_ble_eq_true rfl)
  rw [lg_entry_eq]
  generalize (lg_sl ([.ref (h 0), .int (a1), .int (a2)]) ++ List.replicate (4 - (lg_sl ([.ref (h 0), .int (a1), .int (a2)])).length) Slot.unset).toArray = ls at hl ⊢
  have hl : lv_has ls 4 [(0, .ref (h 0)), (1, .int (a1)), (2, .int (a2))] := hl
  have b63 : ∀ (xx : XS) (q0 : Int32) (q1 : Int32), s_X5_answer_b63 a1 a2 xx q0 q1 = some r → ∀ (H : Heap) (locs : List Loc), va_P D vwCl (wM h ca xx) H → va_D A (wM h ca xx) → va_S A s.heap H locs → ∀ (ls : Array Slot), lv_has ls 4 [(0, .ref (h 0)), (1, .int (a1))] → W p l e (headSpec wsX5_answer ({ frames := 1, cells := 0, slots := 0, locals := 22 })).room s m #[.ref (h 0), .int (a1), .int (a2)] below meth c H locs 0 0 (MQ below (wQi r.1 D (wM h ca x) (wM h ca r.2) s.heap.size) #[.ref (h 0), .int (a1), .int (a2)] s 0 0 A) (F0 m 63 ls [.int (q0), .int (q1), .ref (h 17)]) := by
    intro xx q0 q1 hs H locs hP hD hS ls hl
    unfold s_X5_answer_b63 at hs
    obtain ⟨h_1, hs⟩ := sp_c hs
    refine va_iast (D := D) (cA := ca 0) (n := 4) (f := (xx).1 17) hx hb hK hP hD hS 17 0 rfl rfl h_1 dX5_answer_63 (fun H locs hP hD hS => ?_)
    rw [wM_a17] at hP hD
    refine lv_aload_n hx hb dX5_answer_64 rfl (lv_at hl 0 rfl) ?_
    refine va_get (D := D) (ci := 5) (fs := fsM h (si (xx) 17 q1.toNatClampNeg q0)) (v := .ref (h 18)) (C := RX5) (T := TX5) (N := 30) hx hb hts iX5 hown hK hP 0 rfl rfl 24 (by decide) (hts (.fieldLink RX5 66 "FacadeShowModel" "proposed" "[I") (by decide +kernel)) (fun _ h9 => h9) rfl dX5_answer_65 ?_
    refine lv_iload_n hx hb dX5_answer_68 rfl (lv_at hl 1 rfl) ?_
    refine lv_iconst (v := -1) hx hb dX5_answer_69 (by decide) ?_
    obtain ⟨h_2, hs⟩ := sp_c hs
    refine va_iast (D := D) (cA := ca 0) (n := 4) (f := (si (xx) 17 q1.toNatClampNeg q0).1 18) hx hb hK hP hD hS 18 0 rfl rfl h_2 dX5_answer_70 (fun H locs hP hD hS => ?_)
    rw [wM_a18] at hP hD
    refine lv_aload_n hx hb dX5_answer_71 rfl (lv_at hl 0 rfl) ?_
    refine va_get (D := D) (ci := 5) (fs := fsM h (si (si (xx) 17 q1.toNatClampNeg q0) 18 a1.toNatClampNeg (-1))) (v := .ref (h 17)) (C := RX5) (T := TX5) (N := 30) hx hb hts iX5 hown hK hP 0 rfl rfl 23 (by decide) (hts (.fieldLink RX5 63 "FacadeShowModel" "version" "[I") (by decide +kernel)) (fun _ h9 => h9) rfl dX5_answer_72 ?_
    refine lv_iload_n hx hb dX5_answer_75 rfl (lv_at hl 1 rfl) ?_
    obtain ⟨h_3, hs⟩ := sp_c hs
    refine va_iald (D := D) (cA := ca 0) (n := 4) (f := (si (si (xx) 17 q1.toNatClampNeg q0) 18 a1.toNatClampNeg (-1)).1 17) hx hb hK hP 17 0 rfl rfl h_3 dX5_answer_76 ?_
    exact wt_i (f := wM h ca) hx hb hr hAe hs hP hD hS dX5_answer_77 hlocks
  have b31 : ∀ (xx : XS) (q0 : Int32), s_X5_answer_b31 a1 a2 xx q0 = some r → ∀ (H : Heap) (locs : List Loc), va_P D vwCl (wM h ca xx) H → va_D A (wM h ca xx) → va_S A s.heap H locs → ∀ (ls : Array Slot), lv_has ls 4 [(0, .ref (h 0)), (1, .int (a1)), (2, .int (a2))] → W p l e (headSpec wsX5_answer ({ frames := 1, cells := 0, slots := 0, locals := 22 })).room s m #[.ref (h 0), .int (a1), .int (a2)] below meth c H locs 0 0 (MQ below (wQi r.1 D (wM h ca x) (wM h ca r.2) s.heap.size) #[.ref (h 0), .int (a1), .int (a2)] s 0 0 A) (F0 m 31 ls [.int (q0), .ref (h 0)]) := by
    intro xx q0 hs H locs hP hD hS ls hl
    unfold s_X5_answer_b31 at hs
    obtain ⟨v_4, h_4, hs⟩ := sp_b hs
    refine wr_i (va_runV (As := [.int (q0)]) (rest := []) ⟨hx, hb, hml, hown, hts⟩ (c_X5_goesWell l D ca h xx q0 h_4 H.size) (cwV 1 hts gX5_answer_X5_goesWell rfl rfl rfl (by decide +kernel) ⟨Nat.le_of_ble_eq_true rfl, Nat.le_of_ble_eq_true rfl⟩) (wP_V (q := (RX5, TX5, 30)) hP hC hD 0 rfl rfl) rfl rfl hl.1 rfl (lv_room (Nat.le_of_ble_eq_true rfl)) dX5_answer_31 ⟨Nat.zero_le _, Nat.zero_le _⟩) hD hS hA (fun H locs hP hD hS => ?_)
    refine lv_if_ne (tgt := 39) hx hb dX5_answer_34 (by decide) (fun c_5 => ?_) (fun c_5 => ?_)
    · have hs := sp_f c_5 hs
      refine lv_aload_n hx hb dX5_answer_39 rfl (lv_at hl 0 rfl) ?_
      refine va_get (D := D) (ci := 5) (fs := fsM h (v_4.2)) (v := .ref (h 17)) (C := RX5) (T := TX5) (N := 30) hx hb hts iX5 hown hK hP 0 rfl rfl 23 (by decide) (hts (.fieldLink RX5 63 "FacadeShowModel" "version" "[I") (by decide +kernel)) (fun _ h9 => h9) rfl dX5_answer_40 ?_
      refine lv_iload_n hx hb dX5_answer_43 rfl (lv_at hl 1 rfl) ?_
      refine lv_iload_n hx hb dX5_answer_44 rfl (lv_at hl 2 rfl) ?_
      refine lv_if_eq (tgt := 57) hx hb dX5_answer_45 (by decide) (fun c_6 => ?_) (fun c_6 => ?_)
      · have hs := sp_t c_6 hs
        refine lv_aload_n hx hb dX5_answer_57 rfl (lv_at hl 0 rfl) ?_
        refine va_get (D := D) (ci := 5) (fs := fsM h (v_4.2)) (v := .ref (h 17)) (C := RX5) (T := TX5) (N := 30) hx hb hts iX5 hown hK hP 0 rfl rfl 23 (by decide) (hts (.fieldLink RX5 63 "FacadeShowModel" "version" "[I") (by decide +kernel)) (fun _ h9 => h9) rfl dX5_answer_58 ?_
        refine lv_iload_n hx hb dX5_answer_61 rfl (lv_at hl 1 rfl) ?_
        obtain ⟨h_7, hs⟩ := sp_c hs
        refine va_iald (D := D) (cA := ca 0) (n := 4) (f := (v_4.2).1 17) hx hb hK hP 17 0 rfl rfl h_7 dX5_answer_62 ?_
        exact b63  (v_4.2) (v_4.2.1 17 a1.toNatClampNeg) (a1) hs H locs hP hD hS ls (lv_sub hl [0, 1] rfl)
      · have hs := sp_f c_6 hs
        refine lv_aload_n hx hb dX5_answer_48 rfl (lv_at hl 0 rfl) ?_
        refine va_get (D := D) (ci := 5) (fs := fsM h (v_4.2)) (v := .ref (h 18)) (C := RX5) (T := TX5) (N := 30) hx hb hts iX5 hown hK hP 0 rfl rfl 24 (by decide) (hts (.fieldLink RX5 66 "FacadeShowModel" "proposed" "[I") (by decide +kernel)) (fun _ h9 => h9) rfl dX5_answer_49 ?_
        refine lv_iload_n hx hb dX5_answer_52 rfl (lv_at hl 1 rfl) ?_
        obtain ⟨h_8, hs⟩ := sp_c hs
        refine va_iald (D := D) (cA := ca 0) (n := 4) (f := (v_4.2).1 18) hx hb hK hP 18 0 rfl rfl h_8 dX5_answer_53 ?_
        refine lv_goto (tgt := 63) hx hb dX5_answer_54 (by decide) ?_
        exact b63  (v_4.2) (v_4.2.1 18 a1.toNatClampNeg) (a1) hs H locs hP hD hS ls (lv_sub hl [0, 1] rfl)
    · have hs := sp_t c_5 hs
      refine lv_iconst (v := 0) hx hb dX5_answer_37 (by decide) ?_
      exact wt_i (f := wM h ca) hx hb hr hAe hs hP hD hS dX5_answer_38 hlocks
  unfold s_X5_answer at hs
  obtain ⟨H, hHe⟩ : ∃ H, H = s.heap := ⟨_, rfl⟩
  obtain ⟨locs, hle⟩ : ∃ z : List Loc, z = [] := ⟨_, rfl⟩
  have hP : va_P D vwCl (wM h ca x) H := by rw [hHe]; exact hP
  have hS : va_S A s.heap H locs := by rw [hHe, hle]; exact hS
  show W p l e (headSpec wsX5_answer ({ frames := 1, cells := 0, slots := 0, locals := 22 })).room s m #[.ref (h 0), .int (a1), .int (a2)] below meth c s.heap [] 0 0 _ _
  have hgo : W p l e (headSpec wsX5_answer ({ frames := 1, cells := 0, slots := 0, locals := 22 })).room s m #[.ref (h 0), .int (a1), .int (a2)] below meth c H locs 0 0 (MQ below (wQi r.1 D (wM h ca x) (wM h ca r.2) s.heap.size) #[.ref (h 0), .int (a1), .int (a2)] s 0 0 A) (F0 m 0 ls []) := by
    refine lv_iload_n hx hb dX5_answer_0 rfl (lv_at hl 1 rfl) ?_
    refine lv_iconst (v := 0) hx hb dX5_answer_1 (by decide) ?_
    refine lv_iconst (v := 3) hx hb dX5_answer_2 (by decide) ?_
    obtain ⟨v_9, h_9, hs⟩ := sp_b hs
    refine rd_i (va_runS (As := [.int (a1), .int (0), .int (3)]) (rest := []) ⟨hx, hb, hml, hown, hts⟩ (c_X5_in l D ca a1 0 3 h_9) (va_cwS 3 hts gX5_answer_X5_in rfl rfl rfl (by decide +kernel) ⟨Nat.le_of_ble_eq_true rfl, Nat.le_of_ble_eq_true rfl⟩) (rP_S va_P_nil hC) rfl rfl hl.1 rfl (lv_room (Nat.le_of_ble_eq_true rfl)) dX5_answer_3 ⟨Nat.zero_le _, Nat.zero_le _⟩) ?_
    refine lv_istore_n (lv' := [(3, .int (v_9)), (0, .ref (h 0)), (1, .int (a1)), (2, .int (a2))]) hx hb dX5_answer_6 rfl hl (by decide) rfl (fun ls hl => ?_)
    refine lv_aload_n hx hb dX5_answer_7 rfl (lv_at hl 1 rfl) ?_
    refine lv_iload_n hx hb dX5_answer_8 rfl (lv_at hl 0 rfl) ?_
    refine lv_if_ne (tgt := 16) hx hb dX5_answer_9 (by decide) (fun c_10 => ?_) (fun c_10 => ?_)
    · have hs := sp_f c_10 hs
      refine lv_aload_n hx hb dX5_answer_16 rfl (lv_at hl 1 rfl) ?_
      refine va_get (D := D) (ci := 5) (fs := fsM h (x)) (v := .ref (h 18)) (C := RX5) (T := TX5) (N := 30) hx hb hts iX5 hown hK hP 0 rfl rfl 24 (by decide) (hts (.fieldLink RX5 66 "FacadeShowModel" "proposed" "[I") (by decide +kernel)) (fun _ h9 => h9) rfl dX5_answer_17 ?_
      refine lv_iload_n hx hb dX5_answer_20 rfl (lv_at hl 2 rfl) ?_
      obtain ⟨h_11, hs⟩ := sp_c hs
      refine va_iald (D := D) (cA := ca 0) (n := 4) (f := (x).1 18) hx hb hK hP 18 0 rfl rfl h_11 dX5_answer_21 ?_
      refine lv_iconst (v := -1) hx hb dX5_answer_22 (by decide) ?_
      refine lv_icmp_ne (tgt := 30) hx hb dX5_answer_23 (by decide) (fun c_12 => ?_) (fun c_12 => ?_)
      · have hs := sp_f c_12 hs
        refine lv_iconst (v := 0) hx hb dX5_answer_30 (by decide) ?_
        exact b31  (x) (0) hs H locs hP hD hS ls (lv_sub hl [1, 2, 3] rfl)
      · have hs := sp_t c_12 hs
        refine lv_iconst (v := 2) hx hb dX5_answer_26 (by decide) ?_
        refine lv_goto (tgt := 31) hx hb dX5_answer_27 (by decide) ?_
        exact b31  (x) (2) hs H locs hP hD hS ls (lv_sub hl [1, 2, 3] rfl)
    · have hs := sp_t c_10 hs
      refine lv_iconst (v := 1) hx hb dX5_answer_12 (by decide) ?_
      refine lv_goto (tgt := 31) hx hb dX5_answer_13 (by decide) ?_
      exact b31  (x) (1) hs H locs hP hD hS ls (lv_sub hl [1, 2, 3] rfl)
  rw [hHe, hle] at hgo
  exact hgo
def s_X5_scene_b15 (a1 : Int32) (a2 : Int32) (xx : XS) (q0 : Int32) : Option (Int32 × XS) := (s_X5_goesWell xx q0).bind fun v_1 => (if v_1.1 = 0 then some (0, v_1.2) else (if a2 = 0 then chk 4 a1 (some (v_1.2.1 17 a1.toNatClampNeg, v_1.2)) else chk 4 a1 (some (v_1.2.1 18 a1.toNatClampNeg, v_1.2))))
def s_X5_scene (x : XS) (a1 : Int32) (a2 : Int32) : Option (Int32 × XS) := (s_X5_in a1 0 3).bind fun v_6 => (if v_6 = 0 then s_X5_scene_b15 a1 a2  (x) (1) else s_X5_scene_b15 a1 a2  (x) (0))
set_option maxHeartbeats 4000000 in
set_option maxRecDepth 100000 in
theorem c_X5_scene (l : Launch) (D : va_G) (ca : Nat → ClassId) (h : Nat → Nat) (x : XS) (a1 : Int32) (a2 : Int32) {r : (Int32 × XS)} (hs : s_X5_scene x a1 a2 = some r) (sz : Nat) : Met l yX5_scene wsX5_scene ({ frames := 1, cells := 0, slots := 0, locals := 22 }) (wP [.ref (h 0), .int (a1), .int (a2)] D ca (wM h ca x) sz) (wQi r.1 D (wM h ca x) (wM h ca r.2) sz) 0 0 (va_A (wM h ca x) sz) := by
  refine Met.ofW (cc := cX5_scene) (maxL := 3) (ret := (some .int)) (by decide) rfl ?_
  intro p e s m args below meth c s₁ B hml hv
  obtain ⟨rfl, hsz, hP, hC, hD0⟩ := hv
  have hx := B.exec
  have hb := B.bytes
  have hr := B.returns
  have hts := atoms_spec (ws := wsX5_scene) B.pre
  have hown : s.vm.findClass RX5 = some m.cls := findClass_of_methodNamed B.named
  have hlocks := B.notSynchronized
  have hK := hC.1
  subst hsz
  have hD := hD0.self (sz := s.heap.size)
  generalize hAe : va_A (wM h ca x) s.heap.size = A at hD ⊢
  have hA : ∀ q : Nat, s.heap.size ≤ q → A q := fun q h => by rw [← hAe]; exact Or.inr h
  have hS : va_S A s.heap s.heap [] := va_S.rf
  skip
  have iX5 : ∀ w ∈ u_ws RX5 TX5 30, w ∈ wsX5_scene := by decide +kernel
  have hl := lv_entry ([.ref (h 0), .int (a1), .int (a2)]) (n := 3) (Nat.le_of_ble_eq_true rfl)
  rw [lg_entry_eq]
  generalize (lg_sl ([.ref (h 0), .int (a1), .int (a2)]) ++ List.replicate (3 - (lg_sl ([.ref (h 0), .int (a1), .int (a2)])).length) Slot.unset).toArray = ls at hl ⊢
  have hl : lv_has ls 3 [(0, .ref (h 0)), (1, .int (a1)), (2, .int (a2))] := hl
  have b15 : ∀ (xx : XS) (q0 : Int32), s_X5_scene_b15 a1 a2 xx q0 = some r → ∀ (H : Heap) (locs : List Loc), va_P D vwCl (wM h ca xx) H → va_D A (wM h ca xx) → va_S A s.heap H locs → ∀ (ls : Array Slot), lv_has ls 3 [(0, .ref (h 0)), (1, .int (a1)), (2, .int (a2))] → W p l e (headSpec wsX5_scene ({ frames := 1, cells := 0, slots := 0, locals := 22 })).room s m #[.ref (h 0), .int (a1), .int (a2)] below meth c H locs 0 0 (MQ below (wQi r.1 D (wM h ca x) (wM h ca r.2) s.heap.size) #[.ref (h 0), .int (a1), .int (a2)] s 0 0 A) (F0 m 15 ls [.int (q0), .ref (h 0)]) := by
    intro xx q0 hs H locs hP hD hS ls hl
    unfold s_X5_scene_b15 at hs
    obtain ⟨v_1, h_1, hs⟩ := sp_b hs
    refine wr_i (va_runV (As := [.int (q0)]) (rest := []) ⟨hx, hb, hml, hown, hts⟩ (c_X5_goesWell l D ca h xx q0 h_1 H.size) (cwV 1 hts gX5_scene_X5_goesWell rfl rfl rfl (by decide +kernel) ⟨Nat.le_of_ble_eq_true rfl, Nat.le_of_ble_eq_true rfl⟩) (wP_V (q := (RX5, TX5, 30)) hP hC hD 0 rfl rfl) rfl rfl hl.1 rfl (lv_room (Nat.le_of_ble_eq_true rfl)) dX5_scene_15 ⟨Nat.zero_le _, Nat.zero_le _⟩) hD hS hA (fun H locs hP hD hS => ?_)
    refine lv_if_eq (tgt := 43) hx hb dX5_scene_18 (by decide) (fun c_2 => ?_) (fun c_2 => ?_)
    · have hs := sp_t c_2 hs
      refine lv_iconst (v := 0) hx hb dX5_scene_43 (by decide) ?_
      exact wt_i (f := wM h ca) hx hb hr hAe hs hP hD hS dX5_scene_44 hlocks
    · have hs := sp_f c_2 hs
      refine lv_iload_n hx hb dX5_scene_21 rfl (lv_at hl 2 rfl) ?_
      refine lv_if_eq (tgt := 34) hx hb dX5_scene_22 (by decide) (fun c_3 => ?_) (fun c_3 => ?_)
      · have hs := sp_t c_3 hs
        refine lv_aload_n hx hb dX5_scene_34 rfl (lv_at hl 0 rfl) ?_
        refine va_get (D := D) (ci := 5) (fs := fsM h (v_1.2)) (v := .ref (h 17)) (C := RX5) (T := TX5) (N := 30) hx hb hts iX5 hown hK hP 0 rfl rfl 23 (by decide) (hts (.fieldLink RX5 63 "FacadeShowModel" "version" "[I") (by decide +kernel)) (fun _ h9 => h9) rfl dX5_scene_35 ?_
        refine lv_iload_n hx hb dX5_scene_38 rfl (lv_at hl 1 rfl) ?_
        obtain ⟨h_4, hs⟩ := sp_c hs
        refine va_iald (D := D) (cA := ca 0) (n := 4) (f := (v_1.2).1 17) hx hb hK hP 17 0 rfl rfl h_4 dX5_scene_39 ?_
        refine lv_goto (tgt := 44) hx hb dX5_scene_40 (by decide) ?_
        exact wt_i (f := wM h ca) hx hb hr hAe hs hP hD hS dX5_scene_44 hlocks
      · have hs := sp_f c_3 hs
        refine lv_aload_n hx hb dX5_scene_25 rfl (lv_at hl 0 rfl) ?_
        refine va_get (D := D) (ci := 5) (fs := fsM h (v_1.2)) (v := .ref (h 18)) (C := RX5) (T := TX5) (N := 30) hx hb hts iX5 hown hK hP 0 rfl rfl 24 (by decide) (hts (.fieldLink RX5 66 "FacadeShowModel" "proposed" "[I") (by decide +kernel)) (fun _ h9 => h9) rfl dX5_scene_26 ?_
        refine lv_iload_n hx hb dX5_scene_29 rfl (lv_at hl 1 rfl) ?_
        obtain ⟨h_5, hs⟩ := sp_c hs
        refine va_iald (D := D) (cA := ca 0) (n := 4) (f := (v_1.2).1 18) hx hb hK hP 18 0 rfl rfl h_5 dX5_scene_30 ?_
        refine lv_goto (tgt := 44) hx hb dX5_scene_31 (by decide) ?_
        exact wt_i (f := wM h ca) hx hb hr hAe hs hP hD hS dX5_scene_44 hlocks
  unfold s_X5_scene at hs
  obtain ⟨H, hHe⟩ : ∃ H, H = s.heap := ⟨_, rfl⟩
  obtain ⟨locs, hle⟩ : ∃ z : List Loc, z = [] := ⟨_, rfl⟩
  have hP : va_P D vwCl (wM h ca x) H := by rw [hHe]; exact hP
  have hS : va_S A s.heap H locs := by rw [hHe, hle]; exact hS
  show W p l e (headSpec wsX5_scene ({ frames := 1, cells := 0, slots := 0, locals := 22 })).room s m #[.ref (h 0), .int (a1), .int (a2)] below meth c s.heap [] 0 0 _ _
  have hgo : W p l e (headSpec wsX5_scene ({ frames := 1, cells := 0, slots := 0, locals := 22 })).room s m #[.ref (h 0), .int (a1), .int (a2)] below meth c H locs 0 0 (MQ below (wQi r.1 D (wM h ca x) (wM h ca r.2) s.heap.size) #[.ref (h 0), .int (a1), .int (a2)] s 0 0 A) (F0 m 0 ls []) := by
    refine lv_aload_n hx hb dX5_scene_0 rfl (lv_at hl 0 rfl) ?_
    refine lv_iload_n hx hb dX5_scene_1 rfl (lv_at hl 1 rfl) ?_
    refine lv_iconst (v := 0) hx hb dX5_scene_2 (by decide) ?_
    refine lv_iconst (v := 3) hx hb dX5_scene_3 (by decide) ?_
    obtain ⟨v_6, h_6, hs⟩ := sp_b hs
    refine rd_i (va_runS (As := [.int (a1), .int (0), .int (3)]) (rest := [.ref (h 0)]) ⟨hx, hb, hml, hown, hts⟩ (c_X5_in l D ca a1 0 3 h_6) (va_cwS 3 hts gX5_scene_X5_in rfl rfl rfl (by decide +kernel) ⟨Nat.le_of_ble_eq_true rfl, Nat.le_of_ble_eq_true rfl⟩) (rP_S va_P_nil hC) rfl rfl hl.1 rfl (lv_room (Nat.le_of_ble_eq_true rfl)) dX5_scene_4 ⟨Nat.zero_le _, Nat.zero_le _⟩) ?_
    refine lv_if_eq (tgt := 14) hx hb dX5_scene_7 (by decide) (fun c_7 => ?_) (fun c_7 => ?_)
    · have hs := sp_t c_7 hs
      refine lv_iconst (v := 1) hx hb dX5_scene_14 (by decide) ?_
      exact b15  (x) (1) hs H locs hP hD hS ls (lv_sub hl [0, 1, 2] rfl)
    · have hs := sp_f c_7 hs
      refine lv_iconst (v := 0) hx hb dX5_scene_10 (by decide) ?_
      refine lv_goto (tgt := 15) hx hb dX5_scene_11 (by decide) ?_
      exact b15  (x) (0) hs H locs hP hD hS ls (lv_sub hl [0, 1, 2] rfl)
  rw [hHe, hle] at hgo
  exact hgo
def s_X5_show_b15 (a1 : Int32) (xx : XS) (q0 : Int32) : Option (Int64 × XS) := (s_X5_goesWell xx q0).bind fun v_1 => (if v_1.1 = 0 then some (0, v_1.2) else (if a1 = 0 then some ((v_1.2.1 0 25).toInt64, v_1.2) else (if a1 = 1 then some ((v_1.2.1 0 26).toInt64, v_1.2) else (if a1 = 2 then some (v_1.2.2.1 0, v_1.2) else (if a1 = 3 then some (v_1.2.2.1 1, v_1.2) else (if a1 = 4 then some ((v_1.2.1 0 29).toInt64, v_1.2) else (s_X5_on v_1.2).bind fun v_8 => some (v_8.toInt64, v_1.2)))))))
def s_X5_show (x : XS) (a1 : Int32) : Option (Int64 × XS) := (s_X5_in a1 0 5).bind fun v_9 => (if v_9 = 0 then s_X5_show_b15 a1  (x) (1) else s_X5_show_b15 a1  (x) (0))
set_option maxHeartbeats 4000000 in
set_option maxRecDepth 100000 in
theorem c_X5_show (l : Launch) (D : va_G) (ca : Nat → ClassId) (h : Nat → Nat) (x : XS) (a1 : Int32) {r : (Int64 × XS)} (hs : s_X5_show x a1 = some r) (sz : Nat) : Met l yX5_show wsX5_show ({ frames := 1, cells := 0, slots := 0, locals := 22 }) (wP [.ref (h 0), .int (a1)] D ca (wM h ca x) sz) (wQl r.1 D (wM h ca x) (wM h ca r.2) sz) 0 0 (va_A (wM h ca x) sz) := by
  refine Met.ofW (cc := cX5_show) (maxL := 2) (ret := (some .long)) (by decide) rfl ?_
  intro p e s m args below meth c s₁ B hml hv
  obtain ⟨rfl, hsz, hP, hC, hD0⟩ := hv
  have hx := B.exec
  have hb := B.bytes
  have hr := B.returns
  have hts := atoms_spec (ws := wsX5_show) B.pre
  have hown : s.vm.findClass RX5 = some m.cls := findClass_of_methodNamed B.named
  have hlocks := B.notSynchronized
  have hK := hC.1
  subst hsz
  have hD := hD0.self (sz := s.heap.size)
  generalize hAe : va_A (wM h ca x) s.heap.size = A at hD ⊢
  have hA : ∀ q : Nat, s.heap.size ≤ q → A q := fun q h => by rw [← hAe]; exact Or.inr h
  have hS : va_S A s.heap s.heap [] := va_S.rf
  skip
  have iX5 : ∀ w ∈ u_ws RX5 TX5 30, w ∈ wsX5_show := by decide +kernel
  have hl := lv_entry ([.ref (h 0), .int (a1)]) (n := 2) (Nat.le_of_ble_eq_true rfl)
  rw [lg_entry_eq]
  generalize (lg_sl ([.ref (h 0), .int (a1)]) ++ List.replicate (2 - (lg_sl ([.ref (h 0), .int (a1)])).length) Slot.unset).toArray = ls at hl ⊢
  have hl : lv_has ls 2 [(0, .ref (h 0)), (1, .int (a1))] := hl
  have b15 : ∀ (xx : XS) (q0 : Int32), s_X5_show_b15 a1 xx q0 = some r → ∀ (H : Heap) (locs : List Loc), va_P D vwCl (wM h ca xx) H → va_D A (wM h ca xx) → va_S A s.heap H locs → ∀ (ls : Array Slot), lv_has ls 2 [(0, .ref (h 0)), (1, .int (a1))] → W p l e (headSpec wsX5_show ({ frames := 1, cells := 0, slots := 0, locals := 22 })).room s m #[.ref (h 0), .int (a1)] below meth c H locs 0 0 (MQ below (wQl r.1 D (wM h ca x) (wM h ca r.2) s.heap.size) #[.ref (h 0), .int (a1)] s 0 0 A) (F0 m 15 ls [.int (q0), .ref (h 0)]) := by
    intro xx q0 hs H locs hP hD hS ls hl
    unfold s_X5_show_b15 at hs
    obtain ⟨v_1, h_1, hs⟩ := sp_b hs
    refine wr_i (va_runV (As := [.int (q0)]) (rest := []) ⟨hx, hb, hml, hown, hts⟩ (c_X5_goesWell l D ca h xx q0 h_1 H.size) (cwV 1 hts gX5_show_X5_goesWell rfl rfl rfl (by decide +kernel) ⟨Nat.le_of_ble_eq_true rfl, Nat.le_of_ble_eq_true rfl⟩) (wP_V (q := (RX5, TX5, 30)) hP hC hD 0 rfl rfl) rfl rfl hl.1 rfl (lv_room (Nat.le_of_ble_eq_true rfl)) dX5_show_15 ⟨Nat.zero_le _, Nat.zero_le _⟩) hD hS hA (fun H locs hP hD hS => ?_)
    refine lv_if_ne (tgt := 23) hx hb dX5_show_18 (by decide) (fun c_2 => ?_) (fun c_2 => ?_)
    · have hs := sp_f c_2 hs
      refine lv_iload_n hx hb dX5_show_23 rfl (lv_at hl 1 rfl) ?_
      refine lv_if_ne (tgt := 35) hx hb dX5_show_24 (by decide) (fun c_3 => ?_) (fun c_3 => ?_)
      · have hs := sp_f c_3 hs
        refine lv_iload_n hx hb dX5_show_35 rfl (lv_at hl 1 rfl) ?_
        refine lv_iconst (v := 1) hx hb dX5_show_36 (by decide) ?_
        refine lv_icmp_ne (tgt := 48) hx hb dX5_show_37 (by decide) (fun c_4 => ?_) (fun c_4 => ?_)
        · have hs := sp_f c_4 hs
          refine lv_iload_n hx hb dX5_show_48 rfl (lv_at hl 1 rfl) ?_
          refine lv_iconst (v := 2) hx hb dX5_show_49 (by decide) ?_
          refine lv_icmp_ne (tgt := 60) hx hb dX5_show_50 (by decide) (fun c_5 => ?_) (fun c_5 => ?_)
          · have hs := sp_f c_5 hs
            refine lv_iload_n hx hb dX5_show_60 rfl (lv_at hl 1 rfl) ?_
            refine lv_iconst (v := 3) hx hb dX5_show_61 (by decide) ?_
            refine lv_icmp_ne (tgt := 72) hx hb dX5_show_62 (by decide) (fun c_6 => ?_) (fun c_6 => ?_)
            · have hs := sp_f c_6 hs
              refine lv_iload_n hx hb dX5_show_72 rfl (lv_at hl 1 rfl) ?_
              refine lv_iconst (v := 4) hx hb dX5_show_73 (by decide) ?_
              refine lv_icmp_ne (tgt := 85) hx hb dX5_show_74 (by decide) (fun c_7 => ?_) (fun c_7 => ?_)
              · have hs := sp_f c_7 hs
                refine lv_aload_n hx hb dX5_show_85 rfl (lv_at hl 0 rfl) ?_
                obtain ⟨v_8, h_8, hs⟩ := sp_b hs
                refine rd_i (va_runV (As := []) (rest := []) ⟨hx, hb, hml, hown, hts⟩ (c_X5_on l D ca h v_1.2 h_8) (cwV 0 hts gX5_show_X5_on rfl rfl rfl (by decide +kernel) ⟨Nat.le_of_ble_eq_true rfl, Nat.le_of_ble_eq_true rfl⟩) (rP_V (q := (RX5, TX5, 30)) hP hC 0 rfl rfl) rfl rfl hl.1 rfl (lv_room (Nat.le_of_ble_eq_true rfl)) dX5_show_86 ⟨Nat.zero_le _, Nat.zero_le _⟩) ?_
                refine lv_i2l hx hb dX5_show_89 rfl ?_
                exact wt_l (f := wM h ca) hx hb hr hAe hs hP hD hS dX5_show_90 hlocks
              · have hs := sp_t c_7 hs
                refine lv_aload_n hx hb dX5_show_77 rfl (lv_at hl 0 rfl) ?_
                refine va_get (D := D) (ci := 5) (fs := fsM h (v_1.2)) (v := .int (v_1.2.1 0 29)) (C := RX5) (T := TX5) (N := 30) hx hb hts iX5 hown hK hP 0 rfl rfl 29 (by decide) (hts (.fieldLink RX5 175 "FacadeShowModel" "minute" "I") (by decide +kernel)) (fun _ h9 => h9) rfl dX5_show_78 ?_
                refine lv_i2l hx hb dX5_show_81 rfl ?_
                refine lv_goto (tgt := 90) hx hb dX5_show_82 (by decide) ?_
                exact wt_l (f := wM h ca) hx hb hr hAe hs hP hD hS dX5_show_90 hlocks
            · have hs := sp_t c_6 hs
              refine lv_aload_n hx hb dX5_show_65 rfl (lv_at hl 0 rfl) ?_
              refine va_get (D := D) (ci := 5) (fs := fsM h (v_1.2)) (v := .long (v_1.2.2.1 1)) (C := RX5) (T := TX5) (N := 30) hx hb hts iX5 hown hK hP 0 rfl rfl 28 (by decide) (hts (.fieldLink RX5 172 "FacadeShowModel" "energy" "J") (by decide +kernel)) (fun _ h9 => h9) rfl dX5_show_66 ?_
              refine lv_goto (tgt := 90) hx hb dX5_show_69 (by decide) ?_
              exact wt_l (f := wM h ca) hx hb hr hAe hs hP hD hS dX5_show_90 hlocks
          · have hs := sp_t c_5 hs
            refine lv_aload_n hx hb dX5_show_53 rfl (lv_at hl 0 rfl) ?_
            refine va_get (D := D) (ci := 5) (fs := fsM h (v_1.2)) (v := .long (v_1.2.2.1 0)) (C := RX5) (T := TX5) (N := 30) hx hb hts iX5 hown hK hP 0 rfl rfl 27 (by decide) (hts (.fieldLink RX5 168 "FacadeShowModel" "counted" "J") (by decide +kernel)) (fun _ h9 => h9) rfl dX5_show_54 ?_
            refine lv_goto (tgt := 90) hx hb dX5_show_57 (by decide) ?_
            exact wt_l (f := wM h ca) hx hb hr hAe hs hP hD hS dX5_show_90 hlocks
        · have hs := sp_t c_4 hs
          refine lv_aload_n hx hb dX5_show_40 rfl (lv_at hl 0 rfl) ?_
          refine va_get (D := D) (ci := 5) (fs := fsM h (v_1.2)) (v := .int (v_1.2.1 0 26)) (C := RX5) (T := TX5) (N := 30) hx hb hts iX5 hown hK hP 0 rfl rfl 26 (by decide) (hts (.fieldLink RX5 165 "FacadeShowModel" "held" "I") (by decide +kernel)) (fun _ h9 => h9) rfl dX5_show_41 ?_
          refine lv_i2l hx hb dX5_show_44 rfl ?_
          refine lv_goto (tgt := 90) hx hb dX5_show_45 (by decide) ?_
          exact wt_l (f := wM h ca) hx hb hr hAe hs hP hD hS dX5_show_90 hlocks
      · have hs := sp_t c_3 hs
        refine lv_aload_n hx hb dX5_show_27 rfl (lv_at hl 0 rfl) ?_
        refine va_get (D := D) (ci := 5) (fs := fsM h (v_1.2)) (v := .int (v_1.2.1 0 25)) (C := RX5) (T := TX5) (N := 30) hx hb hts iX5 hown hK hP 0 rfl rfl 25 (by decide) (hts (.fieldLink RX5 162 "FacadeShowModel" "frame" "I") (by decide +kernel)) (fun _ h9 => h9) rfl dX5_show_28 ?_
        refine lv_i2l hx hb dX5_show_31 rfl ?_
        refine lv_goto (tgt := 90) hx hb dX5_show_32 (by decide) ?_
        exact wt_l (f := wM h ca) hx hb hr hAe hs hP hD hS dX5_show_90 hlocks
    · have hs := sp_t c_2 hs
      refine lv_lconst (v := 0) hx hb dX5_show_21 (by decide) ?_
      exact wt_l (f := wM h ca) hx hb hr hAe hs hP hD hS dX5_show_22 hlocks
  unfold s_X5_show at hs
  obtain ⟨H, hHe⟩ : ∃ H, H = s.heap := ⟨_, rfl⟩
  obtain ⟨locs, hle⟩ : ∃ z : List Loc, z = [] := ⟨_, rfl⟩
  have hP : va_P D vwCl (wM h ca x) H := by rw [hHe]; exact hP
  have hS : va_S A s.heap H locs := by rw [hHe, hle]; exact hS
  show W p l e (headSpec wsX5_show ({ frames := 1, cells := 0, slots := 0, locals := 22 })).room s m #[.ref (h 0), .int (a1)] below meth c s.heap [] 0 0 _ _
  have hgo : W p l e (headSpec wsX5_show ({ frames := 1, cells := 0, slots := 0, locals := 22 })).room s m #[.ref (h 0), .int (a1)] below meth c H locs 0 0 (MQ below (wQl r.1 D (wM h ca x) (wM h ca r.2) s.heap.size) #[.ref (h 0), .int (a1)] s 0 0 A) (F0 m 0 ls []) := by
    refine lv_aload_n hx hb dX5_show_0 rfl (lv_at hl 0 rfl) ?_
    refine lv_iload_n hx hb dX5_show_1 rfl (lv_at hl 1 rfl) ?_
    refine lv_iconst (v := 0) hx hb dX5_show_2 (by decide) ?_
    refine lv_iconst (v := 5) hx hb dX5_show_3 (by decide) ?_
    obtain ⟨v_9, h_9, hs⟩ := sp_b hs
    refine rd_i (va_runS (As := [.int (a1), .int (0), .int (5)]) (rest := [.ref (h 0)]) ⟨hx, hb, hml, hown, hts⟩ (c_X5_in l D ca a1 0 5 h_9) (va_cwS 3 hts gX5_show_X5_in rfl rfl rfl (by decide +kernel) ⟨Nat.le_of_ble_eq_true rfl, Nat.le_of_ble_eq_true rfl⟩) (rP_S va_P_nil hC) rfl rfl hl.1 rfl (lv_room (Nat.le_of_ble_eq_true rfl)) dX5_show_4 ⟨Nat.zero_le _, Nat.zero_le _⟩) ?_
    refine lv_if_eq (tgt := 14) hx hb dX5_show_7 (by decide) (fun c_10 => ?_) (fun c_10 => ?_)
    · have hs := sp_t c_10 hs
      refine lv_iconst (v := 1) hx hb dX5_show_14 (by decide) ?_
      exact b15  (x) (1) hs H locs hP hD hS ls (lv_sub hl [0, 1] rfl)
    · have hs := sp_f c_10 hs
      refine lv_iconst (v := 0) hx hb dX5_show_10 (by decide) ?_
      refine lv_goto (tgt := 15) hx hb dX5_show_11 (by decide) ?_
      exact b15  (x) (0) hs H locs hP hD hS ls (lv_sub hl [0, 1] rfl)
  rw [hHe, hle] at hgo
  exact hgo
def s_X5_passOne_b212 (a1 : Int32) (xx : XS) (q0 : Int32) (q1 : Int32) : Option XS := some (si (si (xx) 0 26 (q1 + q0)) 0 29 (((si (xx) 0 26 (q1 + q0)).1 0 29) + 1))
def s_X5_passOne_b189 (a1 : Int32) (xx : XS) (p3 : Int32) (p4 : Int32) (q0 : Int32) (q1 : Int32) : Option XS := (if p3 = 0 then s_X5_passOne_b212 a1  (si (xx) 0 25 (q1 + q0)) (1) ((si (xx) 0 25 (q1 + q0)).1 0 26) else (if p4 = 0 then s_X5_passOne_b212 a1  (si (xx) 0 25 (q1 + q0)) (0) ((si (xx) 0 25 (q1 + q0)).1 0 26) else s_X5_passOne_b212 a1  (si (xx) 0 25 (q1 + q0)) (1) ((si (xx) 0 25 (q1 + q0)).1 0 26)))
def s_X5_passOne_b126 (a1 : Int32) (k68 : XS → Int32 → Int32 → Int32 → Option XS) (xx : XS) (p4 : Int32) (p5 : Int32) (q0 : Int32) : Option XS := (if p4 = 0 then (s_X5_shines xx p5).bind fun v_4 => (if v_4 = 0 then k68 (xx) (q0) (0) (p5 + 1) else chk 10 p5 ((if ((xx.1 0 25) + 1) ≤ (xx.1 15 p5.toNatClampNeg) then k68 (xx) (q0) (0) (p5 + 1) else k68 (xx) (q0) (1) (p5 + 1)))) else k68 (xx) (q0) (1) (p5 + 1))
def s_X5_passOne_b104 (a1 : Int32) (k68 : XS → Int32 → Int32 → Int32 → Option XS) (xx : XS) (p3 : Int32) (p4 : Int32) (p5 : Int32) (q0 : Int64) (q1 : Int64) : Option XS := (if p3 = 0 then (s_X5_shines (sl (xx) 1 (q1 + q0)) p5).bind fun v_9 => (if v_9 = 0 then s_X5_passOne_b126 a1 k68 (sl (xx) 1 (q1 + q0)) (p4) (p5) (0) else s_X5_passOne_b126 a1 k68 (sl (xx) 1 (q1 + q0)) (p4) (p5) (1)) else s_X5_passOne_b126 a1 k68 (sl (xx) 1 (q1 + q0)) (p4) (p5) (1))
def s_X5_passOne_b68 (a1 : Int32) : Nat → XS → Int32 → Int32 → Int32 → Option XS
  | 0, _, _, _, _ => none
  | F + 1, xx, p3, p4, p5 => (if (xx.1 0 8) ≤ p5 then (if p3 = 0 then s_X5_passOne_b189 a1  (xx) (p3) (p4) (0) (xx.1 0 25) else (if p4 = 0 then s_X5_passOne_b189 a1  (xx) (p3) (p4) (1) (xx.1 0 25) else s_X5_passOne_b189 a1  (xx) (p3) (p4) (0) (xx.1 0 25))) else chk 10 p5 ((if (xx.1 13 p5.toNatClampNeg) = 0 then s_X5_passOne_b104 a1 (fun zx z_p3 z_p4 z_p5 => s_X5_passOne_b68 a1 F zx z_p3 z_p4 z_p5) (xx) (p3) (p4) (p5) (0) (xx.2.1 1) else chk 10 p5 (s_X5_passOne_b104 a1 (fun zx z_p3 z_p4 z_p5 => s_X5_passOne_b68 a1 F zx z_p3 z_p4 z_p5) (xx) (p3) (p4) (p5) ((xx.1 8 p5.toNatClampNeg).toInt64) (xx.2.1 1)))))
def s_X5_passOne_b54 (a1 : Int32) (xx : XS) (q0 : Int32) (q1 : Int32) (q2 : Int64) : Option XS := s_X5_passOne_b68 a1  FU (sl (xx) 0 (q2 + ((q1 + q0).toInt64))) (0) (0) (0)
def s_X5_passOne_b35 (a1 : Int32) (xx : XS) (q0 : Int32) : Option XS := (if q0 = 0 then s_X5_passOne_b54 a1  (xx) (0) (a1) (xx.2.1 0) else (s_X5_on xx).bind fun v_18 => s_X5_passOne_b54 a1  (xx) (v_18) (a1) (xx.2.1 0))
def s_X5_passOne (x : XS) (a1 : Int32) : Option XS := (if ((x.1 0 29) - (x.1 0 29) / 1440 * 1440) < (x.1 0 21) then s_X5_passOne_b35 a1  (x) (0) else (if (x.1 0 22) ≤ ((x.1 0 29) - (x.1 0 29) / 1440 * 1440) then s_X5_passOne_b35 a1  (x) (0) else s_X5_passOne_b35 a1  (x) (1)))
set_option maxHeartbeats 4000000 in
set_option maxRecDepth 100000 in
theorem c_X5_passOne (l : Launch) (D : va_G) (ca : Nat → ClassId) (h : Nat → Nat) (x : XS) (a1 : Int32) {r : XS} (hs : s_X5_passOne x a1 = some r) (sz : Nat) : Met l yX5_passOne wsX5_passOne ({ frames := 1, cells := 0, slots := 0, locals := 22 }) (wP [.ref (h 0), .int (a1)] D ca (wM h ca x) sz) (wQv D (wM h ca x) (wM h ca r) sz) 0 0 (va_A (wM h ca x) sz) := by
  refine Met.ofW (cc := cX5_passOne) (maxL := 6) (ret := none) (by decide) rfl ?_
  intro p e s m args below meth c s₁ B hml hv
  obtain ⟨rfl, hsz, hP, hC, hD0⟩ := hv
  have hx := B.exec
  have hb := B.bytes
  have hr := B.returns
  have hts := atoms_spec (ws := wsX5_passOne) B.pre
  have hown : s.vm.findClass RX5 = some m.cls := findClass_of_methodNamed B.named
  have hlocks := B.notSynchronized
  have hK := hC.1
  subst hsz
  have hD := hD0.self (sz := s.heap.size)
  generalize hAe : va_A (wM h ca x) s.heap.size = A at hD ⊢
  have hA : ∀ q : Nat, s.heap.size ≤ q → A q := fun q h => by rw [← hAe]; exact Or.inr h
  have hS : va_S A s.heap s.heap [] := va_S.rf
  skip
  have iX5 : ∀ w ∈ u_ws RX5 TX5 30, w ∈ wsX5_passOne := by decide +kernel
  have hl := lv_entry ([.ref (h 0), .int (a1)]) (n := 6) (Nat.le_of_ble_eq_true rfl)
  rw [lg_entry_eq]
  generalize (lg_sl ([.ref (h 0), .int (a1)]) ++ List.replicate (6 - (lg_sl ([.ref (h 0), .int (a1)])).length) Slot.unset).toArray = ls at hl ⊢
  have hl : lv_has ls 6 [(0, .ref (h 0)), (1, .int (a1))] := hl
  have b212 : ∀ (xx : XS) (q0 : Int32) (q1 : Int32), s_X5_passOne_b212 a1 xx q0 q1 = some r → ∀ (H : Heap) (locs : List Loc), va_P D vwCl (wM h ca xx) H → va_D A (wM h ca xx) → va_S A s.heap H locs → ∀ (ls : Array Slot), lv_has ls 6 [(0, .ref (h 0))] → W p l e (headSpec wsX5_passOne ({ frames := 1, cells := 0, slots := 0, locals := 22 })).room s m #[.ref (h 0), .int (a1)] below meth c H locs 0 0 (MQ below (wQv D (wM h ca x) (wM h ca r) s.heap.size) #[.ref (h 0), .int (a1)] s 0 0 A) (F0 m 212 ls [.int (q0), .int (q1), .ref (h 0)]) := by
    intro xx q0 q1 hs H locs hP hD hS ls hl
    unfold s_X5_passOne_b212 at hs
    refine lv_iadd hx hb dX5_passOne_212 ?_
    refine va_put (D := D) (ci := 5) (fs := fsM h (xx)) (v := .int (q1 + q0)) (ty := .int) (C := RX5) (T := TX5) (N := 30) hx hb hts iX5 tyX5 tyX5_ok nmX5 hown hK hP hD hS 0 rfl rfl 26 (by decide) (hts (.fieldLink RX5 165 "FacadeShowModel" "held" "I") (by decide +kernel)) (fun _ h9 => h9) rfl (by decide +kernel) rfl rfl (Nat.le_of_ble_eq_true rfl) dX5_passOne_213 (fun H locs hP hD hS => ?_)
    rw [wM_f26] at hP hD
    refine lv_aload_n hx hb dX5_passOne_216 rfl (lv_at hl 0 rfl) ?_
    refine lv_dup hx hb dX5_passOne_217 rfl ?_
    refine va_get (D := D) (ci := 5) (fs := fsM h (si (xx) 0 26 (q1 + q0))) (v := .int ((si (xx) 0 26 (q1 + q0)).1 0 29)) (C := RX5) (T := TX5) (N := 30) hx hb hts iX5 hown hK hP 0 rfl rfl 29 (by decide) (hts (.fieldLink RX5 175 "FacadeShowModel" "minute" "I") (by decide +kernel)) (fun _ h9 => h9) rfl dX5_passOne_218 ?_
    refine lv_iconst (v := 1) hx hb dX5_passOne_221 (by decide) ?_
    refine lv_iadd hx hb dX5_passOne_222 ?_
    refine va_put (D := D) (ci := 5) (fs := fsM h (si (xx) 0 26 (q1 + q0))) (v := .int (((si (xx) 0 26 (q1 + q0)).1 0 29) + 1)) (ty := .int) (C := RX5) (T := TX5) (N := 30) hx hb hts iX5 tyX5 tyX5_ok nmX5 hown hK hP hD hS 0 rfl rfl 29 (by decide) (hts (.fieldLink RX5 175 "FacadeShowModel" "minute" "I") (by decide +kernel)) (fun _ h9 => h9) rfl (by decide +kernel) rfl rfl (Nat.le_of_ble_eq_true rfl) dX5_passOne_223 (fun H locs hP hD hS => ?_)
    rw [wM_f29] at hP hD
    exact wt_v (f := wM h ca) hx hb hr hAe hs hP hD hS dX5_passOne_226 hlocks
  have b189 : ∀ (xx : XS) (p3 : Int32) (p4 : Int32) (q0 : Int32) (q1 : Int32), s_X5_passOne_b189 a1 xx p3 p4 q0 q1 = some r → ∀ (H : Heap) (locs : List Loc), va_P D vwCl (wM h ca xx) H → va_D A (wM h ca xx) → va_S A s.heap H locs → ∀ (ls : Array Slot), lv_has ls 6 [(0, .ref (h 0)), (3, .int (p3)), (4, .int (p4))] → W p l e (headSpec wsX5_passOne ({ frames := 1, cells := 0, slots := 0, locals := 22 })).room s m #[.ref (h 0), .int (a1)] below meth c H locs 0 0 (MQ below (wQv D (wM h ca x) (wM h ca r) s.heap.size) #[.ref (h 0), .int (a1)] s 0 0 A) (F0 m 189 ls [.int (q0), .int (q1), .ref (h 0)]) := by
    intro xx p3 p4 q0 q1 hs H locs hP hD hS ls hl
    unfold s_X5_passOne_b189 at hs
    refine lv_iadd hx hb dX5_passOne_189 ?_
    refine va_put (D := D) (ci := 5) (fs := fsM h (xx)) (v := .int (q1 + q0)) (ty := .int) (C := RX5) (T := TX5) (N := 30) hx hb hts iX5 tyX5 tyX5_ok nmX5 hown hK hP hD hS 0 rfl rfl 25 (by decide) (hts (.fieldLink RX5 162 "FacadeShowModel" "frame" "I") (by decide +kernel)) (fun _ h9 => h9) rfl (by decide +kernel) rfl rfl (Nat.le_of_ble_eq_true rfl) dX5_passOne_190 (fun H locs hP hD hS => ?_)
    rw [wM_f25] at hP hD
    refine lv_aload_n hx hb dX5_passOne_193 rfl (lv_at hl 0 rfl) ?_
    refine lv_dup hx hb dX5_passOne_194 rfl ?_
    refine va_get (D := D) (ci := 5) (fs := fsM h (si (xx) 0 25 (q1 + q0))) (v := .int ((si (xx) 0 25 (q1 + q0)).1 0 26)) (C := RX5) (T := TX5) (N := 30) hx hb hts iX5 hown hK hP 0 rfl rfl 26 (by decide) (hts (.fieldLink RX5 165 "FacadeShowModel" "held" "I") (by decide +kernel)) (fun _ h9 => h9) rfl dX5_passOne_195 ?_
    refine lv_iload_n hx hb dX5_passOne_198 rfl (lv_at hl 1 rfl) ?_
    refine lv_if_eq (tgt := 211) hx hb dX5_passOne_199 (by decide) (fun c_1 => ?_) (fun c_1 => ?_)
    · have hs := sp_t c_1 hs
      refine lv_iconst (v := 1) hx hb dX5_passOne_211 (by decide) ?_
      exact b212  (si (xx) 0 25 (q1 + q0)) (1) ((si (xx) 0 25 (q1 + q0)).1 0 26) hs H locs hP hD hS ls (lv_sub hl [0] rfl)
    · have hs := sp_f c_1 hs
      refine lv_iload hx hb dX5_passOne_202 (lv_at hl 2 rfl) ?_
      refine lv_if_ne (tgt := 211) hx hb dX5_passOne_204 (by decide) (fun c_2 => ?_) (fun c_2 => ?_)
      · have hs := sp_f c_2 hs
        refine lv_iconst (v := 1) hx hb dX5_passOne_211 (by decide) ?_
        exact b212  (si (xx) 0 25 (q1 + q0)) (1) ((si (xx) 0 25 (q1 + q0)).1 0 26) hs H locs hP hD hS ls (lv_sub hl [0] rfl)
      · have hs := sp_t c_2 hs
        refine lv_iconst (v := 0) hx hb dX5_passOne_207 (by decide) ?_
        refine lv_goto (tgt := 212) hx hb dX5_passOne_208 (by decide) ?_
        exact b212  (si (xx) 0 25 (q1 + q0)) (0) ((si (xx) 0 25 (q1 + q0)).1 0 26) hs H locs hP hD hS ls (lv_sub hl [0] rfl)
  have b126 : ∀ (k68 : XS → Int32 → Int32 → Int32 → Option XS) (_ : ∀ (xx : XS) (p3 : Int32) (p4 : Int32) (p5 : Int32), k68 xx p3 p4 p5 = some r → ∀ (H : Heap) (locs : List Loc), va_P D vwCl (wM h ca xx) H → va_D A (wM h ca xx) → va_S A s.heap H locs → ∀ (ls : Array Slot), lv_has ls 6 [(0, .ref (h 0)), (3, .int (p3)), (4, .int (p4)), (5, .int (p5))] → W p l e (headSpec wsX5_passOne ({ frames := 1, cells := 0, slots := 0, locals := 22 })).room s m #[.ref (h 0), .int (a1)] below meth c H locs 0 0 (MQ below (wQv D (wM h ca x) (wM h ca r) s.heap.size) #[.ref (h 0), .int (a1)] s 0 0 A) (F0 m 68 ls [])) (xx : XS) (p4 : Int32) (p5 : Int32) (q0 : Int32), s_X5_passOne_b126 a1 k68 xx p4 p5 q0 = some r → ∀ (H : Heap) (locs : List Loc), va_P D vwCl (wM h ca xx) H → va_D A (wM h ca xx) → va_S A s.heap H locs → ∀ (ls : Array Slot), lv_has ls 6 [(0, .ref (h 0)), (4, .int (p4)), (5, .int (p5))] → W p l e (headSpec wsX5_passOne ({ frames := 1, cells := 0, slots := 0, locals := 22 })).room s m #[.ref (h 0), .int (a1)] below meth c H locs 0 0 (MQ below (wQv D (wM h ca x) (wM h ca r) s.heap.size) #[.ref (h 0), .int (a1)] s 0 0 A) (F0 m 126 ls [.int (q0)]) := by
    intro k68 hk68 xx p4 p5 q0 hs H locs hP hD hS ls hl
    unfold s_X5_passOne_b126 at hs
    refine lv_istore_n (lv' := [(3, .int (q0)), (0, .ref (h 0)), (4, .int (p4)), (5, .int (p5))]) hx hb dX5_passOne_126 rfl hl (by decide) rfl (fun ls hl => ?_)
    refine lv_iload hx hb dX5_passOne_127 (lv_at hl 2 rfl) ?_
    refine lv_if_ne (tgt := 157) hx hb dX5_passOne_129 (by decide) (fun c_3 => ?_) (fun c_3 => ?_)
    · have hs := sp_f c_3 hs
      refine lv_iconst (v := 1) hx hb dX5_passOne_157 (by decide) ?_
      refine lv_goto (tgt := 162) hx hb dX5_passOne_158 (by decide) ?_
      refine lv_istore (lv' := [(4, .int (1)), (3, .int (q0)), (0, .ref (h 0)), (5, .int (p5))]) hx hb dX5_passOne_162 hl (by decide) rfl (fun ls hl => ?_)
      refine lv_iinc (v := p5 + 1) (lv' := [(5, .int (p5 + 1)), (4, .int (1)), (3, .int (q0)), (0, .ref (h 0))]) hx hb dX5_passOne_164 hl (k := 3) rfl rfl (by decide) rfl (fun ls hl => ?_)
      refine lv_goto (tgt := 68) hx hb dX5_passOne_167 (by decide) ?_
      exact hk68  (xx) (q0) (1) (p5 + 1) hs H locs hP hD hS ls (lv_sub hl [3, 2, 1, 0] rfl)
    · have hs := sp_t c_3 hs
      refine lv_aload_n hx hb dX5_passOne_132 rfl (lv_at hl 1 rfl) ?_
      refine lv_iload hx hb dX5_passOne_133 (lv_at hl 3 rfl) ?_
      obtain ⟨v_4, h_4, hs⟩ := sp_b hs
      refine rd_i (va_runV (As := [.int (p5)]) (rest := []) ⟨hx, hb, hml, hown, hts⟩ (c_X5_shines l D ca h xx p5 h_4) (cwV 1 hts gX5_passOne_X5_shines rfl rfl rfl (by decide +kernel) ⟨Nat.le_of_ble_eq_true rfl, Nat.le_of_ble_eq_true rfl⟩) (rP_V (q := (RX5, TX5, 30)) hP hC 0 rfl rfl) rfl rfl hl.1 rfl (lv_room (Nat.le_of_ble_eq_true rfl)) dX5_passOne_135 ⟨Nat.zero_le _, Nat.zero_le _⟩) ?_
      refine lv_if_eq (tgt := 161) hx hb dX5_passOne_138 (by decide) (fun c_5 => ?_) (fun c_5 => ?_)
      · have hs := sp_t c_5 hs
        refine lv_iconst (v := 0) hx hb dX5_passOne_161 (by decide) ?_
        refine lv_istore (lv' := [(4, .int (0)), (3, .int (q0)), (0, .ref (h 0)), (5, .int (p5))]) hx hb dX5_passOne_162 hl (by decide) rfl (fun ls hl => ?_)
        refine lv_iinc (v := p5 + 1) (lv' := [(5, .int (p5 + 1)), (4, .int (0)), (3, .int (q0)), (0, .ref (h 0))]) hx hb dX5_passOne_164 hl (k := 3) rfl rfl (by decide) rfl (fun ls hl => ?_)
        refine lv_goto (tgt := 68) hx hb dX5_passOne_167 (by decide) ?_
        exact hk68  (xx) (q0) (0) (p5 + 1) hs H locs hP hD hS ls (lv_sub hl [3, 2, 1, 0] rfl)
      · have hs := sp_f c_5 hs
        refine lv_aload_n hx hb dX5_passOne_141 rfl (lv_at hl 1 rfl) ?_
        refine va_get (D := D) (ci := 5) (fs := fsM h (xx)) (v := .ref (h 15)) (C := RX5) (T := TX5) (N := 30) hx hb hts iX5 hown hK hP 0 rfl rfl 18 (by decide) (hts (.fieldLink RX5 57 "FacadeShowModel" "ready" "[I") (by decide +kernel)) (fun _ h9 => h9) rfl dX5_passOne_142 ?_
        refine lv_iload hx hb dX5_passOne_145 (lv_at hl 3 rfl) ?_
        obtain ⟨h_6, hs⟩ := sp_c hs
        refine va_iald (D := D) (cA := ca 0) (n := 10) (f := (xx).1 15) hx hb hK hP 15 0 rfl rfl h_6 dX5_passOne_147 ?_
        refine lv_aload_n hx hb dX5_passOne_148 rfl (lv_at hl 1 rfl) ?_
        refine va_get (D := D) (ci := 5) (fs := fsM h (xx)) (v := .int (xx.1 0 25)) (C := RX5) (T := TX5) (N := 30) hx hb hts iX5 hown hK hP 0 rfl rfl 25 (by decide) (hts (.fieldLink RX5 162 "FacadeShowModel" "frame" "I") (by decide +kernel)) (fun _ h9 => h9) rfl dX5_passOne_149 ?_
        refine lv_iconst (v := 1) hx hb dX5_passOne_152 (by decide) ?_
        refine lv_iadd hx hb dX5_passOne_153 ?_
        refine lv_icmp_ge (tgt := 161) hx hb dX5_passOne_154 (by decide) (fun c_7 => ?_) (fun c_7 => ?_)
        · have hs := sp_t c_7 hs
          refine lv_iconst (v := 0) hx hb dX5_passOne_161 (by decide) ?_
          refine lv_istore (lv' := [(4, .int (0)), (3, .int (q0)), (0, .ref (h 0)), (5, .int (p5))]) hx hb dX5_passOne_162 hl (by decide) rfl (fun ls hl => ?_)
          refine lv_iinc (v := p5 + 1) (lv' := [(5, .int (p5 + 1)), (4, .int (0)), (3, .int (q0)), (0, .ref (h 0))]) hx hb dX5_passOne_164 hl (k := 3) rfl rfl (by decide) rfl (fun ls hl => ?_)
          refine lv_goto (tgt := 68) hx hb dX5_passOne_167 (by decide) ?_
          exact hk68  (xx) (q0) (0) (p5 + 1) hs H locs hP hD hS ls (lv_sub hl [3, 2, 1, 0] rfl)
        · have hs := sp_f c_7 hs
          refine lv_iconst (v := 1) hx hb dX5_passOne_157 (by decide) ?_
          refine lv_goto (tgt := 162) hx hb dX5_passOne_158 (by decide) ?_
          refine lv_istore (lv' := [(4, .int (1)), (3, .int (q0)), (0, .ref (h 0)), (5, .int (p5))]) hx hb dX5_passOne_162 hl (by decide) rfl (fun ls hl => ?_)
          refine lv_iinc (v := p5 + 1) (lv' := [(5, .int (p5 + 1)), (4, .int (1)), (3, .int (q0)), (0, .ref (h 0))]) hx hb dX5_passOne_164 hl (k := 3) rfl rfl (by decide) rfl (fun ls hl => ?_)
          refine lv_goto (tgt := 68) hx hb dX5_passOne_167 (by decide) ?_
          exact hk68  (xx) (q0) (1) (p5 + 1) hs H locs hP hD hS ls (lv_sub hl [3, 2, 1, 0] rfl)
  have b104 : ∀ (k68 : XS → Int32 → Int32 → Int32 → Option XS) (_ : ∀ (xx : XS) (p3 : Int32) (p4 : Int32) (p5 : Int32), k68 xx p3 p4 p5 = some r → ∀ (H : Heap) (locs : List Loc), va_P D vwCl (wM h ca xx) H → va_D A (wM h ca xx) → va_S A s.heap H locs → ∀ (ls : Array Slot), lv_has ls 6 [(0, .ref (h 0)), (3, .int (p3)), (4, .int (p4)), (5, .int (p5))] → W p l e (headSpec wsX5_passOne ({ frames := 1, cells := 0, slots := 0, locals := 22 })).room s m #[.ref (h 0), .int (a1)] below meth c H locs 0 0 (MQ below (wQv D (wM h ca x) (wM h ca r) s.heap.size) #[.ref (h 0), .int (a1)] s 0 0 A) (F0 m 68 ls [])) (xx : XS) (p3 : Int32) (p4 : Int32) (p5 : Int32) (q0 : Int64) (q1 : Int64), s_X5_passOne_b104 a1 k68 xx p3 p4 p5 q0 q1 = some r → ∀ (H : Heap) (locs : List Loc), va_P D vwCl (wM h ca xx) H → va_D A (wM h ca xx) → va_S A s.heap H locs → ∀ (ls : Array Slot), lv_has ls 6 [(0, .ref (h 0)), (3, .int (p3)), (4, .int (p4)), (5, .int (p5))] → W p l e (headSpec wsX5_passOne ({ frames := 1, cells := 0, slots := 0, locals := 22 })).room s m #[.ref (h 0), .int (a1)] below meth c H locs 0 0 (MQ below (wQv D (wM h ca x) (wM h ca r) s.heap.size) #[.ref (h 0), .int (a1)] s 0 0 A) (F0 m 104 ls [.long (q0), .long (q1), .ref (h 0)]) := by
    intro k68 hk68 xx p3 p4 p5 q0 q1 hs H locs hP hD hS ls hl
    unfold s_X5_passOne_b104 at hs
    refine lv_ladd hx hb dX5_passOne_104 ?_
    refine va_put (D := D) (ci := 5) (fs := fsM h (xx)) (v := .long (q1 + q0)) (ty := .long) (C := RX5) (T := TX5) (N := 30) hx hb hts iX5 tyX5 tyX5_ok nmX5 hown hK hP hD hS 0 rfl rfl 28 (by decide) (hts (.fieldLink RX5 172 "FacadeShowModel" "energy" "J") (by decide +kernel)) (fun _ h9 => h9) rfl (by decide +kernel) rfl rfl (Nat.le_of_ble_eq_true rfl) dX5_passOne_105 (fun H locs hP hD hS => ?_)
    rw [wM_f28] at hP hD
    refine lv_iload_n hx hb dX5_passOne_108 rfl (lv_at hl 1 rfl) ?_
    refine lv_if_ne (tgt := 121) hx hb dX5_passOne_109 (by decide) (fun c_8 => ?_) (fun c_8 => ?_)
    · have hs := sp_f c_8 hs
      refine lv_iconst (v := 1) hx hb dX5_passOne_121 (by decide) ?_
      refine lv_goto (tgt := 126) hx hb dX5_passOne_122 (by decide) ?_
      exact b126 k68 hk68 (sl (xx) 1 (q1 + q0)) (p4) (p5) (1) hs H locs hP hD hS ls (lv_sub hl [0, 2, 3] rfl)
    · have hs := sp_t c_8 hs
      refine lv_aload_n hx hb dX5_passOne_112 rfl (lv_at hl 0 rfl) ?_
      refine lv_iload hx hb dX5_passOne_113 (lv_at hl 3 rfl) ?_
      obtain ⟨v_9, h_9, hs⟩ := sp_b hs
      refine rd_i (va_runV (As := [.int (p5)]) (rest := []) ⟨hx, hb, hml, hown, hts⟩ (c_X5_shines l D ca h (sl (xx) 1 (q1 + q0)) p5 h_9) (cwV 1 hts gX5_passOne_X5_shines rfl rfl rfl (by decide +kernel) ⟨Nat.le_of_ble_eq_true rfl, Nat.le_of_ble_eq_true rfl⟩) (rP_V (q := (RX5, TX5, 30)) hP hC 0 rfl rfl) rfl rfl hl.1 rfl (lv_room (Nat.le_of_ble_eq_true rfl)) dX5_passOne_115 ⟨Nat.zero_le _, Nat.zero_le _⟩) ?_
      refine lv_if_eq (tgt := 125) hx hb dX5_passOne_118 (by decide) (fun c_10 => ?_) (fun c_10 => ?_)
      · have hs := sp_t c_10 hs
        refine lv_iconst (v := 0) hx hb dX5_passOne_125 (by decide) ?_
        exact b126 k68 hk68 (sl (xx) 1 (q1 + q0)) (p4) (p5) (0) hs H locs hP hD hS ls (lv_sub hl [0, 2, 3] rfl)
      · have hs := sp_f c_10 hs
        refine lv_iconst (v := 1) hx hb dX5_passOne_121 (by decide) ?_
        refine lv_goto (tgt := 126) hx hb dX5_passOne_122 (by decide) ?_
        exact b126 k68 hk68 (sl (xx) 1 (q1 + q0)) (p4) (p5) (1) hs H locs hP hD hS ls (lv_sub hl [0, 2, 3] rfl)
  have b68 : ∀ (F : Nat) (xx : XS) (p3 : Int32) (p4 : Int32) (p5 : Int32), s_X5_passOne_b68 a1 F xx p3 p4 p5 = some r → ∀ (H : Heap) (locs : List Loc), va_P D vwCl (wM h ca xx) H → va_D A (wM h ca xx) → va_S A s.heap H locs → ∀ (ls : Array Slot), lv_has ls 6 [(0, .ref (h 0)), (3, .int (p3)), (4, .int (p4)), (5, .int (p5))] → W p l e (headSpec wsX5_passOne ({ frames := 1, cells := 0, slots := 0, locals := 22 })).room s m #[.ref (h 0), .int (a1)] below meth c H locs 0 0 (MQ below (wQv D (wM h ca x) (wM h ca r) s.heap.size) #[.ref (h 0), .int (a1)] s 0 0 A) (F0 m 68 ls []) := by
    intro F
    induction F with
    | zero =>
      intro xx p3 p4 p5 hs
      simp [s_X5_passOne_b68] at hs
    | succ F ih68 =>
      intro xx p3 p4 p5 hs H locs hP hD hS ls hl
      rw [s_X5_passOne_b68] at hs
      refine lv_iload hx hb dX5_passOne_68 (lv_at hl 3 rfl) ?_
      refine lv_aload_n hx hb dX5_passOne_70 rfl (lv_at hl 0 rfl) ?_
      refine va_get (D := D) (ci := 5) (fs := fsM h (xx)) (v := .int (xx.1 0 8)) (C := RX5) (T := TX5) (N := 30) hx hb hts iX5 hown hK hP 0 rfl rfl 8 (by decide) (hts (.fieldLink RX5 80 "FacadeShowModel" "projectors" "I") (by decide +kernel)) (fun _ h9 => h9) rfl dX5_passOne_71 ?_
      refine lv_icmp_ge (tgt := 170) hx hb dX5_passOne_74 (by decide) (fun c_11 => ?_) (fun c_11 => ?_)
      · have hs := sp_t c_11 hs
        refine lv_aload_n hx hb dX5_passOne_170 rfl (lv_at hl 0 rfl) ?_
        refine lv_dup hx hb dX5_passOne_171 rfl ?_
        refine va_get (D := D) (ci := 5) (fs := fsM h (xx)) (v := .int (xx.1 0 25)) (C := RX5) (T := TX5) (N := 30) hx hb hts iX5 hown hK hP 0 rfl rfl 25 (by decide) (hts (.fieldLink RX5 162 "FacadeShowModel" "frame" "I") (by decide +kernel)) (fun _ h9 => h9) rfl dX5_passOne_172 ?_
        refine lv_iload_n hx hb dX5_passOne_175 rfl (lv_at hl 1 rfl) ?_
        refine lv_if_eq (tgt := 188) hx hb dX5_passOne_176 (by decide) (fun c_12 => ?_) (fun c_12 => ?_)
        · have hs := sp_t c_12 hs
          refine lv_iconst (v := 0) hx hb dX5_passOne_188 (by decide) ?_
          exact b189  (xx) (p3) (p4) (0) (xx.1 0 25) hs H locs hP hD hS ls (lv_sub hl [0, 1, 2] rfl)
        · have hs := sp_f c_12 hs
          refine lv_iload hx hb dX5_passOne_179 (lv_at hl 2 rfl) ?_
          refine lv_if_ne (tgt := 188) hx hb dX5_passOne_181 (by decide) (fun c_13 => ?_) (fun c_13 => ?_)
          · have hs := sp_f c_13 hs
            refine lv_iconst (v := 0) hx hb dX5_passOne_188 (by decide) ?_
            exact b189  (xx) (p3) (p4) (0) (xx.1 0 25) hs H locs hP hD hS ls (lv_sub hl [0, 1, 2] rfl)
          · have hs := sp_t c_13 hs
            refine lv_iconst (v := 1) hx hb dX5_passOne_184 (by decide) ?_
            refine lv_goto (tgt := 189) hx hb dX5_passOne_185 (by decide) ?_
            exact b189  (xx) (p3) (p4) (1) (xx.1 0 25) hs H locs hP hD hS ls (lv_sub hl [0, 1, 2] rfl)
      · have hs := sp_f c_11 hs
        refine lv_aload_n hx hb dX5_passOne_77 rfl (lv_at hl 0 rfl) ?_
        refine lv_dup hx hb dX5_passOne_78 rfl ?_
        refine va_get (D := D) (ci := 5) (fs := fsM h (xx)) (v := .long (xx.2.1 1)) (C := RX5) (T := TX5) (N := 30) hx hb hts iX5 hown hK hP 0 rfl rfl 28 (by decide) (hts (.fieldLink RX5 172 "FacadeShowModel" "energy" "J") (by decide +kernel)) (fun _ h9 => h9) rfl dX5_passOne_79 ?_
        refine lv_aload_n hx hb dX5_passOne_82 rfl (lv_at hl 0 rfl) ?_
        refine va_get (D := D) (ci := 5) (fs := fsM h (xx)) (v := .ref (h 13)) (C := RX5) (T := TX5) (N := 30) hx hb hts iX5 hown hK hP 0 rfl rfl 16 (by decide) (hts (.fieldLink RX5 51 "FacadeShowModel" "isOn" "[Z") (by decide +kernel)) (fun _ h9 => h9) rfl dX5_passOne_83 ?_
        refine lv_iload hx hb dX5_passOne_86 (lv_at hl 3 rfl) ?_
        obtain ⟨h_14, hs⟩ := sp_c hs
        refine va_zald (D := D) (cA := ca 1) (n := 10) (f := (xx).1 13) hx hb hK hP 13 1 rfl rfl h_14 dX5_passOne_88 ?_
        refine lv_if_eq (tgt := 103) hx hb dX5_passOne_89 (by decide) (fun c_15 => ?_) (fun c_15 => ?_)
        · have hs := sp_t c_15 hs
          refine lv_lconst (v := 0) hx hb dX5_passOne_103 (by decide) ?_
          exact b104 (fun zx z_p3 z_p4 z_p5 => s_X5_passOne_b68 a1 F zx z_p3 z_p4 z_p5) (fun zx z_p3 z_p4 z_p5 hs => ih68 zx z_p3 z_p4 z_p5 hs) (xx) (p3) (p4) (p5) (0) (xx.2.1 1) hs H locs hP hD hS ls (lv_sub hl [0, 1, 2, 3] rfl)
        · have hs := sp_f c_15 hs
          refine lv_aload_n hx hb dX5_passOne_92 rfl (lv_at hl 0 rfl) ?_
          refine va_get (D := D) (ci := 5) (fs := fsM h (xx)) (v := .ref (h 8)) (C := RX5) (T := TX5) (N := 30) hx hb hts iX5 hown hK hP 0 rfl rfl 11 (by decide) (hts (.fieldLink RX5 36 "FacadeShowModel" "power" "[I") (by decide +kernel)) (fun _ h9 => h9) rfl dX5_passOne_93 ?_
          refine lv_iload hx hb dX5_passOne_96 (lv_at hl 3 rfl) ?_
          obtain ⟨h_16, hs⟩ := sp_c hs
          refine va_iald (D := D) (cA := ca 0) (n := 10) (f := (xx).1 8) hx hb hK hP 8 0 rfl rfl h_16 dX5_passOne_98 ?_
          refine lv_i2l hx hb dX5_passOne_99 rfl ?_
          refine lv_goto (tgt := 104) hx hb dX5_passOne_100 (by decide) ?_
          exact b104 (fun zx z_p3 z_p4 z_p5 => s_X5_passOne_b68 a1 F zx z_p3 z_p4 z_p5) (fun zx z_p3 z_p4 z_p5 hs => ih68 zx z_p3 z_p4 z_p5 hs) (xx) (p3) (p4) (p5) ((xx.1 8 p5.toNatClampNeg).toInt64) (xx.2.1 1) hs H locs hP hD hS ls (lv_sub hl [0, 1, 2, 3] rfl)
  have b54 : ∀ (xx : XS) (q0 : Int32) (q1 : Int32) (q2 : Int64), s_X5_passOne_b54 a1 xx q0 q1 q2 = some r → ∀ (H : Heap) (locs : List Loc), va_P D vwCl (wM h ca xx) H → va_D A (wM h ca xx) → va_S A s.heap H locs → ∀ (ls : Array Slot), lv_has ls 6 [(0, .ref (h 0))] → W p l e (headSpec wsX5_passOne ({ frames := 1, cells := 0, slots := 0, locals := 22 })).room s m #[.ref (h 0), .int (a1)] below meth c H locs 0 0 (MQ below (wQv D (wM h ca x) (wM h ca r) s.heap.size) #[.ref (h 0), .int (a1)] s 0 0 A) (F0 m 54 ls [.int (q0), .int (q1), .long (q2), .ref (h 0)]) := by
    intro xx q0 q1 q2 hs H locs hP hD hS ls hl
    unfold s_X5_passOne_b54 at hs
    refine lv_iadd hx hb dX5_passOne_54 ?_
    refine lv_i2l hx hb dX5_passOne_55 rfl ?_
    refine lv_ladd hx hb dX5_passOne_56 ?_
    refine va_put (D := D) (ci := 5) (fs := fsM h (xx)) (v := .long (q2 + ((q1 + q0).toInt64))) (ty := .long) (C := RX5) (T := TX5) (N := 30) hx hb hts iX5 tyX5 tyX5_ok nmX5 hown hK hP hD hS 0 rfl rfl 27 (by decide) (hts (.fieldLink RX5 168 "FacadeShowModel" "counted" "J") (by decide +kernel)) (fun _ h9 => h9) rfl (by decide +kernel) rfl rfl (Nat.le_of_ble_eq_true rfl) dX5_passOne_57 (fun H locs hP hD hS => ?_)
    rw [wM_f27] at hP hD
    refine lv_iconst (v := 0) hx hb dX5_passOne_60 (by decide) ?_
    refine lv_istore_n (lv' := [(3, .int (0)), (0, .ref (h 0))]) hx hb dX5_passOne_61 rfl hl (by decide) rfl (fun ls hl => ?_)
    refine lv_iconst (v := 0) hx hb dX5_passOne_62 (by decide) ?_
    refine lv_istore (lv' := [(4, .int (0)), (3, .int (0)), (0, .ref (h 0))]) hx hb dX5_passOne_63 hl (by decide) rfl (fun ls hl => ?_)
    refine lv_iconst (v := 0) hx hb dX5_passOne_65 (by decide) ?_
    refine lv_istore (lv' := [(5, .int (0)), (4, .int (0)), (3, .int (0)), (0, .ref (h 0))]) hx hb dX5_passOne_66 hl (by decide) rfl (fun ls hl => ?_)
    exact b68  FU (sl (xx) 0 (q2 + ((q1 + q0).toInt64))) (0) (0) (0) hs H locs hP hD hS ls (lv_sub hl [3, 2, 1, 0] rfl)
  have b35 : ∀ (xx : XS) (q0 : Int32), s_X5_passOne_b35 a1 xx q0 = some r → ∀ (H : Heap) (locs : List Loc), va_P D vwCl (wM h ca xx) H → va_D A (wM h ca xx) → va_S A s.heap H locs → ∀ (ls : Array Slot), lv_has ls 6 [(0, .ref (h 0)), (1, .int (a1))] → W p l e (headSpec wsX5_passOne ({ frames := 1, cells := 0, slots := 0, locals := 22 })).room s m #[.ref (h 0), .int (a1)] below meth c H locs 0 0 (MQ below (wQv D (wM h ca x) (wM h ca r) s.heap.size) #[.ref (h 0), .int (a1)] s 0 0 A) (F0 m 35 ls [.int (q0)]) := by
    intro xx q0 hs H locs hP hD hS ls hl
    unfold s_X5_passOne_b35 at hs
    refine lv_istore_n (lv' := [(2, .int (q0)), (0, .ref (h 0)), (1, .int (a1))]) hx hb dX5_passOne_35 rfl hl (by decide) rfl (fun ls hl => ?_)
    refine lv_aload_n hx hb dX5_passOne_36 rfl (lv_at hl 1 rfl) ?_
    refine lv_dup hx hb dX5_passOne_37 rfl ?_
    refine va_get (D := D) (ci := 5) (fs := fsM h (xx)) (v := .long (xx.2.1 0)) (C := RX5) (T := TX5) (N := 30) hx hb hts iX5 hown hK hP 0 rfl rfl 27 (by decide) (hts (.fieldLink RX5 168 "FacadeShowModel" "counted" "J") (by decide +kernel)) (fun _ h9 => h9) rfl dX5_passOne_38 ?_
    refine lv_iload_n hx hb dX5_passOne_41 rfl (lv_at hl 2 rfl) ?_
    refine lv_iload_n hx hb dX5_passOne_42 rfl (lv_at hl 0 rfl) ?_
    refine lv_if_eq (tgt := 53) hx hb dX5_passOne_43 (by decide) (fun c_17 => ?_) (fun c_17 => ?_)
    · have hs := sp_t c_17 hs
      refine lv_iconst (v := 0) hx hb dX5_passOne_53 (by decide) ?_
      exact b54  (xx) (0) (a1) (xx.2.1 0) hs H locs hP hD hS ls (lv_sub hl [1] rfl)
    · have hs := sp_f c_17 hs
      refine lv_aload_n hx hb dX5_passOne_46 rfl (lv_at hl 1 rfl) ?_
      obtain ⟨v_18, h_18, hs⟩ := sp_b hs
      refine rd_i (va_runV (As := []) (rest := [.int (a1), .long (xx.2.1 0), .ref (h 0)]) ⟨hx, hb, hml, hown, hts⟩ (c_X5_on l D ca h xx h_18) (cwV 0 hts gX5_passOne_X5_on rfl rfl rfl (by decide +kernel) ⟨Nat.le_of_ble_eq_true rfl, Nat.le_of_ble_eq_true rfl⟩) (rP_V (q := (RX5, TX5, 30)) hP hC 0 rfl rfl) rfl rfl hl.1 rfl (lv_room (Nat.le_of_ble_eq_true rfl)) dX5_passOne_47 ⟨Nat.zero_le _, Nat.zero_le _⟩) ?_
      refine lv_goto (tgt := 54) hx hb dX5_passOne_50 (by decide) ?_
      exact b54  (xx) (v_18) (a1) (xx.2.1 0) hs H locs hP hD hS ls (lv_sub hl [1] rfl)
  unfold s_X5_passOne at hs
  obtain ⟨H, hHe⟩ : ∃ H, H = s.heap := ⟨_, rfl⟩
  obtain ⟨locs, hle⟩ : ∃ z : List Loc, z = [] := ⟨_, rfl⟩
  have hP : va_P D vwCl (wM h ca x) H := by rw [hHe]; exact hP
  have hS : va_S A s.heap H locs := by rw [hHe, hle]; exact hS
  show W p l e (headSpec wsX5_passOne ({ frames := 1, cells := 0, slots := 0, locals := 22 })).room s m #[.ref (h 0), .int (a1)] below meth c s.heap [] 0 0 _ _
  have hgo : W p l e (headSpec wsX5_passOne ({ frames := 1, cells := 0, slots := 0, locals := 22 })).room s m #[.ref (h 0), .int (a1)] below meth c H locs 0 0 (MQ below (wQv D (wM h ca x) (wM h ca r) s.heap.size) #[.ref (h 0), .int (a1)] s 0 0 A) (F0 m 0 ls []) := by
    refine lv_aload_n hx hb dX5_passOne_0 rfl (lv_at hl 0 rfl) ?_
    refine va_get (D := D) (ci := 5) (fs := fsM h (x)) (v := .int (x.1 0 29)) (C := RX5) (T := TX5) (N := 30) hx hb hts iX5 hown hK hP 0 rfl rfl 29 (by decide) (hts (.fieldLink RX5 175 "FacadeShowModel" "minute" "I") (by decide +kernel)) (fun _ h9 => h9) rfl dX5_passOne_1 ?_
    refine lv_sipush (v := 1440) hx hb dX5_passOne_4 (by decide) ?_
    refine lv_irem hx hb dX5_passOne_7 (by decide) ?_
    refine lv_aload_n hx hb dX5_passOne_8 rfl (lv_at hl 0 rfl) ?_
    refine va_get (D := D) (ci := 5) (fs := fsM h (x)) (v := .int (x.1 0 21)) (C := RX5) (T := TX5) (N := 30) hx hb hts iX5 hown hK hP 0 rfl rfl 21 (by decide) (hts (.fieldLink RX5 156 "FacadeShowModel" "curfewFrom" "I") (by decide +kernel)) (fun _ h9 => h9) rfl dX5_passOne_9 ?_
    refine lv_icmp_lt (tgt := 34) hx hb dX5_passOne_12 (by decide) (fun c_20 => ?_) (fun c_20 => ?_)
    · have hs := sp_t c_20 hs
      refine lv_iconst (v := 0) hx hb dX5_passOne_34 (by decide) ?_
      exact b35  (x) (0) hs H locs hP hD hS ls (lv_sub hl [0, 1] rfl)
    · have hs := sp_f c_20 hs
      refine lv_aload_n hx hb dX5_passOne_15 rfl (lv_at hl 0 rfl) ?_
      refine va_get (D := D) (ci := 5) (fs := fsM h (x)) (v := .int (x.1 0 29)) (C := RX5) (T := TX5) (N := 30) hx hb hts iX5 hown hK hP 0 rfl rfl 29 (by decide) (hts (.fieldLink RX5 175 "FacadeShowModel" "minute" "I") (by decide +kernel)) (fun _ h9 => h9) rfl dX5_passOne_16 ?_
      refine lv_sipush (v := 1440) hx hb dX5_passOne_19 (by decide) ?_
      refine lv_irem hx hb dX5_passOne_22 (by decide) ?_
      refine lv_aload_n hx hb dX5_passOne_23 rfl (lv_at hl 0 rfl) ?_
      refine va_get (D := D) (ci := 5) (fs := fsM h (x)) (v := .int (x.1 0 22)) (C := RX5) (T := TX5) (N := 30) hx hb hts iX5 hown hK hP 0 rfl rfl 22 (by decide) (hts (.fieldLink RX5 159 "FacadeShowModel" "curfewTo" "I") (by decide +kernel)) (fun _ h9 => h9) rfl dX5_passOne_24 ?_
      refine lv_icmp_ge (tgt := 34) hx hb dX5_passOne_27 (by decide) (fun c_22 => ?_) (fun c_22 => ?_)
      · have hs := sp_t c_22 hs
        refine lv_iconst (v := 0) hx hb dX5_passOne_34 (by decide) ?_
        exact b35  (x) (0) hs H locs hP hD hS ls (lv_sub hl [0, 1] rfl)
      · have hs := sp_f c_22 hs
        refine lv_iconst (v := 1) hx hb dX5_passOne_30 (by decide) ?_
        refine lv_goto (tgt := 35) hx hb dX5_passOne_31 (by decide) ?_
        exact b35  (x) (1) hs H locs hP hD hS ls (lv_sub hl [0, 1] rfl)
  rw [hHe, hle] at hgo
  exact hgo
def s_X5_pass_b50 (a1 : Int32) : Nat → XS → Int32 → Int32 → Option (Int32 × XS)
  | 0, _, _, _ => none
  | F + 1, xx, p3, p4 => (if a1 ≤ p4 then some (xx.1 0 29, xx) else (s_X5_passOne xx p3).bind fun v_2 => s_X5_pass_b50 a1 F (v_2) (p3) (p4 + 1))
def s_X5_pass_b34 (a1 : Int32) (xx : XS) (q0 : Int32) : Option (Int32 × XS) := (s_X5_goesWell xx q0).bind fun v_3 => (if v_3.1 = 0 then some (0, v_3.2) else (s_X5_breachesNow v_3.2).bind fun v_5 => s_X5_pass_b50 a1  FU (v_3.2) (v_5) (0))
def s_X5_pass (x : XS) (a1 : Int32) : Option (Int32 × XS) := (s_X5_in a1 1 1440).bind fun v_6 => (if v_6 = 0 then s_X5_pass_b34 a1  (x) (1) else (if ((x.1 0 29) + a1) ≤ 99999 then s_X5_pass_b34 a1  (x) (0) else s_X5_pass_b34 a1  (x) (2)))
set_option maxHeartbeats 4000000 in
set_option maxRecDepth 100000 in
theorem c_X5_pass (l : Launch) (D : va_G) (ca : Nat → ClassId) (h : Nat → Nat) (x : XS) (a1 : Int32) {r : (Int32 × XS)} (hs : s_X5_pass x a1 = some r) (sz : Nat) : Met l yX5_pass wsX5_pass ({ frames := 3, cells := 0, slots := 0, locals := 73 }) (wP [.ref (h 0), .int (a1)] D ca (wM h ca x) sz) (wQi r.1 D (wM h ca x) (wM h ca r.2) sz) 0 0 (va_A (wM h ca x) sz) := by
  refine Met.ofW (cc := cX5_pass) (maxL := 5) (ret := (some .int)) (by decide) rfl ?_
  intro p e s m args below meth c s₁ B hml hv
  obtain ⟨rfl, hsz, hP, hC, hD0⟩ := hv
  have hx := B.exec
  have hb := B.bytes
  have hr := B.returns
  have hts := atoms_spec (ws := wsX5_pass) B.pre
  have hown : s.vm.findClass RX5 = some m.cls := findClass_of_methodNamed B.named
  have hlocks := B.notSynchronized
  have hK := hC.1
  subst hsz
  have hD := hD0.self (sz := s.heap.size)
  generalize hAe : va_A (wM h ca x) s.heap.size = A at hD ⊢
  have hA : ∀ q : Nat, s.heap.size ≤ q → A q := fun q h => by rw [← hAe]; exact Or.inr h
  have hS : va_S A s.heap s.heap [] := va_S.rf
  skip
  have iX5 : ∀ w ∈ u_ws RX5 TX5 30, w ∈ wsX5_pass := by decide +kernel
  have hl := lv_entry ([.ref (h 0), .int (a1)]) (n := 5) (Nat.le_of_ble_eq_true rfl)
  rw [lg_entry_eq]
  generalize (lg_sl ([.ref (h 0), .int (a1)]) ++ List.replicate (5 - (lg_sl ([.ref (h 0), .int (a1)])).length) Slot.unset).toArray = ls at hl ⊢
  have hl : lv_has ls 5 [(0, .ref (h 0)), (1, .int (a1))] := hl
  have b50 : ∀ (F : Nat) (xx : XS) (p3 : Int32) (p4 : Int32), s_X5_pass_b50 a1 F xx p3 p4 = some r → ∀ (H : Heap) (locs : List Loc), va_P D vwCl (wM h ca xx) H → va_D A (wM h ca xx) → va_S A s.heap H locs → ∀ (ls : Array Slot), lv_has ls 5 [(0, .ref (h 0)), (1, .int (a1)), (3, .int (p3)), (4, .int (p4))] → W p l e (headSpec wsX5_pass ({ frames := 3, cells := 0, slots := 0, locals := 73 })).room s m #[.ref (h 0), .int (a1)] below meth c H locs 0 0 (MQ below (wQi r.1 D (wM h ca x) (wM h ca r.2) s.heap.size) #[.ref (h 0), .int (a1)] s 0 0 A) (F0 m 50 ls []) := by
    intro F
    induction F with
    | zero =>
      intro xx p3 p4 hs
      simp [s_X5_pass_b50] at hs
    | succ F ih50 =>
      intro xx p3 p4 hs H locs hP hD hS ls hl
      rw [s_X5_pass_b50] at hs
      refine lv_iload hx hb dX5_pass_50 (lv_at hl 3 rfl) ?_
      refine lv_iload_n hx hb dX5_pass_52 rfl (lv_at hl 1 rfl) ?_
      refine lv_icmp_ge (tgt := 67) hx hb dX5_pass_53 (by decide) (fun c_1 => ?_) (fun c_1 => ?_)
      · have hs := sp_t c_1 hs
        refine lv_aload_n hx hb dX5_pass_67 rfl (lv_at hl 0 rfl) ?_
        refine va_get (D := D) (ci := 5) (fs := fsM h (xx)) (v := .int (xx.1 0 29)) (C := RX5) (T := TX5) (N := 30) hx hb hts iX5 hown hK hP 0 rfl rfl 29 (by decide) (hts (.fieldLink RX5 175 "FacadeShowModel" "minute" "I") (by decide +kernel)) (fun _ h9 => h9) rfl dX5_pass_68 ?_
        exact wt_i (f := wM h ca) hx hb hr hAe hs hP hD hS dX5_pass_71 hlocks
      · have hs := sp_f c_1 hs
        refine lv_aload_n hx hb dX5_pass_56 rfl (lv_at hl 0 rfl) ?_
        refine lv_iload_n hx hb dX5_pass_57 rfl (lv_at hl 2 rfl) ?_
        obtain ⟨v_2, h_2, hs⟩ := sp_b hs
        refine wr_v (va_runV (As := [.int (p3)]) (rest := []) ⟨hx, hb, hml, hown, hts⟩ (c_X5_passOne l D ca h xx p3 h_2 H.size) (cwV 1 hts gX5_pass_X5_passOne rfl rfl rfl (by decide +kernel) ⟨Nat.le_of_ble_eq_true rfl, Nat.le_of_ble_eq_true rfl⟩) (wP_V (q := (RX5, TX5, 30)) hP hC hD 0 rfl rfl) rfl rfl hl.1 rfl (lv_room (Nat.le_of_ble_eq_true rfl)) dX5_pass_58 ⟨Nat.zero_le _, Nat.zero_le _⟩) hD hS hA (fun H locs hP hD hS => ?_)
        refine lv_iinc (v := p4 + 1) (lv' := [(4, .int (p4 + 1)), (0, .ref (h 0)), (1, .int (a1)), (3, .int (p3))]) hx hb dX5_pass_61 hl (k := 3) rfl rfl (by decide) rfl (fun ls hl => ?_)
        refine lv_goto (tgt := 50) hx hb dX5_pass_64 (by decide) ?_
        exact ih50  (v_2) (p3) (p4 + 1) hs H locs hP hD hS ls (lv_sub hl [1, 2, 3, 0] rfl)
  have b34 : ∀ (xx : XS) (q0 : Int32), s_X5_pass_b34 a1 xx q0 = some r → ∀ (H : Heap) (locs : List Loc), va_P D vwCl (wM h ca xx) H → va_D A (wM h ca xx) → va_S A s.heap H locs → ∀ (ls : Array Slot), lv_has ls 5 [(0, .ref (h 0)), (1, .int (a1))] → W p l e (headSpec wsX5_pass ({ frames := 3, cells := 0, slots := 0, locals := 73 })).room s m #[.ref (h 0), .int (a1)] below meth c H locs 0 0 (MQ below (wQi r.1 D (wM h ca x) (wM h ca r.2) s.heap.size) #[.ref (h 0), .int (a1)] s 0 0 A) (F0 m 34 ls [.int (q0), .ref (h 0)]) := by
    intro xx q0 hs H locs hP hD hS ls hl
    unfold s_X5_pass_b34 at hs
    obtain ⟨v_3, h_3, hs⟩ := sp_b hs
    refine wr_i (va_runV (As := [.int (q0)]) (rest := []) ⟨hx, hb, hml, hown, hts⟩ (c_X5_goesWell l D ca h xx q0 h_3 H.size) (cwV 1 hts gX5_pass_X5_goesWell rfl rfl rfl (by decide +kernel) ⟨Nat.le_of_ble_eq_true rfl, Nat.le_of_ble_eq_true rfl⟩) (wP_V (q := (RX5, TX5, 30)) hP hC hD 0 rfl rfl) rfl rfl hl.1 rfl (lv_room (Nat.le_of_ble_eq_true rfl)) dX5_pass_34 ⟨Nat.zero_le _, Nat.zero_le _⟩) hD hS hA (fun H locs hP hD hS => ?_)
    refine lv_if_ne (tgt := 42) hx hb dX5_pass_37 (by decide) (fun c_4 => ?_) (fun c_4 => ?_)
    · have hs := sp_f c_4 hs
      refine lv_aload_n hx hb dX5_pass_42 rfl (lv_at hl 0 rfl) ?_
      obtain ⟨v_5, h_5, hs⟩ := sp_b hs
      refine rd_i (va_runV (As := []) (rest := []) ⟨hx, hb, hml, hown, hts⟩ (c_X5_breachesNow l D ca h v_3.2 h_5) (cwV 0 hts gX5_pass_X5_breachesNow rfl rfl rfl (by decide +kernel) ⟨Nat.le_of_ble_eq_true rfl, Nat.le_of_ble_eq_true rfl⟩) (rP_V (q := (RX5, TX5, 30)) hP hC 0 rfl rfl) rfl rfl hl.1 rfl (lv_room (Nat.le_of_ble_eq_true rfl)) dX5_pass_43 ⟨Nat.zero_le _, Nat.zero_le _⟩) ?_
      refine lv_istore_n (lv' := [(3, .int (v_5)), (0, .ref (h 0)), (1, .int (a1))]) hx hb dX5_pass_46 rfl hl (by decide) rfl (fun ls hl => ?_)
      refine lv_iconst (v := 0) hx hb dX5_pass_47 (by decide) ?_
      refine lv_istore (lv' := [(4, .int (0)), (3, .int (v_5)), (0, .ref (h 0)), (1, .int (a1))]) hx hb dX5_pass_48 hl (by decide) rfl (fun ls hl => ?_)
      exact b50  FU (v_3.2) (v_5) (0) hs H locs hP hD hS ls (lv_sub hl [2, 3, 1, 0] rfl)
    · have hs := sp_t c_4 hs
      refine lv_iconst (v := 0) hx hb dX5_pass_40 (by decide) ?_
      exact wt_i (f := wM h ca) hx hb hr hAe hs hP hD hS dX5_pass_41 hlocks
  unfold s_X5_pass at hs
  obtain ⟨H, hHe⟩ : ∃ H, H = s.heap := ⟨_, rfl⟩
  obtain ⟨locs, hle⟩ : ∃ z : List Loc, z = [] := ⟨_, rfl⟩
  have hP : va_P D vwCl (wM h ca x) H := by rw [hHe]; exact hP
  have hS : va_S A s.heap H locs := by rw [hHe, hle]; exact hS
  show W p l e (headSpec wsX5_pass ({ frames := 3, cells := 0, slots := 0, locals := 73 })).room s m #[.ref (h 0), .int (a1)] below meth c s.heap [] 0 0 _ _
  have hgo : W p l e (headSpec wsX5_pass ({ frames := 3, cells := 0, slots := 0, locals := 73 })).room s m #[.ref (h 0), .int (a1)] below meth c H locs 0 0 (MQ below (wQi r.1 D (wM h ca x) (wM h ca r.2) s.heap.size) #[.ref (h 0), .int (a1)] s 0 0 A) (F0 m 0 ls []) := by
    refine lv_iload_n hx hb dX5_pass_0 rfl (lv_at hl 1 rfl) ?_
    refine lv_iconst (v := 1) hx hb dX5_pass_1 (by decide) ?_
    refine lv_sipush (v := 1440) hx hb dX5_pass_2 (by decide) ?_
    obtain ⟨v_6, h_6, hs⟩ := sp_b hs
    refine rd_i (va_runS (As := [.int (a1), .int (1), .int (1440)]) (rest := []) ⟨hx, hb, hml, hown, hts⟩ (c_X5_in l D ca a1 1 1440 h_6) (va_cwS 3 hts gX5_pass_X5_in rfl rfl rfl (by decide +kernel) ⟨Nat.le_of_ble_eq_true rfl, Nat.le_of_ble_eq_true rfl⟩) (rP_S va_P_nil hC) rfl rfl hl.1 rfl (lv_room (Nat.le_of_ble_eq_true rfl)) dX5_pass_5 ⟨Nat.zero_le _, Nat.zero_le _⟩) ?_
    refine lv_istore_n (lv' := [(2, .int (v_6)), (0, .ref (h 0)), (1, .int (a1))]) hx hb dX5_pass_8 rfl hl (by decide) rfl (fun ls hl => ?_)
    refine lv_aload_n hx hb dX5_pass_9 rfl (lv_at hl 1 rfl) ?_
    refine lv_iload_n hx hb dX5_pass_10 rfl (lv_at hl 0 rfl) ?_
    refine lv_if_ne (tgt := 18) hx hb dX5_pass_11 (by decide) (fun c_7 => ?_) (fun c_7 => ?_)
    · have hs := sp_f c_7 hs
      refine lv_aload_n hx hb dX5_pass_18 rfl (lv_at hl 1 rfl) ?_
      refine va_get (D := D) (ci := 5) (fs := fsM h (x)) (v := .int (x.1 0 29)) (C := RX5) (T := TX5) (N := 30) hx hb hts iX5 hown hK hP 0 rfl rfl 29 (by decide) (hts (.fieldLink RX5 175 "FacadeShowModel" "minute" "I") (by decide +kernel)) (fun _ h9 => h9) rfl dX5_pass_19 ?_
      refine lv_iload_n hx hb dX5_pass_22 rfl (lv_at hl 2 rfl) ?_
      refine lv_iadd hx hb dX5_pass_23 ?_
      refine lv_ldc (v := 99999) hx hb hown (hts (.constant RX5 105 (99999)) (by decide +kernel)) dX5_pass_24 ?_
      refine lv_icmp_le (tgt := 33) hx hb dX5_pass_26 (by decide) (fun c_8 => ?_) (fun c_8 => ?_)
      · have hs := sp_t c_8 hs
        refine lv_iconst (v := 0) hx hb dX5_pass_33 (by decide) ?_
        exact b34  (x) (0) hs H locs hP hD hS ls (lv_sub hl [1, 2] rfl)
      · have hs := sp_f c_8 hs
        refine lv_iconst (v := 2) hx hb dX5_pass_29 (by decide) ?_
        refine lv_goto (tgt := 34) hx hb dX5_pass_30 (by decide) ?_
        exact b34  (x) (2) hs H locs hP hD hS ls (lv_sub hl [1, 2] rfl)
    · have hs := sp_t c_7 hs
      refine lv_iconst (v := 1) hx hb dX5_pass_14 (by decide) ?_
      refine lv_goto (tgt := 34) hx hb dX5_pass_15 (by decide) ?_
      exact b34  (x) (1) hs H locs hP hD hS ls (lv_sub hl [1, 2] rfl)
  rw [hHe, hle] at hgo
  exact hgo
