def s_X4_isColumn (a0 : Int32) : Option Int32 := (if a0 < 0 then some 0 else (if 16 ≤ a0 then some 0 else some 1))
set_option maxHeartbeats 4000000 in
set_option maxRecDepth 100000 in
theorem c_X4_isColumn (l : Launch) (D : va_G) (ca : Nat → ClassId) (a0 : Int32) {r : Int32} (hs : s_X4_isColumn a0 = some r) : Met l yX4_isColumn wsX4_isColumn ({ frames := 0, cells := 0, slots := 0, locals := 0 }) (rP [.int (a0)] D ca []) (vp_Si (fun z => z = r)) 0 0 (fun _ => False) := by
  refine Met.ofW (cc := cX4_isColumn) (maxL := 1) (ret := (some .boolean)) (by decide) rfl ?_
  intro p e s m args below meth c s₁ B hml hv
  obtain ⟨rfl, hP, hC⟩ := hv
  have hx := B.exec
  have hb := B.bytes
  have hr := B.returns
  have hts := atoms_spec (ws := wsX4_isColumn) B.pre
  have hown : s.vm.findClass RX4 = some m.cls := findClass_of_methodNamed B.named
  have hlocks := B.notSynchronized
  have hK := hC.1
  have hl := lv_entry ([.int (a0)]) (n := 1) (Nat.le_of_ble_eq_true rfl)
  rw [lg_entry_eq]
  generalize (lg_sl ([.int (a0)]) ++ List.replicate (1 - (lg_sl ([.int (a0)])).length) Slot.unset).toArray = ls at hl ⊢
  have hl : lv_has ls 1 [(0, .int (a0))] := hl
  unfold s_X4_isColumn at hs
  refine lv_iload_n hx hb dX4_isColumn_0 rfl (lv_at hl 0 rfl) ?_
  refine lv_if_lt (tgt := 14) hx hb dX4_isColumn_1 (by decide) (fun c_1 => ?_) (fun c_1 => ?_)
  · have hs := sp_t c_1 hs
    refine lv_iconst (v := 0) hx hb dX4_isColumn_14 (by decide) ?_
    exact rt_z hx hb hr (by decide) hs dX4_isColumn_15 hlocks
  · have hs := sp_f c_1 hs
    refine lv_iload_n hx hb dX4_isColumn_4 rfl (lv_at hl 0 rfl) ?_
    refine lv_bipush (v := 16) hx hb dX4_isColumn_5 (by decide) ?_
    refine lv_icmp_ge (tgt := 14) hx hb dX4_isColumn_7 (by decide) (fun c_2 => ?_) (fun c_2 => ?_)
    · have hs := sp_t c_2 hs
      refine lv_iconst (v := 0) hx hb dX4_isColumn_14 (by decide) ?_
      exact rt_z hx hb hr (by decide) hs dX4_isColumn_15 hlocks
    · have hs := sp_f c_2 hs
      refine lv_iconst (v := 1) hx hb dX4_isColumn_10 (by decide) ?_
      refine lv_goto (tgt := 15) hx hb dX4_isColumn_11 (by decide) ?_
      exact rt_z hx hb hr (by decide) hs dX4_isColumn_15 hlocks
def s_X4_isOpenRow (a0 : Int32) : Option Int32 := (if a0 < 3 then some 0 else (if 12 ≤ a0 then some 0 else some 1))
set_option maxHeartbeats 4000000 in
set_option maxRecDepth 100000 in
theorem c_X4_isOpenRow (l : Launch) (D : va_G) (ca : Nat → ClassId) (a0 : Int32) {r : Int32} (hs : s_X4_isOpenRow a0 = some r) : Met l yX4_isOpenRow wsX4_isOpenRow ({ frames := 0, cells := 0, slots := 0, locals := 0 }) (rP [.int (a0)] D ca []) (vp_Si (fun z => z = r)) 0 0 (fun _ => False) := by
  refine Met.ofW (cc := cX4_isOpenRow) (maxL := 1) (ret := (some .boolean)) (by decide) rfl ?_
  intro p e s m args below meth c s₁ B hml hv
  obtain ⟨rfl, hP, hC⟩ := hv
  have hx := B.exec
  have hb := B.bytes
  have hr := B.returns
  have hts := atoms_spec (ws := wsX4_isOpenRow) B.pre
  have hown : s.vm.findClass RX4 = some m.cls := findClass_of_methodNamed B.named
  have hlocks := B.notSynchronized
  have hK := hC.1
  have hl := lv_entry ([.int (a0)]) (n := 1) (Nat.le_of_ble_eq_true rfl)
  rw [lg_entry_eq]
  generalize (lg_sl ([.int (a0)]) ++ List.replicate (1 - (lg_sl ([.int (a0)])).length) Slot.unset).toArray = ls at hl ⊢
  have hl : lv_has ls 1 [(0, .int (a0))] := hl
  unfold s_X4_isOpenRow at hs
  refine lv_iload_n hx hb dX4_isOpenRow_0 rfl (lv_at hl 0 rfl) ?_
  refine lv_iconst (v := 3) hx hb dX4_isOpenRow_1 (by decide) ?_
  refine lv_icmp_lt (tgt := 15) hx hb dX4_isOpenRow_2 (by decide) (fun c_1 => ?_) (fun c_1 => ?_)
  · have hs := sp_t c_1 hs
    refine lv_iconst (v := 0) hx hb dX4_isOpenRow_15 (by decide) ?_
    exact rt_z hx hb hr (by decide) hs dX4_isOpenRow_16 hlocks
  · have hs := sp_f c_1 hs
    refine lv_iload_n hx hb dX4_isOpenRow_5 rfl (lv_at hl 0 rfl) ?_
    refine lv_bipush (v := 12) hx hb dX4_isOpenRow_6 (by decide) ?_
    refine lv_icmp_ge (tgt := 15) hx hb dX4_isOpenRow_8 (by decide) (fun c_2 => ?_) (fun c_2 => ?_)
    · have hs := sp_t c_2 hs
      refine lv_iconst (v := 0) hx hb dX4_isOpenRow_15 (by decide) ?_
      exact rt_z hx hb hr (by decide) hs dX4_isOpenRow_16 hlocks
    · have hs := sp_f c_2 hs
      refine lv_iconst (v := 1) hx hb dX4_isOpenRow_11 (by decide) ?_
      refine lv_goto (tgt := 16) hx hb dX4_isOpenRow_12 (by decide) ?_
      exact rt_z hx hb hr (by decide) hs dX4_isOpenRow_16 hlocks
def s_X4_isPhase (a0 : Int32) : Option Int32 := (if a0 < 0 then some 0 else (if 3 ≤ a0 then some 0 else some 1))
set_option maxHeartbeats 4000000 in
set_option maxRecDepth 100000 in
theorem c_X4_isPhase (l : Launch) (D : va_G) (ca : Nat → ClassId) (a0 : Int32) {r : Int32} (hs : s_X4_isPhase a0 = some r) : Met l yX4_isPhase wsX4_isPhase ({ frames := 0, cells := 0, slots := 0, locals := 0 }) (rP [.int (a0)] D ca []) (vp_Si (fun z => z = r)) 0 0 (fun _ => False) := by
  refine Met.ofW (cc := cX4_isPhase) (maxL := 1) (ret := (some .boolean)) (by decide) rfl ?_
  intro p e s m args below meth c s₁ B hml hv
  obtain ⟨rfl, hP, hC⟩ := hv
  have hx := B.exec
  have hb := B.bytes
  have hr := B.returns
  have hts := atoms_spec (ws := wsX4_isPhase) B.pre
  have hown : s.vm.findClass RX4 = some m.cls := findClass_of_methodNamed B.named
  have hlocks := B.notSynchronized
  have hK := hC.1
  have hl := lv_entry ([.int (a0)]) (n := 1) (Nat.le_of_ble_eq_true rfl)
  rw [lg_entry_eq]
  generalize (lg_sl ([.int (a0)]) ++ List.replicate (1 - (lg_sl ([.int (a0)])).length) Slot.unset).toArray = ls at hl ⊢
  have hl : lv_has ls 1 [(0, .int (a0))] := hl
  unfold s_X4_isPhase at hs
  refine lv_iload_n hx hb dX4_isPhase_0 rfl (lv_at hl 0 rfl) ?_
  refine lv_if_lt (tgt := 13) hx hb dX4_isPhase_1 (by decide) (fun c_1 => ?_) (fun c_1 => ?_)
  · have hs := sp_t c_1 hs
    refine lv_iconst (v := 0) hx hb dX4_isPhase_13 (by decide) ?_
    exact rt_z hx hb hr (by decide) hs dX4_isPhase_14 hlocks
  · have hs := sp_f c_1 hs
    refine lv_iload_n hx hb dX4_isPhase_4 rfl (lv_at hl 0 rfl) ?_
    refine lv_iconst (v := 3) hx hb dX4_isPhase_5 (by decide) ?_
    refine lv_icmp_ge (tgt := 13) hx hb dX4_isPhase_6 (by decide) (fun c_2 => ?_) (fun c_2 => ?_)
    · have hs := sp_t c_2 hs
      refine lv_iconst (v := 0) hx hb dX4_isPhase_13 (by decide) ?_
      exact rt_z hx hb hr (by decide) hs dX4_isPhase_14 hlocks
    · have hs := sp_f c_2 hs
      refine lv_iconst (v := 1) hx hb dX4_isPhase_9 (by decide) ?_
      refine lv_goto (tgt := 14) hx hb dX4_isPhase_10 (by decide) ?_
      exact rt_z hx hb hr (by decide) hs dX4_isPhase_14 hlocks
def s_X2_isCell (a0 : Int32) (a1 : Int32) : Option Int32 := (if a0 < 0 then some 0 else (if 16 ≤ a0 then some 0 else (if a1 < 0 then some 0 else (if 12 ≤ a1 then some 0 else some 1))))
set_option maxHeartbeats 4000000 in
set_option maxRecDepth 100000 in
theorem c_X2_isCell (l : Launch) (D : va_G) (ca : Nat → ClassId) (a0 : Int32) (a1 : Int32) {r : Int32} (hs : s_X2_isCell a0 a1 = some r) : Met l yX2_isCell wsX2_isCell ({ frames := 0, cells := 0, slots := 0, locals := 0 }) (rP [.int (a0), .int (a1)] D ca []) (vp_Si (fun z => z = r)) 0 0 (fun _ => False) := by
  refine Met.ofW (cc := cX2_isCell) (maxL := 2) (ret := (some .boolean)) (by decide) rfl ?_
  intro p e s m args below meth c s₁ B hml hv
  obtain ⟨rfl, hP, hC⟩ := hv
  have hx := B.exec
  have hb := B.bytes
  have hr := B.returns
  have hts := atoms_spec (ws := wsX2_isCell) B.pre
  have hown : s.vm.findClass RX2 = some m.cls := findClass_of_methodNamed B.named
  have hlocks := B.notSynchronized
  have hK := hC.1
  have hl := lv_entry ([.int (a0), .int (a1)]) (n := 2) (Nat.le_of_ble_eq_true rfl)
  rw [lg_entry_eq]
  generalize (lg_sl ([.int (a0), .int (a1)]) ++ List.replicate (2 - (lg_sl ([.int (a0), .int (a1)])).length) Slot.unset).toArray = ls at hl ⊢
  have hl : lv_has ls 2 [(0, .int (a0)), (1, .int (a1))] := hl
  unfold s_X2_isCell at hs
  refine lv_iload_n hx hb dX2_isCell_0 rfl (lv_at hl 0 rfl) ?_
  refine lv_if_lt (tgt := 24) hx hb dX2_isCell_1 (by decide) (fun c_1 => ?_) (fun c_1 => ?_)
  · have hs := sp_t c_1 hs
    refine lv_iconst (v := 0) hx hb dX2_isCell_24 (by decide) ?_
    exact rt_z hx hb hr (by decide) hs dX2_isCell_25 hlocks
  · have hs := sp_f c_1 hs
    refine lv_iload_n hx hb dX2_isCell_4 rfl (lv_at hl 0 rfl) ?_
    refine lv_bipush (v := 16) hx hb dX2_isCell_5 (by decide) ?_
    refine lv_icmp_ge (tgt := 24) hx hb dX2_isCell_7 (by decide) (fun c_2 => ?_) (fun c_2 => ?_)
    · have hs := sp_t c_2 hs
      refine lv_iconst (v := 0) hx hb dX2_isCell_24 (by decide) ?_
      exact rt_z hx hb hr (by decide) hs dX2_isCell_25 hlocks
    · have hs := sp_f c_2 hs
      refine lv_iload_n hx hb dX2_isCell_10 rfl (lv_at hl 1 rfl) ?_
      refine lv_if_lt (tgt := 24) hx hb dX2_isCell_11 (by decide) (fun c_3 => ?_) (fun c_3 => ?_)
      · have hs := sp_t c_3 hs
        refine lv_iconst (v := 0) hx hb dX2_isCell_24 (by decide) ?_
        exact rt_z hx hb hr (by decide) hs dX2_isCell_25 hlocks
      · have hs := sp_f c_3 hs
        refine lv_iload_n hx hb dX2_isCell_14 rfl (lv_at hl 1 rfl) ?_
        refine lv_bipush (v := 12) hx hb dX2_isCell_15 (by decide) ?_
        refine lv_icmp_ge (tgt := 24) hx hb dX2_isCell_17 (by decide) (fun c_4 => ?_) (fun c_4 => ?_)
        · have hs := sp_t c_4 hs
          refine lv_iconst (v := 0) hx hb dX2_isCell_24 (by decide) ?_
          exact rt_z hx hb hr (by decide) hs dX2_isCell_25 hlocks
        · have hs := sp_f c_4 hs
          refine lv_iconst (v := 1) hx hb dX2_isCell_20 (by decide) ?_
          refine lv_goto (tgt := 25) hx hb dX2_isCell_21 (by decide) ?_
          exact rt_z hx hb hr (by decide) hs dX2_isCell_25 hlocks
def s_X3_isPlace (a0 : Int32) (a1 : Int32) : Option Int32 := (s_X4_isColumn a0).bind fun v_1 => (if v_1 = 0 then some 0 else (if a1 < 0 then some 0 else (if 10 ≤ a1 then some 0 else some 1)))
set_option maxHeartbeats 4000000 in
set_option maxRecDepth 100000 in
theorem c_X3_isPlace (l : Launch) (D : va_G) (ca : Nat → ClassId) (a0 : Int32) (a1 : Int32) {r : Int32} (hs : s_X3_isPlace a0 a1 = some r) : Met l yX3_isPlace wsX3_isPlace ({ frames := 1, cells := 0, slots := 0, locals := 20 }) (rP [.int (a0), .int (a1)] D ca []) (vp_Si (fun z => z = r)) 0 0 (fun _ => False) := by
  refine Met.ofW (cc := cX3_isPlace) (maxL := 2) (ret := (some .boolean)) (by decide) rfl ?_
  intro p e s m args below meth c s₁ B hml hv
  obtain ⟨rfl, hP, hC⟩ := hv
  have hx := B.exec
  have hb := B.bytes
  have hr := B.returns
  have hts := atoms_spec (ws := wsX3_isPlace) B.pre
  have hown : s.vm.findClass RX3 = some m.cls := findClass_of_methodNamed B.named
  have hlocks := B.notSynchronized
  have hK := hC.1
  have hl := lv_entry ([.int (a0), .int (a1)]) (n := 2) (Nat.le_of_ble_eq_true rfl)
  rw [lg_entry_eq]
  generalize (lg_sl ([.int (a0), .int (a1)]) ++ List.replicate (2 - (lg_sl ([.int (a0), .int (a1)])).length) Slot.unset).toArray = ls at hl ⊢
  have hl : lv_has ls 2 [(0, .int (a0)), (1, .int (a1))] := hl
  unfold s_X3_isPlace at hs
  refine lv_iload_n hx hb dX3_isPlace_0 rfl (lv_at hl 0 rfl) ?_
  obtain ⟨v_1, h_1, hs⟩ := sp_b hs
  refine rd_i (va_runSN (As := [.int (a0)]) (rest := []) ⟨hx, hb, hml, hown, hts⟩ (c_X4_isColumn l D ca a0 h_1) ⟨va_cnB 1 hts gX3_isPlace_X4_isColumn_n18 rfl rfl rfl (hC.2.1 _ nk_X3_18) (hts (.initialized RX4) (by decide +kernel)) (by decide +kernel) ⟨Nat.le_of_ble_eq_true rfl, Nat.le_of_ble_eq_true rfl⟩, hts (.static yX4_isColumn) (by decide +kernel), trivial⟩ (rP_S va_P_nil hC) rfl rfl hl.1 rfl (lv_room (Nat.le_of_ble_eq_true rfl)) dX3_isPlace_1 ⟨Nat.zero_le _, Nat.zero_le _⟩) ?_
  refine lv_if_eq (tgt := 21) hx hb dX3_isPlace_4 (by decide) (fun c_2 => ?_) (fun c_2 => ?_)
  · have hs := sp_t c_2 hs
    refine lv_iconst (v := 0) hx hb dX3_isPlace_21 (by decide) ?_
    exact rt_z hx hb hr (by decide) hs dX3_isPlace_22 hlocks
  · have hs := sp_f c_2 hs
    refine lv_iload_n hx hb dX3_isPlace_7 rfl (lv_at hl 1 rfl) ?_
    refine lv_if_lt (tgt := 21) hx hb dX3_isPlace_8 (by decide) (fun c_3 => ?_) (fun c_3 => ?_)
    · have hs := sp_t c_3 hs
      refine lv_iconst (v := 0) hx hb dX3_isPlace_21 (by decide) ?_
      exact rt_z hx hb hr (by decide) hs dX3_isPlace_22 hlocks
    · have hs := sp_f c_3 hs
      refine lv_iload_n hx hb dX3_isPlace_11 rfl (lv_at hl 1 rfl) ?_
      refine lv_bipush (v := 10) hx hb dX3_isPlace_12 (by decide) ?_
      refine lv_icmp_ge (tgt := 21) hx hb dX3_isPlace_14 (by decide) (fun c_4 => ?_) (fun c_4 => ?_)
      · have hs := sp_t c_4 hs
        refine lv_iconst (v := 0) hx hb dX3_isPlace_21 (by decide) ?_
        exact rt_z hx hb hr (by decide) hs dX3_isPlace_22 hlocks
      · have hs := sp_f c_4 hs
        refine lv_iconst (v := 1) hx hb dX3_isPlace_17 (by decide) ?_
        refine lv_goto (tgt := 22) hx hb dX3_isPlace_18 (by decide) ?_
        exact rt_z hx hb hr (by decide) hs dX3_isPlace_22 hlocks
def s_X0_shines (x : XS) (j0 : Nat) : Option Int32 := grd j0 (x).2.2 ((if (x.1 27 j0) = 0 then some 0 else (if (x.1 28 j0) = 0 then some 1 else some 0)))
set_option maxHeartbeats 4000000 in
set_option maxRecDepth 100000 in
theorem c_X0_shines (l : Launch) (D : va_G) (ca : Nat → ClassId) (g : Nat → Nat) (x : XS) (j0 : Nat) {r : Int32} (hs : s_X0_shines x j0 = some r) : Met l yX0_shines wsX0_shines ({ frames := 0, cells := 0, slots := 0, locals := 0 }) (rP [.ref (adP g j0)] D ca (wX g ca x)) (vp_Si (fun z => z = r)) 0 0 (fun _ => False) := by
  refine Met.ofW (cc := cX0_shines) (maxL := 1) (ret := (some .boolean)) (by decide) rfl ?_
  intro p e s m args below meth c s₁ B hml hv
  obtain ⟨rfl, hP, hC⟩ := hv
  have hx := B.exec
  have hb := B.bytes
  have hr := B.returns
  have hts := atoms_spec (ws := wsX0_shines) B.pre
  have hown : s.vm.findClass RX0 = some m.cls := findClass_of_methodNamed B.named
  have hlocks := B.notSynchronized
  have hK := hC.1
  have iX0 : ∀ w ∈ u_ws RX0 TX0 10, w ∈ wsX0_shines := by decide +kernel
  have hl := lv_entry ([.ref (adP g j0)]) (n := 1) (Nat.le_of_ble_eq_true rfl)
  rw [lg_entry_eq]
  generalize (lg_sl ([.ref (adP g j0)]) ++ List.replicate (1 - (lg_sl ([.ref (adP g j0)])).length) Slot.unset).toArray = ls at hl ⊢
  have hl : lv_has ls 1 [(0, .ref (adP g j0))] := hl
  unfold s_X0_shines at hs
  refine lv_aload_n hx hb dX0_shines_0 rfl (lv_at hl 0 rfl) ?_
  obtain ⟨h_1, hs⟩ := sp_g hs
  refine va_get (D := D) (ci := 0) (fs := fsP (x) j0) (v := .int (x.1 27 j0)) (C := RX0) (T := TX0) (N := 10) hx hb hts iX0 hown hK hP (15 + j0) (wX_proj h_1) rfl 7 (by decide) (hts (.fieldLink RX0 33 "FacadeShow$Projector" "isOn" "Z") (by decide +kernel)) (fun _ h9 => h9) rfl dX0_shines_1 ?_
  refine lv_if_eq (tgt := 18) hx hb dX0_shines_4 (by decide) (fun c_2 => ?_) (fun c_2 => ?_)
  · have hs := sp_t c_2 hs
    refine lv_iconst (v := 0) hx hb dX0_shines_18 (by decide) ?_
    exact rt_z hx hb hr (by decide) hs dX0_shines_19 hlocks
  · have hs := sp_f c_2 hs
    refine lv_aload_n hx hb dX0_shines_7 rfl (lv_at hl 0 rfl) ?_
    refine va_get (D := D) (ci := 0) (fs := fsP (x) j0) (v := .int (x.1 28 j0)) (C := RX0) (T := TX0) (N := 10) hx hb hts iX0 hown hK hP (15 + j0) (wX_proj h_1) rfl 8 (by decide) (hts (.fieldLink RX0 37 "FacadeShow$Projector" "hasFailed" "Z") (by decide +kernel)) (fun _ h9 => h9) rfl dX0_shines_8 ?_
    refine lv_if_ne (tgt := 18) hx hb dX0_shines_11 (by decide) (fun c_3 => ?_) (fun c_3 => ?_)
    · have hs := sp_f c_3 hs
      refine lv_iconst (v := 0) hx hb dX0_shines_18 (by decide) ?_
      exact rt_z hx hb hr (by decide) hs dX0_shines_19 hlocks
    · have hs := sp_t c_3 hs
      refine lv_iconst (v := 1) hx hb dX0_shines_14 (by decide) ?_
      refine lv_goto (tgt := 19) hx hb dX0_shines_15 (by decide) ?_
      exact rt_z hx hb hr (by decide) hs dX0_shines_19 hlocks
def s_X2_reliefOf (x : XS) (a1 : Int32) : Option Int32 := (s_X4_isColumn a1).bind fun v_1 => (if v_1 = 0 then some (0) else chk 16 a1 (some (x.1 6 a1.toNatClampNeg)))
set_option maxHeartbeats 4000000 in
set_option maxRecDepth 100000 in
theorem c_X2_reliefOf (l : Launch) (D : va_G) (ca : Nat → ClassId) (g : Nat → Nat) (x : XS) (a1 : Int32) {r : Int32} (hs : s_X2_reliefOf x a1 = some r) : Met l yX2_reliefOf wsX2_reliefOf ({ frames := 1, cells := 0, slots := 0, locals := 20 }) (rP [.ref (g 1), .int (a1)] D ca (wX g ca x)) (vp_Si (fun z => z = r)) 0 0 (fun _ => False) := by
  refine Met.ofW (cc := cX2_reliefOf) (maxL := 2) (ret := (some .int)) (by decide) rfl ?_
  intro p e s m args below meth c s₁ B hml hv
  obtain ⟨rfl, hP, hC⟩ := hv
  have hx := B.exec
  have hb := B.bytes
  have hr := B.returns
  have hts := atoms_spec (ws := wsX2_reliefOf) B.pre
  have hown : s.vm.findClass RX2 = some m.cls := findClass_of_methodNamed B.named
  have hlocks := B.notSynchronized
  have hK := hC.1
  have iX2 : ∀ w ∈ u_ws RX2 TX2 3, w ∈ wsX2_reliefOf := by decide +kernel
  have hl := lv_entry ([.ref (g 1), .int (a1)]) (n := 2) (Nat.le_of_ble_eq_true rfl)
  rw [lg_entry_eq]
  generalize (lg_sl ([.ref (g 1), .int (a1)]) ++ List.replicate (2 - (lg_sl ([.ref (g 1), .int (a1)])).length) Slot.unset).toArray = ls at hl ⊢
  have hl : lv_has ls 2 [(0, .ref (g 1)), (1, .int (a1))] := hl
  unfold s_X2_reliefOf at hs
  refine lv_iload_n hx hb dX2_reliefOf_0 rfl (lv_at hl 1 rfl) ?_
  obtain ⟨v_1, h_1, hs⟩ := sp_b hs
  refine rd_i (va_runSN (As := [.int (a1)]) (rest := []) ⟨hx, hb, hml, hown, hts⟩ (c_X4_isColumn l D ca a1 h_1) ⟨va_cnB 1 hts gX2_reliefOf_X4_isColumn_n21 rfl rfl rfl (hC.2.1 _ nk_X2_21) (hts (.initialized RX4) (by decide +kernel)) (by decide +kernel) ⟨Nat.le_of_ble_eq_true rfl, Nat.le_of_ble_eq_true rfl⟩, hts (.static yX4_isColumn) (by decide +kernel), trivial⟩ (rP_S va_P_nil hC) rfl rfl hl.1 rfl (lv_room (Nat.le_of_ble_eq_true rfl)) dX2_reliefOf_1 ⟨Nat.zero_le _, Nat.zero_le _⟩) ?_
  refine lv_if_eq (tgt := 16) hx hb dX2_reliefOf_4 (by decide) (fun c_2 => ?_) (fun c_2 => ?_)
  · have hs := sp_t c_2 hs
    refine lv_iconst (v := 0) hx hb dX2_reliefOf_16 (by decide) ?_
    exact rt_i hx hb hr hs dX2_reliefOf_17 hlocks
  · have hs := sp_f c_2 hs
    refine lv_aload_n hx hb dX2_reliefOf_7 rfl (lv_at hl 0 rfl) ?_
    refine va_get (D := D) (ci := 2) (fs := [.ref (g 6), .ref (g 7), .ref (g 8)]) (v := .ref (g 6)) (C := RX2) (T := TX2) (N := 3) hx hb hts iX2 hown hK hP 1 rfl rfl 0 (by decide) (hts (.fieldLink RX2 9 "FacadeShow$Square" "reliefs" "[I") (by decide +kernel)) (fun _ h9 => h9) rfl dX2_reliefOf_8 ?_
    refine lv_iload_n hx hb dX2_reliefOf_11 rfl (lv_at hl 1 rfl) ?_
    obtain ⟨h_3, hs⟩ := sp_c hs
    refine va_iald (D := D) (cA := ca 0) (n := 16) (f := (x).1 6) hx hb hK hP 2 0 rfl rfl h_3 dX2_reliefOf_12 ?_
    refine lv_goto (tgt := 17) hx hb dX2_reliefOf_13 (by decide) ?_
    exact rt_i hx hb hr hs dX2_reliefOf_17 hlocks
def s_X2_hundredthsOf_b17 (x : XS) (a1 : Int32) (q0 : Int32) : Option Int32 := (if q0 = 0 then some (60) else (if q0 = 1 then some (40) else some (0)))
def s_X2_hundredthsOf (x : XS) (a1 : Int32) : Option Int32 := (s_X4_isColumn a1).bind fun v_3 => (if v_3 = 0 then s_X2_hundredthsOf_b17 x a1  (2) else chk 16 a1 (s_X2_hundredthsOf_b17 x a1  (x.1 7 a1.toNatClampNeg)))
set_option maxHeartbeats 4000000 in
set_option maxRecDepth 100000 in
theorem c_X2_hundredthsOf (l : Launch) (D : va_G) (ca : Nat → ClassId) (g : Nat → Nat) (x : XS) (a1 : Int32) {r : Int32} (hs : s_X2_hundredthsOf x a1 = some r) : Met l yX2_hundredthsOf wsX2_hundredthsOf ({ frames := 1, cells := 0, slots := 0, locals := 20 }) (rP [.ref (g 1), .int (a1)] D ca (wX g ca x)) (vp_Si (fun z => z = r)) 0 0 (fun _ => False) := by
  refine Met.ofW (cc := cX2_hundredthsOf) (maxL := 3) (ret := (some .int)) (by decide) rfl ?_
  intro p e s m args below meth c s₁ B hml hv
  obtain ⟨rfl, hP, hC⟩ := hv
  have hx := B.exec
  have hb := B.bytes
  have hr := B.returns
  have hts := atoms_spec (ws := wsX2_hundredthsOf) B.pre
  have hown : s.vm.findClass RX2 = some m.cls := findClass_of_methodNamed B.named
  have hlocks := B.notSynchronized
  have hK := hC.1
  have iX2 : ∀ w ∈ u_ws RX2 TX2 3, w ∈ wsX2_hundredthsOf := by decide +kernel
  have hl := lv_entry ([.ref (g 1), .int (a1)]) (n := 3) (Nat.le_of_ble_eq_true rfl)
  rw [lg_entry_eq]
  generalize (lg_sl ([.ref (g 1), .int (a1)]) ++ List.replicate (3 - (lg_sl ([.ref (g 1), .int (a1)])).length) Slot.unset).toArray = ls at hl ⊢
  have hl : lv_has ls 3 [(0, .ref (g 1)), (1, .int (a1))] := hl
  have b17 : ∀ (q0 : Int32), s_X2_hundredthsOf_b17 x a1 q0 = some r → ∀ (ls : Array Slot), lv_has ls 3 [] → W p l e (headSpec wsX2_hundredthsOf ({ frames := 1, cells := 0, slots := 0, locals := 20 })).room s m #[.ref (g 1), .int (a1)] below meth c s.heap [] 0 0 (MQ below (vp_Si (fun z => z = r)) #[.ref (g 1), .int (a1)] s 0 0 (fun _ => False)) (F0 m 17 ls [.int (q0)]) := by
    intro q0 hs ls hl
    unfold s_X2_hundredthsOf_b17 at hs
    refine lv_istore_n (lv' := [(2, .int (q0))]) hx hb dX2_hundredthsOf_17 rfl hl (by decide) rfl (fun ls hl => ?_)
    refine lv_iload_n hx hb dX2_hundredthsOf_18 rfl (lv_at hl 0 rfl) ?_
    refine lv_if_ne (tgt := 27) hx hb dX2_hundredthsOf_19 (by decide) (fun c_1 => ?_) (fun c_1 => ?_)
    · have hs := sp_f c_1 hs
      refine lv_iload_n hx hb dX2_hundredthsOf_27 rfl (lv_at hl 0 rfl) ?_
      refine lv_iconst (v := 1) hx hb dX2_hundredthsOf_28 (by decide) ?_
      refine lv_icmp_ne (tgt := 37) hx hb dX2_hundredthsOf_29 (by decide) (fun c_2 => ?_) (fun c_2 => ?_)
      · have hs := sp_f c_2 hs
        refine lv_iconst (v := 0) hx hb dX2_hundredthsOf_37 (by decide) ?_
        exact rt_i hx hb hr hs dX2_hundredthsOf_38 hlocks
      · have hs := sp_t c_2 hs
        refine lv_bipush (v := 40) hx hb dX2_hundredthsOf_32 (by decide) ?_
        refine lv_goto (tgt := 38) hx hb dX2_hundredthsOf_34 (by decide) ?_
        exact rt_i hx hb hr hs dX2_hundredthsOf_38 hlocks
    · have hs := sp_t c_1 hs
      refine lv_bipush (v := 60) hx hb dX2_hundredthsOf_22 (by decide) ?_
      refine lv_goto (tgt := 38) hx hb dX2_hundredthsOf_24 (by decide) ?_
      exact rt_i hx hb hr hs dX2_hundredthsOf_38 hlocks
  unfold s_X2_hundredthsOf at hs
  refine lv_iload_n hx hb dX2_hundredthsOf_0 rfl (lv_at hl 1 rfl) ?_
  obtain ⟨v_3, h_3, hs⟩ := sp_b hs
  refine rd_i (va_runSN (As := [.int (a1)]) (rest := []) ⟨hx, hb, hml, hown, hts⟩ (c_X4_isColumn l D ca a1 h_3) ⟨va_cnB 1 hts gX2_hundredthsOf_X4_isColumn_n21 rfl rfl rfl (hC.2.1 _ nk_X2_21) (hts (.initialized RX4) (by decide +kernel)) (by decide +kernel) ⟨Nat.le_of_ble_eq_true rfl, Nat.le_of_ble_eq_true rfl⟩, hts (.static yX4_isColumn) (by decide +kernel), trivial⟩ (rP_S va_P_nil hC) rfl rfl hl.1 rfl (lv_room (Nat.le_of_ble_eq_true rfl)) dX2_hundredthsOf_1 ⟨Nat.zero_le _, Nat.zero_le _⟩) ?_
  refine lv_if_eq (tgt := 16) hx hb dX2_hundredthsOf_4 (by decide) (fun c_4 => ?_) (fun c_4 => ?_)
  · have hs := sp_t c_4 hs
    refine lv_iconst (v := 2) hx hb dX2_hundredthsOf_16 (by decide) ?_
    exact b17  (2) hs ls (lv_sub hl [] rfl)
  · have hs := sp_f c_4 hs
    refine lv_aload_n hx hb dX2_hundredthsOf_7 rfl (lv_at hl 0 rfl) ?_
    refine va_get (D := D) (ci := 2) (fs := [.ref (g 6), .ref (g 7), .ref (g 8)]) (v := .ref (g 7)) (C := RX2) (T := TX2) (N := 3) hx hb hts iX2 hown hK hP 1 rfl rfl 1 (by decide) (hts (.fieldLink RX2 15 "FacadeShow$Square" "surfaces" "[I") (by decide +kernel)) (fun _ h9 => h9) rfl dX2_hundredthsOf_8 ?_
    refine lv_iload_n hx hb dX2_hundredthsOf_11 rfl (lv_at hl 1 rfl) ?_
    obtain ⟨h_5, hs⟩ := sp_c hs
    refine va_iald (D := D) (cA := ca 0) (n := 16) (f := (x).1 7) hx hb hK hP 3 0 rfl rfl h_5 dX2_hundredthsOf_12 ?_
    refine lv_goto (tgt := 17) hx hb dX2_hundredthsOf_13 (by decide) ?_
    exact b17  (x.1 7 a1.toNatClampNeg) hs ls (lv_sub hl [] rfl)
def s_X2_contentOf (x : XS) (a1 : Int32) (a2 : Int32) : Option Int32 := (s_X2_isCell a1 a2).bind fun v_1 => (if v_1 = 0 then some (0) else chk 192 ((a1 * 12) + a2) (some (x.1 8 ((a1 * 12) + a2).toNatClampNeg)))
set_option maxHeartbeats 4000000 in
set_option maxRecDepth 100000 in
theorem c_X2_contentOf (l : Launch) (D : va_G) (ca : Nat → ClassId) (g : Nat → Nat) (x : XS) (a1 : Int32) (a2 : Int32) {r : Int32} (hs : s_X2_contentOf x a1 a2 = some r) : Met l yX2_contentOf wsX2_contentOf ({ frames := 1, cells := 0, slots := 0, locals := 21 }) (rP [.ref (g 1), .int (a1), .int (a2)] D ca (wX g ca x)) (vp_Si (fun z => z = r)) 0 0 (fun _ => False) := by
  refine Met.ofW (cc := cX2_contentOf) (maxL := 3) (ret := (some .int)) (by decide) rfl ?_
  intro p e s m args below meth c s₁ B hml hv
  obtain ⟨rfl, hP, hC⟩ := hv
  have hx := B.exec
  have hb := B.bytes
  have hr := B.returns
  have hts := atoms_spec (ws := wsX2_contentOf) B.pre
  have hown : s.vm.findClass RX2 = some m.cls := findClass_of_methodNamed B.named
  have hlocks := B.notSynchronized
  have hK := hC.1
  have iX2 : ∀ w ∈ u_ws RX2 TX2 3, w ∈ wsX2_contentOf := by decide +kernel
  have hl := lv_entry ([.ref (g 1), .int (a1), .int (a2)]) (n := 3) (Nat.le_of_ble_eq_true rfl)
  rw [lg_entry_eq]
  generalize (lg_sl ([.ref (g 1), .int (a1), .int (a2)]) ++ List.replicate (3 - (lg_sl ([.ref (g 1), .int (a1), .int (a2)])).length) Slot.unset).toArray = ls at hl ⊢
  have hl : lv_has ls 3 [(0, .ref (g 1)), (1, .int (a1)), (2, .int (a2))] := hl
  unfold s_X2_contentOf at hs
  refine lv_iload_n hx hb dX2_contentOf_0 rfl (lv_at hl 1 rfl) ?_
  refine lv_iload_n hx hb dX2_contentOf_1 rfl (lv_at hl 2 rfl) ?_
  obtain ⟨v_1, h_1, hs⟩ := sp_b hs
  refine rd_i (va_runS (As := [.int (a1), .int (a2)]) (rest := []) ⟨hx, hb, hml, hown, hts⟩ (c_X2_isCell l D ca a1 a2 h_1) (va_cwS 2 hts gX2_contentOf_X2_isCell rfl rfl rfl (by decide +kernel) ⟨Nat.le_of_ble_eq_true rfl, Nat.le_of_ble_eq_true rfl⟩) (rP_S va_P_nil hC) rfl rfl hl.1 rfl (lv_room (Nat.le_of_ble_eq_true rfl)) dX2_contentOf_2 ⟨Nat.zero_le _, Nat.zero_le _⟩) ?_
  refine lv_if_eq (tgt := 22) hx hb dX2_contentOf_5 (by decide) (fun c_2 => ?_) (fun c_2 => ?_)
  · have hs := sp_t c_2 hs
    refine lv_iconst (v := 0) hx hb dX2_contentOf_22 (by decide) ?_
    exact rt_i hx hb hr hs dX2_contentOf_23 hlocks
  · have hs := sp_f c_2 hs
    refine lv_aload_n hx hb dX2_contentOf_8 rfl (lv_at hl 0 rfl) ?_
    refine va_get (D := D) (ci := 2) (fs := [.ref (g 6), .ref (g 7), .ref (g 8)]) (v := .ref (g 8)) (C := RX2) (T := TX2) (N := 3) hx hb hts iX2 hown hK hP 1 rfl rfl 2 (by decide) (hts (.fieldLink RX2 18 "FacadeShow$Square" "contents" "[I") (by decide +kernel)) (fun _ h9 => h9) rfl dX2_contentOf_9 ?_
    refine lv_iload_n hx hb dX2_contentOf_12 rfl (lv_at hl 1 rfl) ?_
    refine lv_bipush (v := 12) hx hb dX2_contentOf_13 (by decide) ?_
    refine lv_imul hx hb dX2_contentOf_15 ?_
    refine lv_iload_n hx hb dX2_contentOf_16 rfl (lv_at hl 2 rfl) ?_
    refine lv_iadd hx hb dX2_contentOf_17 ?_
    obtain ⟨h_3, hs⟩ := sp_c hs
    refine va_iald (D := D) (cA := ca 0) (n := 192) (f := (x).1 8) hx hb hK hP 4 0 rfl rfl h_3 dX2_contentOf_18 ?_
    refine lv_goto (tgt := 23) hx hb dX2_contentOf_19 (by decide) ?_
    exact rt_i hx hb hr hs dX2_contentOf_23 hlocks
def s_X2_stopsRays (x : XS) (a1 : Int32) (a2 : Int32) : Option Int32 := (s_X2_contentOf x a1 a2).bind fun v_1 => (s_X2_reliefOf x a1).bind fun v_2 => (if a2 < v_2 then some 1 else (if v_1 = 1 then some 1 else (if v_1 = 4 then some 1 else some 0)))
set_option maxHeartbeats 4000000 in
set_option maxRecDepth 100000 in
theorem c_X2_stopsRays (l : Launch) (D : va_G) (ca : Nat → ClassId) (g : Nat → Nat) (x : XS) (a1 : Int32) (a2 : Int32) {r : Int32} (hs : s_X2_stopsRays x a1 a2 = some r) : Met l yX2_stopsRays wsX2_stopsRays ({ frames := 2, cells := 0, slots := 0, locals := 43 }) (rP [.ref (g 1), .int (a1), .int (a2)] D ca (wX g ca x)) (vp_Si (fun z => z = r)) 0 0 (fun _ => False) := by
  refine Met.ofW (cc := cX2_stopsRays) (maxL := 4) (ret := (some .boolean)) (by decide) rfl ?_
  intro p e s m args below meth c s₁ B hml hv
  obtain ⟨rfl, hP, hC⟩ := hv
  have hx := B.exec
  have hb := B.bytes
  have hr := B.returns
  have hts := atoms_spec (ws := wsX2_stopsRays) B.pre
  have hown : s.vm.findClass RX2 = some m.cls := findClass_of_methodNamed B.named
  have hlocks := B.notSynchronized
  have hK := hC.1
  have hl := lv_entry ([.ref (g 1), .int (a1), .int (a2)]) (n := 4) (Nat.le_of_ble_eq_true rfl)
  rw [lg_entry_eq]
  generalize (lg_sl ([.ref (g 1), .int (a1), .int (a2)]) ++ List.replicate (4 - (lg_sl ([.ref (g 1), .int (a1), .int (a2)])).length) Slot.unset).toArray = ls at hl ⊢
  have hl : lv_has ls 4 [(0, .ref (g 1)), (1, .int (a1)), (2, .int (a2))] := hl
  unfold s_X2_stopsRays at hs
  refine lv_aload_n hx hb dX2_stopsRays_0 rfl (lv_at hl 0 rfl) ?_
  refine lv_iload_n hx hb dX2_stopsRays_1 rfl (lv_at hl 1 rfl) ?_
  refine lv_iload_n hx hb dX2_stopsRays_2 rfl (lv_at hl 2 rfl) ?_
  obtain ⟨v_1, h_1, hs⟩ := sp_b hs
  refine rd_i (va_runV (As := [.int (a1), .int (a2)]) (rest := []) ⟨hx, hb, hml, hown, hts⟩ (c_X2_contentOf l D ca g x a1 a2 h_1) (cwV 2 hts gX2_stopsRays_X2_contentOf rfl rfl rfl (by decide +kernel) ⟨Nat.le_of_ble_eq_true rfl, Nat.le_of_ble_eq_true rfl⟩) (rP_V (q := (RX2, TX2, 3)) hP hC 1 rfl rfl) rfl rfl hl.1 rfl (lv_room (Nat.le_of_ble_eq_true rfl)) dX2_stopsRays_3 ⟨Nat.zero_le _, Nat.zero_le _⟩) ?_
  refine lv_istore_n (lv' := [(3, .int (v_1)), (0, .ref (g 1)), (1, .int (a1)), (2, .int (a2))]) hx hb dX2_stopsRays_6 rfl hl (by decide) rfl (fun ls hl => ?_)
  refine lv_iload_n hx hb dX2_stopsRays_7 rfl (lv_at hl 3 rfl) ?_
  refine lv_aload_n hx hb dX2_stopsRays_8 rfl (lv_at hl 1 rfl) ?_
  refine lv_iload_n hx hb dX2_stopsRays_9 rfl (lv_at hl 2 rfl) ?_
  obtain ⟨v_2, h_2, hs⟩ := sp_b hs
  refine rd_i (va_runV (As := [.int (a1)]) (rest := [.int (a2)]) ⟨hx, hb, hml, hown, hts⟩ (c_X2_reliefOf l D ca g x a1 h_2) (cwV 1 hts gX2_stopsRays_X2_reliefOf rfl rfl rfl (by decide +kernel) ⟨Nat.le_of_ble_eq_true rfl, Nat.le_of_ble_eq_true rfl⟩) (rP_V (q := (RX2, TX2, 3)) hP hC 1 rfl rfl) rfl rfl hl.1 rfl (lv_room (Nat.le_of_ble_eq_true rfl)) dX2_stopsRays_10 ⟨Nat.zero_le _, Nat.zero_le _⟩) ?_
  refine lv_icmp_lt (tgt := 26) hx hb dX2_stopsRays_13 (by decide) (fun c_3 => ?_) (fun c_3 => ?_)
  · have hs := sp_t c_3 hs
    refine lv_iconst (v := 1) hx hb dX2_stopsRays_26 (by decide) ?_
    refine lv_goto (tgt := 31) hx hb dX2_stopsRays_27 (by decide) ?_
    exact rt_z hx hb hr (by decide) hs dX2_stopsRays_31 hlocks
  · have hs := sp_f c_3 hs
    refine lv_iload_n hx hb dX2_stopsRays_16 rfl (lv_at hl 0 rfl) ?_
    refine lv_iconst (v := 1) hx hb dX2_stopsRays_17 (by decide) ?_
    refine lv_icmp_eq (tgt := 26) hx hb dX2_stopsRays_18 (by decide) (fun c_4 => ?_) (fun c_4 => ?_)
    · have hs := sp_t c_4 hs
      refine lv_iconst (v := 1) hx hb dX2_stopsRays_26 (by decide) ?_
      refine lv_goto (tgt := 31) hx hb dX2_stopsRays_27 (by decide) ?_
      exact rt_z hx hb hr (by decide) hs dX2_stopsRays_31 hlocks
    · have hs := sp_f c_4 hs
      refine lv_iload_n hx hb dX2_stopsRays_21 rfl (lv_at hl 0 rfl) ?_
      refine lv_iconst (v := 4) hx hb dX2_stopsRays_22 (by decide) ?_
      refine lv_icmp_ne (tgt := 30) hx hb dX2_stopsRays_23 (by decide) (fun c_5 => ?_) (fun c_5 => ?_)
      · have hs := sp_f c_5 hs
        refine lv_iconst (v := 0) hx hb dX2_stopsRays_30 (by decide) ?_
        exact rt_z hx hb hr (by decide) hs dX2_stopsRays_31 hlocks
      · have hs := sp_t c_5 hs
        refine lv_iconst (v := 1) hx hb dX2_stopsRays_26 (by decide) ?_
        refine lv_goto (tgt := 31) hx hb dX2_stopsRays_27 (by decide) ?_
        exact rt_z hx hb hr (by decide) hs dX2_stopsRays_31 hlocks
def s_X2_hasTheLiving (x : XS) (a1 : Int32) (a2 : Int32) : Option Int32 := (s_X2_contentOf x a1 a2).bind fun v_1 => (if v_1 = 2 then some 1 else (if v_1 = 3 then some 1 else some 0))
set_option maxHeartbeats 4000000 in
set_option maxRecDepth 100000 in
theorem c_X2_hasTheLiving (l : Launch) (D : va_G) (ca : Nat → ClassId) (g : Nat → Nat) (x : XS) (a1 : Int32) (a2 : Int32) {r : Int32} (hs : s_X2_hasTheLiving x a1 a2 = some r) : Met l yX2_hasTheLiving wsX2_hasTheLiving ({ frames := 2, cells := 0, slots := 0, locals := 43 }) (rP [.ref (g 1), .int (a1), .int (a2)] D ca (wX g ca x)) (vp_Si (fun z => z = r)) 0 0 (fun _ => False) := by
  refine Met.ofW (cc := cX2_hasTheLiving) (maxL := 4) (ret := (some .boolean)) (by decide) rfl ?_
  intro p e s m args below meth c s₁ B hml hv
  obtain ⟨rfl, hP, hC⟩ := hv
  have hx := B.exec
  have hb := B.bytes
  have hr := B.returns
  have hts := atoms_spec (ws := wsX2_hasTheLiving) B.pre
  have hown : s.vm.findClass RX2 = some m.cls := findClass_of_methodNamed B.named
  have hlocks := B.notSynchronized
  have hK := hC.1
  have hl := lv_entry ([.ref (g 1), .int (a1), .int (a2)]) (n := 4) (Nat.le_of_ble_eq_true rfl)
  rw [lg_entry_eq]
  generalize (lg_sl ([.ref (g 1), .int (a1), .int (a2)]) ++ List.replicate (4 - (lg_sl ([.ref (g 1), .int (a1), .int (a2)])).length) Slot.unset).toArray = ls at hl ⊢
  have hl : lv_has ls 4 [(0, .ref (g 1)), (1, .int (a1)), (2, .int (a2))] := hl
  unfold s_X2_hasTheLiving at hs
  refine lv_aload_n hx hb dX2_hasTheLiving_0 rfl (lv_at hl 0 rfl) ?_
  refine lv_iload_n hx hb dX2_hasTheLiving_1 rfl (lv_at hl 1 rfl) ?_
  refine lv_iload_n hx hb dX2_hasTheLiving_2 rfl (lv_at hl 2 rfl) ?_
  obtain ⟨v_1, h_1, hs⟩ := sp_b hs
  refine rd_i (va_runV (As := [.int (a1), .int (a2)]) (rest := []) ⟨hx, hb, hml, hown, hts⟩ (c_X2_contentOf l D ca g x a1 a2 h_1) (cwV 2 hts gX2_hasTheLiving_X2_contentOf rfl rfl rfl (by decide +kernel) ⟨Nat.le_of_ble_eq_true rfl, Nat.le_of_ble_eq_true rfl⟩) (rP_V (q := (RX2, TX2, 3)) hP hC 1 rfl rfl) rfl rfl hl.1 rfl (lv_room (Nat.le_of_ble_eq_true rfl)) dX2_hasTheLiving_3 ⟨Nat.zero_le _, Nat.zero_le _⟩) ?_
  refine lv_istore_n (lv' := [(3, .int (v_1)), (0, .ref (g 1)), (1, .int (a1)), (2, .int (a2))]) hx hb dX2_hasTheLiving_6 rfl hl (by decide) rfl (fun ls hl => ?_)
  refine lv_iload_n hx hb dX2_hasTheLiving_7 rfl (lv_at hl 0 rfl) ?_
  refine lv_iconst (v := 2) hx hb dX2_hasTheLiving_8 (by decide) ?_
  refine lv_icmp_eq (tgt := 17) hx hb dX2_hasTheLiving_9 (by decide) (fun c_2 => ?_) (fun c_2 => ?_)
  · have hs := sp_t c_2 hs
    refine lv_iconst (v := 1) hx hb dX2_hasTheLiving_17 (by decide) ?_
    refine lv_goto (tgt := 22) hx hb dX2_hasTheLiving_18 (by decide) ?_
    exact rt_z hx hb hr (by decide) hs dX2_hasTheLiving_22 hlocks
  · have hs := sp_f c_2 hs
    refine lv_iload_n hx hb dX2_hasTheLiving_12 rfl (lv_at hl 0 rfl) ?_
    refine lv_iconst (v := 3) hx hb dX2_hasTheLiving_13 (by decide) ?_
    refine lv_icmp_ne (tgt := 21) hx hb dX2_hasTheLiving_14 (by decide) (fun c_3 => ?_) (fun c_3 => ?_)
    · have hs := sp_f c_3 hs
      refine lv_iconst (v := 0) hx hb dX2_hasTheLiving_21 (by decide) ?_
      exact rt_z hx hb hr (by decide) hs dX2_hasTheLiving_22 hlocks
    · have hs := sp_t c_3 hs
      refine lv_iconst (v := 1) hx hb dX2_hasTheLiving_17 (by decide) ?_
      refine lv_goto (tgt := 22) hx hb dX2_hasTheLiving_18 (by decide) ?_
      exact rt_z hx hb hr (by decide) hs dX2_hasTheLiving_22 hlocks
def s_X4_isSetOfProjectors (x : XS) (a1 : Int32) : Option Int32 := (if a1 < 0 then some 0 else (if (1 <<< ((x.1 0 2) &&& 31)) ≤ a1 then some 0 else some 1))
set_option maxHeartbeats 4000000 in
set_option maxRecDepth 100000 in
theorem c_X4_isSetOfProjectors (l : Launch) (D : va_G) (ca : Nat → ClassId) (g : Nat → Nat) (x : XS) (a1 : Int32) {r : Int32} (hs : s_X4_isSetOfProjectors x a1 = some r) : Met l yX4_isSetOfProjectors wsX4_isSetOfProjectors ({ frames := 0, cells := 0, slots := 0, locals := 0 }) (rP [.ref (g 0), .int (a1)] D ca (wX g ca x)) (vp_Si (fun z => z = r)) 0 0 (fun _ => False) := by
  refine Met.ofW (cc := cX4_isSetOfProjectors) (maxL := 2) (ret := (some .boolean)) (by decide) rfl ?_
  intro p e s m args below meth c s₁ B hml hv
  obtain ⟨rfl, hP, hC⟩ := hv
  have hx := B.exec
  have hb := B.bytes
  have hr := B.returns
  have hts := atoms_spec (ws := wsX4_isSetOfProjectors) B.pre
  have hown : s.vm.findClass RX4 = some m.cls := findClass_of_methodNamed B.named
  have hlocks := B.notSynchronized
  have hK := hC.1
  have iX4 : ∀ w ∈ u_ws RX4 TX4 16, w ∈ wsX4_isSetOfProjectors := by decide +kernel
  have hl := lv_entry ([.ref (g 0), .int (a1)]) (n := 2) (Nat.le_of_ble_eq_true rfl)
  rw [lg_entry_eq]
  generalize (lg_sl ([.ref (g 0), .int (a1)]) ++ List.replicate (2 - (lg_sl ([.ref (g 0), .int (a1)])).length) Slot.unset).toArray = ls at hl ⊢
  have hl : lv_has ls 2 [(0, .ref (g 0)), (1, .int (a1))] := hl
  unfold s_X4_isSetOfProjectors at hs
  refine lv_iload_n hx hb dX4_isSetOfProjectors_0 rfl (lv_at hl 1 rfl) ?_
  refine lv_if_lt (tgt := 18) hx hb dX4_isSetOfProjectors_1 (by decide) (fun c_1 => ?_) (fun c_1 => ?_)
  · have hs := sp_t c_1 hs
    refine lv_iconst (v := 0) hx hb dX4_isSetOfProjectors_18 (by decide) ?_
    exact rt_z hx hb hr (by decide) hs dX4_isSetOfProjectors_19 hlocks
  · have hs := sp_f c_1 hs
    refine lv_iload_n hx hb dX4_isSetOfProjectors_4 rfl (lv_at hl 1 rfl) ?_
    refine lv_iconst (v := 1) hx hb dX4_isSetOfProjectors_5 (by decide) ?_
    refine lv_aload_n hx hb dX4_isSetOfProjectors_6 rfl (lv_at hl 0 rfl) ?_
    refine va_get (D := D) (ci := 4) (fs := fsX g (x)) (v := .int (x.1 0 2)) (C := RX4) (T := TX4) (N := 16) hx hb hts iX4 hown hK hP 0 rfl rfl 2 (by decide) (hts (.fieldLink RX4 22 "FacadeShow" "projectorCount" "I") (by decide +kernel)) (fun _ h9 => h9) rfl dX4_isSetOfProjectors_7 ?_
    refine lv_ishl hx hb dX4_isSetOfProjectors_10 ?_
    refine lv_icmp_ge (tgt := 18) hx hb dX4_isSetOfProjectors_11 (by decide) (fun c_2 => ?_) (fun c_2 => ?_)
    · have hs := sp_t c_2 hs
      refine lv_iconst (v := 0) hx hb dX4_isSetOfProjectors_18 (by decide) ?_
      exact rt_z hx hb hr (by decide) hs dX4_isSetOfProjectors_19 hlocks
    · have hs := sp_f c_2 hs
      refine lv_iconst (v := 1) hx hb dX4_isSetOfProjectors_14 (by decide) ?_
      refine lv_goto (tgt := 19) hx hb dX4_isSetOfProjectors_15 (by decide) ?_
      exact rt_z hx hb hr (by decide) hs dX4_isSetOfProjectors_19 hlocks
def s_X4_find (x : XS) (a1 : Int32) : Option (Option Nat) := (if a1 < 0 then some none else (if (x.1 0 2) ≤ a1 then some none else (if a1 < 10 then chk 10 a1 (if a1.toNatClampNeg < (x).2.2 then some (some (a1.toNatClampNeg)) else some none) else some none)))
set_option maxHeartbeats 4000000 in
set_option maxRecDepth 100000 in
theorem c_X4_find (l : Launch) (D : va_G) (ca : Nat → ClassId) (g : Nat → Nat) (x : XS) (a1 : Int32) {r : (Option Nat)} (hs : s_X4_find x a1 = some r) : Met l yX4_find wsX4_find ({ frames := 0, cells := 0, slots := 0, locals := 0 }) (rP [.ref (g 0), .int (a1)] D ca (wX g ca x)) (va_Se (adP g) (fun z => z = r)) 0 0 (fun _ => False) := by
  refine Met.ofW (cc := cX4_find) (maxL := 2) (ret := (some (.object "FacadeShow$Projector"))) (by decide) rfl ?_
  intro p e s m args below meth c s₁ B hml hv
  obtain ⟨rfl, hP, hC⟩ := hv
  have hx := B.exec
  have hb := B.bytes
  have hr := B.returns
  have hts := atoms_spec (ws := wsX4_find) B.pre
  have hown : s.vm.findClass RX4 = some m.cls := findClass_of_methodNamed B.named
  have hlocks := B.notSynchronized
  have hK := hC.1
  have iX4 : ∀ w ∈ u_ws RX4 TX4 16, w ∈ wsX4_find := by decide +kernel
  have hl := lv_entry ([.ref (g 0), .int (a1)]) (n := 2) (Nat.le_of_ble_eq_true rfl)
  rw [lg_entry_eq]
  generalize (lg_sl ([.ref (g 0), .int (a1)]) ++ List.replicate (2 - (lg_sl ([.ref (g 0), .int (a1)])).length) Slot.unset).toArray = ls at hl ⊢
  have hl : lv_has ls 2 [(0, .ref (g 0)), (1, .int (a1))] := hl
  unfold s_X4_find at hs
  refine lv_iload_n hx hb dX4_find_0 rfl (lv_at hl 1 rfl) ?_
  refine lv_if_lt (tgt := 21) hx hb dX4_find_1 (by decide) (fun c_1 => ?_) (fun c_1 => ?_)
  · have hs := sp_t c_1 hs
    refine lv_null hx hb dX4_find_21 ?_
    exact rt_qn hx hb hr (Or.inl ⟨_, rfl⟩) hs dX4_find_22 hlocks
  · have hs := sp_f c_1 hs
    refine lv_iload_n hx hb dX4_find_4 rfl (lv_at hl 1 rfl) ?_
    refine lv_aload_n hx hb dX4_find_5 rfl (lv_at hl 0 rfl) ?_
    refine va_get (D := D) (ci := 4) (fs := fsX g (x)) (v := .int (x.1 0 2)) (C := RX4) (T := TX4) (N := 16) hx hb hts iX4 hown hK hP 0 rfl rfl 2 (by decide) (hts (.fieldLink RX4 22 "FacadeShow" "projectorCount" "I") (by decide +kernel)) (fun _ h9 => h9) rfl dX4_find_6 ?_
    refine lv_icmp_ge (tgt := 21) hx hb dX4_find_9 (by decide) (fun c_2 => ?_) (fun c_2 => ?_)
    · have hs := sp_t c_2 hs
      refine lv_null hx hb dX4_find_21 ?_
      exact rt_qn hx hb hr (Or.inl ⟨_, rfl⟩) hs dX4_find_22 hlocks
    · have hs := sp_f c_2 hs
      refine lv_iload_n hx hb dX4_find_12 rfl (lv_at hl 1 rfl) ?_
      refine lv_aload_n hx hb dX4_find_13 rfl (lv_at hl 0 rfl) ?_
      refine va_get (D := D) (ci := 4) (fs := fsX g (x)) (v := .ref (g 2)) (C := RX4) (T := TX4) (N := 16) hx hb hts iX4 hown hK hP 0 rfl rfl 1 (by decide) (hts (.fieldLink RX4 18 "FacadeShow" "placed" "[LFacadeShow$Projector;") (by decide +kernel)) (fun _ h9 => h9) rfl dX4_find_14 ?_
      refine va_alen (D := D) (v := 10) hx hb hK hP 5 3 rfl rfl rfl dX4_find_17 ?_
      refine lv_icmp_lt (tgt := 23) hx hb dX4_find_18 (by decide) (fun c_3 => ?_) (fun c_3 => ?_)
      · have hs := sp_t c_3 hs
        refine lv_aload_n hx hb dX4_find_23 rfl (lv_at hl 0 rfl) ?_
        refine va_get (D := D) (ci := 4) (fs := fsX g (x)) (v := .ref (g 2)) (C := RX4) (T := TX4) (N := 16) hx hb hts iX4 hown hK hP 0 rfl rfl 1 (by decide) (hts (.fieldLink RX4 18 "FacadeShow" "placed" "[LFacadeShow$Projector;") (by decide +kernel)) (fun _ h9 => h9) rfl dX4_find_24 ?_
        refine lv_iload_n hx hb dX4_find_27 rfl (lv_at hl 1 rfl) ?_
        obtain ⟨h_4, hs⟩ := sp_c hs
        refine ld_P hx hb hK hP h_4 dX4_find_28 (fun c_5 => ?_) (fun c_5 => ?_)
        · have hs := sp_t c_5 hs
          exact rt_qs hx hb hr (Or.inl ⟨_, rfl⟩) hs dX4_find_29 hlocks
        · have hs := sp_f c_5 hs
          exact rt_qn hx hb hr (Or.inl ⟨_, rfl⟩) hs dX4_find_29 hlocks
      · have hs := sp_f c_3 hs
        refine lv_null hx hb dX4_find_21 ?_
        exact rt_qn hx hb hr (Or.inl ⟨_, rfl⟩) hs dX4_find_22 hlocks
def s_X4_findScene (x : XS) (a1 : Int32) : Option (Option Nat) := (if a1 < 0 then some none else (if 4 ≤ a1 then some none else (if a1 < 4 then chk 4 a1 (some (some (a1.toNatClampNeg))) else some none)))
set_option maxHeartbeats 4000000 in
set_option maxRecDepth 100000 in
theorem c_X4_findScene (l : Launch) (D : va_G) (ca : Nat → ClassId) (g : Nat → Nat) (x : XS) (a1 : Int32) {r : (Option Nat)} (hs : s_X4_findScene x a1 = some r) : Met l yX4_findScene wsX4_findScene ({ frames := 0, cells := 0, slots := 0, locals := 0 }) (rP [.ref (g 0), .int (a1)] D ca (wX g ca x)) (va_Se (adS g) (fun z => z = r)) 0 0 (fun _ => False) := by
  refine Met.ofW (cc := cX4_findScene) (maxL := 2) (ret := (some (.object "FacadeShow$Scene"))) (by decide) rfl ?_
  intro p e s m args below meth c s₁ B hml hv
  obtain ⟨rfl, hP, hC⟩ := hv
  have hx := B.exec
  have hb := B.bytes
  have hr := B.returns
  have hts := atoms_spec (ws := wsX4_findScene) B.pre
  have hown : s.vm.findClass RX4 = some m.cls := findClass_of_methodNamed B.named
  have hlocks := B.notSynchronized
  have hK := hC.1
  have iX4 : ∀ w ∈ u_ws RX4 TX4 16, w ∈ wsX4_findScene := by decide +kernel
  have hl := lv_entry ([.ref (g 0), .int (a1)]) (n := 2) (Nat.le_of_ble_eq_true rfl)
  rw [lg_entry_eq]
  generalize (lg_sl ([.ref (g 0), .int (a1)]) ++ List.replicate (2 - (lg_sl ([.ref (g 0), .int (a1)])).length) Slot.unset).toArray = ls at hl ⊢
  have hl : lv_has ls 2 [(0, .ref (g 0)), (1, .int (a1))] := hl
  unfold s_X4_findScene at hs
  refine lv_iload_n hx hb dX4_findScene_0 rfl (lv_at hl 1 rfl) ?_
  refine lv_if_lt (tgt := 18) hx hb dX4_findScene_1 (by decide) (fun c_1 => ?_) (fun c_1 => ?_)
  · have hs := sp_t c_1 hs
    refine lv_null hx hb dX4_findScene_18 ?_
    exact rt_qn hx hb hr (Or.inl ⟨_, rfl⟩) hs dX4_findScene_19 hlocks
  · have hs := sp_f c_1 hs
    refine lv_iload_n hx hb dX4_findScene_4 rfl (lv_at hl 1 rfl) ?_
    refine lv_iconst (v := 4) hx hb dX4_findScene_5 (by decide) ?_
    refine lv_icmp_ge (tgt := 18) hx hb dX4_findScene_6 (by decide) (fun c_2 => ?_) (fun c_2 => ?_)
    · have hs := sp_t c_2 hs
      refine lv_null hx hb dX4_findScene_18 ?_
      exact rt_qn hx hb hr (Or.inl ⟨_, rfl⟩) hs dX4_findScene_19 hlocks
    · have hs := sp_f c_2 hs
      refine lv_iload_n hx hb dX4_findScene_9 rfl (lv_at hl 1 rfl) ?_
      refine lv_aload_n hx hb dX4_findScene_10 rfl (lv_at hl 0 rfl) ?_
      refine va_get (D := D) (ci := 4) (fs := fsX g (x)) (v := .ref (g 5)) (C := RX4) (T := TX4) (N := 16) hx hb hts iX4 hown hK hP 0 rfl rfl 10 (by decide) (hts (.fieldLink RX4 55 "FacadeShow" "scenes" "[LFacadeShow$Scene;") (by decide +kernel)) (fun _ h9 => h9) rfl dX4_findScene_11 ?_
      refine va_alen (D := D) (v := 4) hx hb hK hP 10 4 rfl rfl rfl dX4_findScene_14 ?_
      refine lv_icmp_lt (tgt := 20) hx hb dX4_findScene_15 (by decide) (fun c_3 => ?_) (fun c_3 => ?_)
      · have hs := sp_t c_3 hs
        refine lv_aload_n hx hb dX4_findScene_20 rfl (lv_at hl 0 rfl) ?_
        refine va_get (D := D) (ci := 4) (fs := fsX g (x)) (v := .ref (g 5)) (C := RX4) (T := TX4) (N := 16) hx hb hts iX4 hown hK hP 0 rfl rfl 10 (by decide) (hts (.fieldLink RX4 55 "FacadeShow" "scenes" "[LFacadeShow$Scene;") (by decide +kernel)) (fun _ h9 => h9) rfl dX4_findScene_21 ?_
        refine lv_iload_n hx hb dX4_findScene_24 rfl (lv_at hl 1 rfl) ?_
        obtain ⟨h_4, hs⟩ := sp_c hs
        refine ld_S hx hb hK hP h_4 dX4_findScene_25 ?_
        exact rt_qs hx hb hr (Or.inl ⟨_, rfl⟩) hs dX4_findScene_26 hlocks
      · have hs := sp_f c_3 hs
        refine lv_null hx hb dX4_findScene_18 ?_
        exact rt_qn hx hb hr (Or.inl ⟨_, rfl⟩) hs dX4_findScene_19 hlocks
def s_X4_crossing (x : XS) (a1 : Nat) (a2 : Int32) (a3 : Int32) : Option Int32 := (s_X2_reliefOf x a2).bind fun v_1 => grd a1 (x).2.2 ((if ((x.1 21 a1) - v_1) < 1 then some (-1) else (if a3 ≤ v_1 then some (-1) else (if a3 < (x.1 21 a1) then dvz (2 * ((x.1 21 a1) - v_1)) (some (((2 * (((x.1 20 a1) * ((x.1 21 a1) - v_1)) + ((a2 - (x.1 20 a1)) * ((x.1 21 a1) - a3)))) + ((x.1 21 a1) - v_1)) / (2 * ((x.1 21 a1) - v_1)))) else some (-1)))))
set_option maxHeartbeats 4000000 in
set_option maxRecDepth 100000 in
theorem c_X4_crossing (l : Launch) (D : va_G) (ca : Nat → ClassId) (g : Nat → Nat) (x : XS) (a1 : Nat) (a2 : Int32) (a3 : Int32) {r : Int32} (hs : s_X4_crossing x a1 a2 a3 = some r) : Met l yX4_crossing wsX4_crossing ({ frames := 2, cells := 0, slots := 0, locals := 41 }) (rP [.ref (g 0), .ref (adP g a1), .int (a2), .int (a3)] D ca (wX g ca x)) (vp_Si (fun z => z = r)) 0 0 (fun _ => False) := by
  refine Met.ofW (cc := cX4_crossing) (maxL := 8) (ret := (some .int)) (by decide) rfl ?_
  intro p e s m args below meth c s₁ B hml hv
  obtain ⟨rfl, hP, hC⟩ := hv
  have hx := B.exec
  have hb := B.bytes
  have hr := B.returns
  have hts := atoms_spec (ws := wsX4_crossing) B.pre
  have hown : s.vm.findClass RX4 = some m.cls := findClass_of_methodNamed B.named
  have hlocks := B.notSynchronized
  have hK := hC.1
  have iX0 : ∀ w ∈ u_ws RX0 TX0 10, w ∈ wsX4_crossing := by decide +kernel
  have iX4 : ∀ w ∈ u_ws RX4 TX4 16, w ∈ wsX4_crossing := by decide +kernel
  have hl := lv_entry ([.ref (g 0), .ref (adP g a1), .int (a2), .int (a3)]) (n := 8) (Nat.le_of_ble_eq_true rfl)
  rw [lg_entry_eq]
  generalize (lg_sl ([.ref (g 0), .ref (adP g a1), .int (a2), .int (a3)]) ++ List.replicate (8 - (lg_sl ([.ref (g 0), .ref (adP g a1), .int (a2), .int (a3)])).length) Slot.unset).toArray = ls at hl ⊢
  have hl : lv_has ls 8 [(0, .ref (g 0)), (1, .ref (adP g a1)), (2, .int (a2)), (3, .int (a3))] := hl
  unfold s_X4_crossing at hs
  refine lv_aload_n hx hb dX4_crossing_0 rfl (lv_at hl 0 rfl) ?_
  refine va_get (D := D) (ci := 4) (fs := fsX g (x)) (v := .ref (g 1)) (C := RX4) (T := TX4) (N := 16) hx hb hts iX4 hown hK hP 0 rfl rfl 0 (by decide) (hts (.fieldLink RX4 10 "FacadeShow" "square" "LFacadeShow$Square;") (by decide +kernel)) (fun _ h9 => h9) rfl dX4_crossing_1 ?_
  refine lv_iload_n hx hb dX4_crossing_4 rfl (lv_at hl 2 rfl) ?_
  obtain ⟨v_1, h_1, hs⟩ := sp_b hs
  refine rd_i (va_runVN (As := [.int (a2)]) (rest := []) ⟨hx, hb, hml, hown, hts⟩ (c_X2_reliefOf l D ca g x a2 h_1) ⟨va_cnB 1 hts gX4_crossing_X2_reliefOf_n269 rfl rfl rfl (hC.2.1 _ nk_X4_269) (hts (.initialized RX2) (by decide +kernel)) (by decide +kernel) ⟨Nat.le_of_ble_eq_true rfl, Nat.le_of_ble_eq_true rfl⟩, hts (.instanceMethod yX2_reliefOf) (by decide +kernel), hts (.selects RX2 yX2_reliefOf yX2_reliefOf) (by decide +kernel)⟩ (rP_V (q := (RX2, TX2, 3)) hP hC 1 rfl rfl) rfl rfl hl.1 rfl (lv_room (Nat.le_of_ble_eq_true rfl)) dX4_crossing_5 ⟨Nat.zero_le _, Nat.zero_le _⟩) ?_
  refine lv_istore (lv' := [(4, .int (v_1)), (0, .ref (g 0)), (1, .ref (adP g a1)), (2, .int (a2)), (3, .int (a3))]) hx hb dX4_crossing_8 hl (by decide) rfl (fun ls hl => ?_)
  refine lv_aload_n hx hb dX4_crossing_10 rfl (lv_at hl 2 rfl) ?_
  obtain ⟨h_2, hs⟩ := sp_g hs
  refine va_getN (D := D) (ci := 0) (fs := fsP (x) a1) (v := .int (x.1 21 a1)) (C := RX0) (T := TX0) (N := 10) hx hb hts iX0 hown hK hP (15 + a1) (wX_proj h_2) rfl 1 (by decide) (va_Nw.use rfl (hC.2.1 _ nk_X4_272)) (fun _ h9 => h9) rfl dX4_crossing_11 ?_
  refine lv_iload hx hb dX4_crossing_14 (lv_at hl 0 rfl) ?_
  refine lv_isub hx hb dX4_crossing_16 ?_
  refine lv_istore (lv' := [(5, .int ((x.1 21 a1) - v_1)), (4, .int (v_1)), (0, .ref (g 0)), (1, .ref (adP g a1)), (2, .int (a2)), (3, .int (a3))]) hx hb dX4_crossing_17 hl (by decide) rfl (fun ls hl => ?_)
  refine lv_iload hx hb dX4_crossing_19 (lv_at hl 0 rfl) ?_
  refine lv_iconst (v := 1) hx hb dX4_crossing_21 (by decide) ?_
  refine lv_icmp_lt (tgt := 39) hx hb dX4_crossing_22 (by decide) (fun c_3 => ?_) (fun c_3 => ?_)
  · have hs := sp_t c_3 hs
    refine lv_iconst (v := -1) hx hb dX4_crossing_39 (by decide) ?_
    exact rt_i hx hb hr hs dX4_crossing_40 hlocks
  · have hs := sp_f c_3 hs
    refine lv_iload_n hx hb dX4_crossing_25 rfl (lv_at hl 5 rfl) ?_
    refine lv_iload hx hb dX4_crossing_26 (lv_at hl 1 rfl) ?_
    refine lv_icmp_le (tgt := 39) hx hb dX4_crossing_28 (by decide) (fun c_4 => ?_) (fun c_4 => ?_)
    · have hs := sp_t c_4 hs
      refine lv_iconst (v := -1) hx hb dX4_crossing_39 (by decide) ?_
      exact rt_i hx hb hr hs dX4_crossing_40 hlocks
    · have hs := sp_f c_4 hs
      refine lv_iload_n hx hb dX4_crossing_31 rfl (lv_at hl 5 rfl) ?_
      refine lv_aload_n hx hb dX4_crossing_32 rfl (lv_at hl 3 rfl) ?_
      refine va_getN (D := D) (ci := 0) (fs := fsP (x) a1) (v := .int (x.1 21 a1)) (C := RX0) (T := TX0) (N := 10) hx hb hts iX0 hown hK hP (15 + a1) (wX_proj h_2) rfl 1 (by decide) (va_Nw.use rfl (hC.2.1 _ nk_X4_272)) (fun _ h9 => h9) rfl dX4_crossing_33 ?_
      refine lv_icmp_lt (tgt := 41) hx hb dX4_crossing_36 (by decide) (fun c_5 => ?_) (fun c_5 => ?_)
      · have hs := sp_t c_5 hs
        refine lv_aload_n hx hb dX4_crossing_41 rfl (lv_at hl 3 rfl) ?_
        refine va_getN (D := D) (ci := 0) (fs := fsP (x) a1) (v := .int (x.1 21 a1)) (C := RX0) (T := TX0) (N := 10) hx hb hts iX0 hown hK hP (15 + a1) (wX_proj h_2) rfl 1 (by decide) (va_Nw.use rfl (hC.2.1 _ nk_X4_272)) (fun _ h9 => h9) rfl dX4_crossing_42 ?_
        refine lv_iload_n hx hb dX4_crossing_45 rfl (lv_at hl 5 rfl) ?_
        refine lv_isub hx hb dX4_crossing_46 ?_
        refine lv_istore (lv' := [(6, .int ((x.1 21 a1) - a3)), (5, .int ((x.1 21 a1) - v_1)), (4, .int (v_1)), (0, .ref (g 0)), (1, .ref (adP g a1)), (2, .int (a2)), (3, .int (a3))]) hx hb dX4_crossing_47 hl (by decide) rfl (fun ls hl => ?_)
        refine lv_aload_n hx hb dX4_crossing_49 rfl (lv_at hl 4 rfl) ?_
        refine va_getN (D := D) (ci := 0) (fs := fsP (x) a1) (v := .int (x.1 20 a1)) (C := RX0) (T := TX0) (N := 10) hx hb hts iX0 hown hK hP (15 + a1) (wX_proj h_2) rfl 0 (by decide) (va_Nw.use rfl (hC.2.1 _ nk_X4_275)) (fun _ h9 => h9) rfl dX4_crossing_50 ?_
        refine lv_iload hx hb dX4_crossing_53 (lv_at hl 1 rfl) ?_
        refine lv_imul hx hb dX4_crossing_55 ?_
        refine lv_iload_n hx hb dX4_crossing_56 rfl (lv_at hl 5 rfl) ?_
        refine lv_aload_n hx hb dX4_crossing_57 rfl (lv_at hl 4 rfl) ?_
        refine va_getN (D := D) (ci := 0) (fs := fsP (x) a1) (v := .int (x.1 20 a1)) (C := RX0) (T := TX0) (N := 10) hx hb hts iX0 hown hK hP (15 + a1) (wX_proj h_2) rfl 0 (by decide) (va_Nw.use rfl (hC.2.1 _ nk_X4_275)) (fun _ h9 => h9) rfl dX4_crossing_58 ?_
        refine lv_isub hx hb dX4_crossing_61 ?_
        refine lv_iload hx hb dX4_crossing_62 (lv_at hl 0 rfl) ?_
        refine lv_imul hx hb dX4_crossing_64 ?_
        refine lv_iadd hx hb dX4_crossing_65 ?_
        refine lv_istore (lv' := [(7, .int (((x.1 20 a1) * ((x.1 21 a1) - v_1)) + ((a2 - (x.1 20 a1)) * ((x.1 21 a1) - a3)))), (6, .int ((x.1 21 a1) - a3)), (5, .int ((x.1 21 a1) - v_1)), (4, .int (v_1)), (0, .ref (g 0)), (1, .ref (adP g a1)), (2, .int (a2)), (3, .int (a3))]) hx hb dX4_crossing_66 hl (by decide) rfl (fun ls hl => ?_)
        refine lv_iconst (v := 2) hx hb dX4_crossing_68 (by decide) ?_
        refine lv_iload hx hb dX4_crossing_69 (lv_at hl 0 rfl) ?_
        refine lv_imul hx hb dX4_crossing_71 ?_
        refine lv_iload hx hb dX4_crossing_72 (lv_at hl 2 rfl) ?_
        refine lv_iadd hx hb dX4_crossing_74 ?_
        refine lv_iconst (v := 2) hx hb dX4_crossing_75 (by decide) ?_
        refine lv_iload hx hb dX4_crossing_76 (lv_at hl 2 rfl) ?_
        refine lv_imul hx hb dX4_crossing_78 ?_
        obtain ⟨h_6, hs⟩ := sp_d hs
        refine lv_idiv hx hb dX4_crossing_79 h_6 ?_
        exact rt_i hx hb hr hs dX4_crossing_80 hlocks
      · have hs := sp_f c_5 hs
        refine lv_iconst (v := -1) hx hb dX4_crossing_39 (by decide) ?_
        exact rt_i hx hb hr hs dX4_crossing_40 hlocks
def s_X2_build (x : XS) (a1 : Int32) (a2 : Int32) (a3 : Int32) : Option XS := (s_X4_isColumn a1).bind fun v_1 => (if v_1 = 0 then some (x) else chk 16 a1 (chk 16 a1 (some (si (si (x) 6 a1.toNatClampNeg a2) 7 a1.toNatClampNeg a3))))
set_option maxHeartbeats 4000000 in
set_option maxRecDepth 100000 in
theorem c_X2_build (l : Launch) (D : va_G) (ca : Nat → ClassId) (g : Nat → Nat) (x : XS) (a1 : Int32) (a2 : Int32) (a3 : Int32) {r : XS} (hs : s_X2_build x a1 a2 a3 = some r) (sz : Nat) : Met l yX2_build wsX2_build ({ frames := 1, cells := 0, slots := 0, locals := 20 }) (wP [.ref (g 1), .int (a1), .int (a2), .int (a3)] D ca (wX g ca x) sz) (wQv D (wX g ca x) (wX g ca r) sz) 0 0 (va_A (wX g ca x) sz) := by
  refine Met.ofW (cc := cX2_build) (maxL := 4) (ret := none) (by decide) rfl ?_
  intro p e s m args below meth c s₁ B hml hv
  obtain ⟨rfl, hsz, hP, hC, hD0⟩ := hv
  have hx := B.exec
  have hb := B.bytes
  have hr := B.returns
  have hts := atoms_spec (ws := wsX2_build) B.pre
  have hown : s.vm.findClass RX2 = some m.cls := findClass_of_methodNamed B.named
  have hlocks := B.notSynchronized
  have hK := hC.1
  subst hsz
  have hD := hD0.self (sz := s.heap.size)
  generalize hAe : va_A (wX g ca x) s.heap.size = A at hD ⊢
  have hA : ∀ q : Nat, s.heap.size ≤ q → A q := fun q h => by rw [← hAe]; exact Or.inr h
  have hS : va_S A s.heap s.heap [] := va_S.rf
  skip
  have iX2 : ∀ w ∈ u_ws RX2 TX2 3, w ∈ wsX2_build := by decide +kernel
  have hl := lv_entry ([.ref (g 1), .int (a1), .int (a2), .int (a3)]) (n := 4) (Nat.le_of_ble_eq_true rfl)
  rw [lg_entry_eq]
  generalize (lg_sl ([.ref (g 1), .int (a1), .int (a2), .int (a3)]) ++ List.replicate (4 - (lg_sl ([.ref (g 1), .int (a1), .int (a2), .int (a3)])).length) Slot.unset).toArray = ls at hl ⊢
  have hl : lv_has ls 4 [(0, .ref (g 1)), (1, .int (a1)), (2, .int (a2)), (3, .int (a3))] := hl
  unfold s_X2_build at hs
  obtain ⟨H, hHe⟩ : ∃ H, H = s.heap := ⟨_, rfl⟩
  obtain ⟨locs, hle⟩ : ∃ z : List Loc, z = [] := ⟨_, rfl⟩
  have hP : va_P D vwCl (wX g ca x) H := by rw [hHe]; exact hP
  have hS : va_S A s.heap H locs := by rw [hHe, hle]; exact hS
  show W p l e (headSpec wsX2_build ({ frames := 1, cells := 0, slots := 0, locals := 20 })).room s m #[.ref (g 1), .int (a1), .int (a2), .int (a3)] below meth c s.heap [] 0 0 _ _
  have hgo : W p l e (headSpec wsX2_build ({ frames := 1, cells := 0, slots := 0, locals := 20 })).room s m #[.ref (g 1), .int (a1), .int (a2), .int (a3)] below meth c H locs 0 0 (MQ below (wQv D (wX g ca x) (wX g ca r) s.heap.size) #[.ref (g 1), .int (a1), .int (a2), .int (a3)] s 0 0 A) (F0 m 0 ls []) := by
    refine lv_iload_n hx hb dX2_build_0 rfl (lv_at hl 1 rfl) ?_
    obtain ⟨v_1, h_1, hs⟩ := sp_b hs
    refine rd_i (va_runSN (As := [.int (a1)]) (rest := []) ⟨hx, hb, hml, hown, hts⟩ (c_X4_isColumn l D ca a1 h_1) ⟨va_cnB 1 hts gX2_build_X4_isColumn_n21 rfl rfl rfl (hC.2.1 _ nk_X2_21) (hts (.initialized RX4) (by decide +kernel)) (by decide +kernel) ⟨Nat.le_of_ble_eq_true rfl, Nat.le_of_ble_eq_true rfl⟩, hts (.static yX4_isColumn) (by decide +kernel), trivial⟩ (rP_S va_P_nil hC) rfl rfl hl.1 rfl (lv_room (Nat.le_of_ble_eq_true rfl)) dX2_build_1 ⟨Nat.zero_le _, Nat.zero_le _⟩) ?_
    refine lv_if_eq (tgt := 21) hx hb dX2_build_4 (by decide) (fun c_2 => ?_) (fun c_2 => ?_)
    · have hs := sp_t c_2 hs
      exact wt_v (f := wX g ca) hx hb hr hAe hs hP hD hS dX2_build_21 hlocks
    · have hs := sp_f c_2 hs
      refine lv_aload_n hx hb dX2_build_7 rfl (lv_at hl 0 rfl) ?_
      refine va_get (D := D) (ci := 2) (fs := [.ref (g 6), .ref (g 7), .ref (g 8)]) (v := .ref (g 6)) (C := RX2) (T := TX2) (N := 3) hx hb hts iX2 hown hK hP 1 rfl rfl 0 (by decide) (hts (.fieldLink RX2 9 "FacadeShow$Square" "reliefs" "[I") (by decide +kernel)) (fun _ h9 => h9) rfl dX2_build_8 ?_
      refine lv_iload_n hx hb dX2_build_11 rfl (lv_at hl 1 rfl) ?_
      refine lv_iload_n hx hb dX2_build_12 rfl (lv_at hl 2 rfl) ?_
      obtain ⟨h_3, hs⟩ := sp_c hs
      refine va_iast (D := D) (cA := ca 0) (n := 16) (f := (x).1 6) hx hb hK hP hD hS 2 0 rfl rfl h_3 dX2_build_13 (fun H locs hP hD hS => ?_)
      rw [wX_a6] at hP hD
      refine lv_aload_n hx hb dX2_build_14 rfl (lv_at hl 0 rfl) ?_
      refine va_get (D := D) (ci := 2) (fs := [.ref (g 6), .ref (g 7), .ref (g 8)]) (v := .ref (g 7)) (C := RX2) (T := TX2) (N := 3) hx hb hts iX2 hown hK hP 1 rfl rfl 1 (by decide) (hts (.fieldLink RX2 15 "FacadeShow$Square" "surfaces" "[I") (by decide +kernel)) (fun _ h9 => h9) rfl dX2_build_15 ?_
      refine lv_iload_n hx hb dX2_build_18 rfl (lv_at hl 1 rfl) ?_
      refine lv_iload_n hx hb dX2_build_19 rfl (lv_at hl 3 rfl) ?_
      obtain ⟨h_4, hs⟩ := sp_c hs
      refine va_iast (D := D) (cA := ca 0) (n := 16) (f := (si (x) 6 a1.toNatClampNeg a2).1 7) hx hb hK hP hD hS 3 0 rfl rfl h_4 dX2_build_20 (fun H locs hP hD hS => ?_)
      rw [wX_a7] at hP hD
      exact wt_v (f := wX g ca) hx hb hr hAe hs hP hD hS dX2_build_21 hlocks
  rw [hHe, hle] at hgo
  exact hgo
def s_X2_put (x : XS) (a1 : Int32) (a2 : Int32) (a3 : Int32) : Option XS := (s_X2_isCell a1 a2).bind fun v_1 => (if v_1 = 0 then some (x) else chk 192 ((a1 * 12) + a2) (some (si (x) 8 ((a1 * 12) + a2).toNatClampNeg a3)))
set_option maxHeartbeats 4000000 in
set_option maxRecDepth 100000 in
theorem c_X2_put (l : Launch) (D : va_G) (ca : Nat → ClassId) (g : Nat → Nat) (x : XS) (a1 : Int32) (a2 : Int32) (a3 : Int32) {r : XS} (hs : s_X2_put x a1 a2 a3 = some r) (sz : Nat) : Met l yX2_put wsX2_put ({ frames := 1, cells := 0, slots := 0, locals := 21 }) (wP [.ref (g 1), .int (a1), .int (a2), .int (a3)] D ca (wX g ca x) sz) (wQv D (wX g ca x) (wX g ca r) sz) 0 0 (va_A (wX g ca x) sz) := by
  refine Met.ofW (cc := cX2_put) (maxL := 4) (ret := none) (by decide) rfl ?_
  intro p e s m args below meth c s₁ B hml hv
  obtain ⟨rfl, hsz, hP, hC, hD0⟩ := hv
  have hx := B.exec
  have hb := B.bytes
  have hr := B.returns
  have hts := atoms_spec (ws := wsX2_put) B.pre
  have hown : s.vm.findClass RX2 = some m.cls := findClass_of_methodNamed B.named
  have hlocks := B.notSynchronized
  have hK := hC.1
  subst hsz
  have hD := hD0.self (sz := s.heap.size)
  generalize hAe : va_A (wX g ca x) s.heap.size = A at hD ⊢
  have hA : ∀ q : Nat, s.heap.size ≤ q → A q := fun q h => by rw [← hAe]; exact Or.inr h
  have hS : va_S A s.heap s.heap [] := va_S.rf
  skip
  have iX2 : ∀ w ∈ u_ws RX2 TX2 3, w ∈ wsX2_put := by decide +kernel
  have hl := lv_entry ([.ref (g 1), .int (a1), .int (a2), .int (a3)]) (n := 4) (Nat.le_of_ble_eq_true rfl)
  rw [lg_entry_eq]
  generalize (lg_sl ([.ref (g 1), .int (a1), .int (a2), .int (a3)]) ++ List.replicate (4 - (lg_sl ([.ref (g 1), .int (a1), .int (a2), .int (a3)])).length) Slot.unset).toArray = ls at hl ⊢
  have hl : lv_has ls 4 [(0, .ref (g 1)), (1, .int (a1)), (2, .int (a2)), (3, .int (a3))] := hl
  unfold s_X2_put at hs
  obtain ⟨H, hHe⟩ : ∃ H, H = s.heap := ⟨_, rfl⟩
  obtain ⟨locs, hle⟩ : ∃ z : List Loc, z = [] := ⟨_, rfl⟩
  have hP : va_P D vwCl (wX g ca x) H := by rw [hHe]; exact hP
  have hS : va_S A s.heap H locs := by rw [hHe, hle]; exact hS
  show W p l e (headSpec wsX2_put ({ frames := 1, cells := 0, slots := 0, locals := 21 })).room s m #[.ref (g 1), .int (a1), .int (a2), .int (a3)] below meth c s.heap [] 0 0 _ _
  have hgo : W p l e (headSpec wsX2_put ({ frames := 1, cells := 0, slots := 0, locals := 21 })).room s m #[.ref (g 1), .int (a1), .int (a2), .int (a3)] below meth c H locs 0 0 (MQ below (wQv D (wX g ca x) (wX g ca r) s.heap.size) #[.ref (g 1), .int (a1), .int (a2), .int (a3)] s 0 0 A) (F0 m 0 ls []) := by
    refine lv_iload_n hx hb dX2_put_0 rfl (lv_at hl 1 rfl) ?_
    refine lv_iload_n hx hb dX2_put_1 rfl (lv_at hl 2 rfl) ?_
    obtain ⟨v_1, h_1, hs⟩ := sp_b hs
    refine rd_i (va_runS (As := [.int (a1), .int (a2)]) (rest := []) ⟨hx, hb, hml, hown, hts⟩ (c_X2_isCell l D ca a1 a2 h_1) (va_cwS 2 hts gX2_put_X2_isCell rfl rfl rfl (by decide +kernel) ⟨Nat.le_of_ble_eq_true rfl, Nat.le_of_ble_eq_true rfl⟩) (rP_S va_P_nil hC) rfl rfl hl.1 rfl (lv_room (Nat.le_of_ble_eq_true rfl)) dX2_put_2 ⟨Nat.zero_le _, Nat.zero_le _⟩) ?_
    refine lv_if_eq (tgt := 20) hx hb dX2_put_5 (by decide) (fun c_2 => ?_) (fun c_2 => ?_)
    · have hs := sp_t c_2 hs
      exact wt_v (f := wX g ca) hx hb hr hAe hs hP hD hS dX2_put_20 hlocks
    · have hs := sp_f c_2 hs
      refine lv_aload_n hx hb dX2_put_8 rfl (lv_at hl 0 rfl) ?_
      refine va_get (D := D) (ci := 2) (fs := [.ref (g 6), .ref (g 7), .ref (g 8)]) (v := .ref (g 8)) (C := RX2) (T := TX2) (N := 3) hx hb hts iX2 hown hK hP 1 rfl rfl 2 (by decide) (hts (.fieldLink RX2 18 "FacadeShow$Square" "contents" "[I") (by decide +kernel)) (fun _ h9 => h9) rfl dX2_put_9 ?_
      refine lv_iload_n hx hb dX2_put_12 rfl (lv_at hl 1 rfl) ?_
      refine lv_bipush (v := 12) hx hb dX2_put_13 (by decide) ?_
      refine lv_imul hx hb dX2_put_15 ?_
      refine lv_iload_n hx hb dX2_put_16 rfl (lv_at hl 2 rfl) ?_
      refine lv_iadd hx hb dX2_put_17 ?_
      refine lv_iload_n hx hb dX2_put_18 rfl (lv_at hl 3 rfl) ?_
      obtain ⟨h_3, hs⟩ := sp_c hs
      refine va_iast (D := D) (cA := ca 0) (n := 192) (f := (x).1 8) hx hb hK hP hD hS 4 0 rfl rfl h_3 dX2_put_19 (fun H locs hP hD hS => ?_)
      rw [wX_a8] at hP hD
      exact wt_v (f := wX g ca) hx hb hr hAe hs hP hD hS dX2_put_20 hlocks
  rw [hHe, hle] at hgo
  exact hgo
def s_X3_note_b39 (a1 : Int32) (a2 : Int32) (a3 : Int32) (a4 : Int32) (xx : XS) (p5 : Int32) (q0 : Int32) : Option XS := (if q0 = 0 then chk 16 a1 (chk 16 a1 (some (si (xx) 10 a1.toNatClampNeg ((xx.1 10 a1.toNatClampNeg) &&& (p5 ^^^ (-1)))))) else chk 16 a1 (chk 16 a1 (some (si (xx) 10 a1.toNatClampNeg ((xx.1 10 a1.toNatClampNeg) ||| p5)))))
def s_X3_note (x : XS) (a1 : Int32) (a2 : Int32) (a3 : Int32) (a4 : Int32) : Option XS := (s_X3_isPlace a1 a2).bind fun v_6 => (if v_6 = 0 then some (x) else chk 160 ((a1 * 10) + a2) ((if a3 ≤ 0 then s_X3_note_b39 a1 a2 a3 a4  (si (x) 9 ((a1 * 10) + a2).toNatClampNeg a3) (1 <<< (a2 &&& 31)) (0) else (if a4 = 0 then s_X3_note_b39 a1 a2 a3 a4  (si (x) 9 ((a1 * 10) + a2).toNatClampNeg a3) (1 <<< (a2 &&& 31)) (1) else s_X3_note_b39 a1 a2 a3 a4  (si (x) 9 ((a1 * 10) + a2).toNatClampNeg a3) (1 <<< (a2 &&& 31)) (0)))))
set_option maxHeartbeats 4000000 in
set_option maxRecDepth 100000 in
theorem c_X3_note (l : Launch) (D : va_G) (ca : Nat → ClassId) (g : Nat → Nat) (x : XS) (a1 : Int32) (a2 : Int32) (a3 : Int32) (a4 : Int32) {r : XS} (hs : s_X3_note x a1 a2 a3 a4 = some r) (sz : Nat) : Met l yX3_note wsX3_note ({ frames := 2, cells := 0, slots := 0, locals := 41 }) (wP [.ref (g 4), .int (a1), .int (a2), .int (a3), .int (a4)] D ca (wX g ca x) sz) (wQv D (wX g ca x) (wX g ca r) sz) 0 0 (va_A (wX g ca x) sz) := by
  refine Met.ofW (cc := cX3_note) (maxL := 7) (ret := none) (by decide) rfl ?_
  intro p e s m args below meth c s₁ B hml hv
  obtain ⟨rfl, hsz, hP, hC, hD0⟩ := hv
  have hx := B.exec
  have hb := B.bytes
  have hr := B.returns
  have hts := atoms_spec (ws := wsX3_note) B.pre
  have hown : s.vm.findClass RX3 = some m.cls := findClass_of_methodNamed B.named
  have hlocks := B.notSynchronized
  have hK := hC.1
  subst hsz
  have hD := hD0.self (sz := s.heap.size)
  generalize hAe : va_A (wX g ca x) s.heap.size = A at hD ⊢
  have hA : ∀ q : Nat, s.heap.size ≤ q → A q := fun q h => by rw [← hAe]; exact Or.inr h
  have hS : va_S A s.heap s.heap [] := va_S.rf
  skip
  have iX3 : ∀ w ∈ u_ws RX3 TX3 2, w ∈ wsX3_note := by decide +kernel
  have hl := lv_entry ([.ref (g 4), .int (a1), .int (a2), .int (a3), .int (a4)]) (n := 7) (Nat.le_of_ble_eq_true rfl)
  rw [lg_entry_eq]
  generalize (lg_sl ([.ref (g 4), .int (a1), .int (a2), .int (a3), .int (a4)]) ++ List.replicate (7 - (lg_sl ([.ref (g 4), .int (a1), .int (a2), .int (a3), .int (a4)])).length) Slot.unset).toArray = ls at hl ⊢
  have hl : lv_has ls 7 [(0, .ref (g 4)), (1, .int (a1)), (2, .int (a2)), (3, .int (a3)), (4, .int (a4))] := hl
  have b39 : ∀ (xx : XS) (p5 : Int32) (q0 : Int32), s_X3_note_b39 a1 a2 a3 a4 xx p5 q0 = some r → ∀ (H : Heap) (locs : List Loc), va_P D vwCl (wX g ca xx) H → va_D A (wX g ca xx) → va_S A s.heap H locs → ∀ (ls : Array Slot), lv_has ls 7 [(0, .ref (g 4)), (1, .int (a1)), (5, .int (p5))] → W p l e (headSpec wsX3_note ({ frames := 2, cells := 0, slots := 0, locals := 41 })).room s m #[.ref (g 4), .int (a1), .int (a2), .int (a3), .int (a4)] below meth c H locs 0 0 (MQ below (wQv D (wX g ca x) (wX g ca r) s.heap.size) #[.ref (g 4), .int (a1), .int (a2), .int (a3), .int (a4)] s 0 0 A) (F0 m 39 ls [.int (q0)]) := by
    intro xx p5 q0 hs H locs hP hD hS ls hl
    unfold s_X3_note_b39 at hs
    refine lv_istore (lv' := [(6, .int (q0)), (0, .ref (g 4)), (1, .int (a1)), (5, .int (p5))]) hx hb dX3_note_39 hl (by decide) rfl (fun ls hl => ?_)
    refine lv_aload_n hx hb dX3_note_41 rfl (lv_at hl 1 rfl) ?_
    refine va_get (D := D) (ci := 3) (fs := [.ref (g 9), .ref (g 10)]) (v := .ref (g 10)) (C := RX3) (T := TX3) (N := 2) hx hb hts iX3 hown hK hP 7 rfl rfl 1 (by decide) (hts (.fieldLink RX3 15 "FacadeShow$Survey" "blurring" "[I") (by decide +kernel)) (fun _ h9 => h9) rfl dX3_note_42 ?_
    refine lv_iload_n hx hb dX3_note_45 rfl (lv_at hl 2 rfl) ?_
    refine lv_iload hx hb dX3_note_46 (lv_at hl 0 rfl) ?_
    refine lv_if_eq (tgt := 63) hx hb dX3_note_48 (by decide) (fun c_1 => ?_) (fun c_1 => ?_)
    · have hs := sp_t c_1 hs
      refine lv_aload_n hx hb dX3_note_63 rfl (lv_at hl 1 rfl) ?_
      refine va_get (D := D) (ci := 3) (fs := [.ref (g 9), .ref (g 10)]) (v := .ref (g 10)) (C := RX3) (T := TX3) (N := 2) hx hb hts iX3 hown hK hP 7 rfl rfl 1 (by decide) (hts (.fieldLink RX3 15 "FacadeShow$Survey" "blurring" "[I") (by decide +kernel)) (fun _ h9 => h9) rfl dX3_note_64 ?_
      refine lv_iload_n hx hb dX3_note_67 rfl (lv_at hl 2 rfl) ?_
      obtain ⟨h_2, hs⟩ := sp_c hs
      refine va_iald (D := D) (cA := ca 0) (n := 16) (f := (xx).1 10) hx hb hK hP 9 0 rfl rfl h_2 dX3_note_68 ?_
      refine lv_iload hx hb dX3_note_69 (lv_at hl 3 rfl) ?_
      refine lv_iconst (v := -1) hx hb dX3_note_71 (by decide) ?_
      refine lv_ixor hx hb dX3_note_72 ?_
      refine lv_iand hx hb dX3_note_73 ?_
      obtain ⟨h_3, hs⟩ := sp_c hs
      refine va_iast (D := D) (cA := ca 0) (n := 16) (f := (xx).1 10) hx hb hK hP hD hS 9 0 rfl rfl h_3 dX3_note_74 (fun H locs hP hD hS => ?_)
      rw [wX_a10] at hP hD
      exact wt_v (f := wX g ca) hx hb hr hAe hs hP hD hS dX3_note_75 hlocks
    · have hs := sp_f c_1 hs
      refine lv_aload_n hx hb dX3_note_51 rfl (lv_at hl 1 rfl) ?_
      refine va_get (D := D) (ci := 3) (fs := [.ref (g 9), .ref (g 10)]) (v := .ref (g 10)) (C := RX3) (T := TX3) (N := 2) hx hb hts iX3 hown hK hP 7 rfl rfl 1 (by decide) (hts (.fieldLink RX3 15 "FacadeShow$Survey" "blurring" "[I") (by decide +kernel)) (fun _ h9 => h9) rfl dX3_note_52 ?_
      refine lv_iload_n hx hb dX3_note_55 rfl (lv_at hl 2 rfl) ?_
      obtain ⟨h_4, hs⟩ := sp_c hs
      refine va_iald (D := D) (cA := ca 0) (n := 16) (f := (xx).1 10) hx hb hK hP 9 0 rfl rfl h_4 dX3_note_56 ?_
      refine lv_iload hx hb dX3_note_57 (lv_at hl 3 rfl) ?_
      refine lv_ior hx hb dX3_note_59 ?_
      refine lv_goto (tgt := 74) hx hb dX3_note_60 (by decide) ?_
      obtain ⟨h_5, hs⟩ := sp_c hs
      refine va_iast (D := D) (cA := ca 0) (n := 16) (f := (xx).1 10) hx hb hK hP hD hS 9 0 rfl rfl h_5 dX3_note_74 (fun H locs hP hD hS => ?_)
      rw [wX_a10] at hP hD
      exact wt_v (f := wX g ca) hx hb hr hAe hs hP hD hS dX3_note_75 hlocks
  unfold s_X3_note at hs
  obtain ⟨H, hHe⟩ : ∃ H, H = s.heap := ⟨_, rfl⟩
  obtain ⟨locs, hle⟩ : ∃ z : List Loc, z = [] := ⟨_, rfl⟩
  have hP : va_P D vwCl (wX g ca x) H := by rw [hHe]; exact hP
  have hS : va_S A s.heap H locs := by rw [hHe, hle]; exact hS
  show W p l e (headSpec wsX3_note ({ frames := 2, cells := 0, slots := 0, locals := 41 })).room s m #[.ref (g 4), .int (a1), .int (a2), .int (a3), .int (a4)] below meth c s.heap [] 0 0 _ _
  have hgo : W p l e (headSpec wsX3_note ({ frames := 2, cells := 0, slots := 0, locals := 41 })).room s m #[.ref (g 4), .int (a1), .int (a2), .int (a3), .int (a4)] below meth c H locs 0 0 (MQ below (wQv D (wX g ca x) (wX g ca r) s.heap.size) #[.ref (g 4), .int (a1), .int (a2), .int (a3), .int (a4)] s 0 0 A) (F0 m 0 ls []) := by
    refine lv_iload_n hx hb dX3_note_0 rfl (lv_at hl 1 rfl) ?_
    refine lv_iload_n hx hb dX3_note_1 rfl (lv_at hl 2 rfl) ?_
    obtain ⟨v_6, h_6, hs⟩ := sp_b hs
    refine rd_i (va_runS (As := [.int (a1), .int (a2)]) (rest := []) ⟨hx, hb, hml, hown, hts⟩ (c_X3_isPlace l D ca a1 a2 h_6) (va_cwS 2 hts gX3_note_X3_isPlace rfl rfl rfl (by decide +kernel) ⟨Nat.le_of_ble_eq_true rfl, Nat.le_of_ble_eq_true rfl⟩) (rP_S va_P_nil hC) rfl rfl hl.1 rfl (lv_room (Nat.le_of_ble_eq_true rfl)) dX3_note_2 ⟨Nat.zero_le _, Nat.zero_le _⟩) ?_
    refine lv_if_eq (tgt := 75) hx hb dX3_note_5 (by decide) (fun c_7 => ?_) (fun c_7 => ?_)
    · have hs := sp_t c_7 hs
      exact wt_v (f := wX g ca) hx hb hr hAe hs hP hD hS dX3_note_75 hlocks
    · have hs := sp_f c_7 hs
      refine lv_iconst (v := 1) hx hb dX3_note_8 (by decide) ?_
      refine lv_iload_n hx hb dX3_note_9 rfl (lv_at hl 2 rfl) ?_
      refine lv_ishl hx hb dX3_note_10 ?_
      refine lv_istore (lv' := [(5, .int (1 <<< (a2 &&& 31))), (0, .ref (g 4)), (1, .int (a1)), (2, .int (a2)), (3, .int (a3)), (4, .int (a4))]) hx hb dX3_note_11 hl (by decide) rfl (fun ls hl => ?_)
      refine lv_aload_n hx hb dX3_note_13 rfl (lv_at hl 1 rfl) ?_
      refine va_get (D := D) (ci := 3) (fs := [.ref (g 9), .ref (g 10)]) (v := .ref (g 9)) (C := RX3) (T := TX3) (N := 2) hx hb hts iX3 hown hK hP 7 rfl rfl 0 (by decide) (hts (.fieldLink RX3 9 "FacadeShow$Survey" "lights" "[I") (by decide +kernel)) (fun _ h9 => h9) rfl dX3_note_14 ?_
      refine lv_iload_n hx hb dX3_note_17 rfl (lv_at hl 2 rfl) ?_
      refine lv_bipush (v := 10) hx hb dX3_note_18 (by decide) ?_
      refine lv_imul hx hb dX3_note_20 ?_
      refine lv_iload_n hx hb dX3_note_21 rfl (lv_at hl 3 rfl) ?_
      refine lv_iadd hx hb dX3_note_22 ?_
      refine lv_iload_n hx hb dX3_note_23 rfl (lv_at hl 4 rfl) ?_
      obtain ⟨h_8, hs⟩ := sp_c hs
      refine va_iast (D := D) (cA := ca 0) (n := 160) (f := (x).1 9) hx hb hK hP hD hS 8 0 rfl rfl h_8 dX3_note_24 (fun H locs hP hD hS => ?_)
      rw [wX_a9] at hP hD
      refine lv_iload_n hx hb dX3_note_25 rfl (lv_at hl 4 rfl) ?_
      refine lv_if_le (tgt := 38) hx hb dX3_note_26 (by decide) (fun c_9 => ?_) (fun c_9 => ?_)
      · have hs := sp_t c_9 hs
        refine lv_iconst (v := 0) hx hb dX3_note_38 (by decide) ?_
        exact b39  (si (x) 9 ((a1 * 10) + a2).toNatClampNeg a3) (1 <<< (a2 &&& 31)) (0) hs H locs hP hD hS ls (lv_sub hl [1, 2, 0] rfl)
      · have hs := sp_f c_9 hs
        refine lv_iload hx hb dX3_note_29 (lv_at hl 5 rfl) ?_
        refine lv_if_ne (tgt := 38) hx hb dX3_note_31 (by decide) (fun c_10 => ?_) (fun c_10 => ?_)
        · have hs := sp_f c_10 hs
          refine lv_iconst (v := 0) hx hb dX3_note_38 (by decide) ?_
          exact b39  (si (x) 9 ((a1 * 10) + a2).toNatClampNeg a3) (1 <<< (a2 &&& 31)) (0) hs H locs hP hD hS ls (lv_sub hl [1, 2, 0] rfl)
        · have hs := sp_t c_10 hs
          refine lv_iconst (v := 1) hx hb dX3_note_34 (by decide) ?_
          refine lv_goto (tgt := 39) hx hb dX3_note_35 (by decide) ?_
          exact b39  (si (x) 9 ((a1 * 10) + a2).toNatClampNeg a3) (1 <<< (a2 &&& 31)) (1) hs H locs hP hD hS ls (lv_sub hl [1, 2, 0] rfl)
  rw [hHe, hle] at hgo
  exact hgo
