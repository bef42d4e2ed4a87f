def s_X5_in (a0 : Int32) (a1 : Int32) (a2 : Int32) : Option Int32 := (if a0 < a1 then some 0 else (if a2 < a0 then some 0 else some 1))
set_option maxHeartbeats 4000000 in
set_option maxRecDepth 100000 in
theorem c_X5_in (l : Launch) (D : va_G) (ca : Nat → ClassId) (a0 : Int32) (a1 : Int32) (a2 : Int32) {r : Int32} (hs : s_X5_in a0 a1 a2 = some r) : Met l yX5_in wsX5_in ({ frames := 0, cells := 0, slots := 0, locals := 0 }) (rP [.int (a0), .int (a1), .int (a2)] D ca []) (vp_Si (fun z => z = r)) 0 0 (fun _ => False) := by
  refine Met.ofW (cc := cX5_in) (maxL := 3) (ret := (some .boolean)) (by decide) rfl ?_
  intro p e s m args below meth c s₁ B hml hv
  obtain ⟨rfl, hP, hC⟩ := hv
  have hx := B.exec
  have hb := B.bytes
  have hr := B.returns
  have hts := atoms_spec (ws := wsX5_in) B.pre
  have hown : s.vm.findClass RX5 = some m.cls := findClass_of_methodNamed B.named
  have hlocks := B.notSynchronized
  have hK := hC.1
  have hl := lv_entry ([.int (a0), .int (a1), .int (a2)]) (n := 3) (Nat.le_of_ble_eq_true rfl)
  rw [lg_entry_eq]
  generalize (lg_sl ([.int (a0), .int (a1), .int (a2)]) ++ List.replicate (3 - (lg_sl ([.int (a0), .int (a1), .int (a2)])).length) Slot.unset).toArray = ls at hl ⊢
  have hl : lv_has ls 3 [(0, .int (a0)), (1, .int (a1)), (2, .int (a2))] := hl
  unfold s_X5_in at hs
  refine lv_iload_n hx hb dX5_in_0 rfl (lv_at hl 0 rfl) ?_
  refine lv_iload_n hx hb dX5_in_1 rfl (lv_at hl 1 rfl) ?_
  refine lv_icmp_lt (tgt := 14) hx hb dX5_in_2 (by decide) (fun c_1 => ?_) (fun c_1 => ?_)
  · have hs := sp_t c_1 hs
    refine lv_iconst (v := 0) hx hb dX5_in_14 (by decide) ?_
    exact rt_z hx hb hr (by decide) hs dX5_in_15 hlocks
  · have hs := sp_f c_1 hs
    refine lv_iload_n hx hb dX5_in_5 rfl (lv_at hl 0 rfl) ?_
    refine lv_iload_n hx hb dX5_in_6 rfl (lv_at hl 2 rfl) ?_
    refine lv_icmp_gt (tgt := 14) hx hb dX5_in_7 (by decide) (fun c_2 => ?_) (fun c_2 => ?_)
    · have hs := sp_t c_2 hs
      refine lv_iconst (v := 0) hx hb dX5_in_14 (by decide) ?_
      exact rt_z hx hb hr (by decide) hs dX5_in_15 hlocks
    · have hs := sp_f c_2 hs
      refine lv_iconst (v := 1) hx hb dX5_in_10 (by decide) ?_
      refine lv_goto (tgt := 15) hx hb dX5_in_11 (by decide) ?_
      exact rt_z hx hb hr (by decide) hs dX5_in_15 hlocks
def s_X5_isColumn (a0 : Int32) : Option Int32 := (s_X5_in a0 0 15).bind fun v_1 => zb v_1 (some (v_1))
set_option maxHeartbeats 4000000 in
set_option maxRecDepth 100000 in
theorem c_X5_isColumn (l : Launch) (D : va_G) (ca : Nat → ClassId) (a0 : Int32) {r : Int32} (hs : s_X5_isColumn a0 = some r) : Met l yX5_isColumn wsX5_isColumn ({ frames := 1, cells := 0, slots := 0, locals := 22 }) (rP [.int (a0)] D ca []) (vp_Si (fun z => z = r)) 0 0 (fun _ => False) := by
  refine Met.ofW (cc := cX5_isColumn) (maxL := 1) (ret := (some .boolean)) (by decide) rfl ?_
  intro p e s m args below meth c s₁ B hml hv
  obtain ⟨rfl, hP, hC⟩ := hv
  have hx := B.exec
  have hb := B.bytes
  have hr := B.returns
  have hts := atoms_spec (ws := wsX5_isColumn) B.pre
  have hown : s.vm.findClass RX5 = some m.cls := findClass_of_methodNamed B.named
  have hlocks := B.notSynchronized
  have hK := hC.1
  have hl := lv_entry ([.int (a0)]) (n := 1) (Nat.le_of_ble_eq_true rfl)
  rw [lg_entry_eq]
  generalize (lg_sl ([.int (a0)]) ++ List.replicate (1 - (lg_sl ([.int (a0)])).length) Slot.unset).toArray = ls at hl ⊢
  have hl : lv_has ls 1 [(0, .int (a0))] := hl
  unfold s_X5_isColumn at hs
  refine lv_iload_n hx hb dX5_isColumn_0 rfl (lv_at hl 0 rfl) ?_
  refine lv_iconst (v := 0) hx hb dX5_isColumn_1 (by decide) ?_
  refine lv_bipush (v := 15) hx hb dX5_isColumn_2 (by decide) ?_
  obtain ⟨v_1, h_1, hs⟩ := sp_b hs
  refine rd_i (va_runS (As := [.int (a0), .int (0), .int (15)]) (rest := []) ⟨hx, hb, hml, hown, hts⟩ (c_X5_in l D ca a0 0 15 h_1) (va_cwS 3 hts gX5_isColumn_X5_in rfl rfl rfl (by decide +kernel) ⟨Nat.le_of_ble_eq_true rfl, Nat.le_of_ble_eq_true rfl⟩) (rP_S va_P_nil hC) rfl rfl hl.1 rfl (lv_room (Nat.le_of_ble_eq_true rfl)) dX5_isColumn_4 ⟨Nat.zero_le _, Nat.zero_le _⟩) ?_
  obtain ⟨h_2, hs⟩ := sp_z hs
  exact rt_z hx hb hr h_2 hs dX5_isColumn_7 hlocks
def s_X5_isCell (a0 : Int32) (a1 : Int32) : Option Int32 := (s_X5_isColumn a0).bind fun v_1 => (if v_1 = 0 then some 0 else (s_X5_in a1 3 11).bind fun v_3 => (if v_3 = 0 then some 0 else some 1))
set_option maxHeartbeats 4000000 in
set_option maxRecDepth 100000 in
theorem c_X5_isCell (l : Launch) (D : va_G) (ca : Nat → ClassId) (a0 : Int32) (a1 : Int32) {r : Int32} (hs : s_X5_isCell a0 a1 = some r) : Met l yX5_isCell wsX5_isCell ({ frames := 2, cells := 0, slots := 0, locals := 42 }) (rP [.int (a0), .int (a1)] D ca []) (vp_Si (fun z => z = r)) 0 0 (fun _ => False) := by
  refine Met.ofW (cc := cX5_isCell) (maxL := 2) (ret := (some .boolean)) (by decide) rfl ?_
  intro p e s m args below meth c s₁ B hml hv
  obtain ⟨rfl, hP, hC⟩ := hv
  have hx := B.exec
  have hb := B.bytes
  have hr := B.returns
  have hts := atoms_spec (ws := wsX5_isCell) B.pre
  have hown : s.vm.findClass RX5 = some m.cls := findClass_of_methodNamed B.named
  have hlocks := B.notSynchronized
  have hK := hC.1
  have hl := lv_entry ([.int (a0), .int (a1)]) (n := 2) (Nat.le_of_ble_eq_true rfl)
  rw [lg_entry_eq]
  generalize (lg_sl ([.int (a0), .int (a1)]) ++ List.replicate (2 - (lg_sl ([.int (a0), .int (a1)])).length) Slot.unset).toArray = ls at hl ⊢
  have hl : lv_has ls 2 [(0, .int (a0)), (1, .int (a1))] := hl
  unfold s_X5_isCell at hs
  refine lv_iload_n hx hb dX5_isCell_0 rfl (lv_at hl 0 rfl) ?_
  obtain ⟨v_1, h_1, hs⟩ := sp_b hs
  refine rd_i (va_runS (As := [.int (a0)]) (rest := []) ⟨hx, hb, hml, hown, hts⟩ (c_X5_isColumn l D ca a0 h_1) (va_cwS 1 hts gX5_isCell_X5_isColumn rfl rfl rfl (by decide +kernel) ⟨Nat.le_of_ble_eq_true rfl, Nat.le_of_ble_eq_true rfl⟩) (rP_S va_P_nil hC) rfl rfl hl.1 rfl (lv_room (Nat.le_of_ble_eq_true rfl)) dX5_isCell_1 ⟨Nat.zero_le _, Nat.zero_le _⟩) ?_
  refine lv_if_eq (tgt := 21) hx hb dX5_isCell_4 (by decide) (fun c_2 => ?_) (fun c_2 => ?_)
  · have hs := sp_t c_2 hs
    refine lv_iconst (v := 0) hx hb dX5_isCell_21 (by decide) ?_
    exact rt_z hx hb hr (by decide) hs dX5_isCell_22 hlocks
  · have hs := sp_f c_2 hs
    refine lv_iload_n hx hb dX5_isCell_7 rfl (lv_at hl 1 rfl) ?_
    refine lv_iconst (v := 3) hx hb dX5_isCell_8 (by decide) ?_
    refine lv_bipush (v := 11) hx hb dX5_isCell_9 (by decide) ?_
    obtain ⟨v_3, h_3, hs⟩ := sp_b hs
    refine rd_i (va_runS (As := [.int (a1), .int (3), .int (11)]) (rest := []) ⟨hx, hb, hml, hown, hts⟩ (c_X5_in l D ca a1 3 11 h_3) (va_cwS 3 hts gX5_isCell_X5_in rfl rfl rfl (by decide +kernel) ⟨Nat.le_of_ble_eq_true rfl, Nat.le_of_ble_eq_true rfl⟩) (rP_S va_P_nil hC) rfl rfl hl.1 rfl (lv_room (Nat.le_of_ble_eq_true rfl)) dX5_isCell_11 ⟨Nat.zero_le _, Nat.zero_le _⟩) ?_
    refine lv_if_eq (tgt := 21) hx hb dX5_isCell_14 (by decide) (fun c_4 => ?_) (fun c_4 => ?_)
    · have hs := sp_t c_4 hs
      refine lv_iconst (v := 0) hx hb dX5_isCell_21 (by decide) ?_
      exact rt_z hx hb hr (by decide) hs dX5_isCell_22 hlocks
    · have hs := sp_f c_4 hs
      refine lv_iconst (v := 1) hx hb dX5_isCell_17 (by decide) ?_
      refine lv_goto (tgt := 22) hx hb dX5_isCell_18 (by decide) ?_
      exact rt_z hx hb hr (by decide) hs dX5_isCell_22 hlocks
def s_X5_at (a0 : Int32) (a1 : Int32) : Option Int32 := some ((16 * a1) + a0)
set_option maxHeartbeats 4000000 in
set_option maxRecDepth 100000 in
theorem c_X5_at (l : Launch) (D : va_G) (ca : Nat → ClassId) (a0 : Int32) (a1 : Int32) {r : Int32} (hs : s_X5_at a0 a1 = some r) : Met l yX5_at wsX5_at ({ frames := 0, cells := 0, slots := 0, locals := 0 }) (rP [.int (a0), .int (a1)] D ca []) (vp_Si (fun z => z = r)) 0 0 (fun _ => False) := by
  refine Met.ofW (cc := cX5_at) (maxL := 2) (ret := (some .int)) (by decide) rfl ?_
  intro p e s m args below meth c s₁ B hml hv
  obtain ⟨rfl, hP, hC⟩ := hv
  have hx := B.exec
  have hb := B.bytes
  have hr := B.returns
  have hts := atoms_spec (ws := wsX5_at) B.pre
  have hown : s.vm.findClass RX5 = some m.cls := findClass_of_methodNamed B.named
  have hlocks := B.notSynchronized
  have hK := hC.1
  have hl := lv_entry ([.int (a0), .int (a1)]) (n := 2) (Nat.le_of_ble_eq_true rfl)
  rw [lg_entry_eq]
  generalize (lg_sl ([.int (a0), .int (a1)]) ++ List.replicate (2 - (lg_sl ([.int (a0), .int (a1)])).length) Slot.unset).toArray = ls at hl ⊢
  have hl : lv_has ls 2 [(0, .int (a0)), (1, .int (a1))] := hl
  unfold s_X5_at at hs
  refine lv_bipush (v := 16) hx hb dX5_at_0 (by decide) ?_
  refine lv_iload_n hx hb dX5_at_2 rfl (lv_at hl 1 rfl) ?_
  refine lv_imul hx hb dX5_at_3 ?_
  refine lv_iload_n hx hb dX5_at_4 rfl (lv_at hl 0 rfl) ?_
  refine lv_iadd hx hb dX5_at_5 ?_
  exact rt_i hx hb hr hs dX5_at_6 hlocks
def s_X5_bits_b4 (a0 : Int32) : Nat → Int32 → Int32 → Option Int32
  | 0, _, _ => none
  | F + 1, p1, p2 => (if 10 ≤ p2 then some (p1) else s_X5_bits_b4 a0 F (p1 + ((a0 >>> (p2 &&& 31)) &&& 1)) (p2 + 1))
def s_X5_bits (a0 : Int32) : Option Int32 := s_X5_bits_b4 a0  FU (0) (0)
set_option maxHeartbeats 4000000 in
set_option maxRecDepth 100000 in
theorem c_X5_bits (l : Launch) (D : va_G) (ca : Nat → ClassId) (a0 : Int32) {r : Int32} (hs : s_X5_bits a0 = some r) : Met l yX5_bits wsX5_bits ({ frames := 0, cells := 0, slots := 0, locals := 0 }) (rP [.int (a0)] D ca []) (vp_Si (fun z => z = r)) 0 0 (fun _ => False) := by
  refine Met.ofW (cc := cX5_bits) (maxL := 3) (ret := (some .int)) (by decide) rfl ?_
  intro p e s m args below meth c s₁ B hml hv
  obtain ⟨rfl, hP, hC⟩ := hv
  have hx := B.exec
  have hb := B.bytes
  have hr := B.returns
  have hts := atoms_spec (ws := wsX5_bits) B.pre
  have hown : s.vm.findClass RX5 = some m.cls := findClass_of_methodNamed B.named
  have hlocks := B.notSynchronized
  have hK := hC.1
  have hl := lv_entry ([.int (a0)]) (n := 3) (Nat.le_of_ble_eq_true rfl)
  rw [lg_entry_eq]
  generalize (lg_sl ([.int (a0)]) ++ List.replicate (3 - (lg_sl ([.int (a0)])).length) Slot.unset).toArray = ls at hl ⊢
  have hl : lv_has ls 3 [(0, .int (a0))] := hl
  have b4 : ∀ (F : Nat) (p1 : Int32) (p2 : Int32), s_X5_bits_b4 a0 F p1 p2 = some r → ∀ (ls : Array Slot), lv_has ls 3 [(0, .int (a0)), (1, .int (p1)), (2, .int (p2))] → W p l e (headSpec wsX5_bits ({ frames := 0, cells := 0, slots := 0, locals := 0 })).room s m #[.int (a0)] below meth c s.heap [] 0 0 (MQ below (vp_Si (fun z => z = r)) #[.int (a0)] s 0 0 (fun _ => False)) (F0 m 4 ls []) := by
    intro F
    induction F with
    | zero =>
      intro p1 p2 hs
      simp [s_X5_bits_b4] at hs
    | succ F ih4 =>
      intro p1 p2 hs ls hl
      rw [s_X5_bits_b4] at hs
      refine lv_iload_n hx hb dX5_bits_4 rfl (lv_at hl 2 rfl) ?_
      refine lv_bipush (v := 10) hx hb dX5_bits_5 (by decide) ?_
      refine lv_icmp_ge (tgt := 24) hx hb dX5_bits_7 (by decide) (fun c_1 => ?_) (fun c_1 => ?_)
      · have hs := sp_t c_1 hs
        refine lv_iload_n hx hb dX5_bits_24 rfl (lv_at hl 1 rfl) ?_
        exact rt_i hx hb hr hs dX5_bits_25 hlocks
      · have hs := sp_f c_1 hs
        refine lv_iload_n hx hb dX5_bits_10 rfl (lv_at hl 1 rfl) ?_
        refine lv_iload_n hx hb dX5_bits_11 rfl (lv_at hl 0 rfl) ?_
        refine lv_iload_n hx hb dX5_bits_12 rfl (lv_at hl 2 rfl) ?_
        refine lv_ishr hx hb dX5_bits_13 ?_
        refine lv_iconst (v := 1) hx hb dX5_bits_14 (by decide) ?_
        refine lv_iand hx hb dX5_bits_15 ?_
        refine lv_iadd hx hb dX5_bits_16 ?_
        refine lv_istore_n (lv' := [(1, .int (p1 + ((a0 >>> (p2 &&& 31)) &&& 1))), (0, .int (a0)), (2, .int (p2))]) hx hb dX5_bits_17 rfl hl (by decide) rfl (fun ls hl => ?_)
        refine lv_iinc (v := p2 + 1) (lv' := [(2, .int (p2 + 1)), (1, .int (p1 + ((a0 >>> (p2 &&& 31)) &&& 1))), (0, .int (a0))]) hx hb dX5_bits_18 hl (k := 2) rfl rfl (by decide) rfl (fun ls hl => ?_)
        refine lv_goto (tgt := 4) hx hb dX5_bits_21 (by decide) ?_
        exact ih4  (p1 + ((a0 >>> (p2 &&& 31)) &&& 1)) (p2 + 1) hs ls (lv_sub hl [2, 1, 0] rfl)
  unfold s_X5_bits at hs
  refine lv_iconst (v := 0) hx hb dX5_bits_0 (by decide) ?_
  refine lv_istore_n (lv' := [(1, .int (0)), (0, .int (a0))]) hx hb dX5_bits_1 rfl hl (by decide) rfl (fun ls hl => ?_)
  refine lv_iconst (v := 0) hx hb dX5_bits_2 (by decide) ?_
  refine lv_istore_n (lv' := [(2, .int (0)), (1, .int (0)), (0, .int (a0))]) hx hb dX5_bits_3 rfl hl (by decide) rfl (fun ls hl => ?_)
  exact b4  FU (0) (0) hs ls (lv_sub hl [2, 1, 0] rfl)
def s_X5_thrown (x : XS) : Option Int32 := some (x.1 0 0)
set_option maxHeartbeats 4000000 in
set_option maxRecDepth 100000 in
theorem c_X5_thrown (l : Launch) (D : va_G) (ca : Nat → ClassId) (h : Nat → Nat) (x : XS) {r : Int32} (hs : s_X5_thrown x = some r) : Met l yX5_thrown wsX5_thrown ({ frames := 0, cells := 0, slots := 0, locals := 0 }) (rP [.ref (h 0)] D ca (wM h ca x)) (vp_Si (fun z => z = r)) 0 0 (fun _ => False) := by
  refine Met.ofW (cc := cX5_thrown) (maxL := 1) (ret := (some .int)) (by decide) rfl ?_
  intro p e s m args below meth c s₁ B hml hv
  obtain ⟨rfl, hP, hC⟩ := hv
  have hx := B.exec
  have hb := B.bytes
  have hr := B.returns
  have hts := atoms_spec (ws := wsX5_thrown) B.pre
  have hown : s.vm.findClass RX5 = some m.cls := findClass_of_methodNamed B.named
  have hlocks := B.notSynchronized
  have hK := hC.1
  have iX5 : ∀ w ∈ u_ws RX5 TX5 30, w ∈ wsX5_thrown := by decide +kernel
  have hl := lv_entry ([.ref (h 0)]) (n := 1) (Nat.le_of_ble_eq_true rfl)
  rw [lg_entry_eq]
  generalize (lg_sl ([.ref (h 0)]) ++ List.replicate (1 - (lg_sl ([.ref (h 0)])).length) Slot.unset).toArray = ls at hl ⊢
  have hl : lv_has ls 1 [(0, .ref (h 0))] := hl
  unfold s_X5_thrown at hs
  refine lv_aload_n hx hb dX5_thrown_0 rfl (lv_at hl 0 rfl) ?_
  refine va_get (D := D) (ci := 5) (fs := fsM h (x)) (v := .int (x.1 0 0)) (C := RX5) (T := TX5) (N := 30) hx hb hts iX5 hown hK hP 0 rfl rfl 0 (by decide) (hts (.fieldLink RX5 69 "FacadeShowModel" "thrown" "I") (by decide +kernel)) (fun _ h9 => h9) rfl dX5_thrown_1 ?_
  exact rt_i hx hb hr hs dX5_thrown_4 hlocks
def s_X5_goesWell (x : XS) (a1 : Int32) : Option (Int32 × XS) := (if a1 = 0 then some (1, si (x) 0 0 a1) else some (0, si (x) 0 0 a1))
set_option maxHeartbeats 4000000 in
set_option maxRecDepth 100000 in
theorem c_X5_goesWell (l : Launch) (D : va_G) (ca : Nat → ClassId) (h : Nat → Nat) (x : XS) (a1 : Int32) {r : (Int32 × XS)} (hs : s_X5_goesWell x a1 = some r) (sz : Nat) : Met l yX5_goesWell wsX5_goesWell ({ frames := 0, cells := 0, slots := 0, locals := 0 }) (wP [.ref (h 0), .int (a1)] D ca (wM h ca x) sz) (wQi r.1 D (wM h ca x) (wM h ca r.2) sz) 0 0 (va_A (wM h ca x) sz) := by
  refine Met.ofW (cc := cX5_goesWell) (maxL := 2) (ret := (some .boolean)) (by decide) rfl ?_
  intro p e s m args below meth c s₁ B hml hv
  obtain ⟨rfl, hsz, hP, hC, hD0⟩ := hv
  have hx := B.exec
  have hb := B.bytes
  have hr := B.returns
  have hts := atoms_spec (ws := wsX5_goesWell) B.pre
  have hown : s.vm.findClass RX5 = some m.cls := findClass_of_methodNamed B.named
  have hlocks := B.notSynchronized
  have hK := hC.1
  subst hsz
  have hD := hD0.self (sz := s.heap.size)
  generalize hAe : va_A (wM h ca x) s.heap.size = A at hD ⊢
  have hA : ∀ q : Nat, s.heap.size ≤ q → A q := fun q h => by rw [← hAe]; exact Or.inr h
  have hS : va_S A s.heap s.heap [] := va_S.rf
  skip
  have iX5 : ∀ w ∈ u_ws RX5 TX5 30, w ∈ wsX5_goesWell := by decide +kernel
  have hl := lv_entry ([.ref (h 0), .int (a1)]) (n := 2) (Nat.le_of_ble_eq_true rfl)
  rw [lg_entry_eq]
  generalize (lg_sl ([.ref (h 0), .int (a1)]) ++ List.replicate (2 - (lg_sl ([.ref (h 0), .int (a1)])).length) Slot.unset).toArray = ls at hl ⊢
  have hl : lv_has ls 2 [(0, .ref (h 0)), (1, .int (a1))] := hl
  unfold s_X5_goesWell at hs
  obtain ⟨H, hHe⟩ : ∃ H, H = s.heap := ⟨_, rfl⟩
  obtain ⟨locs, hle⟩ : ∃ z : List Loc, z = [] := ⟨_, rfl⟩
  have hP : va_P D vwCl (wM h ca x) H := by rw [hHe]; exact hP
  have hS : va_S A s.heap H locs := by rw [hHe, hle]; exact hS
  show W p l e (headSpec wsX5_goesWell ({ frames := 0, cells := 0, slots := 0, locals := 0 })).room s m #[.ref (h 0), .int (a1)] below meth c s.heap [] 0 0 _ _
  have hgo : W p l e (headSpec wsX5_goesWell ({ frames := 0, cells := 0, slots := 0, locals := 0 })).room s m #[.ref (h 0), .int (a1)] below meth c H locs 0 0 (MQ below (wQi r.1 D (wM h ca x) (wM h ca r.2) s.heap.size) #[.ref (h 0), .int (a1)] s 0 0 A) (F0 m 0 ls []) := by
    refine lv_aload_n hx hb dX5_goesWell_0 rfl (lv_at hl 0 rfl) ?_
    refine lv_iload_n hx hb dX5_goesWell_1 rfl (lv_at hl 1 rfl) ?_
    refine va_put (D := D) (ci := 5) (fs := fsM h (x)) (v := .int (a1)) (ty := .int) (C := RX5) (T := TX5) (N := 30) hx hb hts iX5 tyX5 tyX5_ok nmX5 hown hK hP hD hS 0 rfl rfl 0 (by decide) (hts (.fieldLink RX5 69 "FacadeShowModel" "thrown" "I") (by decide +kernel)) (fun _ h9 => h9) rfl (by decide +kernel) rfl rfl (Nat.le_of_ble_eq_true rfl) dX5_goesWell_2 (fun H locs hP hD hS => ?_)
    rw [wM_f0] at hP hD
    refine lv_iload_n hx hb dX5_goesWell_5 rfl (lv_at hl 1 rfl) ?_
    refine lv_if_ne (tgt := 13) hx hb dX5_goesWell_6 (by decide) (fun c_1 => ?_) (fun c_1 => ?_)
    · have hs := sp_f c_1 hs
      refine lv_iconst (v := 0) hx hb dX5_goesWell_13 (by decide) ?_
      exact wt_z (f := wM h ca) hx hb hr hAe (by decide) hs hP hD hS dX5_goesWell_14 hlocks
    · have hs := sp_t c_1 hs
      refine lv_iconst (v := 1) hx hb dX5_goesWell_9 (by decide) ?_
      refine lv_goto (tgt := 14) hx hb dX5_goesWell_10 (by decide) ?_
      exact wt_z (f := wM h ca) hx hb hr hAe (by decide) hs hP hD hS dX5_goesWell_14 hlocks
  rw [hHe, hle] at hgo
  exact hgo
def s_X5_isProjector (x : XS) (a1 : Int32) : Option Int32 := (s_X5_in a1 0 ((x.1 0 8) - 1)).bind fun v_1 => zb v_1 (some (v_1))
set_option maxHeartbeats 4000000 in
set_option maxRecDepth 100000 in
theorem c_X5_isProjector (l : Launch) (D : va_G) (ca : Nat → ClassId) (h : Nat → Nat) (x : XS) (a1 : Int32) {r : Int32} (hs : s_X5_isProjector x a1 = some r) : Met l yX5_isProjector wsX5_isProjector ({ frames := 1, cells := 0, slots := 0, locals := 22 }) (rP [.ref (h 0), .int (a1)] D ca (wM h ca x)) (vp_Si (fun z => z = r)) 0 0 (fun _ => False) := by
  refine Met.ofW (cc := cX5_isProjector) (maxL := 2) (ret := (some .boolean)) (by decide) rfl ?_
  intro p e s m args below meth c s₁ B hml hv
  obtain ⟨rfl, hP, hC⟩ := hv
  have hx := B.exec
  have hb := B.bytes
  have hr := B.returns
  have hts := atoms_spec (ws := wsX5_isProjector) B.pre
  have hown : s.vm.findClass RX5 = some m.cls := findClass_of_methodNamed B.named
  have hlocks := B.notSynchronized
  have hK := hC.1
  have iX5 : ∀ w ∈ u_ws RX5 TX5 30, w ∈ wsX5_isProjector := by decide +kernel
  have hl := lv_entry ([.ref (h 0), .int (a1)]) (n := 2) (Nat.le_of_ble_eq_true rfl)
  rw [lg_entry_eq]
  generalize (lg_sl ([.ref (h 0), .int (a1)]) ++ List.replicate (2 - (lg_sl ([.ref (h 0), .int (a1)])).length) Slot.unset).toArray = ls at hl ⊢
  have hl : lv_has ls 2 [(0, .ref (h 0)), (1, .int (a1))] := hl
  unfold s_X5_isProjector at hs
  refine lv_iload_n hx hb dX5_isProjector_0 rfl (lv_at hl 1 rfl) ?_
  refine lv_iconst (v := 0) hx hb dX5_isProjector_1 (by decide) ?_
  refine lv_aload_n hx hb dX5_isProjector_2 rfl (lv_at hl 0 rfl) ?_
  refine va_get (D := D) (ci := 5) (fs := fsM h (x)) (v := .int (x.1 0 8)) (C := RX5) (T := TX5) (N := 30) hx hb hts iX5 hown hK hP 0 rfl rfl 8 (by decide) (hts (.fieldLink RX5 80 "FacadeShowModel" "projectors" "I") (by decide +kernel)) (fun _ h9 => h9) rfl dX5_isProjector_3 ?_
  refine lv_iconst (v := 1) hx hb dX5_isProjector_6 (by decide) ?_
  refine lv_isub hx hb dX5_isProjector_7 ?_
  obtain ⟨v_1, h_1, hs⟩ := sp_b hs
  refine rd_i (va_runS (As := [.int (a1), .int (0), .int ((x.1 0 8) - 1)]) (rest := []) ⟨hx, hb, hml, hown, hts⟩ (c_X5_in l D ca a1 0 ((x.1 0 8) - 1) h_1) (va_cwS 3 hts gX5_isProjector_X5_in rfl rfl rfl (by decide +kernel) ⟨Nat.le_of_ble_eq_true rfl, Nat.le_of_ble_eq_true rfl⟩) (rP_S va_P_nil hC) rfl rfl hl.1 rfl (lv_room (Nat.le_of_ble_eq_true rfl)) dX5_isProjector_8 ⟨Nat.zero_le _, Nat.zero_le _⟩) ?_
  obtain ⟨h_2, hs⟩ := sp_z hs
  exact rt_z hx hb hr h_2 hs dX5_isProjector_11 hlocks
def s_X5_borne_b4 (x : XS) (a1 : Int32) : Nat → Int32 → Int32 → Option Int32
  | 0, _, _ => none
  | F + 1, p2, p3 => (if (x.1 0 8) ≤ p3 then some (p2) else chk 10 p3 ((if (x.1 13 p3.toNatClampNeg) = 0 then s_X5_borne_b4 x a1 F (p2 + 0) (p3 + 1) else chk 10 p3 ((if (x.1 9 p3.toNatClampNeg) = a1 then chk 10 p3 (s_X5_borne_b4 x a1 F (p2 + (x.1 8 p3.toNatClampNeg)) (p3 + 1)) else s_X5_borne_b4 x a1 F (p2 + 0) (p3 + 1))))))
def s_X5_borne (x : XS) (a1 : Int32) : Option Int32 := s_X5_borne_b4 x a1  FU (0) (0)
set_option maxHeartbeats 4000000 in
set_option maxRecDepth 100000 in
theorem c_X5_borne (l : Launch) (D : va_G) (ca : Nat → ClassId) (h : Nat → Nat) (x : XS) (a1 : Int32) {r : Int32} (hs : s_X5_borne x a1 = some r) : Met l yX5_borne wsX5_borne ({ frames := 0, cells := 0, slots := 0, locals := 0 }) (rP [.ref (h 0), .int (a1)] D ca (wM h ca x)) (vp_Si (fun z => z = r)) 0 0 (fun _ => False) := by
  refine Met.ofW (cc := cX5_borne) (maxL := 4) (ret := (some .int)) (by decide) rfl ?_
  intro p e s m args below meth c s₁ B hml hv
  obtain ⟨rfl, hP, hC⟩ := hv
  have hx := B.exec
  have hb := B.bytes
  have hr := B.returns
  have hts := atoms_spec (ws := wsX5_borne) B.pre
  have hown : s.vm.findClass RX5 = some m.cls := findClass_of_methodNamed B.named
  have hlocks := B.notSynchronized
  have hK := hC.1
  have iX5 : ∀ w ∈ u_ws RX5 TX5 30, w ∈ wsX5_borne := by decide +kernel
  have hl := lv_entry ([.ref (h 0), .int (a1)]) (n := 4) (Nat.le_of_ble_eq_true rfl)
  rw [lg_entry_eq]
  generalize (lg_sl ([.ref (h 0), .int (a1)]) ++ List.replicate (4 - (lg_sl ([.ref (h 0), .int (a1)])).length) Slot.unset).toArray = ls at hl ⊢
  have hl : lv_has ls 4 [(0, .ref (h 0)), (1, .int (a1))] := hl
  have b4 : ∀ (F : Nat) (p2 : Int32) (p3 : Int32), s_X5_borne_b4 x a1 F p2 p3 = some r → ∀ (ls : Array Slot), lv_has ls 4 [(0, .ref (h 0)), (1, .int (a1)), (2, .int (p2)), (3, .int (p3))] → W p l e (headSpec wsX5_borne ({ frames := 0, cells := 0, slots := 0, locals := 0 })).room s m #[.ref (h 0), .int (a1)] below meth c s.heap [] 0 0 (MQ below (vp_Si (fun z => z = r)) #[.ref (h 0), .int (a1)] s 0 0 (fun _ => False)) (F0 m 4 ls []) := by
    intro F
    induction F with
    | zero =>
      intro p2 p3 hs
      simp [s_X5_borne_b4] at hs
    | succ F ih4 =>
      intro p2 p3 hs ls hl
      rw [s_X5_borne_b4] at hs
      refine lv_iload_n hx hb dX5_borne_4 rfl (lv_at hl 3 rfl) ?_
      refine lv_aload_n hx hb dX5_borne_5 rfl (lv_at hl 0 rfl) ?_
      refine va_get (D := D) (ci := 5) (fs := fsM h (x)) (v := .int (x.1 0 8)) (C := RX5) (T := TX5) (N := 30) hx hb hts iX5 hown hK hP 0 rfl rfl 8 (by decide) (hts (.fieldLink RX5 80 "FacadeShowModel" "projectors" "I") (by decide +kernel)) (fun _ h9 => h9) rfl dX5_borne_6 ?_
      refine lv_icmp_ge (tgt := 50) hx hb dX5_borne_9 (by decide) (fun c_1 => ?_) (fun c_1 => ?_)
      · have hs := sp_t c_1 hs
        refine lv_iload_n hx hb dX5_borne_50 rfl (lv_at hl 2 rfl) ?_
        exact rt_i hx hb hr hs dX5_borne_51 hlocks
      · have hs := sp_f c_1 hs
        refine lv_iload_n hx hb dX5_borne_12 rfl (lv_at hl 2 rfl) ?_
        refine lv_aload_n hx hb dX5_borne_13 rfl (lv_at hl 0 rfl) ?_
        refine va_get (D := D) (ci := 5) (fs := fsM h (x)) (v := .ref (h 13)) (C := RX5) (T := TX5) (N := 30) hx hb hts iX5 hown hK hP 0 rfl rfl 16 (by decide) (hts (.fieldLink RX5 51 "FacadeShowModel" "isOn" "[Z") (by decide +kernel)) (fun _ h9 => h9) rfl dX5_borne_14 ?_
        refine lv_iload_n hx hb dX5_borne_17 rfl (lv_at hl 3 rfl) ?_
        obtain ⟨h_2, hs⟩ := sp_c hs
        refine va_zald (D := D) (cA := ca 1) (n := 10) (f := (x).1 13) hx hb hK hP 13 1 rfl rfl h_2 dX5_borne_18 ?_
        refine lv_if_eq (tgt := 41) hx hb dX5_borne_19 (by decide) (fun c_3 => ?_) (fun c_3 => ?_)
        · have hs := sp_t c_3 hs
          refine lv_iconst (v := 0) hx hb dX5_borne_41 (by decide) ?_
          refine lv_iadd hx hb dX5_borne_42 ?_
          refine lv_istore_n (lv' := [(2, .int (p2 + 0)), (0, .ref (h 0)), (1, .int (a1)), (3, .int (p3))]) hx hb dX5_borne_43 rfl hl (by decide) rfl (fun ls hl => ?_)
          refine lv_iinc (v := p3 + 1) (lv' := [(3, .int (p3 + 1)), (2, .int (p2 + 0)), (0, .ref (h 0)), (1, .int (a1))]) hx hb dX5_borne_44 hl (k := 3) rfl rfl (by decide) rfl (fun ls hl => ?_)
          refine lv_goto (tgt := 4) hx hb dX5_borne_47 (by decide) ?_
          exact ih4  (p2 + 0) (p3 + 1) hs ls (lv_sub hl [2, 3, 1, 0] rfl)
        · have hs := sp_f c_3 hs
          refine lv_aload_n hx hb dX5_borne_22 rfl (lv_at hl 0 rfl) ?_
          refine va_get (D := D) (ci := 5) (fs := fsM h (x)) (v := .ref (h 9)) (C := RX5) (T := TX5) (N := 30) hx hb hts iX5 hown hK hP 0 rfl rfl 12 (by decide) (hts (.fieldLink RX5 39 "FacadeShowModel" "phase" "[I") (by decide +kernel)) (fun _ h9 => h9) rfl dX5_borne_23 ?_
          refine lv_iload_n hx hb dX5_borne_26 rfl (lv_at hl 3 rfl) ?_
          obtain ⟨h_4, hs⟩ := sp_c hs
          refine va_iald (D := D) (cA := ca 0) (n := 10) (f := (x).1 9) hx hb hK hP 9 0 rfl rfl h_4 dX5_borne_27 ?_
          refine lv_iload_n hx hb dX5_borne_28 rfl (lv_at hl 1 rfl) ?_
          refine lv_icmp_ne (tgt := 41) hx hb dX5_borne_29 (by decide) (fun c_5 => ?_) (fun c_5 => ?_)
          · have hs := sp_f c_5 hs
            refine lv_iconst (v := 0) hx hb dX5_borne_41 (by decide) ?_
            refine lv_iadd hx hb dX5_borne_42 ?_
            refine lv_istore_n (lv' := [(2, .int (p2 + 0)), (0, .ref (h 0)), (1, .int (a1)), (3, .int (p3))]) hx hb dX5_borne_43 rfl hl (by decide) rfl (fun ls hl => ?_)
            refine lv_iinc (v := p3 + 1) (lv' := [(3, .int (p3 + 1)), (2, .int (p2 + 0)), (0, .ref (h 0)), (1, .int (a1))]) hx hb dX5_borne_44 hl (k := 3) rfl rfl (by decide) rfl (fun ls hl => ?_)
            refine lv_goto (tgt := 4) hx hb dX5_borne_47 (by decide) ?_
            exact ih4  (p2 + 0) (p3 + 1) hs ls (lv_sub hl [2, 3, 1, 0] rfl)
          · have hs := sp_t c_5 hs
            refine lv_aload_n hx hb dX5_borne_32 rfl (lv_at hl 0 rfl) ?_
            refine va_get (D := D) (ci := 5) (fs := fsM h (x)) (v := .ref (h 8)) (C := RX5) (T := TX5) (N := 30) hx hb hts iX5 hown hK hP 0 rfl rfl 11 (by decide) (hts (.fieldLink RX5 36 "FacadeShowModel" "power" "[I") (by decide +kernel)) (fun _ h9 => h9) rfl dX5_borne_33 ?_
            refine lv_iload_n hx hb dX5_borne_36 rfl (lv_at hl 3 rfl) ?_
            obtain ⟨h_6, hs⟩ := sp_c hs
            refine va_iald (D := D) (cA := ca 0) (n := 10) (f := (x).1 8) hx hb hK hP 8 0 rfl rfl h_6 dX5_borne_37 ?_
            refine lv_goto (tgt := 42) hx hb dX5_borne_38 (by decide) ?_
            refine lv_iadd hx hb dX5_borne_42 ?_
            refine lv_istore_n (lv' := [(2, .int (p2 + (x.1 8 p3.toNatClampNeg))), (0, .ref (h 0)), (1, .int (a1)), (3, .int (p3))]) hx hb dX5_borne_43 rfl hl (by decide) rfl (fun ls hl => ?_)
            refine lv_iinc (v := p3 + 1) (lv' := [(3, .int (p3 + 1)), (2, .int (p2 + (x.1 8 p3.toNatClampNeg))), (0, .ref (h 0)), (1, .int (a1))]) hx hb dX5_borne_44 hl (k := 3) rfl rfl (by decide) rfl (fun ls hl => ?_)
            refine lv_goto (tgt := 4) hx hb dX5_borne_47 (by decide) ?_
            exact ih4  (p2 + (x.1 8 p3.toNatClampNeg)) (p3 + 1) hs ls (lv_sub hl [2, 3, 1, 0] rfl)
  unfold s_X5_borne at hs
  refine lv_iconst (v := 0) hx hb dX5_borne_0 (by decide) ?_
  refine lv_istore_n (lv' := [(2, .int (0)), (0, .ref (h 0)), (1, .int (a1))]) hx hb dX5_borne_1 rfl hl (by decide) rfl (fun ls hl => ?_)
  refine lv_iconst (v := 0) hx hb dX5_borne_2 (by decide) ?_
  refine lv_istore_n (lv' := [(3, .int (0)), (2, .int (0)), (0, .ref (h 0)), (1, .int (a1))]) hx hb dX5_borne_3 rfl hl (by decide) rfl (fun ls hl => ?_)
  exact b4  FU (0) (0) hs ls (lv_sub hl [2, 3, 1, 0] rfl)
def s_X5_cross (x : XS) (a1 : Int32) (a2 : Int32) (a3 : Int32) : Option Int32 := chk 10 a1 (chk 16 a2 (chk 10 a1 (chk 10 a1 (chk 10 a1 (dvz (2 * ((x.1 7 a1.toNatClampNeg) - (x.1 1 a2.toNatClampNeg))) (some (((2 * (((x.1 6 a1.toNatClampNeg) * ((x.1 7 a1.toNatClampNeg) - (x.1 1 a2.toNatClampNeg))) + ((a2 - (x.1 6 a1.toNatClampNeg)) * ((x.1 7 a1.toNatClampNeg) - a3)))) + ((x.1 7 a1.toNatClampNeg) - (x.1 1 a2.toNatClampNeg))) / (2 * ((x.1 7 a1.toNatClampNeg) - (x.1 1 a2.toNatClampNeg))))))))))
set_option maxHeartbeats 4000000 in
set_option maxRecDepth 100000 in
theorem c_X5_cross (l : Launch) (D : va_G) (ca : Nat → ClassId) (h : Nat → Nat) (x : XS) (a1 : Int32) (a2 : Int32) (a3 : Int32) {r : Int32} (hs : s_X5_cross x a1 a2 a3 = some r) : Met l yX5_cross wsX5_cross ({ frames := 0, cells := 0, slots := 0, locals := 0 }) (rP [.ref (h 0), .int (a1), .int (a2), .int (a3)] D ca (wM h ca x)) (vp_Si (fun z => z = r)) 0 0 (fun _ => False) := by
  refine Met.ofW (cc := cX5_cross) (maxL := 6) (ret := (some .int)) (by decide) rfl ?_
  intro p e s m args below meth c s₁ B hml hv
  obtain ⟨rfl, hP, hC⟩ := hv
  have hx := B.exec
  have hb := B.bytes
  have hr := B.returns
  have hts := atoms_spec (ws := wsX5_cross) B.pre
  have hown : s.vm.findClass RX5 = some m.cls := findClass_of_methodNamed B.named
  have hlocks := B.notSynchronized
  have hK := hC.1
  have iX5 : ∀ w ∈ u_ws RX5 TX5 30, w ∈ wsX5_cross := by decide +kernel
  have hl := lv_entry ([.ref (h 0), .int (a1), .int (a2), .int (a3)]) (n := 6) (Nat.le_of_ble_eq_true rfl)
  rw [lg_entry_eq]
  generalize (lg_sl ([.ref (h 0), .int (a1), .int (a2), .int (a3)]) ++ List.replicate (6 - (lg_sl ([.ref (h 0), .int (a1), .int (a2), .int (a3)])).length) Slot.unset).toArray = ls at hl ⊢
  have hl : lv_has ls 6 [(0, .ref (h 0)), (1, .int (a1)), (2, .int (a2)), (3, .int (a3))] := hl
  unfold s_X5_cross at hs
  refine lv_aload_n hx hb dX5_cross_0 rfl (lv_at hl 0 rfl) ?_
  refine va_get (D := D) (ci := 5) (fs := fsM h (x)) (v := .ref (h 7)) (C := RX5) (T := TX5) (N := 30) hx hb hts iX5 hown hK hP 0 rfl rfl 10 (by decide) (hts (.fieldLink RX5 33 "FacadeShowModel" "row" "[I") (by decide +kernel)) (fun _ h9 => h9) rfl dX5_cross_1 ?_
  refine lv_iload_n hx hb dX5_cross_4 rfl (lv_at hl 1 rfl) ?_
  obtain ⟨h_1, hs⟩ := sp_c hs
  refine va_iald (D := D) (cA := ca 0) (n := 10) (f := (x).1 7) hx hb hK hP 7 0 rfl rfl h_1 dX5_cross_5 ?_
  refine lv_aload_n hx hb dX5_cross_6 rfl (lv_at hl 0 rfl) ?_
  refine va_get (D := D) (ci := 5) (fs := fsM h (x)) (v := .ref (h 1)) (C := RX5) (T := TX5) (N := 30) hx hb hts iX5 hown hK hP 0 rfl rfl 1 (by decide) (hts (.fieldLink RX5 7 "FacadeShowModel" "relief" "[I") (by decide +kernel)) (fun _ h9 => h9) rfl dX5_cross_7 ?_
  refine lv_iload_n hx hb dX5_cross_10 rfl (lv_at hl 2 rfl) ?_
  obtain ⟨h_2, hs⟩ := sp_c hs
  refine va_iald (D := D) (cA := ca 0) (n := 16) (f := (x).1 1) hx hb hK hP 1 0 rfl rfl h_2 dX5_cross_11 ?_
  refine lv_isub hx hb dX5_cross_12 ?_
  refine lv_istore (lv' := [(4, .int ((x.1 7 a1.toNatClampNeg) - (x.1 1 a2.toNatClampNeg))), (0, .ref (h 0)), (1, .int (a1)), (2, .int (a2)), (3, .int (a3))]) hx hb dX5_cross_13 hl (by decide) rfl (fun ls hl => ?_)
  refine lv_aload_n hx hb dX5_cross_15 rfl (lv_at hl 1 rfl) ?_
  refine va_get (D := D) (ci := 5) (fs := fsM h (x)) (v := .ref (h 6)) (C := RX5) (T := TX5) (N := 30) hx hb hts iX5 hown hK hP 0 rfl rfl 9 (by decide) (hts (.fieldLink RX5 30 "FacadeShowModel" "column" "[I") (by decide +kernel)) (fun _ h9 => h9) rfl dX5_cross_16 ?_
  refine lv_iload_n hx hb dX5_cross_19 rfl (lv_at hl 2 rfl) ?_
  obtain ⟨h_3, hs⟩ := sp_c hs
  refine va_iald (D := D) (cA := ca 0) (n := 10) (f := (x).1 6) hx hb hK hP 6 0 rfl rfl h_3 dX5_cross_20 ?_
  refine lv_iload hx hb dX5_cross_21 (lv_at hl 0 rfl) ?_
  refine lv_imul hx hb dX5_cross_23 ?_
  refine lv_iload_n hx hb dX5_cross_24 rfl (lv_at hl 3 rfl) ?_
  refine lv_aload_n hx hb dX5_cross_25 rfl (lv_at hl 1 rfl) ?_
  refine va_get (D := D) (ci := 5) (fs := fsM h (x)) (v := .ref (h 6)) (C := RX5) (T := TX5) (N := 30) hx hb hts iX5 hown hK hP 0 rfl rfl 9 (by decide) (hts (.fieldLink RX5 30 "FacadeShowModel" "column" "[I") (by decide +kernel)) (fun _ h9 => h9) rfl dX5_cross_26 ?_
  refine lv_iload_n hx hb dX5_cross_29 rfl (lv_at hl 2 rfl) ?_
  obtain ⟨h_4, hs⟩ := sp_c hs
  refine va_iald (D := D) (cA := ca 0) (n := 10) (f := (x).1 6) hx hb hK hP 6 0 rfl rfl h_4 dX5_cross_30 ?_
  refine lv_isub hx hb dX5_cross_31 ?_
  refine lv_aload_n hx hb dX5_cross_32 rfl (lv_at hl 1 rfl) ?_
  refine va_get (D := D) (ci := 5) (fs := fsM h (x)) (v := .ref (h 7)) (C := RX5) (T := TX5) (N := 30) hx hb hts iX5 hown hK hP 0 rfl rfl 10 (by decide) (hts (.fieldLink RX5 33 "FacadeShowModel" "row" "[I") (by decide +kernel)) (fun _ h9 => h9) rfl dX5_cross_33 ?_
  refine lv_iload_n hx hb dX5_cross_36 rfl (lv_at hl 2 rfl) ?_
  obtain ⟨h_5, hs⟩ := sp_c hs
  refine va_iald (D := D) (cA := ca 0) (n := 10) (f := (x).1 7) hx hb hK hP 7 0 rfl rfl h_5 dX5_cross_37 ?_
  refine lv_iload_n hx hb dX5_cross_38 rfl (lv_at hl 4 rfl) ?_
  refine lv_isub hx hb dX5_cross_39 ?_
  refine lv_imul hx hb dX5_cross_40 ?_
  refine lv_iadd hx hb dX5_cross_41 ?_
  refine lv_istore (lv' := [(5, .int (((x.1 6 a1.toNatClampNeg) * ((x.1 7 a1.toNatClampNeg) - (x.1 1 a2.toNatClampNeg))) + ((a2 - (x.1 6 a1.toNatClampNeg)) * ((x.1 7 a1.toNatClampNeg) - a3)))), (4, .int ((x.1 7 a1.toNatClampNeg) - (x.1 1 a2.toNatClampNeg))), (0, .ref (h 0)), (1, .int (a1)), (2, .int (a2)), (3, .int (a3))]) hx hb dX5_cross_42 hl (by decide) rfl (fun ls hl => ?_)
  refine lv_iconst (v := 2) hx hb dX5_cross_44 (by decide) ?_
  refine lv_iload hx hb dX5_cross_45 (lv_at hl 0 rfl) ?_
  refine lv_imul hx hb dX5_cross_47 ?_
  refine lv_iload hx hb dX5_cross_48 (lv_at hl 1 rfl) ?_
  refine lv_iadd hx hb dX5_cross_50 ?_
  refine lv_iconst (v := 2) hx hb dX5_cross_51 (by decide) ?_
  refine lv_iload hx hb dX5_cross_52 (lv_at hl 1 rfl) ?_
  refine lv_imul hx hb dX5_cross_54 ?_
  obtain ⟨h_6, hs⟩ := sp_d hs
  refine lv_idiv hx hb dX5_cross_55 h_6 ?_
  exact rt_i hx hb hr hs dX5_cross_56 hlocks
def s_X5_isBlocked_b12 (x : XS) (a1 : Int32) (a2 : Int32) : Nat → Int32 → Int32 → Option Int32
  | 0, _, _ => none
  | F + 1, p3, p4 => chk 10 a1 ((if (x.1 7 a1.toNatClampNeg) ≤ p4 then zb p3 (some (p3)) else (s_X5_cross x a1 a2 p4).bind fun v_4 => (if p3 = 0 then chk 16 v_4 ((if p4 < (x.1 1 v_4.toNatClampNeg) then s_X5_isBlocked_b12 x a1 a2 F (1) (p4 + 1) else (s_X5_at v_4 p4).bind fun v_8 => chk 192 v_8 ((if (x.1 4 v_8.toNatClampNeg) = 1 then s_X5_isBlocked_b12 x a1 a2 F (1) (p4 + 1) else (s_X5_at v_4 p4).bind fun v_11 => chk 192 v_11 ((if (x.1 5 v_11.toNatClampNeg) = 0 then s_X5_isBlocked_b12 x a1 a2 F (0) (p4 + 1) else s_X5_isBlocked_b12 x a1 a2 F (1) (p4 + 1))))))) else s_X5_isBlocked_b12 x a1 a2 F (1) (p4 + 1))))
def s_X5_isBlocked (x : XS) (a1 : Int32) (a2 : Int32) : Option Int32 := chk 16 a2 (s_X5_isBlocked_b12 x a1 a2  FU (0) ((x.1 1 a2.toNatClampNeg) + 1))
set_option maxHeartbeats 4000000 in
set_option maxRecDepth 100000 in
theorem c_X5_isBlocked (l : Launch) (D : va_G) (ca : Nat → ClassId) (h : Nat → Nat) (x : XS) (a1 : Int32) (a2 : Int32) {r : Int32} (hs : s_X5_isBlocked x a1 a2 = some r) : Met l yX5_isBlocked wsX5_isBlocked ({ frames := 1, cells := 0, slots := 0, locals := 25 }) (rP [.ref (h 0), .int (a1), .int (a2)] D ca (wM h ca x)) (vp_Si (fun z => z = r)) 0 0 (fun _ => False) := by
  refine Met.ofW (cc := cX5_isBlocked) (maxL := 6) (ret := (some .boolean)) (by decide) rfl ?_
  intro p e s m args below meth c s₁ B hml hv
  obtain ⟨rfl, hP, hC⟩ := hv
  have hx := B.exec
  have hb := B.bytes
  have hr := B.returns
  have hts := atoms_spec (ws := wsX5_isBlocked) B.pre
  have hown : s.vm.findClass RX5 = some m.cls := findClass_of_methodNamed B.named
  have hlocks := B.notSynchronized
  have hK := hC.1
  have iX5 : ∀ w ∈ u_ws RX5 TX5 30, w ∈ wsX5_isBlocked := by decide +kernel
  have hl := lv_entry ([.ref (h 0), .int (a1), .int (a2)]) (n := 6) (Nat.le_of_ble_eq_true rfl)
  rw [lg_entry_eq]
  generalize (lg_sl ([.ref (h 0), .int (a1), .int (a2)]) ++ List.replicate (6 - (lg_sl ([.ref (h 0), .int (a1), .int (a2)])).length) Slot.unset).toArray = ls at hl ⊢
  have hl : lv_has ls 6 [(0, .ref (h 0)), (1, .int (a1)), (2, .int (a2))] := hl
  have b12 : ∀ (F : Nat) (p3 : Int32) (p4 : Int32), s_X5_isBlocked_b12 x a1 a2 F p3 p4 = some r → ∀ (ls : Array Slot), lv_has ls 6 [(0, .ref (h 0)), (1, .int (a1)), (2, .int (a2)), (3, .int (p3)), (4, .int (p4))] → W p l e (headSpec wsX5_isBlocked ({ frames := 1, cells := 0, slots := 0, locals := 25 })).room s m #[.ref (h 0), .int (a1), .int (a2)] below meth c s.heap [] 0 0 (MQ below (vp_Si (fun z => z = r)) #[.ref (h 0), .int (a1), .int (a2)] s 0 0 (fun _ => False)) (F0 m 12 ls []) := by
    intro F
    induction F with
    | zero =>
      intro p3 p4 hs
      simp [s_X5_isBlocked_b12] at hs
    | succ F ih12 =>
      intro p3 p4 hs ls hl
      rw [s_X5_isBlocked_b12] at hs
      refine lv_iload hx hb dX5_isBlocked_12 (lv_at hl 4 rfl) ?_
      refine lv_aload_n hx hb dX5_isBlocked_14 rfl (lv_at hl 0 rfl) ?_
      refine va_get (D := D) (ci := 5) (fs := fsM h (x)) (v := .ref (h 7)) (C := RX5) (T := TX5) (N := 30) hx hb hts iX5 hown hK hP 0 rfl rfl 10 (by decide) (hts (.fieldLink RX5 33 "FacadeShowModel" "row" "[I") (by decide +kernel)) (fun _ h9 => h9) rfl dX5_isBlocked_15 ?_
      refine lv_iload_n hx hb dX5_isBlocked_18 rfl (lv_at hl 1 rfl) ?_
      obtain ⟨h_1, hs⟩ := sp_c hs
      refine va_iald (D := D) (cA := ca 0) (n := 10) (f := (x).1 7) hx hb hK hP 7 0 rfl rfl h_1 dX5_isBlocked_19 ?_
      refine lv_icmp_ge (tgt := 92) hx hb dX5_isBlocked_20 (by decide) (fun c_2 => ?_) (fun c_2 => ?_)
      · have hs := sp_t c_2 hs
        refine lv_iload_n hx hb dX5_isBlocked_92 rfl (lv_at hl 3 rfl) ?_
        obtain ⟨h_3, hs⟩ := sp_z hs
        exact rt_z hx hb hr h_3 hs dX5_isBlocked_93 hlocks
      · have hs := sp_f c_2 hs
        refine lv_aload_n hx hb dX5_isBlocked_23 rfl (lv_at hl 0 rfl) ?_
        refine lv_iload_n hx hb dX5_isBlocked_24 rfl (lv_at hl 1 rfl) ?_
        refine lv_iload_n hx hb dX5_isBlocked_25 rfl (lv_at hl 2 rfl) ?_
        refine lv_iload hx hb dX5_isBlocked_26 (lv_at hl 4 rfl) ?_
        obtain ⟨v_4, h_4, hs⟩ := sp_b hs
        refine rd_i (va_runV (As := [.int (a1), .int (a2), .int (p4)]) (rest := []) ⟨hx, hb, hml, hown, hts⟩ (c_X5_cross l D ca h x a1 a2 p4 h_4) (cwV 3 hts gX5_isBlocked_X5_cross rfl rfl rfl (by decide +kernel) ⟨Nat.le_of_ble_eq_true rfl, Nat.le_of_ble_eq_true rfl⟩) (rP_V (q := (RX5, TX5, 30)) hP hC 0 rfl rfl) rfl rfl hl.1 rfl (lv_room (Nat.le_of_ble_eq_true rfl)) dX5_isBlocked_28 ⟨Nat.zero_le _, Nat.zero_le _⟩) ?_
        refine lv_istore (lv' := [(5, .int (v_4)), (0, .ref (h 0)), (1, .int (a1)), (2, .int (a2)), (3, .int (p3)), (4, .int (p4))]) hx hb dX5_isBlocked_31 hl (by decide) rfl (fun ls hl => ?_)
        refine lv_iload_n hx hb dX5_isBlocked_33 rfl (lv_at hl 4 rfl) ?_
        refine lv_if_ne (tgt := 80) hx hb dX5_isBlocked_34 (by decide) (fun c_5 => ?_) (fun c_5 => ?_)
        · have hs := sp_f c_5 hs
          refine lv_iconst (v := 1) hx hb dX5_isBlocked_80 (by decide) ?_
          refine lv_goto (tgt := 85) hx hb dX5_isBlocked_81 (by decide) ?_
          refine lv_istore_n (lv' := [(3, .int (1)), (5, .int (v_4)), (0, .ref (h 0)), (1, .int (a1)), (2, .int (a2)), (4, .int (p4))]) hx hb dX5_isBlocked_85 rfl hl (by decide) rfl (fun ls hl => ?_)
          refine lv_iinc (v := p4 + 1) (lv' := [(4, .int (p4 + 1)), (3, .int (1)), (5, .int (v_4)), (0, .ref (h 0)), (1, .int (a1)), (2, .int (a2))]) hx hb dX5_isBlocked_86 hl (k := 5) rfl rfl (by decide) rfl (fun ls hl => ?_)
          refine lv_goto (tgt := 12) hx hb dX5_isBlocked_89 (by decide) ?_
          exact ih12  (1) (p4 + 1) hs ls (lv_sub hl [3, 4, 5, 1, 0] rfl)
        · have hs := sp_t c_5 hs
          refine lv_iload hx hb dX5_isBlocked_37 (lv_at hl 5 rfl) ?_
          refine lv_aload_n hx hb dX5_isBlocked_39 rfl (lv_at hl 1 rfl) ?_
          refine va_get (D := D) (ci := 5) (fs := fsM h (x)) (v := .ref (h 1)) (C := RX5) (T := TX5) (N := 30) hx hb hts iX5 hown hK hP 0 rfl rfl 1 (by decide) (hts (.fieldLink RX5 7 "FacadeShowModel" "relief" "[I") (by decide +kernel)) (fun _ h9 => h9) rfl dX5_isBlocked_40 ?_
          refine lv_iload hx hb dX5_isBlocked_43 (lv_at hl 0 rfl) ?_
          obtain ⟨h_6, hs⟩ := sp_c hs
          refine va_iald (D := D) (cA := ca 0) (n := 16) (f := (x).1 1) hx hb hK hP 1 0 rfl rfl h_6 dX5_isBlocked_45 ?_
          refine lv_icmp_lt (tgt := 80) hx hb dX5_isBlocked_46 (by decide) (fun c_7 => ?_) (fun c_7 => ?_)
          · have hs := sp_t c_7 hs
            refine lv_iconst (v := 1) hx hb dX5_isBlocked_80 (by decide) ?_
            refine lv_goto (tgt := 85) hx hb dX5_isBlocked_81 (by decide) ?_
            refine lv_istore_n (lv' := [(3, .int (1)), (5, .int (v_4)), (0, .ref (h 0)), (1, .int (a1)), (2, .int (a2)), (4, .int (p4))]) hx hb dX5_isBlocked_85 rfl hl (by decide) rfl (fun ls hl => ?_)
            refine lv_iinc (v := p4 + 1) (lv' := [(4, .int (p4 + 1)), (3, .int (1)), (5, .int (v_4)), (0, .ref (h 0)), (1, .int (a1)), (2, .int (a2))]) hx hb dX5_isBlocked_86 hl (k := 5) rfl rfl (by decide) rfl (fun ls hl => ?_)
            refine lv_goto (tgt := 12) hx hb dX5_isBlocked_89 (by decide) ?_
            exact ih12  (1) (p4 + 1) hs ls (lv_sub hl [3, 4, 5, 1, 0] rfl)
          · have hs := sp_f c_7 hs
            refine lv_aload_n hx hb dX5_isBlocked_49 rfl (lv_at hl 1 rfl) ?_
            refine va_get (D := D) (ci := 5) (fs := fsM h (x)) (v := .ref (h 4)) (C := RX5) (T := TX5) (N := 30) hx hb hts iX5 hown hK hP 0 rfl rfl 4 (by decide) (hts (.fieldLink RX5 19 "FacadeShowModel" "cells" "[I") (by decide +kernel)) (fun _ h9 => h9) rfl dX5_isBlocked_50 ?_
            refine lv_iload hx hb dX5_isBlocked_53 (lv_at hl 0 rfl) ?_
            refine lv_iload hx hb dX5_isBlocked_55 (lv_at hl 5 rfl) ?_
            obtain ⟨v_8, h_8, hs⟩ := sp_b hs
            refine rd_i (va_runS (As := [.int (v_4), .int (p4)]) (rest := [.ref (h 4)]) ⟨hx, hb, hml, hown, hts⟩ (c_X5_at l D ca v_4 p4 h_8) (va_cwS 2 hts gX5_isBlocked_X5_at rfl rfl rfl (by decide +kernel) ⟨Nat.le_of_ble_eq_true rfl, Nat.le_of_ble_eq_true rfl⟩) (rP_S va_P_nil hC) rfl rfl hl.1 rfl (lv_room (Nat.le_of_ble_eq_true rfl)) dX5_isBlocked_57 ⟨Nat.zero_le _, Nat.zero_le _⟩) ?_
            obtain ⟨h_9, hs⟩ := sp_c hs
            refine va_iald (D := D) (cA := ca 0) (n := 192) (f := (x).1 4) hx hb hK hP 4 0 rfl rfl h_9 dX5_isBlocked_60 ?_
            refine lv_iconst (v := 1) hx hb dX5_isBlocked_61 (by decide) ?_
            refine lv_icmp_eq (tgt := 80) hx hb dX5_isBlocked_62 (by decide) (fun c_10 => ?_) (fun c_10 => ?_)
            · have hs := sp_t c_10 hs
              refine lv_iconst (v := 1) hx hb dX5_isBlocked_80 (by decide) ?_
              refine lv_goto (tgt := 85) hx hb dX5_isBlocked_81 (by decide) ?_
              refine lv_istore_n (lv' := [(3, .int (1)), (5, .int (v_4)), (0, .ref (h 0)), (1, .int (a1)), (2, .int (a2)), (4, .int (p4))]) hx hb dX5_isBlocked_85 rfl hl (by decide) rfl (fun ls hl => ?_)
              refine lv_iinc (v := p4 + 1) (lv' := [(4, .int (p4 + 1)), (3, .int (1)), (5, .int (v_4)), (0, .ref (h 0)), (1, .int (a1)), (2, .int (a2))]) hx hb dX5_isBlocked_86 hl (k := 5) rfl rfl (by decide) rfl (fun ls hl => ?_)
              refine lv_goto (tgt := 12) hx hb dX5_isBlocked_89 (by decide) ?_
              exact ih12  (1) (p4 + 1) hs ls (lv_sub hl [3, 4, 5, 1, 0] rfl)
            · have hs := sp_f c_10 hs
              refine lv_aload_n hx hb dX5_isBlocked_65 rfl (lv_at hl 1 rfl) ?_
              refine va_get (D := D) (ci := 5) (fs := fsM h (x)) (v := .ref (h 5)) (C := RX5) (T := TX5) (N := 30) hx hb hts iX5 hown hK hP 0 rfl rfl 5 (by decide) (hts (.fieldLink RX5 22 "FacadeShowModel" "hasMast" "[Z") (by decide +kernel)) (fun _ h9 => h9) rfl dX5_isBlocked_66 ?_
              refine lv_iload hx hb dX5_isBlocked_69 (lv_at hl 0 rfl) ?_
              refine lv_iload hx hb dX5_isBlocked_71 (lv_at hl 5 rfl) ?_
              obtain ⟨v_11, h_11, hs⟩ := sp_b hs
              refine rd_i (va_runS (As := [.int (v_4), .int (p4)]) (rest := [.ref (h 5)]) ⟨hx, hb, hml, hown, hts⟩ (c_X5_at l D ca v_4 p4 h_11) (va_cwS 2 hts gX5_isBlocked_X5_at rfl rfl rfl (by decide +kernel) ⟨Nat.le_of_ble_eq_true rfl, Nat.le_of_ble_eq_true rfl⟩) (rP_S va_P_nil hC) rfl rfl hl.1 rfl (lv_room (Nat.le_of_ble_eq_true rfl)) dX5_isBlocked_73 ⟨Nat.zero_le _, Nat.zero_le _⟩) ?_
              obtain ⟨h_12, hs⟩ := sp_c hs
              refine va_zald (D := D) (cA := ca 1) (n := 192) (f := (x).1 5) hx hb hK hP 5 1 rfl rfl h_12 dX5_isBlocked_76 ?_
              refine lv_if_eq (tgt := 84) hx hb dX5_isBlocked_77 (by decide) (fun c_13 => ?_) (fun c_13 => ?_)
              · have hs := sp_t c_13 hs
                refine lv_iconst (v := 0) hx hb dX5_isBlocked_84 (by decide) ?_
                refine lv_istore_n (lv' := [(3, .int (0)), (5, .int (v_4)), (0, .ref (h 0)), (1, .int (a1)), (2, .int (a2)), (4, .int (p4))]) hx hb dX5_isBlocked_85 rfl hl (by decide) rfl (fun ls hl => ?_)
                refine lv_iinc (v := p4 + 1) (lv' := [(4, .int (p4 + 1)), (3, .int (0)), (5, .int (v_4)), (0, .ref (h 0)), (1, .int (a1)), (2, .int (a2))]) hx hb dX5_isBlocked_86 hl (k := 5) rfl rfl (by decide) rfl (fun ls hl => ?_)
                refine lv_goto (tgt := 12) hx hb dX5_isBlocked_89 (by decide) ?_
                exact ih12  (0) (p4 + 1) hs ls (lv_sub hl [3, 4, 5, 1, 0] rfl)
              · have hs := sp_f c_13 hs
                refine lv_iconst (v := 1) hx hb dX5_isBlocked_80 (by decide) ?_
                refine lv_goto (tgt := 85) hx hb dX5_isBlocked_81 (by decide) ?_
                refine lv_istore_n (lv' := [(3, .int (1)), (5, .int (v_4)), (0, .ref (h 0)), (1, .int (a1)), (2, .int (a2)), (4, .int (p4))]) hx hb dX5_isBlocked_85 rfl hl (by decide) rfl (fun ls hl => ?_)
                refine lv_iinc (v := p4 + 1) (lv' := [(4, .int (p4 + 1)), (3, .int (1)), (5, .int (v_4)), (0, .ref (h 0)), (1, .int (a1)), (2, .int (a2))]) hx hb dX5_isBlocked_86 hl (k := 5) rfl rfl (by decide) rfl (fun ls hl => ?_)
                refine lv_goto (tgt := 12) hx hb dX5_isBlocked_89 (by decide) ?_
                exact ih12  (1) (p4 + 1) hs ls (lv_sub hl [3, 4, 5, 1, 0] rfl)
  unfold s_X5_isBlocked at hs
  refine lv_iconst (v := 0) hx hb dX5_isBlocked_0 (by decide) ?_
  refine lv_istore_n (lv' := [(3, .int (0)), (0, .ref (h 0)), (1, .int (a1)), (2, .int (a2))]) hx hb dX5_isBlocked_1 rfl hl (by decide) rfl (fun ls hl => ?_)
  refine lv_aload_n hx hb dX5_isBlocked_2 rfl (lv_at hl 1 rfl) ?_
  refine va_get (D := D) (ci := 5) (fs := fsM h (x)) (v := .ref (h 1)) (C := RX5) (T := TX5) (N := 30) hx hb hts iX5 hown hK hP 0 rfl rfl 1 (by decide) (hts (.fieldLink RX5 7 "FacadeShowModel" "relief" "[I") (by decide +kernel)) (fun _ h9 => h9) rfl dX5_isBlocked_3 ?_
  refine lv_iload_n hx hb dX5_isBlocked_6 rfl (lv_at hl 3 rfl) ?_
  obtain ⟨h_14, hs⟩ := sp_c hs
  refine va_iald (D := D) (cA := ca 0) (n := 16) (f := (x).1 1) hx hb hK hP 1 0 rfl rfl h_14 dX5_isBlocked_7 ?_
  refine lv_iconst (v := 1) hx hb dX5_isBlocked_8 (by decide) ?_
  refine lv_iadd hx hb dX5_isBlocked_9 ?_
  refine lv_istore (lv' := [(4, .int ((x.1 1 a2.toNatClampNeg) + 1)), (3, .int (0)), (0, .ref (h 0)), (1, .int (a1)), (2, .int (a2))]) hx hb dX5_isBlocked_10 hl (by decide) rfl (fun ls hl => ?_)
  exact b12  FU (0) ((x.1 1 a2.toNatClampNeg) + 1) hs ls (lv_sub hl [2, 3, 4, 1, 0] rfl)
def s_X5_covers_b18 (x : XS) (a1 : Int32) (a2 : Int32) (q0 : Int32) : Option Int32 := chk 10 a1 ((if (x.1 12 a1.toNatClampNeg) = (-1) then some 0 else chk 10 a1 (chk 10 a1 ((s_X5_in (a2 - q0) (x.1 11 a1.toNatClampNeg) (x.1 12 a1.toNatClampNeg)).bind fun v_5 => (if v_5 = 0 then some 0 else some 1)))))
def s_X5_covers (x : XS) (a1 : Int32) (a2 : Int32) : Option Int32 := (if (x.1 0 20) ≤ 3 then s_X5_covers_b18 x a1 a2  (0) else s_X5_covers_b18 x a1 a2  ((x.1 0 20) - 3))
set_option maxHeartbeats 4000000 in
set_option maxRecDepth 100000 in
theorem c_X5_covers (l : Launch) (D : va_G) (ca : Nat → ClassId) (h : Nat → Nat) (x : XS) (a1 : Int32) (a2 : Int32) {r : Int32} (hs : s_X5_covers x a1 a2 = some r) : Met l yX5_covers wsX5_covers ({ frames := 1, cells := 0, slots := 0, locals := 22 }) (rP [.ref (h 0), .int (a1), .int (a2)] D ca (wM h ca x)) (vp_Si (fun z => z = r)) 0 0 (fun _ => False) := by
  refine Met.ofW (cc := cX5_covers) (maxL := 4) (ret := (some .boolean)) (by decide) rfl ?_
  intro p e s m args below meth c s₁ B hml hv
  obtain ⟨rfl, hP, hC⟩ := hv
  have hx := B.exec
  have hb := B.bytes
  have hr := B.returns
  have hts := atoms_spec (ws := wsX5_covers) B.pre
  have hown : s.vm.findClass RX5 = some m.cls := findClass_of_methodNamed B.named
  have hlocks := B.notSynchronized
  have hK := hC.1
  have iX5 : ∀ w ∈ u_ws RX5 TX5 30, w ∈ wsX5_covers := by decide +kernel
  have hl := lv_entry ([.ref (h 0), .int (a1), .int (a2)]) (n := 4) (Nat.le_of_ble_eq_true rfl)
  rw [lg_entry_eq]
  generalize (lg_sl ([.ref (h 0), .int (a1), .int (a2)]) ++ List.replicate (4 - (lg_sl ([.ref (h 0), .int (a1), .int (a2)])).length) Slot.unset).toArray = ls at hl ⊢
  have hl : lv_has ls 4 [(0, .ref (h 0)), (1, .int (a1)), (2, .int (a2))] := hl
  have b18 : ∀ (q0 : Int32), s_X5_covers_b18 x a1 a2 q0 = some r → ∀ (ls : Array Slot), lv_has ls 4 [(0, .ref (h 0)), (1, .int (a1)), (2, .int (a2))] → W p l e (headSpec wsX5_covers ({ frames := 1, cells := 0, slots := 0, locals := 22 })).room s m #[.ref (h 0), .int (a1), .int (a2)] below meth c s.heap [] 0 0 (MQ below (vp_Si (fun z => z = r)) #[.ref (h 0), .int (a1), .int (a2)] s 0 0 (fun _ => False)) (F0 m 18 ls [.int (q0)]) := by
    intro q0 hs ls hl
    unfold s_X5_covers_b18 at hs
    refine lv_istore_n (lv' := [(3, .int (q0)), (0, .ref (h 0)), (1, .int (a1)), (2, .int (a2))]) hx hb dX5_covers_18 rfl hl (by decide) rfl (fun ls hl => ?_)
    refine lv_aload_n hx hb dX5_covers_19 rfl (lv_at hl 1 rfl) ?_
    refine va_get (D := D) (ci := 5) (fs := fsM h (x)) (v := .ref (h 12)) (C := RX5) (T := TX5) (N := 30) hx hb hts iX5 hown hK hP 0 rfl rfl 15 (by decide) (hts (.fieldLink RX5 48 "FacadeShowModel" "last" "[I") (by decide +kernel)) (fun _ h9 => h9) rfl dX5_covers_20 ?_
    refine lv_iload_n hx hb dX5_covers_23 rfl (lv_at hl 2 rfl) ?_
    obtain ⟨h_1, hs⟩ := sp_c hs
    refine va_iald (D := D) (cA := ca 0) (n := 10) (f := (x).1 12) hx hb hK hP 12 0 rfl rfl h_1 dX5_covers_24 ?_
    refine lv_iconst (v := -1) hx hb dX5_covers_25 (by decide) ?_
    refine lv_icmp_eq (tgt := 54) hx hb dX5_covers_26 (by decide) (fun c_2 => ?_) (fun c_2 => ?_)
    · have hs := sp_t c_2 hs
      refine lv_iconst (v := 0) hx hb dX5_covers_54 (by decide) ?_
      exact rt_z hx hb hr (by decide) hs dX5_covers_55 hlocks
    · have hs := sp_f c_2 hs
      refine lv_iload_n hx hb dX5_covers_29 rfl (lv_at hl 3 rfl) ?_
      refine lv_iload_n hx hb dX5_covers_30 rfl (lv_at hl 0 rfl) ?_
      refine lv_isub hx hb dX5_covers_31 ?_
      refine lv_aload_n hx hb dX5_covers_32 rfl (lv_at hl 1 rfl) ?_
      refine va_get (D := D) (ci := 5) (fs := fsM h (x)) (v := .ref (h 11)) (C := RX5) (T := TX5) (N := 30) hx hb hts iX5 hown hK hP 0 rfl rfl 14 (by decide) (hts (.fieldLink RX5 45 "FacadeShowModel" "first" "[I") (by decide +kernel)) (fun _ h9 => h9) rfl dX5_covers_33 ?_
      refine lv_iload_n hx hb dX5_covers_36 rfl (lv_at hl 2 rfl) ?_
      obtain ⟨h_3, hs⟩ := sp_c hs
      refine va_iald (D := D) (cA := ca 0) (n := 10) (f := (x).1 11) hx hb hK hP 11 0 rfl rfl h_3 dX5_covers_37 ?_
      refine lv_aload_n hx hb dX5_covers_38 rfl (lv_at hl 1 rfl) ?_
      refine va_get (D := D) (ci := 5) (fs := fsM h (x)) (v := .ref (h 12)) (C := RX5) (T := TX5) (N := 30) hx hb hts iX5 hown hK hP 0 rfl rfl 15 (by decide) (hts (.fieldLink RX5 48 "FacadeShowModel" "last" "[I") (by decide +kernel)) (fun _ h9 => h9) rfl dX5_covers_39 ?_
      refine lv_iload_n hx hb dX5_covers_42 rfl (lv_at hl 2 rfl) ?_
      obtain ⟨h_4, hs⟩ := sp_c hs
      refine va_iald (D := D) (cA := ca 0) (n := 10) (f := (x).1 12) hx hb hK hP 12 0 rfl rfl h_4 dX5_covers_43 ?_
      obtain ⟨v_5, h_5, hs⟩ := sp_b hs
      refine rd_i (va_runS (As := [.int (a2 - q0), .int (x.1 11 a1.toNatClampNeg), .int (x.1 12 a1.toNatClampNeg)]) (rest := []) ⟨hx, hb, hml, hown, hts⟩ (c_X5_in l D ca (a2 - q0) (x.1 11 a1.toNatClampNeg) (x.1 12 a1.toNatClampNeg) h_5) (va_cwS 3 hts gX5_covers_X5_in rfl rfl rfl (by decide +kernel) ⟨Nat.le_of_ble_eq_true rfl, Nat.le_of_ble_eq_true rfl⟩) (rP_S va_P_nil hC) rfl rfl hl.1 rfl (lv_room (Nat.le_of_ble_eq_true rfl)) dX5_covers_44 ⟨Nat.zero_le _, Nat.zero_le _⟩) ?_
      refine lv_if_eq (tgt := 54) hx hb dX5_covers_47 (by decide) (fun c_6 => ?_) (fun c_6 => ?_)
      · have hs := sp_t c_6 hs
        refine lv_iconst (v := 0) hx hb dX5_covers_54 (by decide) ?_
        exact rt_z hx hb hr (by decide) hs dX5_covers_55 hlocks
      · have hs := sp_f c_6 hs
        refine lv_iconst (v := 1) hx hb dX5_covers_50 (by decide) ?_
        refine lv_goto (tgt := 55) hx hb dX5_covers_51 (by decide) ?_
        exact rt_z hx hb hr (by decide) hs dX5_covers_55 hlocks
  unfold s_X5_covers at hs
  refine lv_aload_n hx hb dX5_covers_0 rfl (lv_at hl 0 rfl) ?_
  refine va_get (D := D) (ci := 5) (fs := fsM h (x)) (v := .int (x.1 0 20)) (C := RX5) (T := TX5) (N := 30) hx hb hts iX5 hown hK hP 0 rfl rfl 20 (by decide) (hts (.fieldLink RX5 106 "FacadeShowModel" "wind" "I") (by decide +kernel)) (fun _ h9 => h9) rfl dX5_covers_1 ?_
  refine lv_iconst (v := 3) hx hb dX5_covers_4 (by decide) ?_
  refine lv_icmp_le (tgt := 17) hx hb dX5_covers_5 (by decide) (fun c_7 => ?_) (fun c_7 => ?_)
  · have hs := sp_t c_7 hs
    refine lv_iconst (v := 0) hx hb dX5_covers_17 (by decide) ?_
    exact b18  (0) hs ls (lv_sub hl [0, 1, 2] rfl)
  · have hs := sp_f c_7 hs
    refine lv_aload_n hx hb dX5_covers_8 rfl (lv_at hl 0 rfl) ?_
    refine va_get (D := D) (ci := 5) (fs := fsM h (x)) (v := .int (x.1 0 20)) (C := RX5) (T := TX5) (N := 30) hx hb hts iX5 hown hK hP 0 rfl rfl 20 (by decide) (hts (.fieldLink RX5 106 "FacadeShowModel" "wind" "I") (by decide +kernel)) (fun _ h9 => h9) rfl dX5_covers_9 ?_
    refine lv_iconst (v := 3) hx hb dX5_covers_12 (by decide) ?_
    refine lv_isub hx hb dX5_covers_13 ?_
    refine lv_goto (tgt := 18) hx hb dX5_covers_14 (by decide) ?_
    exact b18  ((x.1 0 20) - 3) hs ls (lv_sub hl [0, 1, 2] rfl)
def s_X5_lightOf (x : XS) (a1 : Int32) (a2 : Int32) : Option Int32 := (s_X5_covers x a1 a2).bind fun v_1 => (if v_1 = 0 then some (0) else (s_X5_isBlocked x a1 a2).bind fun v_3 => (if v_3 = 0 then chk 10 a1 (chk 10 a1 (chk 16 a2 (chk 10 a1 (dvz (((a2 - (x.1 6 a1.toNatClampNeg)) * (a2 - (x.1 6 a1.toNatClampNeg))) + (((x.1 7 a1.toNatClampNeg) - (x.1 1 a2.toNatClampNeg)) * ((x.1 7 a1.toNatClampNeg) - (x.1 1 a2.toNatClampNeg)))) (chk 16 a2 (chk 3 (x.1 2 a2.toNatClampNeg) (some ((((100 * (x.1 8 a1.toNatClampNeg)) / (((a2 - (x.1 6 a1.toNatClampNeg)) * (a2 - (x.1 6 a1.toNatClampNeg))) + (((x.1 7 a1.toNatClampNeg) - (x.1 1 a2.toNatClampNeg)) * ((x.1 7 a1.toNatClampNeg) - (x.1 1 a2.toNatClampNeg))))) * (x.1 3 (x.1 2 a2.toNatClampNeg).toNatClampNeg)) / 100)))))))) else some (0)))
set_option maxHeartbeats 4000000 in
set_option maxRecDepth 100000 in
theorem c_X5_lightOf (l : Launch) (D : va_G) (ca : Nat → ClassId) (h : Nat → Nat) (x : XS) (a1 : Int32) (a2 : Int32) {r : Int32} (hs : s_X5_lightOf x a1 a2 = some r) : Met l yX5_lightOf wsX5_lightOf ({ frames := 2, cells := 0, slots := 0, locals := 50 }) (rP [.ref (h 0), .int (a1), .int (a2)] D ca (wM h ca x)) (vp_Si (fun z => z = r)) 0 0 (fun _ => False) := by
  refine Met.ofW (cc := cX5_lightOf) (maxL := 6) (ret := (some .int)) (by decide) rfl ?_
  intro p e s m args below meth c s₁ B hml hv
  obtain ⟨rfl, hP, hC⟩ := hv
  have hx := B.exec
  have hb := B.bytes
  have hr := B.returns
  have hts := atoms_spec (ws := wsX5_lightOf) B.pre
  have hown : s.vm.findClass RX5 = some m.cls := findClass_of_methodNamed B.named
  have hlocks := B.notSynchronized
  have hK := hC.1
  have iX5 : ∀ w ∈ u_ws RX5 TX5 30, w ∈ wsX5_lightOf := by decide +kernel
  have hl := lv_entry ([.ref (h 0), .int (a1), .int (a2)]) (n := 6) (Nat.le_of_ble_eq_true rfl)
  rw [lg_entry_eq]
  generalize (lg_sl ([.ref (h 0), .int (a1), .int (a2)]) ++ List.replicate (6 - (lg_sl ([.ref (h 0), .int (a1), .int (a2)])).length) Slot.unset).toArray = ls at hl ⊢
  have hl : lv_has ls 6 [(0, .ref (h 0)), (1, .int (a1)), (2, .int (a2))] := hl
  unfold s_X5_lightOf at hs
  refine lv_aload_n hx hb dX5_lightOf_0 rfl (lv_at hl 0 rfl) ?_
  refine lv_iload_n hx hb dX5_lightOf_1 rfl (lv_at hl 1 rfl) ?_
  refine lv_iload_n hx hb dX5_lightOf_2 rfl (lv_at hl 2 rfl) ?_
  obtain ⟨v_1, h_1, hs⟩ := sp_b hs
  refine rd_i (va_runV (As := [.int (a1), .int (a2)]) (rest := []) ⟨hx, hb, hml, hown, hts⟩ (c_X5_covers l D ca h x a1 a2 h_1) (cwV 2 hts gX5_lightOf_X5_covers rfl rfl rfl (by decide +kernel) ⟨Nat.le_of_ble_eq_true rfl, Nat.le_of_ble_eq_true rfl⟩) (rP_V (q := (RX5, TX5, 30)) hP hC 0 rfl rfl) rfl rfl hl.1 rfl (lv_room (Nat.le_of_ble_eq_true rfl)) dX5_lightOf_3 ⟨Nat.zero_le _, Nat.zero_le _⟩) ?_
  refine lv_if_eq (tgt := 18) hx hb dX5_lightOf_6 (by decide) (fun c_2 => ?_) (fun c_2 => ?_)
  · have hs := sp_t c_2 hs
    refine lv_iconst (v := 0) hx hb dX5_lightOf_18 (by decide) ?_
    exact rt_i hx hb hr hs dX5_lightOf_19 hlocks
  · have hs := sp_f c_2 hs
    refine lv_aload_n hx hb dX5_lightOf_9 rfl (lv_at hl 0 rfl) ?_
    refine lv_iload_n hx hb dX5_lightOf_10 rfl (lv_at hl 1 rfl) ?_
    refine lv_iload_n hx hb dX5_lightOf_11 rfl (lv_at hl 2 rfl) ?_
    obtain ⟨v_3, h_3, hs⟩ := sp_b hs
    refine rd_i (va_runV (As := [.int (a1), .int (a2)]) (rest := []) ⟨hx, hb, hml, hown, hts⟩ (c_X5_isBlocked l D ca h x a1 a2 h_3) (cwV 2 hts gX5_lightOf_X5_isBlocked rfl rfl rfl (by decide +kernel) ⟨Nat.le_of_ble_eq_true rfl, Nat.le_of_ble_eq_true rfl⟩) (rP_V (q := (RX5, TX5, 30)) hP hC 0 rfl rfl) rfl rfl hl.1 rfl (lv_room (Nat.le_of_ble_eq_true rfl)) dX5_lightOf_12 ⟨Nat.zero_le _, Nat.zero_le _⟩) ?_
    refine lv_if_eq (tgt := 20) hx hb dX5_lightOf_15 (by decide) (fun c_4 => ?_) (fun c_4 => ?_)
    · have hs := sp_t c_4 hs
      refine lv_iload_n hx hb dX5_lightOf_20 rfl (lv_at hl 2 rfl) ?_
      refine lv_aload_n hx hb dX5_lightOf_21 rfl (lv_at hl 0 rfl) ?_
      refine va_get (D := D) (ci := 5) (fs := fsM h (x)) (v := .ref (h 6)) (C := RX5) (T := TX5) (N := 30) hx hb hts iX5 hown hK hP 0 rfl rfl 9 (by decide) (hts (.fieldLink RX5 30 "FacadeShowModel" "column" "[I") (by decide +kernel)) (fun _ h9 => h9) rfl dX5_lightOf_22 ?_
      refine lv_iload_n hx hb dX5_lightOf_25 rfl (lv_at hl 1 rfl) ?_
      obtain ⟨h_5, hs⟩ := sp_c hs
      refine va_iald (D := D) (cA := ca 0) (n := 10) (f := (x).1 6) hx hb hK hP 6 0 rfl rfl h_5 dX5_lightOf_26 ?_
      refine lv_isub hx hb dX5_lightOf_27 ?_
      refine lv_istore_n (lv' := [(3, .int (a2 - (x.1 6 a1.toNatClampNeg))), (0, .ref (h 0)), (1, .int (a1)), (2, .int (a2))]) hx hb dX5_lightOf_28 rfl hl (by decide) rfl (fun ls hl => ?_)
      refine lv_aload_n hx hb dX5_lightOf_29 rfl (lv_at hl 1 rfl) ?_
      refine va_get (D := D) (ci := 5) (fs := fsM h (x)) (v := .ref (h 7)) (C := RX5) (T := TX5) (N := 30) hx hb hts iX5 hown hK hP 0 rfl rfl 10 (by decide) (hts (.fieldLink RX5 33 "FacadeShowModel" "row" "[I") (by decide +kernel)) (fun _ h9 => h9) rfl dX5_lightOf_30 ?_
      refine lv_iload_n hx hb dX5_lightOf_33 rfl (lv_at hl 2 rfl) ?_
      obtain ⟨h_6, hs⟩ := sp_c hs
      refine va_iald (D := D) (cA := ca 0) (n := 10) (f := (x).1 7) hx hb hK hP 7 0 rfl rfl h_6 dX5_lightOf_34 ?_
      refine lv_aload_n hx hb dX5_lightOf_35 rfl (lv_at hl 1 rfl) ?_
      refine va_get (D := D) (ci := 5) (fs := fsM h (x)) (v := .ref (h 1)) (C := RX5) (T := TX5) (N := 30) hx hb hts iX5 hown hK hP 0 rfl rfl 1 (by decide) (hts (.fieldLink RX5 7 "FacadeShowModel" "relief" "[I") (by decide +kernel)) (fun _ h9 => h9) rfl dX5_lightOf_36 ?_
      refine lv_iload_n hx hb dX5_lightOf_39 rfl (lv_at hl 3 rfl) ?_
      obtain ⟨h_7, hs⟩ := sp_c hs
      refine va_iald (D := D) (cA := ca 0) (n := 16) (f := (x).1 1) hx hb hK hP 1 0 rfl rfl h_7 dX5_lightOf_40 ?_
      refine lv_isub hx hb dX5_lightOf_41 ?_
      refine lv_istore (lv' := [(4, .int ((x.1 7 a1.toNatClampNeg) - (x.1 1 a2.toNatClampNeg))), (3, .int (a2 - (x.1 6 a1.toNatClampNeg))), (0, .ref (h 0)), (1, .int (a1)), (2, .int (a2))]) hx hb dX5_lightOf_42 hl (by decide) rfl (fun ls hl => ?_)
      refine lv_bipush (v := 100) hx hb dX5_lightOf_44 (by decide) ?_
      refine lv_aload_n hx hb dX5_lightOf_46 rfl (lv_at hl 2 rfl) ?_
      refine va_get (D := D) (ci := 5) (fs := fsM h (x)) (v := .ref (h 8)) (C := RX5) (T := TX5) (N := 30) hx hb hts iX5 hown hK hP 0 rfl rfl 11 (by decide) (hts (.fieldLink RX5 36 "FacadeShowModel" "power" "[I") (by decide +kernel)) (fun _ h9 => h9) rfl dX5_lightOf_47 ?_
      refine lv_iload_n hx hb dX5_lightOf_50 rfl (lv_at hl 3 rfl) ?_
      obtain ⟨h_8, hs⟩ := sp_c hs
      refine va_iald (D := D) (cA := ca 0) (n := 10) (f := (x).1 8) hx hb hK hP 8 0 rfl rfl h_8 dX5_lightOf_51 ?_
      refine lv_imul hx hb dX5_lightOf_52 ?_
      refine lv_iload_n hx hb dX5_lightOf_53 rfl (lv_at hl 1 rfl) ?_
      refine lv_iload_n hx hb dX5_lightOf_54 rfl (lv_at hl 1 rfl) ?_
      refine lv_imul hx hb dX5_lightOf_55 ?_
      refine lv_iload hx hb dX5_lightOf_56 (lv_at hl 0 rfl) ?_
      refine lv_iload hx hb dX5_lightOf_58 (lv_at hl 0 rfl) ?_
      refine lv_imul hx hb dX5_lightOf_60 ?_
      refine lv_iadd hx hb dX5_lightOf_61 ?_
      obtain ⟨h_9, hs⟩ := sp_d hs
      refine lv_idiv hx hb dX5_lightOf_62 h_9 ?_
      refine lv_istore (lv' := [(5, .int ((100 * (x.1 8 a1.toNatClampNeg)) / (((a2 - (x.1 6 a1.toNatClampNeg)) * (a2 - (x.1 6 a1.toNatClampNeg))) + (((x.1 7 a1.toNatClampNeg) - (x.1 1 a2.toNatClampNeg)) * ((x.1 7 a1.toNatClampNeg) - (x.1 1 a2.toNatClampNeg)))))), (4, .int ((x.1 7 a1.toNatClampNeg) - (x.1 1 a2.toNatClampNeg))), (3, .int (a2 - (x.1 6 a1.toNatClampNeg))), (0, .ref (h 0)), (1, .int (a1)), (2, .int (a2))]) hx hb dX5_lightOf_63 hl (by decide) rfl (fun ls hl => ?_)
      refine lv_iload hx hb dX5_lightOf_65 (lv_at hl 0 rfl) ?_
      refine lv_aload_n hx hb dX5_lightOf_67 rfl (lv_at hl 3 rfl) ?_
      refine va_get (D := D) (ci := 5) (fs := fsM h (x)) (v := .ref (h 3)) (C := RX5) (T := TX5) (N := 30) hx hb hts iX5 hown hK hP 0 rfl rfl 3 (by decide) (hts (.fieldLink RX5 16 "FacadeShowModel" "back" "[I") (by decide +kernel)) (fun _ h9 => h9) rfl dX5_lightOf_68 ?_
      refine lv_aload_n hx hb dX5_lightOf_71 rfl (lv_at hl 3 rfl) ?_
      refine va_get (D := D) (ci := 5) (fs := fsM h (x)) (v := .ref (h 2)) (C := RX5) (T := TX5) (N := 30) hx hb hts iX5 hown hK hP 0 rfl rfl 2 (by decide) (hts (.fieldLink RX5 13 "FacadeShowModel" "surface" "[I") (by decide +kernel)) (fun _ h9 => h9) rfl dX5_lightOf_72 ?_
      refine lv_iload_n hx hb dX5_lightOf_75 rfl (lv_at hl 5 rfl) ?_
      obtain ⟨h_10, hs⟩ := sp_c hs
      refine va_iald (D := D) (cA := ca 0) (n := 16) (f := (x).1 2) hx hb hK hP 2 0 rfl rfl h_10 dX5_lightOf_76 ?_
      obtain ⟨h_11, hs⟩ := sp_c hs
      refine va_iald (D := D) (cA := ca 0) (n := 3) (f := (x).1 3) hx hb hK hP 3 0 rfl rfl h_11 dX5_lightOf_77 ?_
      refine lv_imul hx hb dX5_lightOf_78 ?_
      refine lv_bipush (v := 100) hx hb dX5_lightOf_79 (by decide) ?_
      refine lv_idiv hx hb dX5_lightOf_81 (by decide) ?_
      exact rt_i hx hb hr hs dX5_lightOf_82 hlocks
    · have hs := sp_f c_4 hs
      refine lv_iconst (v := 0) hx hb dX5_lightOf_18 (by decide) ?_
      exact rt_i hx hb hr hs dX5_lightOf_19 hlocks
def s_X5_isSharpAt (x : XS) (a1 : Int32) (a2 : Int32) : Option Int32 := chk 10 a1 (chk 16 a2 (chk 10 a1 ((s_X5_in (((x.1 7 a1.toNatClampNeg) - (x.1 1 a2.toNatClampNeg)) - (x.1 10 a1.toNatClampNeg)) (-1) 1).bind fun v_4 => zb v_4 (some (v_4)))))
set_option maxHeartbeats 4000000 in
set_option maxRecDepth 100000 in
theorem c_X5_isSharpAt (l : Launch) (D : va_G) (ca : Nat → ClassId) (h : Nat → Nat) (x : XS) (a1 : Int32) (a2 : Int32) {r : Int32} (hs : s_X5_isSharpAt x a1 a2 = some r) : Met l yX5_isSharpAt wsX5_isSharpAt ({ frames := 1, cells := 0, slots := 0, locals := 22 }) (rP [.ref (h 0), .int (a1), .int (a2)] D ca (wM h ca x)) (vp_Si (fun z => z = r)) 0 0 (fun _ => False) := by
  refine Met.ofW (cc := cX5_isSharpAt) (maxL := 3) (ret := (some .boolean)) (by decide) rfl ?_
  intro p e s m args below meth c s₁ B hml hv
  obtain ⟨rfl, hP, hC⟩ := hv
  have hx := B.exec
  have hb := B.bytes
  have hr := B.returns
  have hts := atoms_spec (ws := wsX5_isSharpAt) B.pre
  have hown : s.vm.findClass RX5 = some m.cls := findClass_of_methodNamed B.named
  have hlocks := B.notSynchronized
  have hK := hC.1
  have iX5 : ∀ w ∈ u_ws RX5 TX5 30, w ∈ wsX5_isSharpAt := by decide +kernel
  have hl := lv_entry ([.ref (h 0), .int (a1), .int (a2)]) (n := 3) (Nat.le_of_ble_eq_true rfl)
  rw [lg_entry_eq]
  generalize (lg_sl ([.ref (h 0), .int (a1), .int (a2)]) ++ List.replicate (3 - (lg_sl ([.ref (h 0), .int (a1), .int (a2)])).length) Slot.unset).toArray = ls at hl ⊢
  have hl : lv_has ls 3 [(0, .ref (h 0)), (1, .int (a1)), (2, .int (a2))] := hl
  unfold s_X5_isSharpAt at hs
  refine lv_aload_n hx hb dX5_isSharpAt_0 rfl (lv_at hl 0 rfl) ?_
  refine va_get (D := D) (ci := 5) (fs := fsM h (x)) (v := .ref (h 7)) (C := RX5) (T := TX5) (N := 30) hx hb hts iX5 hown hK hP 0 rfl rfl 10 (by decide) (hts (.fieldLink RX5 33 "FacadeShowModel" "row" "[I") (by decide +kernel)) (fun _ h9 => h9) rfl dX5_isSharpAt_1 ?_
  refine lv_iload_n hx hb dX5_isSharpAt_4 rfl (lv_at hl 1 rfl) ?_
  obtain ⟨h_1, hs⟩ := sp_c hs
  refine va_iald (D := D) (cA := ca 0) (n := 10) (f := (x).1 7) hx hb hK hP 7 0 rfl rfl h_1 dX5_isSharpAt_5 ?_
  refine lv_aload_n hx hb dX5_isSharpAt_6 rfl (lv_at hl 0 rfl) ?_
  refine va_get (D := D) (ci := 5) (fs := fsM h (x)) (v := .ref (h 1)) (C := RX5) (T := TX5) (N := 30) hx hb hts iX5 hown hK hP 0 rfl rfl 1 (by decide) (hts (.fieldLink RX5 7 "FacadeShowModel" "relief" "[I") (by decide +kernel)) (fun _ h9 => h9) rfl dX5_isSharpAt_7 ?_
  refine lv_iload_n hx hb dX5_isSharpAt_10 rfl (lv_at hl 2 rfl) ?_
  obtain ⟨h_2, hs⟩ := sp_c hs
  refine va_iald (D := D) (cA := ca 0) (n := 16) (f := (x).1 1) hx hb hK hP 1 0 rfl rfl h_2 dX5_isSharpAt_11 ?_
  refine lv_isub hx hb dX5_isSharpAt_12 ?_
  refine lv_aload_n hx hb dX5_isSharpAt_13 rfl (lv_at hl 0 rfl) ?_
  refine va_get (D := D) (ci := 5) (fs := fsM h (x)) (v := .ref (h 10)) (C := RX5) (T := TX5) (N := 30) hx hb hts iX5 hown hK hP 0 rfl rfl 13 (by decide) (hts (.fieldLink RX5 42 "FacadeShowModel" "focus" "[I") (by decide +kernel)) (fun _ h9 => h9) rfl dX5_isSharpAt_14 ?_
  refine lv_iload_n hx hb dX5_isSharpAt_17 rfl (lv_at hl 1 rfl) ?_
  obtain ⟨h_3, hs⟩ := sp_c hs
  refine va_iald (D := D) (cA := ca 0) (n := 10) (f := (x).1 10) hx hb hK hP 10 0 rfl rfl h_3 dX5_isSharpAt_18 ?_
  refine lv_isub hx hb dX5_isSharpAt_19 ?_
  refine lv_iconst (v := -1) hx hb dX5_isSharpAt_20 (by decide) ?_
  refine lv_iconst (v := 1) hx hb dX5_isSharpAt_21 (by decide) ?_
  obtain ⟨v_4, h_4, hs⟩ := sp_b hs
  refine rd_i (va_runS (As := [.int (((x.1 7 a1.toNatClampNeg) - (x.1 1 a2.toNatClampNeg)) - (x.1 10 a1.toNatClampNeg)), .int (-1), .int (1)]) (rest := []) ⟨hx, hb, hml, hown, hts⟩ (c_X5_in l D ca (((x.1 7 a1.toNatClampNeg) - (x.1 1 a2.toNatClampNeg)) - (x.1 10 a1.toNatClampNeg)) (-1) 1 h_4) (va_cwS 3 hts gX5_isSharpAt_X5_in rfl rfl rfl (by decide +kernel) ⟨Nat.le_of_ble_eq_true rfl, Nat.le_of_ble_eq_true rfl⟩) (rP_S va_P_nil hC) rfl rfl hl.1 rfl (lv_room (Nat.le_of_ble_eq_true rfl)) dX5_isSharpAt_22 ⟨Nat.zero_le _, Nat.zero_le _⟩) ?_
  obtain ⟨h_5, hs⟩ := sp_z hs
  exact rt_z hx hb hr h_5 hs dX5_isSharpAt_25 hlocks
def s_X5_shines (x : XS) (a1 : Int32) : Option Int32 := chk 10 a1 ((if (x.1 13 a1.toNatClampNeg) = 0 then some 0 else chk 10 a1 ((if (x.1 14 a1.toNatClampNeg) = 0 then some 1 else some 0))))
set_option maxHeartbeats 4000000 in
set_option maxRecDepth 100000 in
theorem c_X5_shines (l : Launch) (D : va_G) (ca : Nat → ClassId) (h : Nat → Nat) (x : XS) (a1 : Int32) {r : Int32} (hs : s_X5_shines x a1 = some r) : Met l yX5_shines wsX5_shines ({ frames := 0, cells := 0, slots := 0, locals := 0 }) (rP [.ref (h 0), .int (a1)] D ca (wM h ca x)) (vp_Si (fun z => z = r)) 0 0 (fun _ => False) := by
  refine Met.ofW (cc := cX5_shines) (maxL := 2) (ret := (some .boolean)) (by decide) rfl ?_
  intro p e s m args below meth c s₁ B hml hv
  obtain ⟨rfl, hP, hC⟩ := hv
  have hx := B.exec
  have hb := B.bytes
  have hr := B.returns
  have hts := atoms_spec (ws := wsX5_shines) B.pre
  have hown : s.vm.findClass RX5 = some m.cls := findClass_of_methodNamed B.named
  have hlocks := B.notSynchronized
  have hK := hC.1
  have iX5 : ∀ w ∈ u_ws RX5 TX5 30, w ∈ wsX5_shines := by decide +kernel
  have hl := lv_entry ([.ref (h 0), .int (a1)]) (n := 2) (Nat.le_of_ble_eq_true rfl)
  rw [lg_entry_eq]
  generalize (lg_sl ([.ref (h 0), .int (a1)]) ++ List.replicate (2 - (lg_sl ([.ref (h 0), .int (a1)])).length) Slot.unset).toArray = ls at hl ⊢
  have hl : lv_has ls 2 [(0, .ref (h 0)), (1, .int (a1))] := hl
  unfold s_X5_shines at hs
  refine lv_aload_n hx hb dX5_shines_0 rfl (lv_at hl 0 rfl) ?_
  refine va_get (D := D) (ci := 5) (fs := fsM h (x)) (v := .ref (h 13)) (C := RX5) (T := TX5) (N := 30) hx hb hts iX5 hown hK hP 0 rfl rfl 16 (by decide) (hts (.fieldLink RX5 51 "FacadeShowModel" "isOn" "[Z") (by decide +kernel)) (fun _ h9 => h9) rfl dX5_shines_1 ?_
  refine lv_iload_n hx hb dX5_shines_4 rfl (lv_at hl 1 rfl) ?_
  obtain ⟨h_1, hs⟩ := sp_c hs
  refine va_zald (D := D) (cA := ca 1) (n := 10) (f := (x).1 13) hx hb hK hP 13 1 rfl rfl h_1 dX5_shines_5 ?_
  refine lv_if_eq (tgt := 22) hx hb dX5_shines_6 (by decide) (fun c_2 => ?_) (fun c_2 => ?_)
  · have hs := sp_t c_2 hs
    refine lv_iconst (v := 0) hx hb dX5_shines_22 (by decide) ?_
    exact rt_z hx hb hr (by decide) hs dX5_shines_23 hlocks
  · have hs := sp_f c_2 hs
    refine lv_aload_n hx hb dX5_shines_9 rfl (lv_at hl 0 rfl) ?_
    refine va_get (D := D) (ci := 5) (fs := fsM h (x)) (v := .ref (h 14)) (C := RX5) (T := TX5) (N := 30) hx hb hts iX5 hown hK hP 0 rfl rfl 17 (by decide) (hts (.fieldLink RX5 54 "FacadeShowModel" "hasFailed" "[Z") (by decide +kernel)) (fun _ h9 => h9) rfl dX5_shines_10 ?_
    refine lv_iload_n hx hb dX5_shines_13 rfl (lv_at hl 1 rfl) ?_
    obtain ⟨h_3, hs⟩ := sp_c hs
    refine va_zald (D := D) (cA := ca 1) (n := 10) (f := (x).1 14) hx hb hK hP 14 1 rfl rfl h_3 dX5_shines_14 ?_
    refine lv_if_ne (tgt := 22) hx hb dX5_shines_15 (by decide) (fun c_4 => ?_) (fun c_4 => ?_)
    · have hs := sp_f c_4 hs
      refine lv_iconst (v := 0) hx hb dX5_shines_22 (by decide) ?_
      exact rt_z hx hb hr (by decide) hs dX5_shines_23 hlocks
    · have hs := sp_t c_4 hs
      refine lv_iconst (v := 1) hx hb dX5_shines_18 (by decide) ?_
      refine lv_goto (tgt := 23) hx hb dX5_shines_19 (by decide) ?_
      exact rt_z hx hb hr (by decide) hs dX5_shines_23 hlocks
def s_X5_lightAt_b4 (x : XS) (a1 : Int32) : Nat → Int32 → Int32 → Option Int32
  | 0, _, _ => none
  | F + 1, p2, p3 => (if (x.1 0 8) ≤ p3 then some (p2) else (s_X5_shines x p3).bind fun v_2 => (if v_2 = 0 then s_X5_lightAt_b4 x a1 F (p2 + 0) (p3 + 1) else (s_X5_lightOf x p3 a1).bind fun v_4 => s_X5_lightAt_b4 x a1 F (p2 + v_4) (p3 + 1)))
def s_X5_lightAt (x : XS) (a1 : Int32) : Option Int32 := s_X5_lightAt_b4 x a1  FU (0) (0)
set_option maxHeartbeats 4000000 in
set_option maxRecDepth 100000 in
theorem c_X5_lightAt (l : Launch) (D : va_G) (ca : Nat → ClassId) (h : Nat → Nat) (x : XS) (a1 : Int32) {r : Int32} (hs : s_X5_lightAt x a1 = some r) : Met l yX5_lightAt wsX5_lightAt ({ frames := 3, cells := 0, slots := 0, locals := 75 }) (rP [.ref (h 0), .int (a1)] D ca (wM h ca x)) (vp_Si (fun z => z = r)) 0 0 (fun _ => False) := by
  refine Met.ofW (cc := cX5_lightAt) (maxL := 4) (ret := (some .int)) (by decide) rfl ?_
  intro p e s m args below meth c s₁ B hml hv
  obtain ⟨rfl, hP, hC⟩ := hv
  have hx := B.exec
  have hb := B.bytes
  have hr := B.returns
  have hts := atoms_spec (ws := wsX5_lightAt) B.pre
  have hown : s.vm.findClass RX5 = some m.cls := findClass_of_methodNamed B.named
  have hlocks := B.notSynchronized
  have hK := hC.1
  have iX5 : ∀ w ∈ u_ws RX5 TX5 30, w ∈ wsX5_lightAt := by decide +kernel
  have hl := lv_entry ([.ref (h 0), .int (a1)]) (n := 4) (Nat.le_of_ble_eq_true rfl)
  rw [lg_entry_eq]
  generalize (lg_sl ([.ref (h 0), .int (a1)]) ++ List.replicate (4 - (lg_sl ([.ref (h 0), .int (a1)])).length) Slot.unset).toArray = ls at hl ⊢
  have hl : lv_has ls 4 [(0, .ref (h 0)), (1, .int (a1))] := hl
  have b4 : ∀ (F : Nat) (p2 : Int32) (p3 : Int32), s_X5_lightAt_b4 x a1 F p2 p3 = some r → ∀ (ls : Array Slot), lv_has ls 4 [(0, .ref (h 0)), (1, .int (a1)), (2, .int (p2)), (3, .int (p3))] → W p l e (headSpec wsX5_lightAt ({ frames := 3, cells := 0, slots := 0, locals := 75 })).room s m #[.ref (h 0), .int (a1)] below meth c s.heap [] 0 0 (MQ below (vp_Si (fun z => z = r)) #[.ref (h 0), .int (a1)] s 0 0 (fun _ => False)) (F0 m 4 ls []) := by
    intro F
    induction F with
    | zero =>
      intro p2 p3 hs
      simp [s_X5_lightAt_b4] at hs
    | succ F ih4 =>
      intro p2 p3 hs ls hl
      rw [s_X5_lightAt_b4] at hs
      refine lv_iload_n hx hb dX5_lightAt_4 rfl (lv_at hl 3 rfl) ?_
      refine lv_aload_n hx hb dX5_lightAt_5 rfl (lv_at hl 0 rfl) ?_
      refine va_get (D := D) (ci := 5) (fs := fsM h (x)) (v := .int (x.1 0 8)) (C := RX5) (T := TX5) (N := 30) hx hb hts iX5 hown hK hP 0 rfl rfl 8 (by decide) (hts (.fieldLink RX5 80 "FacadeShowModel" "projectors" "I") (by decide +kernel)) (fun _ h9 => h9) rfl dX5_lightAt_6 ?_
      refine lv_icmp_ge (tgt := 39) hx hb dX5_lightAt_9 (by decide) (fun c_1 => ?_) (fun c_1 => ?_)
      · have hs := sp_t c_1 hs
        refine lv_iload_n hx hb dX5_lightAt_39 rfl (lv_at hl 2 rfl) ?_
        exact rt_i hx hb hr hs dX5_lightAt_40 hlocks
      · have hs := sp_f c_1 hs
        refine lv_iload_n hx hb dX5_lightAt_12 rfl (lv_at hl 2 rfl) ?_
        refine lv_aload_n hx hb dX5_lightAt_13 rfl (lv_at hl 0 rfl) ?_
        refine lv_iload_n hx hb dX5_lightAt_14 rfl (lv_at hl 3 rfl) ?_
        obtain ⟨v_2, h_2, hs⟩ := sp_b hs
        refine rd_i (va_runV (As := [.int (p3)]) (rest := [.int (p2)]) ⟨hx, hb, hml, hown, hts⟩ (c_X5_shines l D ca h x p3 h_2) (cwV 1 hts gX5_lightAt_X5_shines rfl rfl rfl (by decide +kernel) ⟨Nat.le_of_ble_eq_true rfl, Nat.le_of_ble_eq_true rfl⟩) (rP_V (q := (RX5, TX5, 30)) hP hC 0 rfl rfl) rfl rfl hl.1 rfl (lv_room (Nat.le_of_ble_eq_true rfl)) dX5_lightAt_15 ⟨Nat.zero_le _, Nat.zero_le _⟩) ?_
        refine lv_if_eq (tgt := 30) hx hb dX5_lightAt_18 (by decide) (fun c_3 => ?_) (fun c_3 => ?_)
        · have hs := sp_t c_3 hs
          refine lv_iconst (v := 0) hx hb dX5_lightAt_30 (by decide) ?_
          refine lv_iadd hx hb dX5_lightAt_31 ?_
          refine lv_istore_n (lv' := [(2, .int (p2 + 0)), (0, .ref (h 0)), (1, .int (a1)), (3, .int (p3))]) hx hb dX5_lightAt_32 rfl hl (by decide) rfl (fun ls hl => ?_)
          refine lv_iinc (v := p3 + 1) (lv' := [(3, .int (p3 + 1)), (2, .int (p2 + 0)), (0, .ref (h 0)), (1, .int (a1))]) hx hb dX5_lightAt_33 hl (k := 3) rfl rfl (by decide) rfl (fun ls hl => ?_)
          refine lv_goto (tgt := 4) hx hb dX5_lightAt_36 (by decide) ?_
          exact ih4  (p2 + 0) (p3 + 1) hs ls (lv_sub hl [2, 3, 1, 0] rfl)
        · have hs := sp_f c_3 hs
          refine lv_aload_n hx hb dX5_lightAt_21 rfl (lv_at hl 0 rfl) ?_
          refine lv_iload_n hx hb dX5_lightAt_22 rfl (lv_at hl 3 rfl) ?_
          refine lv_iload_n hx hb dX5_lightAt_23 rfl (lv_at hl 1 rfl) ?_
          obtain ⟨v_4, h_4, hs⟩ := sp_b hs
          refine rd_i (va_runV (As := [.int (p3), .int (a1)]) (rest := [.int (p2)]) ⟨hx, hb, hml, hown, hts⟩ (c_X5_lightOf l D ca h x p3 a1 h_4) (cwV 2 hts gX5_lightAt_X5_lightOf rfl rfl rfl (by decide +kernel) ⟨Nat.le_of_ble_eq_true rfl, Nat.le_of_ble_eq_true rfl⟩) (rP_V (q := (RX5, TX5, 30)) hP hC 0 rfl rfl) rfl rfl hl.1 rfl (lv_room (Nat.le_of_ble_eq_true rfl)) dX5_lightAt_24 ⟨Nat.zero_le _, Nat.zero_le _⟩) ?_
          refine lv_goto (tgt := 31) hx hb dX5_lightAt_27 (by decide) ?_
          refine lv_iadd hx hb dX5_lightAt_31 ?_
          refine lv_istore_n (lv' := [(2, .int (p2 + v_4)), (0, .ref (h 0)), (1, .int (a1)), (3, .int (p3))]) hx hb dX5_lightAt_32 rfl hl (by decide) rfl (fun ls hl => ?_)
          refine lv_iinc (v := p3 + 1) (lv' := [(3, .int (p3 + 1)), (2, .int (p2 + v_4)), (0, .ref (h 0)), (1, .int (a1))]) hx hb dX5_lightAt_33 hl (k := 3) rfl rfl (by decide) rfl (fun ls hl => ?_)
          refine lv_goto (tgt := 4) hx hb dX5_lightAt_36 (by decide) ?_
          exact ih4  (p2 + v_4) (p3 + 1) hs ls (lv_sub hl [2, 3, 1, 0] rfl)
  unfold s_X5_lightAt at hs
  refine lv_iconst (v := 0) hx hb dX5_lightAt_0 (by decide) ?_
  refine lv_istore_n (lv' := [(2, .int (0)), (0, .ref (h 0)), (1, .int (a1))]) hx hb dX5_lightAt_1 rfl hl (by decide) rfl (fun ls hl => ?_)
  refine lv_iconst (v := 0) hx hb dX5_lightAt_2 (by decide) ?_
  refine lv_istore_n (lv' := [(3, .int (0)), (2, .int (0)), (0, .ref (h 0)), (1, .int (a1))]) hx hb dX5_lightAt_3 rfl hl (by decide) rfl (fun ls hl => ?_)
  exact b4  FU (0) (0) hs ls (lv_sub hl [2, 3, 1, 0] rfl)
def s_X5_isWell_b48 (x : XS) (a1 : Int32) (a2 : Int32) (k8 : Int32 → Int32 → Int32 → Option Int32) (p3 : Int32) (p4 : Int32) (p5 : Int32) (q0 : Int32) : Option Int32 := (if p4 = 0 then k8 (p3 + q0) (0) (p5 + 1) else (if q0 = 0 then k8 (p3 + q0) (1) (p5 + 1) else (s_X5_isSharpAt x p5 a2).bind fun v_3 => (if v_3 = 0 then k8 (p3 + q0) (0) (p5 + 1) else k8 (p3 + q0) (1) (p5 + 1))))
def s_X5_isWell_b8 (x : XS) (a1 : Int32) (a2 : Int32) : Nat → Int32 → Int32 → Int32 → Option Int32
  | 0, _, _, _ => none
  | F + 1, p3, p4, p5 => (if (x.1 0 8) ≤ p5 then (if p4 = 0 then some 0 else (if p3 < (x.1 0 7) then some 0 else some 1)) else (if ((a1 >>> (p5 &&& 31)) &&& 1) = 1 then chk 10 p5 ((if (x.1 14 p5.toNatClampNeg) = 0 then (s_X5_lightOf x p5 a2).bind fun v_11 => s_X5_isWell_b48 x a1 a2 (fun z_p3 z_p4 z_p5 => s_X5_isWell_b8 x a1 a2 F z_p3 z_p4 z_p5) (p3) (p4) (p5) (v_11) else s_X5_isWell_b48 x a1 a2 (fun z_p3 z_p4 z_p5 => s_X5_isWell_b8 x a1 a2 F z_p3 z_p4 z_p5) (p3) (p4) (p5) (0))) else s_X5_isWell_b48 x a1 a2 (fun z_p3 z_p4 z_p5 => s_X5_isWell_b8 x a1 a2 F z_p3 z_p4 z_p5) (p3) (p4) (p5) (0)))
def s_X5_isWell (x : XS) (a1 : Int32) (a2 : Int32) : Option Int32 := s_X5_isWell_b8 x a1 a2  FU (0) (1) (0)
set_option maxHeartbeats 4000000 in
set_option maxRecDepth 100000 in
theorem c_X5_isWell (l : Launch) (D : va_G) (ca : Nat → ClassId) (h : Nat → Nat) (x : XS) (a1 : Int32) (a2 : Int32) {r : Int32} (hs : s_X5_isWell x a1 a2 = some r) : Met l yX5_isWell wsX5_isWell ({ frames := 3, cells := 0, slots := 0, locals := 75 }) (rP [.ref (h 0), .int (a1), .int (a2)] D ca (wM h ca x)) (vp_Si (fun z => z = r)) 0 0 (fun _ => False) := by
  refine Met.ofW (cc := cX5_isWell) (maxL := 7) (ret := (some .boolean)) (by decide) rfl ?_
  intro p e s m args below meth c s₁ B hml hv
  obtain ⟨rfl, hP, hC⟩ := hv
  have hx := B.exec
  have hb := B.bytes
  have hr := B.returns
  have hts := atoms_spec (ws := wsX5_isWell) B.pre
  have hown : s.vm.findClass RX5 = some m.cls := findClass_of_methodNamed B.named
  have hlocks := B.notSynchronized
  have hK := hC.1
  have iX5 : ∀ w ∈ u_ws RX5 TX5 30, w ∈ wsX5_isWell := by decide +kernel
  have hl := lv_entry ([.ref (h 0), .int (a1), .int (a2)]) (n := 7) (Nat.le_of_ble_eq_true rfl)
  rw [lg_entry_eq]
  generalize (lg_sl ([.ref (h 0), .int (a1), .int (a2)]) ++ List.replicate (7 - (lg_sl ([.ref (h 0), .int (a1), .int (a2)])).length) Slot.unset).toArray = ls at hl ⊢
  have hl : lv_has ls 7 [(0, .ref (h 0)), (1, .int (a1)), (2, .int (a2))] := hl
  have b48 : ∀ (k8 : Int32 → Int32 → Int32 → Option Int32) (_ : ∀ (p3 : Int32) (p4 : Int32) (p5 : Int32), k8 p3 p4 p5 = some r → ∀ (ls : Array Slot), lv_has ls 7 [(0, .ref (h 0)), (1, .int (a1)), (2, .int (a2)), (3, .int (p3)), (4, .int (p4)), (5, .int (p5))] → W p l e (headSpec wsX5_isWell ({ frames := 3, cells := 0, slots := 0, locals := 75 })).room s m #[.ref (h 0), .int (a1), .int (a2)] below meth c s.heap [] 0 0 (MQ below (vp_Si (fun z => z = r)) #[.ref (h 0), .int (a1), .int (a2)] s 0 0 (fun _ => False)) (F0 m 8 ls [])) (p3 : Int32) (p4 : Int32) (p5 : Int32) (q0 : Int32), s_X5_isWell_b48 x a1 a2 k8 p3 p4 p5 q0 = some r → ∀ (ls : Array Slot), lv_has ls 7 [(0, .ref (h 0)), (1, .int (a1)), (2, .int (a2)), (3, .int (p3)), (4, .int (p4)), (5, .int (p5))] → W p l e (headSpec wsX5_isWell ({ frames := 3, cells := 0, slots := 0, locals := 75 })).room s m #[.ref (h 0), .int (a1), .int (a2)] below meth c s.heap [] 0 0 (MQ below (vp_Si (fun z => z = r)) #[.ref (h 0), .int (a1), .int (a2)] s 0 0 (fun _ => False)) (F0 m 48 ls [.int (q0)]) := by
    intro k8 hk8 p3 p4 p5 q0 hs ls hl
    unfold s_X5_isWell_b48 at hs
    refine lv_istore (lv' := [(6, .int (q0)), (0, .ref (h 0)), (1, .int (a1)), (2, .int (a2)), (3, .int (p3)), (4, .int (p4)), (5, .int (p5))]) hx hb dX5_isWell_48 hl (by decide) rfl (fun ls hl => ?_)
    refine lv_iload_n hx hb dX5_isWell_50 rfl (lv_at hl 4 rfl) ?_
    refine lv_iload hx hb dX5_isWell_51 (lv_at hl 0 rfl) ?_
    refine lv_iadd hx hb dX5_isWell_53 ?_
    refine lv_istore_n (lv' := [(3, .int (p3 + q0)), (6, .int (q0)), (0, .ref (h 0)), (1, .int (a1)), (2, .int (a2)), (4, .int (p4)), (5, .int (p5))]) hx hb dX5_isWell_54 rfl hl (by decide) rfl (fun ls hl => ?_)
    refine lv_iload hx hb dX5_isWell_55 (lv_at hl 5 rfl) ?_
    refine lv_if_eq (tgt := 79) hx hb dX5_isWell_57 (by decide) (fun c_1 => ?_) (fun c_1 => ?_)
    · have hs := sp_t c_1 hs
      refine lv_iconst (v := 0) hx hb dX5_isWell_79 (by decide) ?_
      refine lv_istore (lv' := [(4, .int (0)), (3, .int (p3 + q0)), (6, .int (q0)), (0, .ref (h 0)), (1, .int (a1)), (2, .int (a2)), (5, .int (p5))]) hx hb dX5_isWell_80 hl (by decide) rfl (fun ls hl => ?_)
      refine lv_iinc (v := p5 + 1) (lv' := [(5, .int (p5 + 1)), (4, .int (0)), (3, .int (p3 + q0)), (6, .int (q0)), (0, .ref (h 0)), (1, .int (a1)), (2, .int (a2))]) hx hb dX5_isWell_82 hl (k := 6) rfl rfl (by decide) rfl (fun ls hl => ?_)
      refine lv_goto (tgt := 8) hx hb dX5_isWell_85 (by decide) ?_
      exact hk8  (p3 + q0) (0) (p5 + 1) hs ls (lv_sub hl [4, 5, 6, 2, 1, 0] rfl)
    · have hs := sp_f c_1 hs
      refine lv_iload hx hb dX5_isWell_60 (lv_at hl 1 rfl) ?_
      refine lv_if_eq (tgt := 75) hx hb dX5_isWell_62 (by decide) (fun c_2 => ?_) (fun c_2 => ?_)
      · have hs := sp_t c_2 hs
        refine lv_iconst (v := 1) hx hb dX5_isWell_75 (by decide) ?_
        refine lv_goto (tgt := 80) hx hb dX5_isWell_76 (by decide) ?_
        refine lv_istore (lv' := [(4, .int (1)), (3, .int (p3 + q0)), (6, .int (q0)), (0, .ref (h 0)), (1, .int (a1)), (2, .int (a2)), (5, .int (p5))]) hx hb dX5_isWell_80 hl (by decide) rfl (fun ls hl => ?_)
        refine lv_iinc (v := p5 + 1) (lv' := [(5, .int (p5 + 1)), (4, .int (1)), (3, .int (p3 + q0)), (6, .int (q0)), (0, .ref (h 0)), (1, .int (a1)), (2, .int (a2))]) hx hb dX5_isWell_82 hl (k := 6) rfl rfl (by decide) rfl (fun ls hl => ?_)
        refine lv_goto (tgt := 8) hx hb dX5_isWell_85 (by decide) ?_
        exact hk8  (p3 + q0) (1) (p5 + 1) hs ls (lv_sub hl [4, 5, 6, 2, 1, 0] rfl)
      · have hs := sp_f c_2 hs
        refine lv_aload_n hx hb dX5_isWell_65 rfl (lv_at hl 2 rfl) ?_
        refine lv_iload hx hb dX5_isWell_66 (lv_at hl 6 rfl) ?_
        refine lv_iload_n hx hb dX5_isWell_68 rfl (lv_at hl 4 rfl) ?_
        obtain ⟨v_3, h_3, hs⟩ := sp_b hs
        refine rd_i (va_runV (As := [.int (p5), .int (a2)]) (rest := []) ⟨hx, hb, hml, hown, hts⟩ (c_X5_isSharpAt l D ca h x p5 a2 h_3) (cwV 2 hts gX5_isWell_X5_isSharpAt rfl rfl rfl (by decide +kernel) ⟨Nat.le_of_ble_eq_true rfl, Nat.le_of_ble_eq_true rfl⟩) (rP_V (q := (RX5, TX5, 30)) hP hC 0 rfl rfl) rfl rfl hl.1 rfl (lv_room (Nat.le_of_ble_eq_true rfl)) dX5_isWell_69 ⟨Nat.zero_le _, Nat.zero_le _⟩) ?_
        refine lv_if_eq (tgt := 79) hx hb dX5_isWell_72 (by decide) (fun c_4 => ?_) (fun c_4 => ?_)
        · have hs := sp_t c_4 hs
          refine lv_iconst (v := 0) hx hb dX5_isWell_79 (by decide) ?_
          refine lv_istore (lv' := [(4, .int (0)), (3, .int (p3 + q0)), (6, .int (q0)), (0, .ref (h 0)), (1, .int (a1)), (2, .int (a2)), (5, .int (p5))]) hx hb dX5_isWell_80 hl (by decide) rfl (fun ls hl => ?_)
          refine lv_iinc (v := p5 + 1) (lv' := [(5, .int (p5 + 1)), (4, .int (0)), (3, .int (p3 + q0)), (6, .int (q0)), (0, .ref (h 0)), (1, .int (a1)), (2, .int (a2))]) hx hb dX5_isWell_82 hl (k := 6) rfl rfl (by decide) rfl (fun ls hl => ?_)
          refine lv_goto (tgt := 8) hx hb dX5_isWell_85 (by decide) ?_
          exact hk8  (p3 + q0) (0) (p5 + 1) hs ls (lv_sub hl [4, 5, 6, 2, 1, 0] rfl)
        · have hs := sp_f c_4 hs
          refine lv_iconst (v := 1) hx hb dX5_isWell_75 (by decide) ?_
          refine lv_goto (tgt := 80) hx hb dX5_isWell_76 (by decide) ?_
          refine lv_istore (lv' := [(4, .int (1)), (3, .int (p3 + q0)), (6, .int (q0)), (0, .ref (h 0)), (1, .int (a1)), (2, .int (a2)), (5, .int (p5))]) hx hb dX5_isWell_80 hl (by decide) rfl (fun ls hl => ?_)
          refine lv_iinc (v := p5 + 1) (lv' := [(5, .int (p5 + 1)), (4, .int (1)), (3, .int (p3 + q0)), (6, .int (q0)), (0, .ref (h 0)), (1, .int (a1)), (2, .int (a2))]) hx hb dX5_isWell_82 hl (k := 6) rfl rfl (by decide) rfl (fun ls hl => ?_)
          refine lv_goto (tgt := 8) hx hb dX5_isWell_85 (by decide) ?_
          exact hk8  (p3 + q0) (1) (p5 + 1) hs ls (lv_sub hl [4, 5, 6, 2, 1, 0] rfl)
  have b8 : ∀ (F : Nat) (p3 : Int32) (p4 : Int32) (p5 : Int32), s_X5_isWell_b8 x a1 a2 F p3 p4 p5 = some r → ∀ (ls : Array Slot), lv_has ls 7 [(0, .ref (h 0)), (1, .int (a1)), (2, .int (a2)), (3, .int (p3)), (4, .int (p4)), (5, .int (p5))] → W p l e (headSpec wsX5_isWell ({ frames := 3, cells := 0, slots := 0, locals := 75 })).room s m #[.ref (h 0), .int (a1), .int (a2)] below meth c s.heap [] 0 0 (MQ below (vp_Si (fun z => z = r)) #[.ref (h 0), .int (a1), .int (a2)] s 0 0 (fun _ => False)) (F0 m 8 ls []) := by
    intro F
    induction F with
    | zero =>
      intro p3 p4 p5 hs
      simp [s_X5_isWell_b8] at hs
    | succ F ih8 =>
      intro p3 p4 p5 hs ls hl
      rw [s_X5_isWell_b8] at hs
      refine lv_iload hx hb dX5_isWell_8 (lv_at hl 5 rfl) ?_
      refine lv_aload_n hx hb dX5_isWell_10 rfl (lv_at hl 0 rfl) ?_
      refine va_get (D := D) (ci := 5) (fs := fsM h (x)) (v := .int (x.1 0 8)) (C := RX5) (T := TX5) (N := 30) hx hb hts iX5 hown hK hP 0 rfl rfl 8 (by decide) (hts (.fieldLink RX5 80 "FacadeShowModel" "projectors" "I") (by decide +kernel)) (fun _ h9 => h9) rfl dX5_isWell_11 ?_
      refine lv_icmp_ge (tgt := 88) hx hb dX5_isWell_14 (by decide) (fun c_5 => ?_) (fun c_5 => ?_)
      · have hs := sp_t c_5 hs
        refine lv_iload hx hb dX5_isWell_88 (lv_at hl 4 rfl) ?_
        refine lv_if_eq (tgt := 105) hx hb dX5_isWell_90 (by decide) (fun c_6 => ?_) (fun c_6 => ?_)
        · have hs := sp_t c_6 hs
          refine lv_iconst (v := 0) hx hb dX5_isWell_105 (by decide) ?_
          exact rt_z hx hb hr (by decide) hs dX5_isWell_106 hlocks
        · have hs := sp_f c_6 hs
          refine lv_iload_n hx hb dX5_isWell_93 rfl (lv_at hl 3 rfl) ?_
          refine lv_aload_n hx hb dX5_isWell_94 rfl (lv_at hl 0 rfl) ?_
          refine va_get (D := D) (ci := 5) (fs := fsM h (x)) (v := .int (x.1 0 7)) (C := RX5) (T := TX5) (N := 30) hx hb hts iX5 hown hK hP 0 rfl rfl 7 (by decide) (hts (.fieldLink RX5 26 "FacadeShowModel" "level" "I") (by decide +kernel)) (fun _ h9 => h9) rfl dX5_isWell_95 ?_
          refine lv_icmp_lt (tgt := 105) hx hb dX5_isWell_98 (by decide) (fun c_7 => ?_) (fun c_7 => ?_)
          · have hs := sp_t c_7 hs
            refine lv_iconst (v := 0) hx hb dX5_isWell_105 (by decide) ?_
            exact rt_z hx hb hr (by decide) hs dX5_isWell_106 hlocks
          · have hs := sp_f c_7 hs
            refine lv_iconst (v := 1) hx hb dX5_isWell_101 (by decide) ?_
            refine lv_goto (tgt := 106) hx hb dX5_isWell_102 (by decide) ?_
            exact rt_z hx hb hr (by decide) hs dX5_isWell_106 hlocks
      · have hs := sp_f c_5 hs
        refine lv_iload_n hx hb dX5_isWell_17 rfl (lv_at hl 1 rfl) ?_
        refine lv_iload hx hb dX5_isWell_18 (lv_at hl 5 rfl) ?_
        refine lv_ishr hx hb dX5_isWell_20 ?_
        refine lv_iconst (v := 1) hx hb dX5_isWell_21 (by decide) ?_
        refine lv_iand hx hb dX5_isWell_22 ?_
        refine lv_iconst (v := 1) hx hb dX5_isWell_23 (by decide) ?_
        refine lv_icmp_ne (tgt := 47) hx hb dX5_isWell_24 (by decide) (fun c_8 => ?_) (fun c_8 => ?_)
        · have hs := sp_f c_8 hs
          refine lv_iconst (v := 0) hx hb dX5_isWell_47 (by decide) ?_
          exact b48 (fun z_p3 z_p4 z_p5 => s_X5_isWell_b8 x a1 a2 F z_p3 z_p4 z_p5) (fun z_p3 z_p4 z_p5 hs => ih8 z_p3 z_p4 z_p5 hs) (p3) (p4) (p5) (0) hs ls (lv_sub hl [0, 1, 2, 3, 4, 5] rfl)
        · have hs := sp_t c_8 hs
          refine lv_aload_n hx hb dX5_isWell_27 rfl (lv_at hl 0 rfl) ?_
          refine va_get (D := D) (ci := 5) (fs := fsM h (x)) (v := .ref (h 14)) (C := RX5) (T := TX5) (N := 30) hx hb hts iX5 hown hK hP 0 rfl rfl 17 (by decide) (hts (.fieldLink RX5 54 "FacadeShowModel" "hasFailed" "[Z") (by decide +kernel)) (fun _ h9 => h9) rfl dX5_isWell_28 ?_
          refine lv_iload hx hb dX5_isWell_31 (lv_at hl 5 rfl) ?_
          obtain ⟨h_9, hs⟩ := sp_c hs
          refine va_zald (D := D) (cA := ca 1) (n := 10) (f := (x).1 14) hx hb hK hP 14 1 rfl rfl h_9 dX5_isWell_33 ?_
          refine lv_if_ne (tgt := 47) hx hb dX5_isWell_34 (by decide) (fun c_10 => ?_) (fun c_10 => ?_)
          · have hs := sp_f c_10 hs
            refine lv_iconst (v := 0) hx hb dX5_isWell_47 (by decide) ?_
            exact b48 (fun z_p3 z_p4 z_p5 => s_X5_isWell_b8 x a1 a2 F z_p3 z_p4 z_p5) (fun z_p3 z_p4 z_p5 hs => ih8 z_p3 z_p4 z_p5 hs) (p3) (p4) (p5) (0) hs ls (lv_sub hl [0, 1, 2, 3, 4, 5] rfl)
          · have hs := sp_t c_10 hs
            refine lv_aload_n hx hb dX5_isWell_37 rfl (lv_at hl 0 rfl) ?_
            refine lv_iload hx hb dX5_isWell_38 (lv_at hl 5 rfl) ?_
            refine lv_iload_n hx hb dX5_isWell_40 rfl (lv_at hl 2 rfl) ?_
            obtain ⟨v_11, h_11, hs⟩ := sp_b hs
            refine rd_i (va_runV (As := [.int (p5), .int (a2)]) (rest := []) ⟨hx, hb, hml, hown, hts⟩ (c_X5_lightOf l D ca h x p5 a2 h_11) (cwV 2 hts gX5_isWell_X5_lightOf rfl rfl rfl (by decide +kernel) ⟨Nat.le_of_ble_eq_true rfl, Nat.le_of_ble_eq_true rfl⟩) (rP_V (q := (RX5, TX5, 30)) hP hC 0 rfl rfl) rfl rfl hl.1 rfl (lv_room (Nat.le_of_ble_eq_true rfl)) dX5_isWell_41 ⟨Nat.zero_le _, Nat.zero_le _⟩) ?_
            refine lv_goto (tgt := 48) hx hb dX5_isWell_44 (by decide) ?_
            exact b48 (fun z_p3 z_p4 z_p5 => s_X5_isWell_b8 x a1 a2 F z_p3 z_p4 z_p5) (fun z_p3 z_p4 z_p5 hs => ih8 z_p3 z_p4 z_p5 hs) (p3) (p4) (p5) (v_11) hs ls (lv_sub hl [0, 1, 2, 3, 4, 5] rfl)
  unfold s_X5_isWell at hs
  refine lv_iconst (v := 0) hx hb dX5_isWell_0 (by decide) ?_
  refine lv_istore_n (lv' := [(3, .int (0)), (0, .ref (h 0)), (1, .int (a1)), (2, .int (a2))]) hx hb dX5_isWell_1 rfl hl (by decide) rfl (fun ls hl => ?_)
  refine lv_iconst (v := 1) hx hb dX5_isWell_2 (by decide) ?_
  refine lv_istore (lv' := [(4, .int (1)), (3, .int (0)), (0, .ref (h 0)), (1, .int (a1)), (2, .int (a2))]) hx hb dX5_isWell_3 hl (by decide) rfl (fun ls hl => ?_)
  refine lv_iconst (v := 0) hx hb dX5_isWell_5 (by decide) ?_
  refine lv_istore (lv' := [(5, .int (0)), (4, .int (1)), (3, .int (0)), (0, .ref (h 0)), (1, .int (a1)), (2, .int (a2))]) hx hb dX5_isWell_6 hl (by decide) rfl (fun ls hl => ?_)
  exact b8  FU (0) (1) (0) hs ls (lv_sub hl [3, 4, 5, 2, 1, 0] rfl)
def s_X5_coveredBy_b4 (x : XS) (a1 : Int32) : Nat → Int32 → Int32 → Option Int32
  | 0, _, _ => none
  | F + 1, p2, p3 => (if 16 ≤ p3 then some (p2) else (s_X5_isWell x a1 p3).bind fun v_2 => (if v_2 = 0 then s_X5_coveredBy_b4 x a1 F (p2 ||| 0) (p3 + 1) else s_X5_coveredBy_b4 x a1 F (p2 ||| (1 <<< (p3 &&& 31))) (p3 + 1)))
def s_X5_coveredBy (x : XS) (a1 : Int32) : Option Int32 := s_X5_coveredBy_b4 x a1  FU (0) (0)
set_option maxHeartbeats 4000000 in
set_option maxRecDepth 100000 in
theorem c_X5_coveredBy (l : Launch) (D : va_G) (ca : Nat → ClassId) (h : Nat → Nat) (x : XS) (a1 : Int32) {r : Int32} (hs : s_X5_coveredBy x a1 = some r) : Met l yX5_coveredBy wsX5_coveredBy ({ frames := 4, cells := 0, slots := 0, locals := 101 }) (rP [.ref (h 0), .int (a1)] D ca (wM h ca x)) (vp_Si (fun z => z = r)) 0 0 (fun _ => False) := by
  refine Met.ofW (cc := cX5_coveredBy) (maxL := 4) (ret := (some .int)) (by decide) rfl ?_
  intro p e s m args below meth c s₁ B hml hv
  obtain ⟨rfl, hP, hC⟩ := hv
  have hx := B.exec
  have hb := B.bytes
  have hr := B.returns
  have hts := atoms_spec (ws := wsX5_coveredBy) B.pre
  have hown : s.vm.findClass RX5 = some m.cls := findClass_of_methodNamed B.named
  have hlocks := B.notSynchronized
  have hK := hC.1
  have hl := lv_entry ([.ref (h 0), .int (a1)]) (n := 4) (Nat.le_of_ble_eq_true rfl)
  rw [lg_entry_eq]
  generalize (lg_sl ([.ref (h 0), .int (a1)]) ++ List.replicate (4 - (lg_sl ([.ref (h 0), .int (a1)])).length) Slot.unset).toArray = ls at hl ⊢
  have hl : lv_has ls 4 [(0, .ref (h 0)), (1, .int (a1))] := hl
  have b4 : ∀ (F : Nat) (p2 : Int32) (p3 : Int32), s_X5_coveredBy_b4 x a1 F p2 p3 = some r → ∀ (ls : Array Slot), lv_has ls 4 [(0, .ref (h 0)), (1, .int (a1)), (2, .int (p2)), (3, .int (p3))] → W p l e (headSpec wsX5_coveredBy ({ frames := 4, cells := 0, slots := 0, locals := 101 })).room s m #[.ref (h 0), .int (a1)] below meth c s.heap [] 0 0 (MQ below (vp_Si (fun z => z = r)) #[.ref (h 0), .int (a1)] s 0 0 (fun _ => False)) (F0 m 4 ls []) := by
    intro F
    induction F with
    | zero =>
      intro p2 p3 hs
      simp [s_X5_coveredBy_b4] at hs
    | succ F ih4 =>
      intro p2 p3 hs ls hl
      rw [s_X5_coveredBy_b4] at hs
      refine lv_iload_n hx hb dX5_coveredBy_4 rfl (lv_at hl 3 rfl) ?_
      refine lv_bipush (v := 16) hx hb dX5_coveredBy_5 (by decide) ?_
      refine lv_icmp_ge (tgt := 35) hx hb dX5_coveredBy_7 (by decide) (fun c_1 => ?_) (fun c_1 => ?_)
      · have hs := sp_t c_1 hs
        refine lv_iload_n hx hb dX5_coveredBy_35 rfl (lv_at hl 2 rfl) ?_
        exact rt_i hx hb hr hs dX5_coveredBy_36 hlocks
      · have hs := sp_f c_1 hs
        refine lv_iload_n hx hb dX5_coveredBy_10 rfl (lv_at hl 2 rfl) ?_
        refine lv_aload_n hx hb dX5_coveredBy_11 rfl (lv_at hl 0 rfl) ?_
        refine lv_iload_n hx hb dX5_coveredBy_12 rfl (lv_at hl 1 rfl) ?_
        refine lv_iload_n hx hb dX5_coveredBy_13 rfl (lv_at hl 3 rfl) ?_
        obtain ⟨v_2, h_2, hs⟩ := sp_b hs
        refine rd_i (va_runV (As := [.int (a1), .int (p3)]) (rest := [.int (p2)]) ⟨hx, hb, hml, hown, hts⟩ (c_X5_isWell l D ca h x a1 p3 h_2) (cwV 2 hts gX5_coveredBy_X5_isWell rfl rfl rfl (by decide +kernel) ⟨Nat.le_of_ble_eq_true rfl, Nat.le_of_ble_eq_true rfl⟩) (rP_V (q := (RX5, TX5, 30)) hP hC 0 rfl rfl) rfl rfl hl.1 rfl (lv_room (Nat.le_of_ble_eq_true rfl)) dX5_coveredBy_14 ⟨Nat.zero_le _, Nat.zero_le _⟩) ?_
        refine lv_if_eq (tgt := 26) hx hb dX5_coveredBy_17 (by decide) (fun c_3 => ?_) (fun c_3 => ?_)
        · have hs := sp_t c_3 hs
          refine lv_iconst (v := 0) hx hb dX5_coveredBy_26 (by decide) ?_
          refine lv_ior hx hb dX5_coveredBy_27 ?_
          refine lv_istore_n (lv' := [(2, .int (p2 ||| 0)), (0, .ref (h 0)), (1, .int (a1)), (3, .int (p3))]) hx hb dX5_coveredBy_28 rfl hl (by decide) rfl (fun ls hl => ?_)
          refine lv_iinc (v := p3 + 1) (lv' := [(3, .int (p3 + 1)), (2, .int (p2 ||| 0)), (0, .ref (h 0)), (1, .int (a1))]) hx hb dX5_coveredBy_29 hl (k := 3) rfl rfl (by decide) rfl (fun ls hl => ?_)
          refine lv_goto (tgt := 4) hx hb dX5_coveredBy_32 (by decide) ?_
          exact ih4  (p2 ||| 0) (p3 + 1) hs ls (lv_sub hl [2, 3, 1, 0] rfl)
        · have hs := sp_f c_3 hs
          refine lv_iconst (v := 1) hx hb dX5_coveredBy_20 (by decide) ?_
          refine lv_iload_n hx hb dX5_coveredBy_21 rfl (lv_at hl 3 rfl) ?_
          refine lv_ishl hx hb dX5_coveredBy_22 ?_
          refine lv_goto (tgt := 27) hx hb dX5_coveredBy_23 (by decide) ?_
          refine lv_ior hx hb dX5_coveredBy_27 ?_
          refine lv_istore_n (lv' := [(2, .int (p2 ||| (1 <<< (p3 &&& 31)))), (0, .ref (h 0)), (1, .int (a1)), (3, .int (p3))]) hx hb dX5_coveredBy_28 rfl hl (by decide) rfl (fun ls hl => ?_)
          refine lv_iinc (v := p3 + 1) (lv' := [(3, .int (p3 + 1)), (2, .int (p2 ||| (1 <<< (p3 &&& 31)))), (0, .ref (h 0)), (1, .int (a1))]) hx hb dX5_coveredBy_29 hl (k := 3) rfl rfl (by decide) rfl (fun ls hl => ?_)
          refine lv_goto (tgt := 4) hx hb dX5_coveredBy_32 (by decide) ?_
          exact ih4  (p2 ||| (1 <<< (p3 &&& 31))) (p3 + 1) hs ls (lv_sub hl [2, 3, 1, 0] rfl)
  unfold s_X5_coveredBy at hs
  refine lv_iconst (v := 0) hx hb dX5_coveredBy_0 (by decide) ?_
  refine lv_istore_n (lv' := [(2, .int (0)), (0, .ref (h 0)), (1, .int (a1))]) hx hb dX5_coveredBy_1 rfl hl (by decide) rfl (fun ls hl => ?_)
  refine lv_iconst (v := 0) hx hb dX5_coveredBy_2 (by decide) ?_
  refine lv_istore_n (lv' := [(3, .int (0)), (2, .int (0)), (0, .ref (h 0)), (1, .int (a1))]) hx hb dX5_coveredBy_3 rfl hl (by decide) rfl (fun ls hl => ?_)
  exact b4  FU (0) (0) hs ls (lv_sub hl [2, 3, 1, 0] rfl)
def s_X5_isSet (x : XS) (a1 : Int32) : Option Int32 := (s_X5_in a1 0 ((1 <<< ((x.1 0 8) &&& 31)) - 1)).bind fun v_1 => zb v_1 (some (v_1))
set_option maxHeartbeats 4000000 in
set_option maxRecDepth 100000 in
theorem c_X5_isSet (l : Launch) (D : va_G) (ca : Nat → ClassId) (h : Nat → Nat) (x : XS) (a1 : Int32) {r : Int32} (hs : s_X5_isSet x a1 = some r) : Met l yX5_isSet wsX5_isSet ({ frames := 1, cells := 0, slots := 0, locals := 22 }) (rP [.ref (h 0), .int (a1)] D ca (wM h ca x)) (vp_Si (fun z => z = r)) 0 0 (fun _ => False) := by
  refine Met.ofW (cc := cX5_isSet) (maxL := 2) (ret := (some .boolean)) (by decide) rfl ?_
  intro p e s m args below meth c s₁ B hml hv
  obtain ⟨rfl, hP, hC⟩ := hv
  have hx := B.exec
  have hb := B.bytes
  have hr := B.returns
  have hts := atoms_spec (ws := wsX5_isSet) B.pre
  have hown : s.vm.findClass RX5 = some m.cls := findClass_of_methodNamed B.named
  have hlocks := B.notSynchronized
  have hK := hC.1
  have iX5 : ∀ w ∈ u_ws RX5 TX5 30, w ∈ wsX5_isSet := by decide +kernel
  have hl := lv_entry ([.ref (h 0), .int (a1)]) (n := 2) (Nat.le_of_ble_eq_true rfl)
  rw [lg_entry_eq]
  generalize (lg_sl ([.ref (h 0), .int (a1)]) ++ List.replicate (2 - (lg_sl ([.ref (h 0), .int (a1)])).length) Slot.unset).toArray = ls at hl ⊢
  have hl : lv_has ls 2 [(0, .ref (h 0)), (1, .int (a1))] := hl
  unfold s_X5_isSet at hs
  refine lv_iload_n hx hb dX5_isSet_0 rfl (lv_at hl 1 rfl) ?_
  refine lv_iconst (v := 0) hx hb dX5_isSet_1 (by decide) ?_
  refine lv_iconst (v := 1) hx hb dX5_isSet_2 (by decide) ?_
  refine lv_aload_n hx hb dX5_isSet_3 rfl (lv_at hl 0 rfl) ?_
  refine va_get (D := D) (ci := 5) (fs := fsM h (x)) (v := .int (x.1 0 8)) (C := RX5) (T := TX5) (N := 30) hx hb hts iX5 hown hK hP 0 rfl rfl 8 (by decide) (hts (.fieldLink RX5 80 "FacadeShowModel" "projectors" "I") (by decide +kernel)) (fun _ h9 => h9) rfl dX5_isSet_4 ?_
  refine lv_ishl hx hb dX5_isSet_7 ?_
  refine lv_iconst (v := 1) hx hb dX5_isSet_8 (by decide) ?_
  refine lv_isub hx hb dX5_isSet_9 ?_
  obtain ⟨v_1, h_1, hs⟩ := sp_b hs
  refine rd_i (va_runS (As := [.int (a1), .int (0), .int ((1 <<< ((x.1 0 8) &&& 31)) - 1)]) (rest := []) ⟨hx, hb, hml, hown, hts⟩ (c_X5_in l D ca a1 0 ((1 <<< ((x.1 0 8) &&& 31)) - 1) h_1) (va_cwS 3 hts gX5_isSet_X5_in rfl rfl rfl (by decide +kernel) ⟨Nat.le_of_ble_eq_true rfl, Nat.le_of_ble_eq_true rfl⟩) (rP_S va_P_nil hC) rfl rfl hl.1 rfl (lv_room (Nat.le_of_ble_eq_true rfl)) dX5_isSet_10 ⟨Nat.zero_le _, Nat.zero_le _⟩) ?_
  obtain ⟨h_2, hs⟩ := sp_z hs
  exact rt_z hx hb hr h_2 hs dX5_isSet_13 hlocks
def s_X5_isEnough (x : XS) (a1 : Int32) : Option Int32 := (s_X5_coveredBy x a1).bind fun v_1 => (if ((x.1 0 6) &&& (v_1 ^^^ (-1))) = 0 then some 1 else some 0)
set_option maxHeartbeats 4000000 in
set_option maxRecDepth 100000 in
theorem c_X5_isEnough (l : Launch) (D : va_G) (ca : Nat → ClassId) (h : Nat → Nat) (x : XS) (a1 : Int32) {r : Int32} (hs : s_X5_isEnough x a1 = some r) : Met l yX5_isEnough wsX5_isEnough ({ frames := 5, cells := 0, slots := 0, locals := 124 }) (rP [.ref (h 0), .int (a1)] D ca (wM h ca x)) (vp_Si (fun z => z = r)) 0 0 (fun _ => False) := by
  refine Met.ofW (cc := cX5_isEnough) (maxL := 2) (ret := (some .boolean)) (by decide) rfl ?_
  intro p e s m args below meth c s₁ B hml hv
  obtain ⟨rfl, hP, hC⟩ := hv
  have hx := B.exec
  have hb := B.bytes
  have hr := B.returns
  have hts := atoms_spec (ws := wsX5_isEnough) B.pre
  have hown : s.vm.findClass RX5 = some m.cls := findClass_of_methodNamed B.named
  have hlocks := B.notSynchronized
  have hK := hC.1
  have iX5 : ∀ w ∈ u_ws RX5 TX5 30, w ∈ wsX5_isEnough := by decide +kernel
  have hl := lv_entry ([.ref (h 0), .int (a1)]) (n := 2) (Nat.le_of_ble_eq_true rfl)
  rw [lg_entry_eq]
  generalize (lg_sl ([.ref (h 0), .int (a1)]) ++ List.replicate (2 - (lg_sl ([.ref (h 0), .int (a1)])).length) Slot.unset).toArray = ls at hl ⊢
  have hl : lv_has ls 2 [(0, .ref (h 0)), (1, .int (a1))] := hl
  unfold s_X5_isEnough at hs
  refine lv_aload_n hx hb dX5_isEnough_0 rfl (lv_at hl 0 rfl) ?_
  refine va_get (D := D) (ci := 5) (fs := fsM h (x)) (v := .int (x.1 0 6)) (C := RX5) (T := TX5) (N := 30) hx hb hts iX5 hown hK hP 0 rfl rfl 6 (by decide) (hts (.fieldLink RX5 95 "FacadeShowModel" "needed" "I") (by decide +kernel)) (fun _ h9 => h9) rfl dX5_isEnough_1 ?_
  refine lv_aload_n hx hb dX5_isEnough_4 rfl (lv_at hl 0 rfl) ?_
  refine lv_iload_n hx hb dX5_isEnough_5 rfl (lv_at hl 1 rfl) ?_
  obtain ⟨v_1, h_1, hs⟩ := sp_b hs
  refine rd_i (va_runV (As := [.int (a1)]) (rest := [.int (x.1 0 6)]) ⟨hx, hb, hml, hown, hts⟩ (c_X5_coveredBy l D ca h x a1 h_1) (cwV 1 hts gX5_isEnough_X5_coveredBy rfl rfl rfl (by decide +kernel) ⟨Nat.le_of_ble_eq_true rfl, Nat.le_of_ble_eq_true rfl⟩) (rP_V (q := (RX5, TX5, 30)) hP hC 0 rfl rfl) rfl rfl hl.1 rfl (lv_room (Nat.le_of_ble_eq_true rfl)) dX5_isEnough_6 ⟨Nat.zero_le _, Nat.zero_le _⟩) ?_
  refine lv_iconst (v := -1) hx hb dX5_isEnough_9 (by decide) ?_
  refine lv_ixor hx hb dX5_isEnough_10 ?_
  refine lv_iand hx hb dX5_isEnough_11 ?_
  refine lv_if_ne (tgt := 19) hx hb dX5_isEnough_12 (by decide) (fun c_2 => ?_) (fun c_2 => ?_)
  · have hs := sp_f c_2 hs
    refine lv_iconst (v := 0) hx hb dX5_isEnough_19 (by decide) ?_
    exact rt_z hx hb hr (by decide) hs dX5_isEnough_20 hlocks
  · have hs := sp_t c_2 hs
    refine lv_iconst (v := 1) hx hb dX5_isEnough_15 (by decide) ?_
    refine lv_goto (tgt := 20) hx hb dX5_isEnough_16 (by decide) ?_
    exact rt_z hx hb hr (by decide) hs dX5_isEnough_20 hlocks
def s_X5_leastSet_b72 (x : XS) (k41 : Int32 → Int32 → Int32 → Option Int32) (p1 : Int32) (p2 : Int32) (p3 : Int32) (q0 : Int32) : Option Int32 := (if (p3 &&& p1) = 0 then (if q0 = 0 then k41 (p1) (p2) (p3 + 1) else (s_X5_isEnough x p3).bind fun v_3 => (if v_3 = 0 then k41 (p1) (p2) (p3 + 1) else k41 (p1) (p3) (p3 + 1))) else k41 (p1) (p2) (p3 + 1))
def s_X5_leastSet_b41 (x : XS) : Nat → Int32 → Int32 → Int32 → Option Int32
  | 0, _, _, _ => none
  | F + 1, p1, p2, p3 => (if (1 <<< ((x.1 0 8) &&& 31)) ≤ p3 then some (p2) else (if p2 = (-1) then s_X5_leastSet_b72 x (fun z_p1 z_p2 z_p3 => s_X5_leastSet_b41 x F z_p1 z_p2 z_p3) (p1) (p2) (p3) (1) else (s_X5_bits p3).bind fun v_7 => (s_X5_bits p2).bind fun v_8 => (if v_8 ≤ v_7 then s_X5_leastSet_b72 x (fun z_p1 z_p2 z_p3 => s_X5_leastSet_b41 x F z_p1 z_p2 z_p3) (p1) (p2) (p3) (0) else s_X5_leastSet_b72 x (fun z_p1 z_p2 z_p3 => s_X5_leastSet_b41 x F z_p1 z_p2 z_p3) (p1) (p2) (p3) (1))))
def s_X5_leastSet_b4 (x : XS) : Nat → Int32 → Int32 → Option Int32
  | 0, _, _ => none
  | F + 1, p1, p2 => (if (x.1 0 8) ≤ p2 then s_X5_leastSet_b41 x  FU (p1) (-1) (0) else chk 10 p2 ((if (x.1 14 p2.toNatClampNeg) = 0 then s_X5_leastSet_b4 x F (p1 ||| 0) (p2 + 1) else s_X5_leastSet_b4 x F (p1 ||| (1 <<< (p2 &&& 31))) (p2 + 1))))
def s_X5_leastSet (x : XS) : Option Int32 := s_X5_leastSet_b4 x  FU (0) (0)
set_option maxHeartbeats 4000000 in
set_option maxRecDepth 100000 in
theorem c_X5_leastSet (l : Launch) (D : va_G) (ca : Nat → ClassId) (h : Nat → Nat) (x : XS) {r : Int32} (hs : s_X5_leastSet x = some r) : Met l yX5_leastSet wsX5_leastSet ({ frames := 6, cells := 0, slots := 0, locals := 145 }) (rP [.ref (h 0)] D ca (wM h ca x)) (vp_Si (fun z => z = r)) 0 0 (fun _ => False) := by
  refine Met.ofW (cc := cX5_leastSet) (maxL := 5) (ret := (some .int)) (by decide) rfl ?_
  intro p e s m args below meth c s₁ B hml hv
  obtain ⟨rfl, hP, hC⟩ := hv
  have hx := B.exec
  have hb := B.bytes
  have hr := B.returns
  have hts := atoms_spec (ws := wsX5_leastSet) B.pre
  have hown : s.vm.findClass RX5 = some m.cls := findClass_of_methodNamed B.named
  have hlocks := B.notSynchronized
  have hK := hC.1
  have iX5 : ∀ w ∈ u_ws RX5 TX5 30, w ∈ wsX5_leastSet := by decide +kernel
  have hl := lv_entry ([.ref (h 0)]) (n := 5) (Nat.le_of_ble_eq_true rfl)
  rw [lg_entry_eq]
  generalize (lg_sl ([.ref (h 0)]) ++ List.replicate (5 - (lg_sl ([.ref (h 0)])).length) Slot.unset).toArray = ls at hl ⊢
  have hl : lv_has ls 5 [(0, .ref (h 0))] := hl
  have b72 : ∀ (k41 : Int32 → Int32 → Int32 → Option Int32) (_ : ∀ (p1 : Int32) (p2 : Int32) (p3 : Int32), k41 p1 p2 p3 = some r → ∀ (ls : Array Slot), lv_has ls 5 [(0, .ref (h 0)), (1, .int (p1)), (2, .int (p2)), (3, .int (p3))] → W p l e (headSpec wsX5_leastSet ({ frames := 6, cells := 0, slots := 0, locals := 145 })).room s m #[.ref (h 0)] below meth c s.heap [] 0 0 (MQ below (vp_Si (fun z => z = r)) #[.ref (h 0)] s 0 0 (fun _ => False)) (F0 m 41 ls [])) (p1 : Int32) (p2 : Int32) (p3 : Int32) (q0 : Int32), s_X5_leastSet_b72 x k41 p1 p2 p3 q0 = some r → ∀ (ls : Array Slot), lv_has ls 5 [(0, .ref (h 0)), (1, .int (p1)), (2, .int (p2)), (3, .int (p3))] → W p l e (headSpec wsX5_leastSet ({ frames := 6, cells := 0, slots := 0, locals := 145 })).room s m #[.ref (h 0)] below meth c s.heap [] 0 0 (MQ below (vp_Si (fun z => z = r)) #[.ref (h 0)] s 0 0 (fun _ => False)) (F0 m 72 ls [.int (q0)]) := by
    intro k41 hk41 p1 p2 p3 q0 hs ls hl
    unfold s_X5_leastSet_b72 at hs
    refine lv_istore (lv' := [(4, .int (q0)), (0, .ref (h 0)), (1, .int (p1)), (2, .int (p2)), (3, .int (p3))]) hx hb dX5_leastSet_72 hl (by decide) rfl (fun ls hl => ?_)
    refine lv_iload_n hx hb dX5_leastSet_74 rfl (lv_at hl 4 rfl) ?_
    refine lv_iload_n hx hb dX5_leastSet_75 rfl (lv_at hl 2 rfl) ?_
    refine lv_iand hx hb dX5_leastSet_76 ?_
    refine lv_if_ne (tgt := 97) hx hb dX5_leastSet_77 (by decide) (fun c_1 => ?_) (fun c_1 => ?_)
    · have hs := sp_f c_1 hs
      refine lv_iload_n hx hb dX5_leastSet_97 rfl (lv_at hl 3 rfl) ?_
      refine lv_istore_n (lv' := [(2, .int (p2)), (4, .int (q0)), (0, .ref (h 0)), (1, .int (p1)), (3, .int (p3))]) hx hb dX5_leastSet_98 rfl hl (by decide) rfl (fun ls hl => ?_)
      refine lv_iinc (v := p3 + 1) (lv' := [(3, .int (p3 + 1)), (2, .int (p2)), (4, .int (q0)), (0, .ref (h 0)), (1, .int (p1))]) hx hb dX5_leastSet_99 hl (k := 4) rfl rfl (by decide) rfl (fun ls hl => ?_)
      refine lv_goto (tgt := 41) hx hb dX5_leastSet_102 (by decide) ?_
      exact hk41  (p1) (p2) (p3 + 1) hs ls (lv_sub hl [3, 4, 1, 0] rfl)
    · have hs := sp_t c_1 hs
      refine lv_iload hx hb dX5_leastSet_80 (lv_at hl 0 rfl) ?_
      refine lv_if_eq (tgt := 97) hx hb dX5_leastSet_82 (by decide) (fun c_2 => ?_) (fun c_2 => ?_)
      · have hs := sp_t c_2 hs
        refine lv_iload_n hx hb dX5_leastSet_97 rfl (lv_at hl 3 rfl) ?_
        refine lv_istore_n (lv' := [(2, .int (p2)), (4, .int (q0)), (0, .ref (h 0)), (1, .int (p1)), (3, .int (p3))]) hx hb dX5_leastSet_98 rfl hl (by decide) rfl (fun ls hl => ?_)
        refine lv_iinc (v := p3 + 1) (lv' := [(3, .int (p3 + 1)), (2, .int (p2)), (4, .int (q0)), (0, .ref (h 0)), (1, .int (p1))]) hx hb dX5_leastSet_99 hl (k := 4) rfl rfl (by decide) rfl (fun ls hl => ?_)
        refine lv_goto (tgt := 41) hx hb dX5_leastSet_102 (by decide) ?_
        exact hk41  (p1) (p2) (p3 + 1) hs ls (lv_sub hl [3, 4, 1, 0] rfl)
      · have hs := sp_f c_2 hs
        refine lv_aload_n hx hb dX5_leastSet_85 rfl (lv_at hl 1 rfl) ?_
        refine lv_iload_n hx hb dX5_leastSet_86 rfl (lv_at hl 4 rfl) ?_
        obtain ⟨v_3, h_3, hs⟩ := sp_b hs
        refine rd_i (va_runV (As := [.int (p3)]) (rest := []) ⟨hx, hb, hml, hown, hts⟩ (c_X5_isEnough l D ca h x p3 h_3) (cwV 1 hts gX5_leastSet_X5_isEnough rfl rfl rfl (by decide +kernel) ⟨Nat.le_of_ble_eq_true rfl, Nat.le_of_ble_eq_true rfl⟩) (rP_V (q := (RX5, TX5, 30)) hP hC 0 rfl rfl) rfl rfl hl.1 rfl (lv_room (Nat.le_of_ble_eq_true rfl)) dX5_leastSet_87 ⟨Nat.zero_le _, Nat.zero_le _⟩) ?_
        refine lv_if_eq (tgt := 97) hx hb dX5_leastSet_90 (by decide) (fun c_4 => ?_) (fun c_4 => ?_)
        · have hs := sp_t c_4 hs
          refine lv_iload_n hx hb dX5_leastSet_97 rfl (lv_at hl 3 rfl) ?_
          refine lv_istore_n (lv' := [(2, .int (p2)), (4, .int (q0)), (0, .ref (h 0)), (1, .int (p1)), (3, .int (p3))]) hx hb dX5_leastSet_98 rfl hl (by decide) rfl (fun ls hl => ?_)
          refine lv_iinc (v := p3 + 1) (lv' := [(3, .int (p3 + 1)), (2, .int (p2)), (4, .int (q0)), (0, .ref (h 0)), (1, .int (p1))]) hx hb dX5_leastSet_99 hl (k := 4) rfl rfl (by decide) rfl (fun ls hl => ?_)
          refine lv_goto (tgt := 41) hx hb dX5_leastSet_102 (by decide) ?_
          exact hk41  (p1) (p2) (p3 + 1) hs ls (lv_sub hl [3, 4, 1, 0] rfl)
        · have hs := sp_f c_4 hs
          refine lv_iload_n hx hb dX5_leastSet_93 rfl (lv_at hl 4 rfl) ?_
          refine lv_goto (tgt := 98) hx hb dX5_leastSet_94 (by decide) ?_
          refine lv_istore_n (lv' := [(2, .int (p3)), (4, .int (q0)), (0, .ref (h 0)), (1, .int (p1)), (3, .int (p3))]) hx hb dX5_leastSet_98 rfl hl (by decide) rfl (fun ls hl => ?_)
          refine lv_iinc (v := p3 + 1) (lv' := [(3, .int (p3 + 1)), (2, .int (p3)), (4, .int (q0)), (0, .ref (h 0)), (1, .int (p1))]) hx hb dX5_leastSet_99 hl (k := 4) rfl rfl (by decide) rfl (fun ls hl => ?_)
          refine lv_goto (tgt := 41) hx hb dX5_leastSet_102 (by decide) ?_
          exact hk41  (p1) (p3) (p3 + 1) hs ls (lv_sub hl [3, 4, 1, 0] rfl)
  have b41 : ∀ (F : Nat) (p1 : Int32) (p2 : Int32) (p3 : Int32), s_X5_leastSet_b41 x F p1 p2 p3 = some r → ∀ (ls : Array Slot), lv_has ls 5 [(0, .ref (h 0)), (1, .int (p1)), (2, .int (p2)), (3, .int (p3))] → W p l e (headSpec wsX5_leastSet ({ frames := 6, cells := 0, slots := 0, locals := 145 })).room s m #[.ref (h 0)] below meth c s.heap [] 0 0 (MQ below (vp_Si (fun z => z = r)) #[.ref (h 0)] s 0 0 (fun _ => False)) (F0 m 41 ls []) := by
    intro F
    induction F with
    | zero =>
      intro p1 p2 p3 hs
      simp [s_X5_leastSet_b41] at hs
    | succ F ih41 =>
      intro p1 p2 p3 hs ls hl
      rw [s_X5_leastSet_b41] at hs
      refine lv_iload_n hx hb dX5_leastSet_41 rfl (lv_at hl 3 rfl) ?_
      refine lv_iconst (v := 1) hx hb dX5_leastSet_42 (by decide) ?_
      refine lv_aload_n hx hb dX5_leastSet_43 rfl (lv_at hl 0 rfl) ?_
      refine va_get (D := D) (ci := 5) (fs := fsM h (x)) (v := .int (x.1 0 8)) (C := RX5) (T := TX5) (N := 30) hx hb hts iX5 hown hK hP 0 rfl rfl 8 (by decide) (hts (.fieldLink RX5 80 "FacadeShowModel" "projectors" "I") (by decide +kernel)) (fun _ h9 => h9) rfl dX5_leastSet_44 ?_
      refine lv_ishl hx hb dX5_leastSet_47 ?_
      refine lv_icmp_ge (tgt := 105) hx hb dX5_leastSet_48 (by decide) (fun c_5 => ?_) (fun c_5 => ?_)
      · have hs := sp_t c_5 hs
        refine lv_iload_n hx hb dX5_leastSet_105 rfl (lv_at hl 2 rfl) ?_
        exact rt_i hx hb hr hs dX5_leastSet_106 hlocks
      · have hs := sp_f c_5 hs
        refine lv_iload_n hx hb dX5_leastSet_51 rfl (lv_at hl 2 rfl) ?_
        refine lv_iconst (v := -1) hx hb dX5_leastSet_52 (by decide) ?_
        refine lv_icmp_eq (tgt := 67) hx hb dX5_leastSet_53 (by decide) (fun c_6 => ?_) (fun c_6 => ?_)
        · have hs := sp_t c_6 hs
          refine lv_iconst (v := 1) hx hb dX5_leastSet_67 (by decide) ?_
          refine lv_goto (tgt := 72) hx hb dX5_leastSet_68 (by decide) ?_
          exact b72 (fun z_p1 z_p2 z_p3 => s_X5_leastSet_b41 x F z_p1 z_p2 z_p3) (fun z_p1 z_p2 z_p3 hs => ih41 z_p1 z_p2 z_p3 hs) (p1) (p2) (p3) (1) hs ls (lv_sub hl [0, 1, 2, 3] rfl)
        · have hs := sp_f c_6 hs
          refine lv_iload_n hx hb dX5_leastSet_56 rfl (lv_at hl 3 rfl) ?_
          obtain ⟨v_7, h_7, hs⟩ := sp_b hs
          refine rd_i (va_runS (As := [.int (p3)]) (rest := []) ⟨hx, hb, hml, hown, hts⟩ (c_X5_bits l D ca p3 h_7) (va_cwS 1 hts gX5_leastSet_X5_bits rfl rfl rfl (by decide +kernel) ⟨Nat.le_of_ble_eq_true rfl, Nat.le_of_ble_eq_true rfl⟩) (rP_S va_P_nil hC) rfl rfl hl.1 rfl (lv_room (Nat.le_of_ble_eq_true rfl)) dX5_leastSet_57 ⟨Nat.zero_le _, Nat.zero_le _⟩) ?_
          refine lv_iload_n hx hb dX5_leastSet_60 rfl (lv_at hl 2 rfl) ?_
          obtain ⟨v_8, h_8, hs⟩ := sp_b hs
          refine rd_i (va_runS (As := [.int (p2)]) (rest := [.int (v_7)]) ⟨hx, hb, hml, hown, hts⟩ (c_X5_bits l D ca p2 h_8) (va_cwS 1 hts gX5_leastSet_X5_bits rfl rfl rfl (by decide +kernel) ⟨Nat.le_of_ble_eq_true rfl, Nat.le_of_ble_eq_true rfl⟩) (rP_S va_P_nil hC) rfl rfl hl.1 rfl (lv_room (Nat.le_of_ble_eq_true rfl)) dX5_leastSet_61 ⟨Nat.zero_le _, Nat.zero_le _⟩) ?_
          refine lv_icmp_ge (tgt := 71) hx hb dX5_leastSet_64 (by decide) (fun c_9 => ?_) (fun c_9 => ?_)
          · have hs := sp_t c_9 hs
            refine lv_iconst (v := 0) hx hb dX5_leastSet_71 (by decide) ?_
            exact b72 (fun z_p1 z_p2 z_p3 => s_X5_leastSet_b41 x F z_p1 z_p2 z_p3) (fun z_p1 z_p2 z_p3 hs => ih41 z_p1 z_p2 z_p3 hs) (p1) (p2) (p3) (0) hs ls (lv_sub hl [0, 1, 2, 3] rfl)
          · have hs := sp_f c_9 hs
            refine lv_iconst (v := 1) hx hb dX5_leastSet_67 (by decide) ?_
            refine lv_goto (tgt := 72) hx hb dX5_leastSet_68 (by decide) ?_
            exact b72 (fun z_p1 z_p2 z_p3 => s_X5_leastSet_b41 x F z_p1 z_p2 z_p3) (fun z_p1 z_p2 z_p3 hs => ih41 z_p1 z_p2 z_p3 hs) (p1) (p2) (p3) (1) hs ls (lv_sub hl [0, 1, 2, 3] rfl)
  have b4 : ∀ (F : Nat) (p1 : Int32) (p2 : Int32), s_X5_leastSet_b4 x F p1 p2 = some r → ∀ (ls : Array Slot), lv_has ls 5 [(0, .ref (h 0)), (1, .int (p1)), (2, .int (p2))] → W p l e (headSpec wsX5_leastSet ({ frames := 6, cells := 0, slots := 0, locals := 145 })).room s m #[.ref (h 0)] below meth c s.heap [] 0 0 (MQ below (vp_Si (fun z => z = r)) #[.ref (h 0)] s 0 0 (fun _ => False)) (F0 m 4 ls []) := by
    intro F
    induction F with
    | zero =>
      intro p1 p2 hs
      simp [s_X5_leastSet_b4] at hs
    | succ F ih4 =>
      intro p1 p2 hs ls hl
      rw [s_X5_leastSet_b4] at hs
      refine lv_iload_n hx hb dX5_leastSet_4 rfl (lv_at hl 2 rfl) ?_
      refine lv_aload_n hx hb dX5_leastSet_5 rfl (lv_at hl 0 rfl) ?_
      refine va_get (D := D) (ci := 5) (fs := fsM h (x)) (v := .int (x.1 0 8)) (C := RX5) (T := TX5) (N := 30) hx hb hts iX5 hown hK hP 0 rfl rfl 8 (by decide) (hts (.fieldLink RX5 80 "FacadeShowModel" "projectors" "I") (by decide +kernel)) (fun _ h9 => h9) rfl dX5_leastSet_6 ?_
      refine lv_icmp_ge (tgt := 37) hx hb dX5_leastSet_9 (by decide) (fun c_10 => ?_) (fun c_10 => ?_)
      · have hs := sp_t c_10 hs
        refine lv_iconst (v := -1) hx hb dX5_leastSet_37 (by decide) ?_
        refine lv_istore_n (lv' := [(2, .int (-1)), (0, .ref (h 0)), (1, .int (p1))]) hx hb dX5_leastSet_38 rfl hl (by decide) rfl (fun ls hl => ?_)
        refine lv_iconst (v := 0) hx hb dX5_leastSet_39 (by decide) ?_
        refine lv_istore_n (lv' := [(3, .int (0)), (2, .int (-1)), (0, .ref (h 0)), (1, .int (p1))]) hx hb dX5_leastSet_40 rfl hl (by decide) rfl (fun ls hl => ?_)
        exact b41  FU (p1) (-1) (0) hs ls (lv_sub hl [2, 3, 1, 0] rfl)
      · have hs := sp_f c_10 hs
        refine lv_iload_n hx hb dX5_leastSet_12 rfl (lv_at hl 1 rfl) ?_
        refine lv_aload_n hx hb dX5_leastSet_13 rfl (lv_at hl 0 rfl) ?_
        refine va_get (D := D) (ci := 5) (fs := fsM h (x)) (v := .ref (h 14)) (C := RX5) (T := TX5) (N := 30) hx hb hts iX5 hown hK hP 0 rfl rfl 17 (by decide) (hts (.fieldLink RX5 54 "FacadeShowModel" "hasFailed" "[Z") (by decide +kernel)) (fun _ h9 => h9) rfl dX5_leastSet_14 ?_
        refine lv_iload_n hx hb dX5_leastSet_17 rfl (lv_at hl 2 rfl) ?_
        obtain ⟨h_11, hs⟩ := sp_c hs
        refine va_zald (D := D) (cA := ca 1) (n := 10) (f := (x).1 14) hx hb hK hP 14 1 rfl rfl h_11 dX5_leastSet_18 ?_
        refine lv_if_eq (tgt := 28) hx hb dX5_leastSet_19 (by decide) (fun c_12 => ?_) (fun c_12 => ?_)
        · have hs := sp_t c_12 hs
          refine lv_iconst (v := 0) hx hb dX5_leastSet_28 (by decide) ?_
          refine lv_ior hx hb dX5_leastSet_29 ?_
          refine lv_istore_n (lv' := [(1, .int (p1 ||| 0)), (0, .ref (h 0)), (2, .int (p2))]) hx hb dX5_leastSet_30 rfl hl (by decide) rfl (fun ls hl => ?_)
          refine lv_iinc (v := p2 + 1) (lv' := [(2, .int (p2 + 1)), (1, .int (p1 ||| 0)), (0, .ref (h 0))]) hx hb dX5_leastSet_31 hl (k := 2) rfl rfl (by decide) rfl (fun ls hl => ?_)
          refine lv_goto (tgt := 4) hx hb dX5_leastSet_34 (by decide) ?_
          exact ih4  (p1 ||| 0) (p2 + 1) hs ls (lv_sub hl [2, 1, 0] rfl)
        · have hs := sp_f c_12 hs
          refine lv_iconst (v := 1) hx hb dX5_leastSet_22 (by decide) ?_
          refine lv_iload_n hx hb dX5_leastSet_23 rfl (lv_at hl 2 rfl) ?_
          refine lv_ishl hx hb dX5_leastSet_24 ?_
          refine lv_goto (tgt := 29) hx hb dX5_leastSet_25 (by decide) ?_
          refine lv_ior hx hb dX5_leastSet_29 ?_
          refine lv_istore_n (lv' := [(1, .int (p1 ||| (1 <<< (p2 &&& 31)))), (0, .ref (h 0)), (2, .int (p2))]) hx hb dX5_leastSet_30 rfl hl (by decide) rfl (fun ls hl => ?_)
          refine lv_iinc (v := p2 + 1) (lv' := [(2, .int (p2 + 1)), (1, .int (p1 ||| (1 <<< (p2 &&& 31)))), (0, .ref (h 0))]) hx hb dX5_leastSet_31 hl (k := 2) rfl rfl (by decide) rfl (fun ls hl => ?_)
          refine lv_goto (tgt := 4) hx hb dX5_leastSet_34 (by decide) ?_
          exact ih4  (p1 ||| (1 <<< (p2 &&& 31))) (p2 + 1) hs ls (lv_sub hl [2, 1, 0] rfl)
  unfold s_X5_leastSet at hs
  refine lv_iconst (v := 0) hx hb dX5_leastSet_0 (by decide) ?_
  refine lv_istore_n (lv' := [(1, .int (0)), (0, .ref (h 0))]) hx hb dX5_leastSet_1 rfl hl (by decide) rfl (fun ls hl => ?_)
  refine lv_iconst (v := 0) hx hb dX5_leastSet_2 (by decide) ?_
  refine lv_istore_n (lv' := [(2, .int (0)), (1, .int (0)), (0, .ref (h 0))]) hx hb dX5_leastSet_3 rfl hl (by decide) rfl (fun ls hl => ?_)
  exact b4  FU (0) (0) hs ls (lv_sub hl [2, 1, 0] rfl)
def s_X5_meets_b12 (x : XS) (a1 : Int32) (a2 : Int32) : Nat → Int32 → Int32 → Option Int32
  | 0, _, _ => none
  | F + 1, p3, p4 => chk 10 a1 ((if (x.1 7 a1.toNatClampNeg) ≤ p4 then zb p3 (some (p3)) else (s_X5_cross x a1 a2 p4).bind fun v_4 => (s_X5_at v_4 p4).bind fun v_5 => chk 192 v_5 ((if p3 = 0 then (if (x.1 4 v_5.toNatClampNeg) = 2 then s_X5_meets_b12 x a1 a2 F (1) (p4 + 1) else (if (x.1 4 v_5.toNatClampNeg) = 3 then s_X5_meets_b12 x a1 a2 F (1) (p4 + 1) else s_X5_meets_b12 x a1 a2 F (0) (p4 + 1))) else s_X5_meets_b12 x a1 a2 F (1) (p4 + 1)))))
def s_X5_meets (x : XS) (a1 : Int32) (a2 : Int32) : Option Int32 := chk 16 a2 (s_X5_meets_b12 x a1 a2  FU (0) ((x.1 1 a2.toNatClampNeg) + 1))
set_option maxHeartbeats 4000000 in
set_option maxRecDepth 100000 in
theorem c_X5_meets (l : Launch) (D : va_G) (ca : Nat → ClassId) (h : Nat → Nat) (x : XS) (a1 : Int32) (a2 : Int32) {r : Int32} (hs : s_X5_meets x a1 a2 = some r) : Met l yX5_meets wsX5_meets ({ frames := 1, cells := 0, slots := 0, locals := 25 }) (rP [.ref (h 0), .int (a1), .int (a2)] D ca (wM h ca x)) (vp_Si (fun z => z = r)) 0 0 (fun _ => False) := by
  refine Met.ofW (cc := cX5_meets) (maxL := 6) (ret := (some .boolean)) (by decide) rfl ?_
  intro p e s m args below meth c s₁ B hml hv
  obtain ⟨rfl, hP, hC⟩ := hv
  have hx := B.exec
  have hb := B.bytes
  have hr := B.returns
  have hts := atoms_spec (ws := wsX5_meets) B.pre
  have hown : s.vm.findClass RX5 = some m.cls := findClass_of_methodNamed B.named
  have hlocks := B.notSynchronized
  have hK := hC.1
  have iX5 : ∀ w ∈ u_ws RX5 TX5 30, w ∈ wsX5_meets := by decide +kernel
  have hl := lv_entry ([.ref (h 0), .int (a1), .int (a2)]) (n := 6) (Nat.le_of_ble_eq_true rfl)
  rw [lg_entry_eq]
  generalize (lg_sl ([.ref (h 0), .int (a1), .int (a2)]) ++ List.replicate (6 - (lg_sl ([.ref (h 0), .int (a1), .int (a2)])).length) Slot.unset).toArray = ls at hl ⊢
  have hl : lv_has ls 6 [(0, .ref (h 0)), (1, .int (a1)), (2, .int (a2))] := hl
  have b12 : ∀ (F : Nat) (p3 : Int32) (p4 : Int32), s_X5_meets_b12 x a1 a2 F p3 p4 = some r → ∀ (ls : Array Slot), lv_has ls 6 [(0, .ref (h 0)), (1, .int (a1)), (2, .int (a2)), (3, .int (p3)), (4, .int (p4))] → W p l e (headSpec wsX5_meets ({ frames := 1, cells := 0, slots := 0, locals := 25 })).room s m #[.ref (h 0), .int (a1), .int (a2)] below meth c s.heap [] 0 0 (MQ below (vp_Si (fun z => z = r)) #[.ref (h 0), .int (a1), .int (a2)] s 0 0 (fun _ => False)) (F0 m 12 ls []) := by
    intro F
    induction F with
    | zero =>
      intro p3 p4 hs
      simp [s_X5_meets_b12] at hs
    | succ F ih12 =>
      intro p3 p4 hs ls hl
      rw [s_X5_meets_b12] at hs
      refine lv_iload hx hb dX5_meets_12 (lv_at hl 4 rfl) ?_
      refine lv_aload_n hx hb dX5_meets_14 rfl (lv_at hl 0 rfl) ?_
      refine va_get (D := D) (ci := 5) (fs := fsM h (x)) (v := .ref (h 7)) (C := RX5) (T := TX5) (N := 30) hx hb hts iX5 hown hK hP 0 rfl rfl 10 (by decide) (hts (.fieldLink RX5 33 "FacadeShowModel" "row" "[I") (by decide +kernel)) (fun _ h9 => h9) rfl dX5_meets_15 ?_
      refine lv_iload_n hx hb dX5_meets_18 rfl (lv_at hl 1 rfl) ?_
      obtain ⟨h_1, hs⟩ := sp_c hs
      refine va_iald (D := D) (cA := ca 0) (n := 10) (f := (x).1 7) hx hb hK hP 7 0 rfl rfl h_1 dX5_meets_19 ?_
      refine lv_icmp_ge (tgt := 71) hx hb dX5_meets_20 (by decide) (fun c_2 => ?_) (fun c_2 => ?_)
      · have hs := sp_t c_2 hs
        refine lv_iload_n hx hb dX5_meets_71 rfl (lv_at hl 3 rfl) ?_
        obtain ⟨h_3, hs⟩ := sp_z hs
        exact rt_z hx hb hr h_3 hs dX5_meets_72 hlocks
      · have hs := sp_f c_2 hs
        refine lv_aload_n hx hb dX5_meets_23 rfl (lv_at hl 0 rfl) ?_
        refine va_get (D := D) (ci := 5) (fs := fsM h (x)) (v := .ref (h 4)) (C := RX5) (T := TX5) (N := 30) hx hb hts iX5 hown hK hP 0 rfl rfl 4 (by decide) (hts (.fieldLink RX5 19 "FacadeShowModel" "cells" "[I") (by decide +kernel)) (fun _ h9 => h9) rfl dX5_meets_24 ?_
        refine lv_aload_n hx hb dX5_meets_27 rfl (lv_at hl 0 rfl) ?_
        refine lv_iload_n hx hb dX5_meets_28 rfl (lv_at hl 1 rfl) ?_
        refine lv_iload_n hx hb dX5_meets_29 rfl (lv_at hl 2 rfl) ?_
        refine lv_iload hx hb dX5_meets_30 (lv_at hl 4 rfl) ?_
        obtain ⟨v_4, h_4, hs⟩ := sp_b hs
        refine rd_i (va_runV (As := [.int (a1), .int (a2), .int (p4)]) (rest := [.ref (h 4)]) ⟨hx, hb, hml, hown, hts⟩ (c_X5_cross l D ca h x a1 a2 p4 h_4) (cwV 3 hts gX5_meets_X5_cross rfl rfl rfl (by decide +kernel) ⟨Nat.le_of_ble_eq_true rfl, Nat.le_of_ble_eq_true rfl⟩) (rP_V (q := (RX5, TX5, 30)) hP hC 0 rfl rfl) rfl rfl hl.1 rfl (lv_room (Nat.le_of_ble_eq_true rfl)) dX5_meets_32 ⟨Nat.zero_le _, Nat.zero_le _⟩) ?_
        refine lv_iload hx hb dX5_meets_35 (lv_at hl 4 rfl) ?_
        obtain ⟨v_5, h_5, hs⟩ := sp_b hs
        refine rd_i (va_runS (As := [.int (v_4), .int (p4)]) (rest := [.ref (h 4)]) ⟨hx, hb, hml, hown, hts⟩ (c_X5_at l D ca v_4 p4 h_5) (va_cwS 2 hts gX5_meets_X5_at rfl rfl rfl (by decide +kernel) ⟨Nat.le_of_ble_eq_true rfl, Nat.le_of_ble_eq_true rfl⟩) (rP_S va_P_nil hC) rfl rfl hl.1 rfl (lv_room (Nat.le_of_ble_eq_true rfl)) dX5_meets_37 ⟨Nat.zero_le _, Nat.zero_le _⟩) ?_
        obtain ⟨h_6, hs⟩ := sp_c hs
        refine va_iald (D := D) (cA := ca 0) (n := 192) (f := (x).1 4) hx hb hK hP 4 0 rfl rfl h_6 dX5_meets_40 ?_
        refine lv_istore (lv' := [(5, .int (x.1 4 v_5.toNatClampNeg)), (0, .ref (h 0)), (1, .int (a1)), (2, .int (a2)), (3, .int (p3)), (4, .int (p4))]) hx hb dX5_meets_41 hl (by decide) rfl (fun ls hl => ?_)
        refine lv_iload_n hx hb dX5_meets_43 rfl (lv_at hl 4 rfl) ?_
        refine lv_if_ne (tgt := 59) hx hb dX5_meets_44 (by decide) (fun c_7 => ?_) (fun c_7 => ?_)
        · have hs := sp_f c_7 hs
          refine lv_iconst (v := 1) hx hb dX5_meets_59 (by decide) ?_
          refine lv_goto (tgt := 64) hx hb dX5_meets_60 (by decide) ?_
          refine lv_istore_n (lv' := [(3, .int (1)), (5, .int (x.1 4 v_5.toNatClampNeg)), (0, .ref (h 0)), (1, .int (a1)), (2, .int (a2)), (4, .int (p4))]) hx hb dX5_meets_64 rfl hl (by decide) rfl (fun ls hl => ?_)
          refine lv_iinc (v := p4 + 1) (lv' := [(4, .int (p4 + 1)), (3, .int (1)), (5, .int (x.1 4 v_5.toNatClampNeg)), (0, .ref (h 0)), (1, .int (a1)), (2, .int (a2))]) hx hb dX5_meets_65 hl (k := 5) rfl rfl (by decide) rfl (fun ls hl => ?_)
          refine lv_goto (tgt := 12) hx hb dX5_meets_68 (by decide) ?_
          exact ih12  (1) (p4 + 1) hs ls (lv_sub hl [3, 4, 5, 1, 0] rfl)
        · have hs := sp_t c_7 hs
          refine lv_iload hx hb dX5_meets_47 (lv_at hl 0 rfl) ?_
          refine lv_iconst (v := 2) hx hb dX5_meets_49 (by decide) ?_
          refine lv_icmp_eq (tgt := 59) hx hb dX5_meets_50 (by decide) (fun c_8 => ?_) (fun c_8 => ?_)
          · have hs := sp_t c_8 hs
            refine lv_iconst (v := 1) hx hb dX5_meets_59 (by decide) ?_
            refine lv_goto (tgt := 64) hx hb dX5_meets_60 (by decide) ?_
            refine lv_istore_n (lv' := [(3, .int (1)), (5, .int (x.1 4 v_5.toNatClampNeg)), (0, .ref (h 0)), (1, .int (a1)), (2, .int (a2)), (4, .int (p4))]) hx hb dX5_meets_64 rfl hl (by decide) rfl (fun ls hl => ?_)
            refine lv_iinc (v := p4 + 1) (lv' := [(4, .int (p4 + 1)), (3, .int (1)), (5, .int (x.1 4 v_5.toNatClampNeg)), (0, .ref (h 0)), (1, .int (a1)), (2, .int (a2))]) hx hb dX5_meets_65 hl (k := 5) rfl rfl (by decide) rfl (fun ls hl => ?_)
            refine lv_goto (tgt := 12) hx hb dX5_meets_68 (by decide) ?_
            exact ih12  (1) (p4 + 1) hs ls (lv_sub hl [3, 4, 5, 1, 0] rfl)
          · have hs := sp_f c_8 hs
            refine lv_iload hx hb dX5_meets_53 (lv_at hl 0 rfl) ?_
            refine lv_iconst (v := 3) hx hb dX5_meets_55 (by decide) ?_
            refine lv_icmp_ne (tgt := 63) hx hb dX5_meets_56 (by decide) (fun c_9 => ?_) (fun c_9 => ?_)
            · have hs := sp_f c_9 hs
              refine lv_iconst (v := 0) hx hb dX5_meets_63 (by decide) ?_
              refine lv_istore_n (lv' := [(3, .int (0)), (5, .int (x.1 4 v_5.toNatClampNeg)), (0, .ref (h 0)), (1, .int (a1)), (2, .int (a2)), (4, .int (p4))]) hx hb dX5_meets_64 rfl hl (by decide) rfl (fun ls hl => ?_)
              refine lv_iinc (v := p4 + 1) (lv' := [(4, .int (p4 + 1)), (3, .int (0)), (5, .int (x.1 4 v_5.toNatClampNeg)), (0, .ref (h 0)), (1, .int (a1)), (2, .int (a2))]) hx hb dX5_meets_65 hl (k := 5) rfl rfl (by decide) rfl (fun ls hl => ?_)
              refine lv_goto (tgt := 12) hx hb dX5_meets_68 (by decide) ?_
              exact ih12  (0) (p4 + 1) hs ls (lv_sub hl [3, 4, 5, 1, 0] rfl)
            · have hs := sp_t c_9 hs
              refine lv_iconst (v := 1) hx hb dX5_meets_59 (by decide) ?_
              refine lv_goto (tgt := 64) hx hb dX5_meets_60 (by decide) ?_
              refine lv_istore_n (lv' := [(3, .int (1)), (5, .int (x.1 4 v_5.toNatClampNeg)), (0, .ref (h 0)), (1, .int (a1)), (2, .int (a2)), (4, .int (p4))]) hx hb dX5_meets_64 rfl hl (by decide) rfl (fun ls hl => ?_)
              refine lv_iinc (v := p4 + 1) (lv' := [(4, .int (p4 + 1)), (3, .int (1)), (5, .int (x.1 4 v_5.toNatClampNeg)), (0, .ref (h 0)), (1, .int (a1)), (2, .int (a2))]) hx hb dX5_meets_65 hl (k := 5) rfl rfl (by decide) rfl (fun ls hl => ?_)
              refine lv_goto (tgt := 12) hx hb dX5_meets_68 (by decide) ?_
              exact ih12  (1) (p4 + 1) hs ls (lv_sub hl [3, 4, 5, 1, 0] rfl)
  unfold s_X5_meets at hs
  refine lv_iconst (v := 0) hx hb dX5_meets_0 (by decide) ?_
  refine lv_istore_n (lv' := [(3, .int (0)), (0, .ref (h 0)), (1, .int (a1)), (2, .int (a2))]) hx hb dX5_meets_1 rfl hl (by decide) rfl (fun ls hl => ?_)
  refine lv_aload_n hx hb dX5_meets_2 rfl (lv_at hl 1 rfl) ?_
  refine va_get (D := D) (ci := 5) (fs := fsM h (x)) (v := .ref (h 1)) (C := RX5) (T := TX5) (N := 30) hx hb hts iX5 hown hK hP 0 rfl rfl 1 (by decide) (hts (.fieldLink RX5 7 "FacadeShowModel" "relief" "[I") (by decide +kernel)) (fun _ h9 => h9) rfl dX5_meets_3 ?_
  refine lv_iload_n hx hb dX5_meets_6 rfl (lv_at hl 3 rfl) ?_
  obtain ⟨h_10, hs⟩ := sp_c hs
  refine va_iald (D := D) (cA := ca 0) (n := 16) (f := (x).1 1) hx hb hK hP 1 0 rfl rfl h_10 dX5_meets_7 ?_
  refine lv_iconst (v := 1) hx hb dX5_meets_8 (by decide) ?_
  refine lv_iadd hx hb dX5_meets_9 ?_
  refine lv_istore (lv' := [(4, .int ((x.1 1 a2.toNatClampNeg) + 1)), (3, .int (0)), (0, .ref (h 0)), (1, .int (a1)), (2, .int (a2))]) hx hb dX5_meets_10 hl (by decide) rfl (fun ls hl => ?_)
  exact b12  FU (0) ((x.1 1 a2.toNatClampNeg) + 1) hs ls (lv_sub hl [2, 3, 4, 1, 0] rfl)
def s_X5_breachesNow_b14 (x : XS) (k4 : Int32 → Int32 → Option Int32) : Nat → Int32 → Int32 → Int32 → Option Int32
  | 0, _, _, _ => none
  | F + 1, p1, p2, p3 => (if 16 ≤ p3 then k4 (p1) (p2 + 1) else (s_X5_shines x p2).bind fun v_2 => (if v_2 = 0 then s_X5_breachesNow_b14 x k4 F (p1 + 0) (p2) (p3 + 1) else (s_X5_covers x p2 p3).bind fun v_4 => (if v_4 = 0 then s_X5_breachesNow_b14 x k4 F (p1 + 0) (p2) (p3 + 1) else (s_X5_isBlocked x p2 p3).bind fun v_6 => (if v_6 = 0 then (s_X5_meets x p2 p3).bind fun v_8 => (if v_8 = 0 then s_X5_breachesNow_b14 x k4 F (p1 + 0) (p2) (p3 + 1) else s_X5_breachesNow_b14 x k4 F (p1 + 1) (p2) (p3 + 1)) else s_X5_breachesNow_b14 x k4 F (p1 + 0) (p2) (p3 + 1)))))
def s_X5_breachesNow_b4 (x : XS) : Nat → Int32 → Int32 → Option Int32
  | 0, _, _ => none
  | F + 1, p1, p2 => (if (x.1 0 8) ≤ p2 then some (p1) else s_X5_breachesNow_b14 x (fun z_p1 z_p2 => s_X5_breachesNow_b4 x F z_p1 z_p2) FU (p1) (p2) (0))
def s_X5_breachesNow (x : XS) : Option Int32 := s_X5_breachesNow_b4 x  FU (0) (0)
set_option maxHeartbeats 4000000 in
set_option maxRecDepth 100000 in
theorem c_X5_breachesNow (l : Launch) (D : va_G) (ca : Nat → ClassId) (h : Nat → Nat) (x : XS) {r : Int32} (hs : s_X5_breachesNow x = some r) : Met l yX5_breachesNow wsX5_breachesNow ({ frames := 2, cells := 0, slots := 0, locals := 50 }) (rP [.ref (h 0)] D ca (wM h ca x)) (vp_Si (fun z => z = r)) 0 0 (fun _ => False) := by
  refine Met.ofW (cc := cX5_breachesNow) (maxL := 4) (ret := (some .int)) (by decide) rfl ?_
  intro p e s m args below meth c s₁ B hml hv
  obtain ⟨rfl, hP, hC⟩ := hv
  have hx := B.exec
  have hb := B.bytes
  have hr := B.returns
  have hts := atoms_spec (ws := wsX5_breachesNow) B.pre
  have hown : s.vm.findClass RX5 = some m.cls := findClass_of_methodNamed B.named
  have hlocks := B.notSynchronized
  have hK := hC.1
  have iX5 : ∀ w ∈ u_ws RX5 TX5 30, w ∈ wsX5_breachesNow := by decide +kernel
  have hl := lv_entry ([.ref (h 0)]) (n := 4) (Nat.le_of_ble_eq_true rfl)
  rw [lg_entry_eq]
  generalize (lg_sl ([.ref (h 0)]) ++ List.replicate (4 - (lg_sl ([.ref (h 0)])).length) Slot.unset).toArray = ls at hl ⊢
  have hl : lv_has ls 4 [(0, .ref (h 0))] := hl
  have b14 : ∀ (k4 : Int32 → Int32 → Option Int32) (_ : ∀ (p1 : Int32) (p2 : Int32), k4 p1 p2 = some r → ∀ (ls : Array Slot), lv_has ls 4 [(0, .ref (h 0)), (1, .int (p1)), (2, .int (p2))] → W p l e (headSpec wsX5_breachesNow ({ frames := 2, cells := 0, slots := 0, locals := 50 })).room s m #[.ref (h 0)] below meth c s.heap [] 0 0 (MQ below (vp_Si (fun z => z = r)) #[.ref (h 0)] s 0 0 (fun _ => False)) (F0 m 4 ls [])) (F : Nat) (p1 : Int32) (p2 : Int32) (p3 : Int32), s_X5_breachesNow_b14 x k4 F p1 p2 p3 = some r → ∀ (ls : Array Slot), lv_has ls 4 [(0, .ref (h 0)), (1, .int (p1)), (2, .int (p2)), (3, .int (p3))] → W p l e (headSpec wsX5_breachesNow ({ frames := 2, cells := 0, slots := 0, locals := 50 })).room s m #[.ref (h 0)] below meth c s.heap [] 0 0 (MQ below (vp_Si (fun z => z = r)) #[.ref (h 0)] s 0 0 (fun _ => False)) (F0 m 14 ls []) := by
    intro k4 hk4
    intro F
    induction F with
    | zero =>
      intro p1 p2 p3 hs
      simp [s_X5_breachesNow_b14] at hs
    | succ F ih14 =>
      intro p1 p2 p3 hs ls hl
      rw [s_X5_breachesNow_b14] at hs
      refine lv_iload_n hx hb dX5_breachesNow_14 rfl (lv_at hl 3 rfl) ?_
      refine lv_bipush (v := 16) hx hb dX5_breachesNow_15 (by decide) ?_
      refine lv_icmp_ge (tgt := 69) hx hb dX5_breachesNow_17 (by decide) (fun c_1 => ?_) (fun c_1 => ?_)
      · have hs := sp_t c_1 hs
        refine lv_iinc (v := p2 + 1) (lv' := [(2, .int (p2 + 1)), (0, .ref (h 0)), (1, .int (p1)), (3, .int (p3))]) hx hb dX5_breachesNow_69 hl (k := 2) rfl rfl (by decide) rfl (fun ls hl => ?_)
        refine lv_goto (tgt := 4) hx hb dX5_breachesNow_72 (by decide) ?_
        exact hk4  (p1) (p2 + 1) hs ls (lv_sub hl [1, 2, 0] rfl)
      · have hs := sp_f c_1 hs
        refine lv_iload_n hx hb dX5_breachesNow_20 rfl (lv_at hl 1 rfl) ?_
        refine lv_aload_n hx hb dX5_breachesNow_21 rfl (lv_at hl 0 rfl) ?_
        refine lv_iload_n hx hb dX5_breachesNow_22 rfl (lv_at hl 2 rfl) ?_
        obtain ⟨v_2, h_2, hs⟩ := sp_b hs
        refine rd_i (va_runV (As := [.int (p2)]) (rest := [.int (p1)]) ⟨hx, hb, hml, hown, hts⟩ (c_X5_shines l D ca h x p2 h_2) (cwV 1 hts gX5_breachesNow_X5_shines rfl rfl rfl (by decide +kernel) ⟨Nat.le_of_ble_eq_true rfl, Nat.le_of_ble_eq_true rfl⟩) (rP_V (q := (RX5, TX5, 30)) hP hC 0 rfl rfl) rfl rfl hl.1 rfl (lv_room (Nat.le_of_ble_eq_true rfl)) dX5_breachesNow_23 ⟨Nat.zero_le _, Nat.zero_le _⟩) ?_
        refine lv_if_eq (tgt := 60) hx hb dX5_breachesNow_26 (by decide) (fun c_3 => ?_) (fun c_3 => ?_)
        · have hs := sp_t c_3 hs
          refine lv_iconst (v := 0) hx hb dX5_breachesNow_60 (by decide) ?_
          refine lv_iadd hx hb dX5_breachesNow_61 ?_
          refine lv_istore_n (lv' := [(1, .int (p1 + 0)), (0, .ref (h 0)), (2, .int (p2)), (3, .int (p3))]) hx hb dX5_breachesNow_62 rfl hl (by decide) rfl (fun ls hl => ?_)
          refine lv_iinc (v := p3 + 1) (lv' := [(3, .int (p3 + 1)), (1, .int (p1 + 0)), (0, .ref (h 0)), (2, .int (p2))]) hx hb dX5_breachesNow_63 hl (k := 3) rfl rfl (by decide) rfl (fun ls hl => ?_)
          refine lv_goto (tgt := 14) hx hb dX5_breachesNow_66 (by decide) ?_
          exact ih14  (p1 + 0) (p2) (p3 + 1) hs ls (lv_sub hl [2, 1, 3, 0] rfl)
        · have hs := sp_f c_3 hs
          refine lv_aload_n hx hb dX5_breachesNow_29 rfl (lv_at hl 0 rfl) ?_
          refine lv_iload_n hx hb dX5_breachesNow_30 rfl (lv_at hl 2 rfl) ?_
          refine lv_iload_n hx hb dX5_breachesNow_31 rfl (lv_at hl 3 rfl) ?_
          obtain ⟨v_4, h_4, hs⟩ := sp_b hs
          refine rd_i (va_runV (As := [.int (p2), .int (p3)]) (rest := [.int (p1)]) ⟨hx, hb, hml, hown, hts⟩ (c_X5_covers l D ca h x p2 p3 h_4) (cwV 2 hts gX5_breachesNow_X5_covers rfl rfl rfl (by decide +kernel) ⟨Nat.le_of_ble_eq_true rfl, Nat.le_of_ble_eq_true rfl⟩) (rP_V (q := (RX5, TX5, 30)) hP hC 0 rfl rfl) rfl rfl hl.1 rfl (lv_room (Nat.le_of_ble_eq_true rfl)) dX5_breachesNow_32 ⟨Nat.zero_le _, Nat.zero_le _⟩) ?_
          refine lv_if_eq (tgt := 60) hx hb dX5_breachesNow_35 (by decide) (fun c_5 => ?_) (fun c_5 => ?_)
          · have hs := sp_t c_5 hs
            refine lv_iconst (v := 0) hx hb dX5_breachesNow_60 (by decide) ?_
            refine lv_iadd hx hb dX5_breachesNow_61 ?_
            refine lv_istore_n (lv' := [(1, .int (p1 + 0)), (0, .ref (h 0)), (2, .int (p2)), (3, .int (p3))]) hx hb dX5_breachesNow_62 rfl hl (by decide) rfl (fun ls hl => ?_)
            refine lv_iinc (v := p3 + 1) (lv' := [(3, .int (p3 + 1)), (1, .int (p1 + 0)), (0, .ref (h 0)), (2, .int (p2))]) hx hb dX5_breachesNow_63 hl (k := 3) rfl rfl (by decide) rfl (fun ls hl => ?_)
            refine lv_goto (tgt := 14) hx hb dX5_breachesNow_66 (by decide) ?_
            exact ih14  (p1 + 0) (p2) (p3 + 1) hs ls (lv_sub hl [2, 1, 3, 0] rfl)
          · have hs := sp_f c_5 hs
            refine lv_aload_n hx hb dX5_breachesNow_38 rfl (lv_at hl 0 rfl) ?_
            refine lv_iload_n hx hb dX5_breachesNow_39 rfl (lv_at hl 2 rfl) ?_
            refine lv_iload_n hx hb dX5_breachesNow_40 rfl (lv_at hl 3 rfl) ?_
            obtain ⟨v_6, h_6, hs⟩ := sp_b hs
            refine rd_i (va_runV (As := [.int (p2), .int (p3)]) (rest := [.int (p1)]) ⟨hx, hb, hml, hown, hts⟩ (c_X5_isBlocked l D ca h x p2 p3 h_6) (cwV 2 hts gX5_breachesNow_X5_isBlocked rfl rfl rfl (by decide +kernel) ⟨Nat.le_of_ble_eq_true rfl, Nat.le_of_ble_eq_true rfl⟩) (rP_V (q := (RX5, TX5, 30)) hP hC 0 rfl rfl) rfl rfl hl.1 rfl (lv_room (Nat.le_of_ble_eq_true rfl)) dX5_breachesNow_41 ⟨Nat.zero_le _, Nat.zero_le _⟩) ?_
            refine lv_if_ne (tgt := 60) hx hb dX5_breachesNow_44 (by decide) (fun c_7 => ?_) (fun c_7 => ?_)
            · have hs := sp_f c_7 hs
              refine lv_iconst (v := 0) hx hb dX5_breachesNow_60 (by decide) ?_
              refine lv_iadd hx hb dX5_breachesNow_61 ?_
              refine lv_istore_n (lv' := [(1, .int (p1 + 0)), (0, .ref (h 0)), (2, .int (p2)), (3, .int (p3))]) hx hb dX5_breachesNow_62 rfl hl (by decide) rfl (fun ls hl => ?_)
              refine lv_iinc (v := p3 + 1) (lv' := [(3, .int (p3 + 1)), (1, .int (p1 + 0)), (0, .ref (h 0)), (2, .int (p2))]) hx hb dX5_breachesNow_63 hl (k := 3) rfl rfl (by decide) rfl (fun ls hl => ?_)
              refine lv_goto (tgt := 14) hx hb dX5_breachesNow_66 (by decide) ?_
              exact ih14  (p1 + 0) (p2) (p3 + 1) hs ls (lv_sub hl [2, 1, 3, 0] rfl)
            · have hs := sp_t c_7 hs
              refine lv_aload_n hx hb dX5_breachesNow_47 rfl (lv_at hl 0 rfl) ?_
              refine lv_iload_n hx hb dX5_breachesNow_48 rfl (lv_at hl 2 rfl) ?_
              refine lv_iload_n hx hb dX5_breachesNow_49 rfl (lv_at hl 3 rfl) ?_
              obtain ⟨v_8, h_8, hs⟩ := sp_b hs
              refine rd_i (va_runV (As := [.int (p2), .int (p3)]) (rest := [.int (p1)]) ⟨hx, hb, hml, hown, hts⟩ (c_X5_meets l D ca h x p2 p3 h_8) (cwV 2 hts gX5_breachesNow_X5_meets rfl rfl rfl (by decide +kernel) ⟨Nat.le_of_ble_eq_true rfl, Nat.le_of_ble_eq_true rfl⟩) (rP_V (q := (RX5, TX5, 30)) hP hC 0 rfl rfl) rfl rfl hl.1 rfl (lv_room (Nat.le_of_ble_eq_true rfl)) dX5_breachesNow_50 ⟨Nat.zero_le _, Nat.zero_le _⟩) ?_
              refine lv_if_eq (tgt := 60) hx hb dX5_breachesNow_53 (by decide) (fun c_9 => ?_) (fun c_9 => ?_)
              · have hs := sp_t c_9 hs
                refine lv_iconst (v := 0) hx hb dX5_breachesNow_60 (by decide) ?_
                refine lv_iadd hx hb dX5_breachesNow_61 ?_
                refine lv_istore_n (lv' := [(1, .int (p1 + 0)), (0, .ref (h 0)), (2, .int (p2)), (3, .int (p3))]) hx hb dX5_breachesNow_62 rfl hl (by decide) rfl (fun ls hl => ?_)
                refine lv_iinc (v := p3 + 1) (lv' := [(3, .int (p3 + 1)), (1, .int (p1 + 0)), (0, .ref (h 0)), (2, .int (p2))]) hx hb dX5_breachesNow_63 hl (k := 3) rfl rfl (by decide) rfl (fun ls hl => ?_)
                refine lv_goto (tgt := 14) hx hb dX5_breachesNow_66 (by decide) ?_
                exact ih14  (p1 + 0) (p2) (p3 + 1) hs ls (lv_sub hl [2, 1, 3, 0] rfl)
              · have hs := sp_f c_9 hs
                refine lv_iconst (v := 1) hx hb dX5_breachesNow_56 (by decide) ?_
                refine lv_goto (tgt := 61) hx hb dX5_breachesNow_57 (by decide) ?_
                refine lv_iadd hx hb dX5_breachesNow_61 ?_
                refine lv_istore_n (lv' := [(1, .int (p1 + 1)), (0, .ref (h 0)), (2, .int (p2)), (3, .int (p3))]) hx hb dX5_breachesNow_62 rfl hl (by decide) rfl (fun ls hl => ?_)
                refine lv_iinc (v := p3 + 1) (lv' := [(3, .int (p3 + 1)), (1, .int (p1 + 1)), (0, .ref (h 0)), (2, .int (p2))]) hx hb dX5_breachesNow_63 hl (k := 3) rfl rfl (by decide) rfl (fun ls hl => ?_)
                refine lv_goto (tgt := 14) hx hb dX5_breachesNow_66 (by decide) ?_
                exact ih14  (p1 + 1) (p2) (p3 + 1) hs ls (lv_sub hl [2, 1, 3, 0] rfl)
  have b4 : ∀ (F : Nat) (p1 : Int32) (p2 : Int32), s_X5_breachesNow_b4 x F p1 p2 = some r → ∀ (ls : Array Slot), lv_has ls 4 [(0, .ref (h 0)), (1, .int (p1)), (2, .int (p2))] → W p l e (headSpec wsX5_breachesNow ({ frames := 2, cells := 0, slots := 0, locals := 50 })).room s m #[.ref (h 0)] below meth c s.heap [] 0 0 (MQ below (vp_Si (fun z => z = r)) #[.ref (h 0)] s 0 0 (fun _ => False)) (F0 m 4 ls []) := by
    intro F
    induction F with
    | zero =>
      intro p1 p2 hs
      simp [s_X5_breachesNow_b4] at hs
    | succ F ih4 =>
      intro p1 p2 hs ls hl
      rw [s_X5_breachesNow_b4] at hs
      refine lv_iload_n hx hb dX5_breachesNow_4 rfl (lv_at hl 2 rfl) ?_
      refine lv_aload_n hx hb dX5_breachesNow_5 rfl (lv_at hl 0 rfl) ?_
      refine va_get (D := D) (ci := 5) (fs := fsM h (x)) (v := .int (x.1 0 8)) (C := RX5) (T := TX5) (N := 30) hx hb hts iX5 hown hK hP 0 rfl rfl 8 (by decide) (hts (.fieldLink RX5 80 "FacadeShowModel" "projectors" "I") (by decide +kernel)) (fun _ h9 => h9) rfl dX5_breachesNow_6 ?_
      refine lv_icmp_ge (tgt := 75) hx hb dX5_breachesNow_9 (by decide) (fun c_10 => ?_) (fun c_10 => ?_)
      · have hs := sp_t c_10 hs
        refine lv_iload_n hx hb dX5_breachesNow_75 rfl (lv_at hl 1 rfl) ?_
        exact rt_i hx hb hr hs dX5_breachesNow_76 hlocks
      · have hs := sp_f c_10 hs
        refine lv_iconst (v := 0) hx hb dX5_breachesNow_12 (by decide) ?_
        refine lv_istore_n (lv' := [(3, .int (0)), (0, .ref (h 0)), (1, .int (p1)), (2, .int (p2))]) hx hb dX5_breachesNow_13 rfl hl (by decide) rfl (fun ls hl => ?_)
        exact b14 (fun z_p1 z_p2 => s_X5_breachesNow_b4 x F z_p1 z_p2) (fun z_p1 z_p2 hs => ih4 z_p1 z_p2 hs) FU (p1) (p2) (0) hs ls (lv_sub hl [1, 2, 3, 0] rfl)
  unfold s_X5_breachesNow at hs
  refine lv_iconst (v := 0) hx hb dX5_breachesNow_0 (by decide) ?_
  refine lv_istore_n (lv' := [(1, .int (0)), (0, .ref (h 0))]) hx hb dX5_breachesNow_1 rfl hl (by decide) rfl (fun ls hl => ?_)
  refine lv_iconst (v := 0) hx hb dX5_breachesNow_2 (by decide) ?_
  refine lv_istore_n (lv' := [(2, .int (0)), (1, .int (0)), (0, .ref (h 0))]) hx hb dX5_breachesNow_3 rfl hl (by decide) rfl (fun ls hl => ?_)
  exact b4  FU (0) (0) hs ls (lv_sub hl [2, 1, 0] rfl)
def s_X5_on_b4 (x : XS) : Nat → Int32 → Int32 → Option Int32
  | 0, _, _ => none
  | F + 1, p1, p2 => (if (x.1 0 8) ≤ p2 then some (p1) else chk 10 p2 ((if (x.1 13 p2.toNatClampNeg) = 0 then s_X5_on_b4 x F (p1 + 0) (p2 + 1) else s_X5_on_b4 x F (p1 + 1) (p2 + 1))))
def s_X5_on (x : XS) : Option Int32 := s_X5_on_b4 x  FU (0) (0)
set_option maxHeartbeats 4000000 in
set_option maxRecDepth 100000 in
theorem c_X5_on (l : Launch) (D : va_G) (ca : Nat → ClassId) (h : Nat → Nat) (x : XS) {r : Int32} (hs : s_X5_on x = some r) : Met l yX5_on wsX5_on ({ frames := 0, cells := 0, slots := 0, locals := 0 }) (rP [.ref (h 0)] D ca (wM h ca x)) (vp_Si (fun z => z = r)) 0 0 (fun _ => False) := by
  refine Met.ofW (cc := cX5_on) (maxL := 3) (ret := (some .int)) (by decide) rfl ?_
  intro p e s m args below meth c s₁ B hml hv
  obtain ⟨rfl, hP, hC⟩ := hv
  have hx := B.exec
  have hb := B.bytes
  have hr := B.returns
  have hts := atoms_spec (ws := wsX5_on) B.pre
  have hown : s.vm.findClass RX5 = some m.cls := findClass_of_methodNamed B.named
  have hlocks := B.notSynchronized
  have hK := hC.1
  have iX5 : ∀ w ∈ u_ws RX5 TX5 30, w ∈ wsX5_on := by decide +kernel
  have hl := lv_entry ([.ref (h 0)]) (n := 3) (Nat.le_of_ble_eq_true rfl)
  rw [lg_entry_eq]
  generalize (lg_sl ([.ref (h 0)]) ++ List.replicate (3 - (lg_sl ([.ref (h 0)])).length) Slot.unset).toArray = ls at hl ⊢
  have hl : lv_has ls 3 [(0, .ref (h 0))] := hl
  have b4 : ∀ (F : Nat) (p1 : Int32) (p2 : Int32), s_X5_on_b4 x F p1 p2 = some r → ∀ (ls : Array Slot), lv_has ls 3 [(0, .ref (h 0)), (1, .int (p1)), (2, .int (p2))] → W p l e (headSpec wsX5_on ({ frames := 0, cells := 0, slots := 0, locals := 0 })).room s m #[.ref (h 0)] below meth c s.heap [] 0 0 (MQ below (vp_Si (fun z => z = r)) #[.ref (h 0)] s 0 0 (fun _ => False)) (F0 m 4 ls []) := by
    intro F
    induction F with
    | zero =>
      intro p1 p2 hs
      simp [s_X5_on_b4] at hs
    | succ F ih4 =>
      intro p1 p2 hs ls hl
      rw [s_X5_on_b4] at hs
      refine lv_iload_n hx hb dX5_on_4 rfl (lv_at hl 2 rfl) ?_
      refine lv_aload_n hx hb dX5_on_5 rfl (lv_at hl 0 rfl) ?_
      refine va_get (D := D) (ci := 5) (fs := fsM h (x)) (v := .int (x.1 0 8)) (C := RX5) (T := TX5) (N := 30) hx hb hts iX5 hown hK hP 0 rfl rfl 8 (by decide) (hts (.fieldLink RX5 80 "FacadeShowModel" "projectors" "I") (by decide +kernel)) (fun _ h9 => h9) rfl dX5_on_6 ?_
      refine lv_icmp_ge (tgt := 35) hx hb dX5_on_9 (by decide) (fun c_1 => ?_) (fun c_1 => ?_)
      · have hs := sp_t c_1 hs
        refine lv_iload_n hx hb dX5_on_35 rfl (lv_at hl 1 rfl) ?_
        exact rt_i hx hb hr hs dX5_on_36 hlocks
      · have hs := sp_f c_1 hs
        refine lv_iload_n hx hb dX5_on_12 rfl (lv_at hl 1 rfl) ?_
        refine lv_aload_n hx hb dX5_on_13 rfl (lv_at hl 0 rfl) ?_
        refine va_get (D := D) (ci := 5) (fs := fsM h (x)) (v := .ref (h 13)) (C := RX5) (T := TX5) (N := 30) hx hb hts iX5 hown hK hP 0 rfl rfl 16 (by decide) (hts (.fieldLink RX5 51 "FacadeShowModel" "isOn" "[Z") (by decide +kernel)) (fun _ h9 => h9) rfl dX5_on_14 ?_
        refine lv_iload_n hx hb dX5_on_17 rfl (lv_at hl 2 rfl) ?_
        obtain ⟨h_2, hs⟩ := sp_c hs
        refine va_zald (D := D) (cA := ca 1) (n := 10) (f := (x).1 13) hx hb hK hP 13 1 rfl rfl h_2 dX5_on_18 ?_
        refine lv_if_eq (tgt := 26) hx hb dX5_on_19 (by decide) (fun c_3 => ?_) (fun c_3 => ?_)
        · have hs := sp_t c_3 hs
          refine lv_iconst (v := 0) hx hb dX5_on_26 (by decide) ?_
          refine lv_iadd hx hb dX5_on_27 ?_
          refine lv_istore_n (lv' := [(1, .int (p1 + 0)), (0, .ref (h 0)), (2, .int (p2))]) hx hb dX5_on_28 rfl hl (by decide) rfl (fun ls hl => ?_)
          refine lv_iinc (v := p2 + 1) (lv' := [(2, .int (p2 + 1)), (1, .int (p1 + 0)), (0, .ref (h 0))]) hx hb dX5_on_29 hl (k := 2) rfl rfl (by decide) rfl (fun ls hl => ?_)
          refine lv_goto (tgt := 4) hx hb dX5_on_32 (by decide) ?_
          exact ih4  (p1 + 0) (p2 + 1) hs ls (lv_sub hl [2, 1, 0] rfl)
        · have hs := sp_f c_3 hs
          refine lv_iconst (v := 1) hx hb dX5_on_22 (by decide) ?_
          refine lv_goto (tgt := 27) hx hb dX5_on_23 (by decide) ?_
          refine lv_iadd hx hb dX5_on_27 ?_
          refine lv_istore_n (lv' := [(1, .int (p1 + 1)), (0, .ref (h 0)), (2, .int (p2))]) hx hb dX5_on_28 rfl hl (by decide) rfl (fun ls hl => ?_)
          refine lv_iinc (v := p2 + 1) (lv' := [(2, .int (p2 + 1)), (1, .int (p1 + 1)), (0, .ref (h 0))]) hx hb dX5_on_29 hl (k := 2) rfl rfl (by decide) rfl (fun ls hl => ?_)
          refine lv_goto (tgt := 4) hx hb dX5_on_32 (by decide) ?_
          exact ih4  (p1 + 1) (p2 + 1) hs ls (lv_sub hl [2, 1, 0] rfl)
  unfold s_X5_on at hs
  refine lv_iconst (v := 0) hx hb dX5_on_0 (by decide) ?_
  refine lv_istore_n (lv' := [(1, .int (0)), (0, .ref (h 0))]) hx hb dX5_on_1 rfl hl (by decide) rfl (fun ls hl => ?_)
  refine lv_iconst (v := 0) hx hb dX5_on_2 (by decide) ?_
  refine lv_istore_n (lv' := [(2, .int (0)), (1, .int (0)), (0, .ref (h 0))]) hx hb dX5_on_3 rfl hl (by decide) rfl (fun ls hl => ?_)
  exact b4  FU (0) (0) hs ls (lv_sub hl [2, 1, 0] rfl)
