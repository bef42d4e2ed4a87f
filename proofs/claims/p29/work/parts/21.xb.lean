def s_X3_isWellCovered_b26 (x : XS) (a1 : Int32) (a2 : Int32) (a3 : Int32) : Nat → Int32 → Int32 → Option Int32
  | 0, _, _ => none
  | F + 1, p4, p5 => (if 10 ≤ p5 then (if p4 < a3 then some 0 else some 1) else (if ((a2 >>> (p5 &&& 31)) &&& 1) = 0 then s_X3_isWellCovered_b26 x a1 a2 a3 F (p4) (p5 + 1) else chk 160 ((a1 * 10) + p5) (s_X3_isWellCovered_b26 x a1 a2 a3 F (p4 + (x.1 9 ((a1 * 10) + p5).toNatClampNeg)) (p5 + 1))))
def s_X3_isWellCovered (x : XS) (a1 : Int32) (a2 : Int32) (a3 : Int32) : Option Int32 := (s_X4_isColumn a1).bind fun v_5 => (if v_5 = 0 then some 0 else chk 16 a1 ((if ((x.1 10 a1.toNatClampNeg) &&& a2) = 0 then s_X3_isWellCovered_b26 x a1 a2 a3  FU (0) (0) else some 0)))
set_option maxHeartbeats 4000000 in
set_option maxRecDepth 100000 in
theorem c_X3_isWellCovered (l : Launch) (D : va_G) (ca : Nat → ClassId) (g : Nat → Nat) (x : XS) (a1 : Int32) (a2 : Int32) (a3 : Int32) {r : Int32} (hs : s_X3_isWellCovered x a1 a2 a3 = some r) : Met l yX3_isWellCovered wsX3_isWellCovered ({ frames := 1, cells := 0, slots := 0, locals := 20 }) (rP [.ref (g 4), .int (a1), .int (a2), .int (a3)] D ca (wX g ca x)) (vp_Si (fun z => z = r)) 0 0 (fun _ => False) := by
  refine Met.ofW (cc := cX3_isWellCovered) (maxL := 6) (ret := (some .boolean)) (by decide) rfl ?_
  intro p e s m args below meth c s₁ B hml hv
  obtain ⟨rfl, hP, hC⟩ := hv
  have hx := B.exec
  have hb := B.bytes
  have hr := B.returns
  have hts := atoms_spec (ws := wsX3_isWellCovered) B.pre
  have hown : s.vm.findClass RX3 = some m.cls := findClass_of_methodNamed B.named
  have hlocks := B.notSynchronized
  have hK := hC.1
  have iX3 : ∀ w ∈ u_ws RX3 TX3 2, w ∈ wsX3_isWellCovered := by decide +kernel
  have hl := lv_entry ([.ref (g 4), .int (a1), .int (a2), .int (a3)]) (n := 6) (Nat.le_of_ble_eq_true rfl)
  rw [lg_entry_eq]
  generalize (lg_sl ([.ref (g 4), .int (a1), .int (a2), .int (a3)]) ++ List.replicate (6 - (lg_sl ([.ref (g 4), .int (a1), .int (a2), .int (a3)])).length) Slot.unset).toArray = ls at hl ⊢
  have hl : lv_has ls 6 [(0, .ref (g 4)), (1, .int (a1)), (2, .int (a2)), (3, .int (a3))] := hl
  have b26 : ∀ (F : Nat) (p4 : Int32) (p5 : Int32), s_X3_isWellCovered_b26 x a1 a2 a3 F p4 p5 = some r → ∀ (ls : Array Slot), lv_has ls 6 [(0, .ref (g 4)), (1, .int (a1)), (2, .int (a2)), (3, .int (a3)), (4, .int (p4)), (5, .int (p5))] → W p l e (headSpec wsX3_isWellCovered ({ frames := 1, cells := 0, slots := 0, locals := 20 })).room s m #[.ref (g 4), .int (a1), .int (a2), .int (a3)] below meth c s.heap [] 0 0 (MQ below (vp_Si (fun z => z = r)) #[.ref (g 4), .int (a1), .int (a2), .int (a3)] s 0 0 (fun _ => False)) (F0 m 26 ls []) := by
    intro F
    induction F with
    | zero =>
      intro p4 p5 hs
      simp [s_X3_isWellCovered_b26] at hs
    | succ F ih26 =>
      intro p4 p5 hs ls hl
      rw [s_X3_isWellCovered_b26] at hs
      refine lv_iload hx hb dX3_isWellCovered_26 (lv_at hl 5 rfl) ?_
      refine lv_bipush (v := 10) hx hb dX3_isWellCovered_28 (by decide) ?_
      refine lv_icmp_ge (tgt := 65) hx hb dX3_isWellCovered_30 (by decide) (fun c_1 => ?_) (fun c_1 => ?_)
      · have hs := sp_t c_1 hs
        refine lv_iload hx hb dX3_isWellCovered_65 (lv_at hl 4 rfl) ?_
        refine lv_iload_n hx hb dX3_isWellCovered_67 rfl (lv_at hl 3 rfl) ?_
        refine lv_icmp_lt (tgt := 75) hx hb dX3_isWellCovered_68 (by decide) (fun c_2 => ?_) (fun c_2 => ?_)
        · have hs := sp_t c_2 hs
          refine lv_iconst (v := 0) hx hb dX3_isWellCovered_75 (by decide) ?_
          exact rt_z hx hb hr (by decide) hs dX3_isWellCovered_76 hlocks
        · have hs := sp_f c_2 hs
          refine lv_iconst (v := 1) hx hb dX3_isWellCovered_71 (by decide) ?_
          refine lv_goto (tgt := 76) hx hb dX3_isWellCovered_72 (by decide) ?_
          exact rt_z hx hb hr (by decide) hs dX3_isWellCovered_76 hlocks
      · have hs := sp_f c_1 hs
        refine lv_iload_n hx hb dX3_isWellCovered_33 rfl (lv_at hl 2 rfl) ?_
        refine lv_iload hx hb dX3_isWellCovered_34 (lv_at hl 5 rfl) ?_
        refine lv_ishr hx hb dX3_isWellCovered_36 ?_
        refine lv_iconst (v := 1) hx hb dX3_isWellCovered_37 (by decide) ?_
        refine lv_iand hx hb dX3_isWellCovered_38 ?_
        refine lv_if_eq (tgt := 59) hx hb dX3_isWellCovered_39 (by decide) (fun c_3 => ?_) (fun c_3 => ?_)
        · have hs := sp_t c_3 hs
          refine lv_iinc (v := p5 + 1) (lv' := [(5, .int (p5 + 1)), (0, .ref (g 4)), (1, .int (a1)), (2, .int (a2)), (3, .int (a3)), (4, .int (p4))]) hx hb dX3_isWellCovered_59 hl (k := 5) rfl rfl (by decide) rfl (fun ls hl => ?_)
          refine lv_goto (tgt := 26) hx hb dX3_isWellCovered_62 (by decide) ?_
          exact ih26  (p4) (p5 + 1) hs ls (lv_sub hl [1, 2, 3, 4, 5, 0] rfl)
        · have hs := sp_f c_3 hs
          refine lv_iload hx hb dX3_isWellCovered_42 (lv_at hl 4 rfl) ?_
          refine lv_aload_n hx hb dX3_isWellCovered_44 rfl (lv_at hl 0 rfl) ?_
          refine va_get (D := D) (ci := 3) (fs := [.ref (g 9), .ref (g 10)]) (v := .ref (g 9)) (C := RX3) (T := TX3) (N := 2) hx hb hts iX3 hown hK hP 7 rfl rfl 0 (by decide) (hts (.fieldLink RX3 9 "FacadeShow$Survey" "lights" "[I") (by decide +kernel)) (fun _ h9 => h9) rfl dX3_isWellCovered_45 ?_
          refine lv_iload_n hx hb dX3_isWellCovered_48 rfl (lv_at hl 1 rfl) ?_
          refine lv_bipush (v := 10) hx hb dX3_isWellCovered_49 (by decide) ?_
          refine lv_imul hx hb dX3_isWellCovered_51 ?_
          refine lv_iload hx hb dX3_isWellCovered_52 (lv_at hl 5 rfl) ?_
          refine lv_iadd hx hb dX3_isWellCovered_54 ?_
          obtain ⟨h_4, hs⟩ := sp_c hs
          refine va_iald (D := D) (cA := ca 0) (n := 160) (f := (x).1 9) hx hb hK hP 8 0 rfl rfl h_4 dX3_isWellCovered_55 ?_
          refine lv_iadd hx hb dX3_isWellCovered_56 ?_
          refine lv_istore (lv' := [(4, .int (p4 + (x.1 9 ((a1 * 10) + p5).toNatClampNeg))), (0, .ref (g 4)), (1, .int (a1)), (2, .int (a2)), (3, .int (a3)), (5, .int (p5))]) hx hb dX3_isWellCovered_57 hl (by decide) rfl (fun ls hl => ?_)
          refine lv_iinc (v := p5 + 1) (lv' := [(5, .int (p5 + 1)), (4, .int (p4 + (x.1 9 ((a1 * 10) + p5).toNatClampNeg))), (0, .ref (g 4)), (1, .int (a1)), (2, .int (a2)), (3, .int (a3))]) hx hb dX3_isWellCovered_59 hl (k := 5) rfl rfl (by decide) rfl (fun ls hl => ?_)
          refine lv_goto (tgt := 26) hx hb dX3_isWellCovered_62 (by decide) ?_
          exact ih26  (p4 + (x.1 9 ((a1 * 10) + p5).toNatClampNeg)) (p5 + 1) hs ls (lv_sub hl [2, 3, 4, 5, 1, 0] rfl)
  unfold s_X3_isWellCovered at hs
  refine lv_iload_n hx hb dX3_isWellCovered_0 rfl (lv_at hl 1 rfl) ?_
  obtain ⟨v_5, h_5, hs⟩ := sp_b hs
  refine rd_i (va_runSN (As := [.int (a1)]) (rest := []) ⟨hx, hb, hml, hown, hts⟩ (c_X4_isColumn l D ca a1 h_5) ⟨va_cnB 1 hts gX3_isWellCovered_X4_isColumn_n18 rfl rfl rfl (hC.2.1 _ nk_X3_18) (hts (.initialized RX4) (by decide +kernel)) (by decide +kernel) ⟨Nat.le_of_ble_eq_true rfl, Nat.le_of_ble_eq_true rfl⟩, hts (.static yX4_isColumn) (by decide +kernel), trivial⟩ (rP_S va_P_nil hC) rfl rfl hl.1 rfl (lv_room (Nat.le_of_ble_eq_true rfl)) dX3_isWellCovered_1 ⟨Nat.zero_le _, Nat.zero_le _⟩) ?_
  refine lv_if_eq (tgt := 18) hx hb dX3_isWellCovered_4 (by decide) (fun c_6 => ?_) (fun c_6 => ?_)
  · have hs := sp_t c_6 hs
    refine lv_iconst (v := 0) hx hb dX3_isWellCovered_18 (by decide) ?_
    exact rt_z hx hb hr (by decide) hs dX3_isWellCovered_19 hlocks
  · have hs := sp_f c_6 hs
    refine lv_aload_n hx hb dX3_isWellCovered_7 rfl (lv_at hl 0 rfl) ?_
    refine va_get (D := D) (ci := 3) (fs := [.ref (g 9), .ref (g 10)]) (v := .ref (g 10)) (C := RX3) (T := TX3) (N := 2) hx hb hts iX3 hown hK hP 7 rfl rfl 1 (by decide) (hts (.fieldLink RX3 15 "FacadeShow$Survey" "blurring" "[I") (by decide +kernel)) (fun _ h9 => h9) rfl dX3_isWellCovered_8 ?_
    refine lv_iload_n hx hb dX3_isWellCovered_11 rfl (lv_at hl 1 rfl) ?_
    obtain ⟨h_7, hs⟩ := sp_c hs
    refine va_iald (D := D) (cA := ca 0) (n := 16) (f := (x).1 10) hx hb hK hP 9 0 rfl rfl h_7 dX3_isWellCovered_12 ?_
    refine lv_iload_n hx hb dX3_isWellCovered_13 rfl (lv_at hl 2 rfl) ?_
    refine lv_iand hx hb dX3_isWellCovered_14 ?_
    refine lv_if_eq (tgt := 20) hx hb dX3_isWellCovered_15 (by decide) (fun c_8 => ?_) (fun c_8 => ?_)
    · have hs := sp_t c_8 hs
      refine lv_iconst (v := 0) hx hb dX3_isWellCovered_20 (by decide) ?_
      refine lv_istore (lv' := [(4, .int (0)), (0, .ref (g 4)), (1, .int (a1)), (2, .int (a2)), (3, .int (a3))]) hx hb dX3_isWellCovered_21 hl (by decide) rfl (fun ls hl => ?_)
      refine lv_iconst (v := 0) hx hb dX3_isWellCovered_23 (by decide) ?_
      refine lv_istore (lv' := [(5, .int (0)), (4, .int (0)), (0, .ref (g 4)), (1, .int (a1)), (2, .int (a2)), (3, .int (a3))]) hx hb dX3_isWellCovered_24 hl (by decide) rfl (fun ls hl => ?_)
      exact b26  FU (0) (0) hs ls (lv_sub hl [2, 3, 4, 5, 1, 0] rfl)
    · have hs := sp_f c_8 hs
      refine lv_iconst (v := 0) hx hb dX3_isWellCovered_18 (by decide) ?_
      exact rt_z hx hb hr (by decide) hs dX3_isWellCovered_19 hlocks
def s_X3_coversAll_b3 (x : XS) (a1 : Int32) (a2 : Int32) (a3 : Int32) : Nat → Int32 → Option Int32
  | 0, _ => none
  | F + 1, p4 => (if 16 ≤ p4 then some 1 else (if ((a1 >>> (p4 &&& 31)) &&& 1) = 0 then s_X3_coversAll_b3 x a1 a2 a3 F (p4 + 1) else (s_X3_isWellCovered x p4 a2 a3).bind fun v_3 => (if v_3 = 0 then some 0 else s_X3_coversAll_b3 x a1 a2 a3 F (p4 + 1))))
def s_X3_coversAll (x : XS) (a1 : Int32) (a2 : Int32) (a3 : Int32) : Option Int32 := s_X3_coversAll_b3 x a1 a2 a3  FU (0)
set_option maxHeartbeats 4000000 in
set_option maxRecDepth 100000 in
theorem c_X3_coversAll (l : Launch) (D : va_G) (ca : Nat → ClassId) (g : Nat → Nat) (x : XS) (a1 : Int32) (a2 : Int32) (a3 : Int32) {r : Int32} (hs : s_X3_coversAll x a1 a2 a3 = some r) : Met l yX3_coversAll wsX3_coversAll ({ frames := 2, cells := 0, slots := 0, locals := 45 }) (rP [.ref (g 4), .int (a1), .int (a2), .int (a3)] D ca (wX g ca x)) (vp_Si (fun z => z = r)) 0 0 (fun _ => False) := by
  refine Met.ofW (cc := cX3_coversAll) (maxL := 5) (ret := (some .boolean)) (by decide) rfl ?_
  intro p e s m args below meth c s₁ B hml hv
  obtain ⟨rfl, hP, hC⟩ := hv
  have hx := B.exec
  have hb := B.bytes
  have hr := B.returns
  have hts := atoms_spec (ws := wsX3_coversAll) B.pre
  have hown : s.vm.findClass RX3 = some m.cls := findClass_of_methodNamed B.named
  have hlocks := B.notSynchronized
  have hK := hC.1
  have hl := lv_entry ([.ref (g 4), .int (a1), .int (a2), .int (a3)]) (n := 5) (Nat.le_of_ble_eq_true rfl)
  rw [lg_entry_eq]
  generalize (lg_sl ([.ref (g 4), .int (a1), .int (a2), .int (a3)]) ++ List.replicate (5 - (lg_sl ([.ref (g 4), .int (a1), .int (a2), .int (a3)])).length) Slot.unset).toArray = ls at hl ⊢
  have hl : lv_has ls 5 [(0, .ref (g 4)), (1, .int (a1)), (2, .int (a2)), (3, .int (a3))] := hl
  have b3 : ∀ (F : Nat) (p4 : Int32), s_X3_coversAll_b3 x a1 a2 a3 F p4 = some r → ∀ (ls : Array Slot), lv_has ls 5 [(0, .ref (g 4)), (1, .int (a1)), (2, .int (a2)), (3, .int (a3)), (4, .int (p4))] → W p l e (headSpec wsX3_coversAll ({ frames := 2, cells := 0, slots := 0, locals := 45 })).room s m #[.ref (g 4), .int (a1), .int (a2), .int (a3)] below meth c s.heap [] 0 0 (MQ below (vp_Si (fun z => z = r)) #[.ref (g 4), .int (a1), .int (a2), .int (a3)] s 0 0 (fun _ => False)) (F0 m 3 ls []) := by
    intro F
    induction F with
    | zero =>
      intro p4 hs
      simp [s_X3_coversAll_b3] at hs
    | succ F ih3 =>
      intro p4 hs ls hl
      rw [s_X3_coversAll_b3] at hs
      refine lv_iload hx hb dX3_coversAll_3 (lv_at hl 4 rfl) ?_
      refine lv_bipush (v := 16) hx hb dX3_coversAll_5 (by decide) ?_
      refine lv_icmp_ge (tgt := 38) hx hb dX3_coversAll_7 (by decide) (fun c_1 => ?_) (fun c_1 => ?_)
      · have hs := sp_t c_1 hs
        refine lv_iconst (v := 1) hx hb dX3_coversAll_38 (by decide) ?_
        exact rt_z hx hb hr (by decide) hs dX3_coversAll_39 hlocks
      · have hs := sp_f c_1 hs
        refine lv_iload_n hx hb dX3_coversAll_10 rfl (lv_at hl 1 rfl) ?_
        refine lv_iload hx hb dX3_coversAll_11 (lv_at hl 4 rfl) ?_
        refine lv_ishr hx hb dX3_coversAll_13 ?_
        refine lv_iconst (v := 1) hx hb dX3_coversAll_14 (by decide) ?_
        refine lv_iand hx hb dX3_coversAll_15 ?_
        refine lv_if_eq (tgt := 32) hx hb dX3_coversAll_16 (by decide) (fun c_2 => ?_) (fun c_2 => ?_)
        · have hs := sp_t c_2 hs
          refine lv_iinc (v := p4 + 1) (lv' := [(4, .int (p4 + 1)), (0, .ref (g 4)), (1, .int (a1)), (2, .int (a2)), (3, .int (a3))]) hx hb dX3_coversAll_32 hl (k := 4) rfl rfl (by decide) rfl (fun ls hl => ?_)
          refine lv_goto (tgt := 3) hx hb dX3_coversAll_35 (by decide) ?_
          exact ih3  (p4 + 1) hs ls (lv_sub hl [1, 2, 3, 4, 0] rfl)
        · have hs := sp_f c_2 hs
          refine lv_aload_n hx hb dX3_coversAll_19 rfl (lv_at hl 0 rfl) ?_
          refine lv_iload hx hb dX3_coversAll_20 (lv_at hl 4 rfl) ?_
          refine lv_iload_n hx hb dX3_coversAll_22 rfl (lv_at hl 2 rfl) ?_
          refine lv_iload_n hx hb dX3_coversAll_23 rfl (lv_at hl 3 rfl) ?_
          obtain ⟨v_3, h_3, hs⟩ := sp_b hs
          refine rd_i (va_runV (As := [.int (p4), .int (a2), .int (a3)]) (rest := []) ⟨hx, hb, hml, hown, hts⟩ (c_X3_isWellCovered l D ca g x p4 a2 a3 h_3) (cwV 3 hts gX3_coversAll_X3_isWellCovered rfl rfl rfl (by decide +kernel) ⟨Nat.le_of_ble_eq_true rfl, Nat.le_of_ble_eq_true rfl⟩) (rP_V (q := (RX3, TX3, 2)) hP hC 7 rfl rfl) rfl rfl hl.1 rfl (lv_room (Nat.le_of_ble_eq_true rfl)) dX3_coversAll_24 ⟨Nat.zero_le _, Nat.zero_le _⟩) ?_
          refine lv_if_ne (tgt := 32) hx hb dX3_coversAll_27 (by decide) (fun c_4 => ?_) (fun c_4 => ?_)
          · have hs := sp_f c_4 hs
            refine lv_iinc (v := p4 + 1) (lv' := [(4, .int (p4 + 1)), (0, .ref (g 4)), (1, .int (a1)), (2, .int (a2)), (3, .int (a3))]) hx hb dX3_coversAll_32 hl (k := 4) rfl rfl (by decide) rfl (fun ls hl => ?_)
            refine lv_goto (tgt := 3) hx hb dX3_coversAll_35 (by decide) ?_
            exact ih3  (p4 + 1) hs ls (lv_sub hl [1, 2, 3, 4, 0] rfl)
          · have hs := sp_t c_4 hs
            refine lv_iconst (v := 0) hx hb dX3_coversAll_30 (by decide) ?_
            exact rt_z hx hb hr (by decide) hs dX3_coversAll_31 hlocks
  unfold s_X3_coversAll at hs
  refine lv_iconst (v := 0) hx hb dX3_coversAll_0 (by decide) ?_
  refine lv_istore (lv' := [(4, .int (0)), (0, .ref (g 4)), (1, .int (a1)), (2, .int (a2)), (3, .int (a3))]) hx hb dX3_coversAll_1 hl (by decide) rfl (fun ls hl => ?_)
  exact b3  FU (0) hs ls (lv_sub hl [1, 2, 3, 4, 0] rfl)
def s_X4_loadOf_b4 (x : XS) (a1 : Int32) : Nat → Int32 → Int32 → Option Int32
  | 0, _, _ => none
  | F + 1, p2, p3 => (if 10 ≤ p3 then some (p2) else (s_X4_find x p3).bind fun v_2 => opq v_2 (s_X4_loadOf_b4 x a1 F (p2) (p3 + 1)) (fun j_2 => grd j_2 (x).2.2 ((if (x.1 27 j_2) = 0 then s_X4_loadOf_b4 x a1 F (p2) (p3 + 1) else (if (x.1 23 j_2) = a1 then s_X4_loadOf_b4 x a1 F (p2 + (x.1 22 j_2)) (p3 + 1) else s_X4_loadOf_b4 x a1 F (p2) (p3 + 1))))))
def s_X4_loadOf (x : XS) (a1 : Int32) : Option Int32 := s_X4_loadOf_b4 x a1  FU (0) (0)
set_option maxHeartbeats 4000000 in
set_option maxRecDepth 100000 in
theorem c_X4_loadOf (l : Launch) (D : va_G) (ca : Nat → ClassId) (g : Nat → Nat) (x : XS) (a1 : Int32) {r : Int32} (hs : s_X4_loadOf x a1 = some r) : Met l yX4_loadOf wsX4_loadOf ({ frames := 1, cells := 0, slots := 0, locals := 21 }) (rP [.ref (g 0), .int (a1)] D ca (wX g ca x)) (vp_Si (fun z => z = r)) 0 0 (fun _ => False) := by
  refine Met.ofW (cc := cX4_loadOf) (maxL := 5) (ret := (some .int)) (by decide) rfl ?_
  intro p e s m args below meth c s₁ B hml hv
  obtain ⟨rfl, hP, hC⟩ := hv
  have hx := B.exec
  have hb := B.bytes
  have hr := B.returns
  have hts := atoms_spec (ws := wsX4_loadOf) B.pre
  have hown : s.vm.findClass RX4 = some m.cls := findClass_of_methodNamed B.named
  have hlocks := B.notSynchronized
  have hK := hC.1
  have iX0 : ∀ w ∈ u_ws RX0 TX0 10, w ∈ wsX4_loadOf := by decide +kernel
  have hl := lv_entry ([.ref (g 0), .int (a1)]) (n := 5) (Nat.le_of_ble_eq_true rfl)
  rw [lg_entry_eq]
  generalize (lg_sl ([.ref (g 0), .int (a1)]) ++ List.replicate (5 - (lg_sl ([.ref (g 0), .int (a1)])).length) Slot.unset).toArray = ls at hl ⊢
  have hl : lv_has ls 5 [(0, .ref (g 0)), (1, .int (a1))] := hl
  have b4 : ∀ (F : Nat) (p2 : Int32) (p3 : Int32), s_X4_loadOf_b4 x a1 F p2 p3 = some r → ∀ (ls : Array Slot), lv_has ls 5 [(0, .ref (g 0)), (1, .int (a1)), (2, .int (p2)), (3, .int (p3))] → W p l e (headSpec wsX4_loadOf ({ frames := 1, cells := 0, slots := 0, locals := 21 })).room s m #[.ref (g 0), .int (a1)] below meth c s.heap [] 0 0 (MQ below (vp_Si (fun z => z = r)) #[.ref (g 0), .int (a1)] s 0 0 (fun _ => False)) (F0 m 4 ls []) := by
    intro F
    induction F with
    | zero =>
      intro p2 p3 hs
      simp [s_X4_loadOf_b4] at hs
    | succ F ih4 =>
      intro p2 p3 hs ls hl
      rw [s_X4_loadOf_b4] at hs
      refine lv_iload_n hx hb dX4_loadOf_4 rfl (lv_at hl 3 rfl) ?_
      refine lv_bipush (v := 10) hx hb dX4_loadOf_5 (by decide) ?_
      refine lv_icmp_ge (tgt := 53) hx hb dX4_loadOf_7 (by decide) (fun c_1 => ?_) (fun c_1 => ?_)
      · have hs := sp_t c_1 hs
        refine lv_iload_n hx hb dX4_loadOf_53 rfl (lv_at hl 2 rfl) ?_
        exact rt_i hx hb hr hs dX4_loadOf_54 hlocks
      · have hs := sp_f c_1 hs
        refine lv_aload_n hx hb dX4_loadOf_10 rfl (lv_at hl 0 rfl) ?_
        refine lv_iload_n hx hb dX4_loadOf_11 rfl (lv_at hl 3 rfl) ?_
        obtain ⟨v_2, h_2, hs⟩ := sp_b hs
        refine rd_q (va_runV (As := [.int (p3)]) (rest := []) ⟨hx, hb, hml, hown, hts⟩ (c_X4_find l D ca g x p3 h_2) (cwV 1 hts gX4_loadOf_X4_find rfl rfl rfl (by decide +kernel) ⟨Nat.le_of_ble_eq_true rfl, Nat.le_of_ble_eq_true rfl⟩) (rP_V (q := (RX4, TX4, 16)) hP hC 0 rfl rfl) rfl rfl hl.1 rfl (lv_room (Nat.le_of_ble_eq_true rfl)) dX4_loadOf_12 ⟨Nat.zero_le _, Nat.zero_le _⟩) (fun o_2 => ?_) (fun j_2 o_2 => ?_)
        · have hs := sp_on o_2 hs
          refine lv_astoreN (lv' := [(4, .null), (0, .ref (g 0)), (1, .int (a1)), (2, .int (p2)), (3, .int (p3))]) hx hb dX4_loadOf_15 hl (by decide) rfl (fun ls hl => ?_)
          refine lv_aloadN hx hb dX4_loadOf_17 (lv_at hl 0 rfl) ?_
          refine lv_ifnullN (tgt := 47) hx hb dX4_loadOf_19 (by decide) ?_
          refine lv_iinc (v := p3 + 1) (lv' := [(3, .int (p3 + 1)), (4, .null), (0, .ref (g 0)), (1, .int (a1)), (2, .int (p2))]) hx hb dX4_loadOf_47 hl (k := 4) rfl rfl (by decide) rfl (fun ls hl => ?_)
          refine lv_goto (tgt := 4) hx hb dX4_loadOf_50 (by decide) ?_
          exact ih4  (p2) (p3 + 1) hs ls (lv_sub hl [2, 3, 4, 0] rfl)
        · have hs := sp_os o_2 hs
          refine lv_astore (lv' := [(4, .ref (adP g j_2)), (0, .ref (g 0)), (1, .int (a1)), (2, .int (p2)), (3, .int (p3))]) hx hb dX4_loadOf_15 hl (by decide) rfl (fun ls hl => ?_)
          refine lv_aload hx hb dX4_loadOf_17 (lv_at hl 0 rfl) ?_
          refine lv_ifnull hx hb dX4_loadOf_19 ?_
          refine lv_aload hx hb dX4_loadOf_22 (lv_at hl 0 rfl) ?_
          obtain ⟨h_3, hs⟩ := sp_g hs
          refine va_getN (D := D) (ci := 0) (fs := fsP (x) j_2) (v := .int (x.1 27 j_2)) (C := RX0) (T := TX0) (N := 10) hx hb hts iX0 hown hK hP (15 + j_2) (wX_proj h_3) rfl 7 (by decide) (va_Nw.use rfl (hC.2.1 _ nk_X4_151)) (fun _ h9 => h9) rfl dX4_loadOf_24 ?_
          refine lv_if_eq (tgt := 47) hx hb dX4_loadOf_27 (by decide) (fun c_4 => ?_) (fun c_4 => ?_)
          · have hs := sp_t c_4 hs
            refine lv_iinc (v := p3 + 1) (lv' := [(3, .int (p3 + 1)), (4, .ref (adP g j_2)), (0, .ref (g 0)), (1, .int (a1)), (2, .int (p2))]) hx hb dX4_loadOf_47 hl (k := 4) rfl rfl (by decide) rfl (fun ls hl => ?_)
            refine lv_goto (tgt := 4) hx hb dX4_loadOf_50 (by decide) ?_
            exact ih4  (p2) (p3 + 1) hs ls (lv_sub hl [2, 3, 4, 0] rfl)
          · have hs := sp_f c_4 hs
            refine lv_aload hx hb dX4_loadOf_30 (lv_at hl 0 rfl) ?_
            refine va_getN (D := D) (ci := 0) (fs := fsP (x) j_2) (v := .int (x.1 23 j_2)) (C := RX0) (T := TX0) (N := 10) hx hb hts iX0 hown hK hP (15 + j_2) (wX_proj h_3) rfl 3 (by decide) (va_Nw.use rfl (hC.2.1 _ nk_X4_155)) (fun _ h9 => h9) rfl dX4_loadOf_32 ?_
            refine lv_iload_n hx hb dX4_loadOf_35 rfl (lv_at hl 2 rfl) ?_
            refine lv_icmp_ne (tgt := 47) hx hb dX4_loadOf_36 (by decide) (fun c_5 => ?_) (fun c_5 => ?_)
            · have hs := sp_f c_5 hs
              refine lv_iinc (v := p3 + 1) (lv' := [(3, .int (p3 + 1)), (4, .ref (adP g j_2)), (0, .ref (g 0)), (1, .int (a1)), (2, .int (p2))]) hx hb dX4_loadOf_47 hl (k := 4) rfl rfl (by decide) rfl (fun ls hl => ?_)
              refine lv_goto (tgt := 4) hx hb dX4_loadOf_50 (by decide) ?_
              exact ih4  (p2) (p3 + 1) hs ls (lv_sub hl [2, 3, 4, 0] rfl)
            · have hs := sp_t c_5 hs
              refine lv_iload_n hx hb dX4_loadOf_39 rfl (lv_at hl 3 rfl) ?_
              refine lv_aload hx hb dX4_loadOf_40 (lv_at hl 0 rfl) ?_
              refine va_getN (D := D) (ci := 0) (fs := fsP (x) j_2) (v := .int (x.1 22 j_2)) (C := RX0) (T := TX0) (N := 10) hx hb hts iX0 hown hK hP (15 + j_2) (wX_proj h_3) rfl 2 (by decide) (va_Nw.use rfl (hC.2.1 _ nk_X4_162)) (fun _ h9 => h9) rfl dX4_loadOf_42 ?_
              refine lv_iadd hx hb dX4_loadOf_45 ?_
              refine lv_istore_n (lv' := [(2, .int (p2 + (x.1 22 j_2))), (4, .ref (adP g j_2)), (0, .ref (g 0)), (1, .int (a1)), (3, .int (p3))]) hx hb dX4_loadOf_46 rfl hl (by decide) rfl (fun ls hl => ?_)
              refine lv_iinc (v := p3 + 1) (lv' := [(3, .int (p3 + 1)), (2, .int (p2 + (x.1 22 j_2))), (4, .ref (adP g j_2)), (0, .ref (g 0)), (1, .int (a1))]) hx hb dX4_loadOf_47 hl (k := 4) rfl rfl (by decide) rfl (fun ls hl => ?_)
              refine lv_goto (tgt := 4) hx hb dX4_loadOf_50 (by decide) ?_
              exact ih4  (p2 + (x.1 22 j_2)) (p3 + 1) hs ls (lv_sub hl [3, 4, 1, 0] rfl)
  unfold s_X4_loadOf at hs
  refine lv_iconst (v := 0) hx hb dX4_loadOf_0 (by decide) ?_
  refine lv_istore_n (lv' := [(2, .int (0)), (0, .ref (g 0)), (1, .int (a1))]) hx hb dX4_loadOf_1 rfl hl (by decide) rfl (fun ls hl => ?_)
  refine lv_iconst (v := 0) hx hb dX4_loadOf_2 (by decide) ?_
  refine lv_istore_n (lv' := [(3, .int (0)), (2, .int (0)), (0, .ref (g 0)), (1, .int (a1))]) hx hb dX4_loadOf_3 rfl hl (by decide) rfl (fun ls hl => ?_)
  exact b4  FU (0) (0) hs ls (lv_sub hl [2, 3, 1, 0] rfl)
def s_X4_borneBy (x : XS) (a1 : Int32) : Option Int32 := (s_X4_isPhase a1).bind fun v_1 => (if v_1 = 0 then some (0) else chk 3 a1 (some (x.1 3 a1.toNatClampNeg)))
set_option maxHeartbeats 4000000 in
set_option maxRecDepth 100000 in
theorem c_X4_borneBy (l : Launch) (D : va_G) (ca : Nat → ClassId) (g : Nat → Nat) (x : XS) (a1 : Int32) {r : Int32} (hs : s_X4_borneBy x a1 = some r) : Met l yX4_borneBy wsX4_borneBy ({ frames := 1, cells := 0, slots := 0, locals := 20 }) (rP [.ref (g 0), .int (a1)] D ca (wX g ca x)) (vp_Si (fun z => z = r)) 0 0 (fun _ => False) := by
  refine Met.ofW (cc := cX4_borneBy) (maxL := 2) (ret := (some .int)) (by decide) rfl ?_
  intro p e s m args below meth c s₁ B hml hv
  obtain ⟨rfl, hP, hC⟩ := hv
  have hx := B.exec
  have hb := B.bytes
  have hr := B.returns
  have hts := atoms_spec (ws := wsX4_borneBy) B.pre
  have hown : s.vm.findClass RX4 = some m.cls := findClass_of_methodNamed B.named
  have hlocks := B.notSynchronized
  have hK := hC.1
  have iX4 : ∀ w ∈ u_ws RX4 TX4 16, w ∈ wsX4_borneBy := by decide +kernel
  have hl := lv_entry ([.ref (g 0), .int (a1)]) (n := 2) (Nat.le_of_ble_eq_true rfl)
  rw [lg_entry_eq]
  generalize (lg_sl ([.ref (g 0), .int (a1)]) ++ List.replicate (2 - (lg_sl ([.ref (g 0), .int (a1)])).length) Slot.unset).toArray = ls at hl ⊢
  have hl : lv_has ls 2 [(0, .ref (g 0)), (1, .int (a1))] := hl
  unfold s_X4_borneBy at hs
  refine lv_iload_n hx hb dX4_borneBy_0 rfl (lv_at hl 1 rfl) ?_
  obtain ⟨v_1, h_1, hs⟩ := sp_b hs
  refine rd_i (va_runS (As := [.int (a1)]) (rest := []) ⟨hx, hb, hml, hown, hts⟩ (c_X4_isPhase l D ca a1 h_1) (va_cwS 1 hts gX4_borneBy_X4_isPhase rfl rfl rfl (by decide +kernel) ⟨Nat.le_of_ble_eq_true rfl, Nat.le_of_ble_eq_true rfl⟩) (rP_S va_P_nil hC) rfl rfl hl.1 rfl (lv_room (Nat.le_of_ble_eq_true rfl)) dX4_borneBy_1 ⟨Nat.zero_le _, Nat.zero_le _⟩) ?_
  refine lv_if_eq (tgt := 16) hx hb dX4_borneBy_4 (by decide) (fun c_2 => ?_) (fun c_2 => ?_)
  · have hs := sp_t c_2 hs
    refine lv_iconst (v := 0) hx hb dX4_borneBy_16 (by decide) ?_
    exact rt_i hx hb hr hs dX4_borneBy_17 hlocks
  · have hs := sp_f c_2 hs
    refine lv_aload_n hx hb dX4_borneBy_7 rfl (lv_at hl 0 rfl) ?_
    refine va_get (D := D) (ci := 4) (fs := fsX g (x)) (v := .ref (g 3)) (C := RX4) (T := TX4) (N := 16) hx hb hts iX4 hown hK hP 0 rfl rfl 3 (by decide) (hts (.fieldLink RX4 26 "FacadeShow" "borne" "[I") (by decide +kernel)) (fun _ h9 => h9) rfl dX4_borneBy_8 ?_
    refine lv_iload_n hx hb dX4_borneBy_11 rfl (lv_at hl 1 rfl) ?_
    obtain ⟨h_3, hs⟩ := sp_c hs
    refine va_iald (D := D) (cA := ca 0) (n := 3) (f := (x).1 3) hx hb hK hP 6 0 rfl rfl h_3 dX4_borneBy_12 ?_
    refine lv_goto (tgt := 17) hx hb dX4_borneBy_13 (by decide) ?_
    exact rt_i hx hb hr hs dX4_borneBy_17 hlocks
def s_X4_powerOfOn (x : XS) : Option Int32 := (s_X4_loadOf x 0).bind fun v_1 => (s_X4_loadOf x 1).bind fun v_2 => (s_X4_loadOf x 2).bind fun v_3 => some ((v_1 + v_2) + v_3)
set_option maxHeartbeats 4000000 in
set_option maxRecDepth 100000 in
theorem c_X4_powerOfOn (l : Launch) (D : va_G) (ca : Nat → ClassId) (g : Nat → Nat) (x : XS) {r : Int32} (hs : s_X4_powerOfOn x = some r) : Met l yX4_powerOfOn wsX4_powerOfOn ({ frames := 2, cells := 0, slots := 0, locals := 45 }) (rP [.ref (g 0)] D ca (wX g ca x)) (vp_Si (fun z => z = r)) 0 0 (fun _ => False) := by
  refine Met.ofW (cc := cX4_powerOfOn) (maxL := 1) (ret := (some .int)) (by decide) rfl ?_
  intro p e s m args below meth c s₁ B hml hv
  obtain ⟨rfl, hP, hC⟩ := hv
  have hx := B.exec
  have hb := B.bytes
  have hr := B.returns
  have hts := atoms_spec (ws := wsX4_powerOfOn) B.pre
  have hown : s.vm.findClass RX4 = some m.cls := findClass_of_methodNamed B.named
  have hlocks := B.notSynchronized
  have hK := hC.1
  have hl := lv_entry ([.ref (g 0)]) (n := 1) (Nat.le_of_ble_eq_true rfl)
  rw [lg_entry_eq]
  generalize (lg_sl ([.ref (g 0)]) ++ List.replicate (1 - (lg_sl ([.ref (g 0)])).length) Slot.unset).toArray = ls at hl ⊢
  have hl : lv_has ls 1 [(0, .ref (g 0))] := hl
  unfold s_X4_powerOfOn at hs
  refine lv_aload_n hx hb dX4_powerOfOn_0 rfl (lv_at hl 0 rfl) ?_
  refine lv_iconst (v := 0) hx hb dX4_powerOfOn_1 (by decide) ?_
  obtain ⟨v_1, h_1, hs⟩ := sp_b hs
  refine rd_i (va_runV (As := [.int (0)]) (rest := []) ⟨hx, hb, hml, hown, hts⟩ (c_X4_loadOf l D ca g x 0 h_1) (cwV 1 hts gX4_powerOfOn_X4_loadOf rfl rfl rfl (by decide +kernel) ⟨Nat.le_of_ble_eq_true rfl, Nat.le_of_ble_eq_true rfl⟩) (rP_V (q := (RX4, TX4, 16)) hP hC 0 rfl rfl) rfl rfl hl.1 rfl (lv_room (Nat.le_of_ble_eq_true rfl)) dX4_powerOfOn_2 ⟨Nat.zero_le _, Nat.zero_le _⟩) ?_
  refine lv_aload_n hx hb dX4_powerOfOn_5 rfl (lv_at hl 0 rfl) ?_
  refine lv_iconst (v := 1) hx hb dX4_powerOfOn_6 (by decide) ?_
  obtain ⟨v_2, h_2, hs⟩ := sp_b hs
  refine rd_i (va_runV (As := [.int (1)]) (rest := [.int (v_1)]) ⟨hx, hb, hml, hown, hts⟩ (c_X4_loadOf l D ca g x 1 h_2) (cwV 1 hts gX4_powerOfOn_X4_loadOf rfl rfl rfl (by decide +kernel) ⟨Nat.le_of_ble_eq_true rfl, Nat.le_of_ble_eq_true rfl⟩) (rP_V (q := (RX4, TX4, 16)) hP hC 0 rfl rfl) rfl rfl hl.1 rfl (lv_room (Nat.le_of_ble_eq_true rfl)) dX4_powerOfOn_7 ⟨Nat.zero_le _, Nat.zero_le _⟩) ?_
  refine lv_iadd hx hb dX4_powerOfOn_10 ?_
  refine lv_aload_n hx hb dX4_powerOfOn_11 rfl (lv_at hl 0 rfl) ?_
  refine lv_iconst (v := 2) hx hb dX4_powerOfOn_12 (by decide) ?_
  obtain ⟨v_3, h_3, hs⟩ := sp_b hs
  refine rd_i (va_runV (As := [.int (2)]) (rest := [.int (v_1 + v_2)]) ⟨hx, hb, hml, hown, hts⟩ (c_X4_loadOf l D ca g x 2 h_3) (cwV 1 hts gX4_powerOfOn_X4_loadOf rfl rfl rfl (by decide +kernel) ⟨Nat.le_of_ble_eq_true rfl, Nat.le_of_ble_eq_true rfl⟩) (rP_V (q := (RX4, TX4, 16)) hP hC 0 rfl rfl) rfl rfl hl.1 rfl (lv_room (Nat.le_of_ble_eq_true rfl)) dX4_powerOfOn_13 ⟨Nat.zero_le _, Nat.zero_le _⟩) ?_
  refine lv_iadd hx hb dX4_powerOfOn_16 ?_
  exact rt_i hx hb hr hs dX4_powerOfOn_17 hlocks
def s_X4_countOfOn_b4 (x : XS) : Nat → Int32 → Int32 → Option Int32
  | 0, _, _ => none
  | F + 1, p1, p2 => (if 10 ≤ p2 then some (p1) else (s_X4_find x p2).bind fun v_2 => opq v_2 (s_X4_countOfOn_b4 x F (p1) (p2 + 1)) (fun j_2 => grd j_2 (x).2.2 ((if (x.1 27 j_2) = 0 then s_X4_countOfOn_b4 x F (p1) (p2 + 1) else s_X4_countOfOn_b4 x F (p1 + 1) (p2 + 1)))))
def s_X4_countOfOn (x : XS) : Option Int32 := s_X4_countOfOn_b4 x  FU (0) (0)
set_option maxHeartbeats 4000000 in
set_option maxRecDepth 100000 in
theorem c_X4_countOfOn (l : Launch) (D : va_G) (ca : Nat → ClassId) (g : Nat → Nat) (x : XS) {r : Int32} (hs : s_X4_countOfOn x = some r) : Met l yX4_countOfOn wsX4_countOfOn ({ frames := 1, cells := 0, slots := 0, locals := 21 }) (rP [.ref (g 0)] D ca (wX g ca x)) (vp_Si (fun z => z = r)) 0 0 (fun _ => False) := by
  refine Met.ofW (cc := cX4_countOfOn) (maxL := 4) (ret := (some .int)) (by decide) rfl ?_
  intro p e s m args below meth c s₁ B hml hv
  obtain ⟨rfl, hP, hC⟩ := hv
  have hx := B.exec
  have hb := B.bytes
  have hr := B.returns
  have hts := atoms_spec (ws := wsX4_countOfOn) B.pre
  have hown : s.vm.findClass RX4 = some m.cls := findClass_of_methodNamed B.named
  have hlocks := B.notSynchronized
  have hK := hC.1
  have iX0 : ∀ w ∈ u_ws RX0 TX0 10, w ∈ wsX4_countOfOn := by decide +kernel
  have hl := lv_entry ([.ref (g 0)]) (n := 4) (Nat.le_of_ble_eq_true rfl)
  rw [lg_entry_eq]
  generalize (lg_sl ([.ref (g 0)]) ++ List.replicate (4 - (lg_sl ([.ref (g 0)])).length) Slot.unset).toArray = ls at hl ⊢
  have hl : lv_has ls 4 [(0, .ref (g 0))] := hl
  have b4 : ∀ (F : Nat) (p1 : Int32) (p2 : Int32), s_X4_countOfOn_b4 x F p1 p2 = some r → ∀ (ls : Array Slot), lv_has ls 4 [(0, .ref (g 0)), (1, .int (p1)), (2, .int (p2))] → W p l e (headSpec wsX4_countOfOn ({ frames := 1, cells := 0, slots := 0, locals := 21 })).room s m #[.ref (g 0)] below meth c s.heap [] 0 0 (MQ below (vp_Si (fun z => z = r)) #[.ref (g 0)] s 0 0 (fun _ => False)) (F0 m 4 ls []) := by
    intro F
    induction F with
    | zero =>
      intro p1 p2 hs
      simp [s_X4_countOfOn_b4] at hs
    | succ F ih4 =>
      intro p1 p2 hs ls hl
      rw [s_X4_countOfOn_b4] at hs
      refine lv_iload_n hx hb dX4_countOfOn_4 rfl (lv_at hl 2 rfl) ?_
      refine lv_bipush (v := 10) hx hb dX4_countOfOn_5 (by decide) ?_
      refine lv_icmp_ge (tgt := 36) hx hb dX4_countOfOn_7 (by decide) (fun c_1 => ?_) (fun c_1 => ?_)
      · have hs := sp_t c_1 hs
        refine lv_iload_n hx hb dX4_countOfOn_36 rfl (lv_at hl 1 rfl) ?_
        exact rt_i hx hb hr hs dX4_countOfOn_37 hlocks
      · have hs := sp_f c_1 hs
        refine lv_aload_n hx hb dX4_countOfOn_10 rfl (lv_at hl 0 rfl) ?_
        refine lv_iload_n hx hb dX4_countOfOn_11 rfl (lv_at hl 2 rfl) ?_
        obtain ⟨v_2, h_2, hs⟩ := sp_b hs
        refine rd_q (va_runV (As := [.int (p2)]) (rest := []) ⟨hx, hb, hml, hown, hts⟩ (c_X4_find l D ca g x p2 h_2) (cwV 1 hts gX4_countOfOn_X4_find rfl rfl rfl (by decide +kernel) ⟨Nat.le_of_ble_eq_true rfl, Nat.le_of_ble_eq_true rfl⟩) (rP_V (q := (RX4, TX4, 16)) hP hC 0 rfl rfl) rfl rfl hl.1 rfl (lv_room (Nat.le_of_ble_eq_true rfl)) dX4_countOfOn_12 ⟨Nat.zero_le _, Nat.zero_le _⟩) (fun o_2 => ?_) (fun j_2 o_2 => ?_)
        · have hs := sp_on o_2 hs
          refine lv_astore_nN (lv' := [(3, .null), (0, .ref (g 0)), (1, .int (p1)), (2, .int (p2))]) hx hb dX4_countOfOn_15 rfl hl (by decide) rfl (fun ls hl => ?_)
          refine lv_aload_nN hx hb dX4_countOfOn_16 rfl (lv_at hl 0 rfl) ?_
          refine lv_ifnullN (tgt := 30) hx hb dX4_countOfOn_17 (by decide) ?_
          refine lv_iinc (v := p2 + 1) (lv' := [(2, .int (p2 + 1)), (3, .null), (0, .ref (g 0)), (1, .int (p1))]) hx hb dX4_countOfOn_30 hl (k := 3) rfl rfl (by decide) rfl (fun ls hl => ?_)
          refine lv_goto (tgt := 4) hx hb dX4_countOfOn_33 (by decide) ?_
          exact ih4  (p1) (p2 + 1) hs ls (lv_sub hl [2, 3, 0] rfl)
        · have hs := sp_os o_2 hs
          refine lv_astore_n (lv' := [(3, .ref (adP g j_2)), (0, .ref (g 0)), (1, .int (p1)), (2, .int (p2))]) hx hb dX4_countOfOn_15 rfl hl (by decide) rfl (fun ls hl => ?_)
          refine lv_aload_n hx hb dX4_countOfOn_16 rfl (lv_at hl 0 rfl) ?_
          refine lv_ifnull hx hb dX4_countOfOn_17 ?_
          refine lv_aload_n hx hb dX4_countOfOn_20 rfl (lv_at hl 0 rfl) ?_
          obtain ⟨h_3, hs⟩ := sp_g hs
          refine va_getN (D := D) (ci := 0) (fs := fsP (x) j_2) (v := .int (x.1 27 j_2)) (C := RX0) (T := TX0) (N := 10) hx hb hts iX0 hown hK hP (15 + j_2) (wX_proj h_3) rfl 7 (by decide) (va_Nw.use rfl (hC.2.1 _ nk_X4_151)) (fun _ h9 => h9) rfl dX4_countOfOn_21 ?_
          refine lv_if_eq (tgt := 30) hx hb dX4_countOfOn_24 (by decide) (fun c_4 => ?_) (fun c_4 => ?_)
          · have hs := sp_t c_4 hs
            refine lv_iinc (v := p2 + 1) (lv' := [(2, .int (p2 + 1)), (3, .ref (adP g j_2)), (0, .ref (g 0)), (1, .int (p1))]) hx hb dX4_countOfOn_30 hl (k := 3) rfl rfl (by decide) rfl (fun ls hl => ?_)
            refine lv_goto (tgt := 4) hx hb dX4_countOfOn_33 (by decide) ?_
            exact ih4  (p1) (p2 + 1) hs ls (lv_sub hl [2, 3, 0] rfl)
          · have hs := sp_f c_4 hs
            refine lv_iinc (v := p1 + 1) (lv' := [(1, .int (p1 + 1)), (3, .ref (adP g j_2)), (0, .ref (g 0)), (2, .int (p2))]) hx hb dX4_countOfOn_27 hl (k := 2) rfl rfl (by decide) rfl (fun ls hl => ?_)
            refine lv_iinc (v := p2 + 1) (lv' := [(2, .int (p2 + 1)), (1, .int (p1 + 1)), (3, .ref (adP g j_2)), (0, .ref (g 0))]) hx hb dX4_countOfOn_30 hl (k := 3) rfl rfl (by decide) rfl (fun ls hl => ?_)
            refine lv_goto (tgt := 4) hx hb dX4_countOfOn_33 (by decide) ?_
            exact ih4  (p1 + 1) (p2 + 1) hs ls (lv_sub hl [3, 1, 0] rfl)
  unfold s_X4_countOfOn at hs
  refine lv_iconst (v := 0) hx hb dX4_countOfOn_0 (by decide) ?_
  refine lv_istore_n (lv' := [(1, .int (0)), (0, .ref (g 0))]) hx hb dX4_countOfOn_1 rfl hl (by decide) rfl (fun ls hl => ?_)
  refine lv_iconst (v := 0) hx hb dX4_countOfOn_2 (by decide) ?_
  refine lv_istore_n (lv' := [(2, .int (0)), (1, .int (0)), (0, .ref (g 0))]) hx hb dX4_countOfOn_3 rfl hl (by decide) rfl (fun ls hl => ?_)
  exact b4  FU (0) (0) hs ls (lv_sub hl [2, 1, 0] rfl)
def s_X4_isBlocked_b11 (x : XS) (a1 : Nat) (a2 : Int32) : Nat → Int32 → Option Int32
  | 0, _ => none
  | F + 1, p3 => grd a1 (x).2.2 ((if (x.1 21 a1) ≤ p3 then some 0 else (s_X4_crossing x a1 a2 p3).bind fun v_3 => (s_X2_stopsRays x v_3 p3).bind fun v_4 => (if v_4 = 0 then s_X4_isBlocked_b11 x a1 a2 F (p3 + 1) else some 1)))
def s_X4_isBlocked (x : XS) (a1 : Nat) (a2 : Int32) : Option Int32 := (s_X2_reliefOf x a2).bind fun v_6 => s_X4_isBlocked_b11 x a1 a2  FU (v_6 + 1)
set_option maxHeartbeats 4000000 in
set_option maxRecDepth 100000 in
theorem c_X4_isBlocked (l : Launch) (D : va_G) (ca : Nat → ClassId) (g : Nat → Nat) (x : XS) (a1 : Nat) (a2 : Int32) {r : Int32} (hs : s_X4_isBlocked x a1 a2 = some r) : Met l yX4_isBlocked wsX4_isBlocked ({ frames := 3, cells := 0, slots := 0, locals := 68 }) (rP [.ref (g 0), .ref (adP g a1), .int (a2)] D ca (wX g ca x)) (vp_Si (fun z => z = r)) 0 0 (fun _ => False) := by
  refine Met.ofW (cc := cX4_isBlocked) (maxL := 4) (ret := (some .boolean)) (by decide) rfl ?_
  intro p e s m args below meth c s₁ B hml hv
  obtain ⟨rfl, hP, hC⟩ := hv
  have hx := B.exec
  have hb := B.bytes
  have hr := B.returns
  have hts := atoms_spec (ws := wsX4_isBlocked) B.pre
  have hown : s.vm.findClass RX4 = some m.cls := findClass_of_methodNamed B.named
  have hlocks := B.notSynchronized
  have hK := hC.1
  have iX0 : ∀ w ∈ u_ws RX0 TX0 10, w ∈ wsX4_isBlocked := by decide +kernel
  have iX4 : ∀ w ∈ u_ws RX4 TX4 16, w ∈ wsX4_isBlocked := by decide +kernel
  have hl := lv_entry ([.ref (g 0), .ref (adP g a1), .int (a2)]) (n := 4) (Nat.le_of_ble_eq_true rfl)
  rw [lg_entry_eq]
  generalize (lg_sl ([.ref (g 0), .ref (adP g a1), .int (a2)]) ++ List.replicate (4 - (lg_sl ([.ref (g 0), .ref (adP g a1), .int (a2)])).length) Slot.unset).toArray = ls at hl ⊢
  have hl : lv_has ls 4 [(0, .ref (g 0)), (1, .ref (adP g a1)), (2, .int (a2))] := hl
  have b11 : ∀ (F : Nat) (p3 : Int32), s_X4_isBlocked_b11 x a1 a2 F p3 = some r → ∀ (ls : Array Slot), lv_has ls 4 [(0, .ref (g 0)), (1, .ref (adP g a1)), (2, .int (a2)), (3, .int (p3))] → W p l e (headSpec wsX4_isBlocked ({ frames := 3, cells := 0, slots := 0, locals := 68 })).room s m #[.ref (g 0), .ref (adP g a1), .int (a2)] below meth c s.heap [] 0 0 (MQ below (vp_Si (fun z => z = r)) #[.ref (g 0), .ref (adP g a1), .int (a2)] s 0 0 (fun _ => False)) (F0 m 11 ls []) := by
    intro F
    induction F with
    | zero =>
      intro p3 hs
      simp [s_X4_isBlocked_b11] at hs
    | succ F ih11 =>
      intro p3 hs ls hl
      rw [s_X4_isBlocked_b11] at hs
      refine lv_iload_n hx hb dX4_isBlocked_11 rfl (lv_at hl 3 rfl) ?_
      refine lv_aload_n hx hb dX4_isBlocked_12 rfl (lv_at hl 1 rfl) ?_
      obtain ⟨h_1, hs⟩ := sp_g hs
      refine va_getN (D := D) (ci := 0) (fs := fsP (x) a1) (v := .int (x.1 21 a1)) (C := RX0) (T := TX0) (N := 10) hx hb hts iX0 hown hK hP (15 + a1) (wX_proj h_1) rfl 1 (by decide) (va_Nw.use rfl (hC.2.1 _ nk_X4_272)) (fun _ h9 => h9) rfl dX4_isBlocked_13 ?_
      refine lv_icmp_ge (tgt := 45) hx hb dX4_isBlocked_16 (by decide) (fun c_2 => ?_) (fun c_2 => ?_)
      · have hs := sp_t c_2 hs
        refine lv_iconst (v := 0) hx hb dX4_isBlocked_45 (by decide) ?_
        exact rt_z hx hb hr (by decide) hs dX4_isBlocked_46 hlocks
      · have hs := sp_f c_2 hs
        refine lv_aload_n hx hb dX4_isBlocked_19 rfl (lv_at hl 0 rfl) ?_
        refine va_get (D := D) (ci := 4) (fs := fsX g (x)) (v := .ref (g 1)) (C := RX4) (T := TX4) (N := 16) hx hb hts iX4 hown hK hP 0 rfl rfl 0 (by decide) (hts (.fieldLink RX4 10 "FacadeShow" "square" "LFacadeShow$Square;") (by decide +kernel)) (fun _ h9 => h9) rfl dX4_isBlocked_20 ?_
        refine lv_aload_n hx hb dX4_isBlocked_23 rfl (lv_at hl 0 rfl) ?_
        refine lv_aload_n hx hb dX4_isBlocked_24 rfl (lv_at hl 1 rfl) ?_
        refine lv_iload_n hx hb dX4_isBlocked_25 rfl (lv_at hl 2 rfl) ?_
        refine lv_iload_n hx hb dX4_isBlocked_26 rfl (lv_at hl 3 rfl) ?_
        obtain ⟨v_3, h_3, hs⟩ := sp_b hs
        refine rd_i (va_runV (As := [.ref (adP g a1), .int (a2), .int (p3)]) (rest := [.ref (g 1)]) ⟨hx, hb, hml, hown, hts⟩ (c_X4_crossing l D ca g x a1 a2 p3 h_3) (cwV 3 hts gX4_isBlocked_X4_crossing rfl rfl rfl (by decide +kernel) ⟨Nat.le_of_ble_eq_true rfl, Nat.le_of_ble_eq_true rfl⟩) (rP_V (q := (RX4, TX4, 16)) hP hC 0 rfl rfl) rfl rfl hl.1 rfl (lv_room (Nat.le_of_ble_eq_true rfl)) dX4_isBlocked_27 ⟨Nat.zero_le _, Nat.zero_le _⟩) ?_
        refine lv_iload_n hx hb dX4_isBlocked_30 rfl (lv_at hl 3 rfl) ?_
        obtain ⟨v_4, h_4, hs⟩ := sp_b hs
        refine rd_i (va_runVN (As := [.int (v_3), .int (p3)]) (rest := []) ⟨hx, hb, hml, hown, hts⟩ (c_X2_stopsRays l D ca g x v_3 p3 h_4) ⟨va_cnB 2 hts gX4_isBlocked_X2_stopsRays_n278 rfl rfl rfl (hC.2.1 _ nk_X4_278) (hts (.initialized RX2) (by decide +kernel)) (by decide +kernel) ⟨Nat.le_of_ble_eq_true rfl, Nat.le_of_ble_eq_true rfl⟩, hts (.instanceMethod yX2_stopsRays) (by decide +kernel), hts (.selects RX2 yX2_stopsRays yX2_stopsRays) (by decide +kernel)⟩ (rP_V (q := (RX2, TX2, 3)) hP hC 1 rfl rfl) rfl rfl hl.1 rfl (lv_room (Nat.le_of_ble_eq_true rfl)) dX4_isBlocked_31 ⟨Nat.zero_le _, Nat.zero_le _⟩) ?_
        refine lv_if_eq (tgt := 39) hx hb dX4_isBlocked_34 (by decide) (fun c_5 => ?_) (fun c_5 => ?_)
        · have hs := sp_t c_5 hs
          refine lv_iinc (v := p3 + 1) (lv' := [(3, .int (p3 + 1)), (0, .ref (g 0)), (1, .ref (adP g a1)), (2, .int (a2))]) hx hb dX4_isBlocked_39 hl (k := 3) rfl rfl (by decide) rfl (fun ls hl => ?_)
          refine lv_goto (tgt := 11) hx hb dX4_isBlocked_42 (by decide) ?_
          exact ih11  (p3 + 1) hs ls (lv_sub hl [1, 2, 3, 0] rfl)
        · have hs := sp_f c_5 hs
          refine lv_iconst (v := 1) hx hb dX4_isBlocked_37 (by decide) ?_
          exact rt_z hx hb hr (by decide) hs dX4_isBlocked_38 hlocks
  unfold s_X4_isBlocked at hs
  refine lv_aload_n hx hb dX4_isBlocked_0 rfl (lv_at hl 0 rfl) ?_
  refine va_get (D := D) (ci := 4) (fs := fsX g (x)) (v := .ref (g 1)) (C := RX4) (T := TX4) (N := 16) hx hb hts iX4 hown hK hP 0 rfl rfl 0 (by decide) (hts (.fieldLink RX4 10 "FacadeShow" "square" "LFacadeShow$Square;") (by decide +kernel)) (fun _ h9 => h9) rfl dX4_isBlocked_1 ?_
  refine lv_iload_n hx hb dX4_isBlocked_4 rfl (lv_at hl 2 rfl) ?_
  obtain ⟨v_6, h_6, hs⟩ := sp_b hs
  refine rd_i (va_runVN (As := [.int (a2)]) (rest := []) ⟨hx, hb, hml, hown, hts⟩ (c_X2_reliefOf l D ca g x a2 h_6) ⟨va_cnB 1 hts gX4_isBlocked_X2_reliefOf_n269 rfl rfl rfl (hC.2.1 _ nk_X4_269) (hts (.initialized RX2) (by decide +kernel)) (by decide +kernel) ⟨Nat.le_of_ble_eq_true rfl, Nat.le_of_ble_eq_true rfl⟩, hts (.instanceMethod yX2_reliefOf) (by decide +kernel), hts (.selects RX2 yX2_reliefOf yX2_reliefOf) (by decide +kernel)⟩ (rP_V (q := (RX2, TX2, 3)) hP hC 1 rfl rfl) rfl rfl hl.1 rfl (lv_room (Nat.le_of_ble_eq_true rfl)) dX4_isBlocked_5 ⟨Nat.zero_le _, Nat.zero_le _⟩) ?_
  refine lv_iconst (v := 1) hx hb dX4_isBlocked_8 (by decide) ?_
  refine lv_iadd hx hb dX4_isBlocked_9 ?_
  refine lv_istore_n (lv' := [(3, .int (v_6 + 1)), (0, .ref (g 0)), (1, .ref (adP g a1)), (2, .int (a2))]) hx hb dX4_isBlocked_10 rfl hl (by decide) rfl (fun ls hl => ?_)
  exact b11  FU (v_6 + 1) hs ls (lv_sub hl [1, 2, 3, 0] rfl)
def s_X4_meetsTheLiving_b2 (x : XS) (a1 : Nat) (a2 : Int32) : Nat → Int32 → Option Int32
  | 0, _ => none
  | F + 1, p3 => grd a1 (x).2.2 ((if (x.1 21 a1) ≤ p3 then some 0 else (s_X4_crossing x a1 a2 p3).bind fun v_3 => (s_X2_hasTheLiving x v_3 p3).bind fun v_4 => (if v_4 = 0 then s_X4_meetsTheLiving_b2 x a1 a2 F (p3 + 1) else some 1)))
def s_X4_meetsTheLiving (x : XS) (a1 : Nat) (a2 : Int32) : Option Int32 := s_X4_meetsTheLiving_b2 x a1 a2  FU (3)
set_option maxHeartbeats 4000000 in
set_option maxRecDepth 100000 in
theorem c_X4_meetsTheLiving (l : Launch) (D : va_G) (ca : Nat → ClassId) (g : Nat → Nat) (x : XS) (a1 : Nat) (a2 : Int32) {r : Int32} (hs : s_X4_meetsTheLiving x a1 a2 = some r) : Met l yX4_meetsTheLiving wsX4_meetsTheLiving ({ frames := 3, cells := 0, slots := 0, locals := 68 }) (rP [.ref (g 0), .ref (adP g a1), .int (a2)] D ca (wX g ca x)) (vp_Si (fun z => z = r)) 0 0 (fun _ => False) := by
  refine Met.ofW (cc := cX4_meetsTheLiving) (maxL := 4) (ret := (some .boolean)) (by decide) rfl ?_
  intro p e s m args below meth c s₁ B hml hv
  obtain ⟨rfl, hP, hC⟩ := hv
  have hx := B.exec
  have hb := B.bytes
  have hr := B.returns
  have hts := atoms_spec (ws := wsX4_meetsTheLiving) B.pre
  have hown : s.vm.findClass RX4 = some m.cls := findClass_of_methodNamed B.named
  have hlocks := B.notSynchronized
  have hK := hC.1
  have iX0 : ∀ w ∈ u_ws RX0 TX0 10, w ∈ wsX4_meetsTheLiving := by decide +kernel
  have iX4 : ∀ w ∈ u_ws RX4 TX4 16, w ∈ wsX4_meetsTheLiving := by decide +kernel
  have hl := lv_entry ([.ref (g 0), .ref (adP g a1), .int (a2)]) (n := 4) (Nat.le_of_ble_eq_true rfl)
  rw [lg_entry_eq]
  generalize (lg_sl ([.ref (g 0), .ref (adP g a1), .int (a2)]) ++ List.replicate (4 - (lg_sl ([.ref (g 0), .ref (adP g a1), .int (a2)])).length) Slot.unset).toArray = ls at hl ⊢
  have hl : lv_has ls 4 [(0, .ref (g 0)), (1, .ref (adP g a1)), (2, .int (a2))] := hl
  have b2 : ∀ (F : Nat) (p3 : Int32), s_X4_meetsTheLiving_b2 x a1 a2 F p3 = some r → ∀ (ls : Array Slot), lv_has ls 4 [(0, .ref (g 0)), (1, .ref (adP g a1)), (2, .int (a2)), (3, .int (p3))] → W p l e (headSpec wsX4_meetsTheLiving ({ frames := 3, cells := 0, slots := 0, locals := 68 })).room s m #[.ref (g 0), .ref (adP g a1), .int (a2)] below meth c s.heap [] 0 0 (MQ below (vp_Si (fun z => z = r)) #[.ref (g 0), .ref (adP g a1), .int (a2)] s 0 0 (fun _ => False)) (F0 m 2 ls []) := by
    intro F
    induction F with
    | zero =>
      intro p3 hs
      simp [s_X4_meetsTheLiving_b2] at hs
    | succ F ih2 =>
      intro p3 hs ls hl
      rw [s_X4_meetsTheLiving_b2] at hs
      refine lv_iload_n hx hb dX4_meetsTheLiving_2 rfl (lv_at hl 3 rfl) ?_
      refine lv_aload_n hx hb dX4_meetsTheLiving_3 rfl (lv_at hl 1 rfl) ?_
      obtain ⟨h_1, hs⟩ := sp_g hs
      refine va_getN (D := D) (ci := 0) (fs := fsP (x) a1) (v := .int (x.1 21 a1)) (C := RX0) (T := TX0) (N := 10) hx hb hts iX0 hown hK hP (15 + a1) (wX_proj h_1) rfl 1 (by decide) (va_Nw.use rfl (hC.2.1 _ nk_X4_272)) (fun _ h9 => h9) rfl dX4_meetsTheLiving_4 ?_
      refine lv_icmp_ge (tgt := 36) hx hb dX4_meetsTheLiving_7 (by decide) (fun c_2 => ?_) (fun c_2 => ?_)
      · have hs := sp_t c_2 hs
        refine lv_iconst (v := 0) hx hb dX4_meetsTheLiving_36 (by decide) ?_
        exact rt_z hx hb hr (by decide) hs dX4_meetsTheLiving_37 hlocks
      · have hs := sp_f c_2 hs
        refine lv_aload_n hx hb dX4_meetsTheLiving_10 rfl (lv_at hl 0 rfl) ?_
        refine va_get (D := D) (ci := 4) (fs := fsX g (x)) (v := .ref (g 1)) (C := RX4) (T := TX4) (N := 16) hx hb hts iX4 hown hK hP 0 rfl rfl 0 (by decide) (hts (.fieldLink RX4 10 "FacadeShow" "square" "LFacadeShow$Square;") (by decide +kernel)) (fun _ h9 => h9) rfl dX4_meetsTheLiving_11 ?_
        refine lv_aload_n hx hb dX4_meetsTheLiving_14 rfl (lv_at hl 0 rfl) ?_
        refine lv_aload_n hx hb dX4_meetsTheLiving_15 rfl (lv_at hl 1 rfl) ?_
        refine lv_iload_n hx hb dX4_meetsTheLiving_16 rfl (lv_at hl 2 rfl) ?_
        refine lv_iload_n hx hb dX4_meetsTheLiving_17 rfl (lv_at hl 3 rfl) ?_
        obtain ⟨v_3, h_3, hs⟩ := sp_b hs
        refine rd_i (va_runV (As := [.ref (adP g a1), .int (a2), .int (p3)]) (rest := [.ref (g 1)]) ⟨hx, hb, hml, hown, hts⟩ (c_X4_crossing l D ca g x a1 a2 p3 h_3) (cwV 3 hts gX4_meetsTheLiving_X4_crossing rfl rfl rfl (by decide +kernel) ⟨Nat.le_of_ble_eq_true rfl, Nat.le_of_ble_eq_true rfl⟩) (rP_V (q := (RX4, TX4, 16)) hP hC 0 rfl rfl) rfl rfl hl.1 rfl (lv_room (Nat.le_of_ble_eq_true rfl)) dX4_meetsTheLiving_18 ⟨Nat.zero_le _, Nat.zero_le _⟩) ?_
        refine lv_iload_n hx hb dX4_meetsTheLiving_21 rfl (lv_at hl 3 rfl) ?_
        obtain ⟨v_4, h_4, hs⟩ := sp_b hs
        refine rd_i (va_runVN (As := [.int (v_3), .int (p3)]) (rest := []) ⟨hx, hb, hml, hown, hts⟩ (c_X2_hasTheLiving l D ca g x v_3 p3 h_4) ⟨va_cnB 2 hts gX4_meetsTheLiving_X2_hasTheLiving_n282 rfl rfl rfl (hC.2.1 _ nk_X4_282) (hts (.initialized RX2) (by decide +kernel)) (by decide +kernel) ⟨Nat.le_of_ble_eq_true rfl, Nat.le_of_ble_eq_true rfl⟩, hts (.instanceMethod yX2_hasTheLiving) (by decide +kernel), hts (.selects RX2 yX2_hasTheLiving yX2_hasTheLiving) (by decide +kernel)⟩ (rP_V (q := (RX2, TX2, 3)) hP hC 1 rfl rfl) rfl rfl hl.1 rfl (lv_room (Nat.le_of_ble_eq_true rfl)) dX4_meetsTheLiving_22 ⟨Nat.zero_le _, Nat.zero_le _⟩) ?_
        refine lv_if_eq (tgt := 30) hx hb dX4_meetsTheLiving_25 (by decide) (fun c_5 => ?_) (fun c_5 => ?_)
        · have hs := sp_t c_5 hs
          refine lv_iinc (v := p3 + 1) (lv' := [(3, .int (p3 + 1)), (0, .ref (g 0)), (1, .ref (adP g a1)), (2, .int (a2))]) hx hb dX4_meetsTheLiving_30 hl (k := 3) rfl rfl (by decide) rfl (fun ls hl => ?_)
          refine lv_goto (tgt := 2) hx hb dX4_meetsTheLiving_33 (by decide) ?_
          exact ih2  (p3 + 1) hs ls (lv_sub hl [1, 2, 3, 0] rfl)
        · have hs := sp_f c_5 hs
          refine lv_iconst (v := 1) hx hb dX4_meetsTheLiving_28 (by decide) ?_
          exact rt_z hx hb hr (by decide) hs dX4_meetsTheLiving_29 hlocks
  unfold s_X4_meetsTheLiving at hs
  refine lv_iconst (v := 3) hx hb dX4_meetsTheLiving_0 (by decide) ?_
  refine lv_istore_n (lv' := [(3, .int (3)), (0, .ref (g 0)), (1, .ref (adP g a1)), (2, .int (a2))]) hx hb dX4_meetsTheLiving_1 rfl hl (by decide) rfl (fun ls hl => ?_)
  exact b2  FU (3) hs ls (lv_sub hl [1, 2, 3, 0] rfl)
def s_X4_isAimedAt_b28 (x : XS) (a1 : Nat) (a2 : Int32) (q0 : Int32) : Option Int32 := grd a1 (x).2.2 ((if a2 < ((x.1 25 a1) + q0) then some 0 else (if ((x.1 26 a1) + q0) < a2 then some 0 else some 1)))
def s_X4_isAimedAt (x : XS) (a1 : Nat) (a2 : Int32) : Option Int32 := grd a1 (x).2.2 ((if (x.1 25 a1) = (-1) then some 0 else (if (x.1 0 4) ≤ 3 then s_X4_isAimedAt_b28 x a1 a2  (0) else s_X4_isAimedAt_b28 x a1 a2  ((x.1 0 4) - 3))))
set_option maxHeartbeats 4000000 in
set_option maxRecDepth 100000 in
theorem c_X4_isAimedAt (l : Launch) (D : va_G) (ca : Nat → ClassId) (g : Nat → Nat) (x : XS) (a1 : Nat) (a2 : Int32) {r : Int32} (hs : s_X4_isAimedAt x a1 a2 = some r) : Met l yX4_isAimedAt wsX4_isAimedAt ({ frames := 0, cells := 0, slots := 0, locals := 0 }) (rP [.ref (g 0), .ref (adP g a1), .int (a2)] D ca (wX g ca x)) (vp_Si (fun z => z = r)) 0 0 (fun _ => False) := by
  refine Met.ofW (cc := cX4_isAimedAt) (maxL := 4) (ret := (some .boolean)) (by decide) rfl ?_
  intro p e s m args below meth c s₁ B hml hv
  obtain ⟨rfl, hP, hC⟩ := hv
  have hx := B.exec
  have hb := B.bytes
  have hr := B.returns
  have hts := atoms_spec (ws := wsX4_isAimedAt) B.pre
  have hown : s.vm.findClass RX4 = some m.cls := findClass_of_methodNamed B.named
  have hlocks := B.notSynchronized
  have hK := hC.1
  have iX0 : ∀ w ∈ u_ws RX0 TX0 10, w ∈ wsX4_isAimedAt := by decide +kernel
  have iX4 : ∀ w ∈ u_ws RX4 TX4 16, w ∈ wsX4_isAimedAt := by decide +kernel
  have hl := lv_entry ([.ref (g 0), .ref (adP g a1), .int (a2)]) (n := 4) (Nat.le_of_ble_eq_true rfl)
  rw [lg_entry_eq]
  generalize (lg_sl ([.ref (g 0), .ref (adP g a1), .int (a2)]) ++ List.replicate (4 - (lg_sl ([.ref (g 0), .ref (adP g a1), .int (a2)])).length) Slot.unset).toArray = ls at hl ⊢
  have hl : lv_has ls 4 [(0, .ref (g 0)), (1, .ref (adP g a1)), (2, .int (a2))] := hl
  have b28 : ∀ (q0 : Int32), s_X4_isAimedAt_b28 x a1 a2 q0 = some r → ∀ (ls : Array Slot), lv_has ls 4 [(1, .ref (adP g a1)), (2, .int (a2))] → W p l e (headSpec wsX4_isAimedAt ({ frames := 0, cells := 0, slots := 0, locals := 0 })).room s m #[.ref (g 0), .ref (adP g a1), .int (a2)] below meth c s.heap [] 0 0 (MQ below (vp_Si (fun z => z = r)) #[.ref (g 0), .ref (adP g a1), .int (a2)] s 0 0 (fun _ => False)) (F0 m 28 ls [.int (q0)]) := by
    intro q0 hs ls hl
    unfold s_X4_isAimedAt_b28 at hs
    refine lv_istore_n (lv' := [(3, .int (q0)), (1, .ref (adP g a1)), (2, .int (a2))]) hx hb dX4_isAimedAt_28 rfl hl (by decide) rfl (fun ls hl => ?_)
    refine lv_iload_n hx hb dX4_isAimedAt_29 rfl (lv_at hl 2 rfl) ?_
    refine lv_aload_n hx hb dX4_isAimedAt_30 rfl (lv_at hl 1 rfl) ?_
    obtain ⟨h_1, hs⟩ := sp_g hs
    refine va_getN (D := D) (ci := 0) (fs := fsP (x) a1) (v := .int (x.1 25 a1)) (C := RX0) (T := TX0) (N := 10) hx hb hts iX0 hown hK hP (15 + a1) (wX_proj h_1) rfl 5 (by decide) (va_Nw.use rfl (hC.2.1 _ nk_X4_145)) (fun _ h9 => h9) rfl dX4_isAimedAt_31 ?_
    refine lv_iload_n hx hb dX4_isAimedAt_34 rfl (lv_at hl 0 rfl) ?_
    refine lv_iadd hx hb dX4_isAimedAt_35 ?_
    refine lv_icmp_lt (tgt := 53) hx hb dX4_isAimedAt_36 (by decide) (fun c_2 => ?_) (fun c_2 => ?_)
    · have hs := sp_t c_2 hs
      refine lv_iconst (v := 0) hx hb dX4_isAimedAt_53 (by decide) ?_
      exact rt_z hx hb hr (by decide) hs dX4_isAimedAt_54 hlocks
    · have hs := sp_f c_2 hs
      refine lv_iload_n hx hb dX4_isAimedAt_39 rfl (lv_at hl 2 rfl) ?_
      refine lv_aload_n hx hb dX4_isAimedAt_40 rfl (lv_at hl 1 rfl) ?_
      refine va_getN (D := D) (ci := 0) (fs := fsP (x) a1) (v := .int (x.1 26 a1)) (C := RX0) (T := TX0) (N := 10) hx hb hts iX0 hown hK hP (15 + a1) (wX_proj h_1) rfl 6 (by decide) (va_Nw.use rfl (hC.2.1 _ nk_X4_148)) (fun _ h9 => h9) rfl dX4_isAimedAt_41 ?_
      refine lv_iload_n hx hb dX4_isAimedAt_44 rfl (lv_at hl 0 rfl) ?_
      refine lv_iadd hx hb dX4_isAimedAt_45 ?_
      refine lv_icmp_gt (tgt := 53) hx hb dX4_isAimedAt_46 (by decide) (fun c_3 => ?_) (fun c_3 => ?_)
      · have hs := sp_t c_3 hs
        refine lv_iconst (v := 0) hx hb dX4_isAimedAt_53 (by decide) ?_
        exact rt_z hx hb hr (by decide) hs dX4_isAimedAt_54 hlocks
      · have hs := sp_f c_3 hs
        refine lv_iconst (v := 1) hx hb dX4_isAimedAt_49 (by decide) ?_
        refine lv_goto (tgt := 54) hx hb dX4_isAimedAt_50 (by decide) ?_
        exact rt_z hx hb hr (by decide) hs dX4_isAimedAt_54 hlocks
  unfold s_X4_isAimedAt at hs
  refine lv_aload_n hx hb dX4_isAimedAt_0 rfl (lv_at hl 1 rfl) ?_
  obtain ⟨h_4, hs⟩ := sp_g hs
  refine va_getN (D := D) (ci := 0) (fs := fsP (x) a1) (v := .int (x.1 25 a1)) (C := RX0) (T := TX0) (N := 10) hx hb hts iX0 hown hK hP (15 + a1) (wX_proj h_4) rfl 5 (by decide) (va_Nw.use rfl (hC.2.1 _ nk_X4_145)) (fun _ h9 => h9) rfl dX4_isAimedAt_1 ?_
  refine lv_iconst (v := -1) hx hb dX4_isAimedAt_4 (by decide) ?_
  refine lv_icmp_ne (tgt := 10) hx hb dX4_isAimedAt_5 (by decide) (fun c_5 => ?_) (fun c_5 => ?_)
  · have hs := sp_f c_5 hs
    refine lv_aload_n hx hb dX4_isAimedAt_10 rfl (lv_at hl 0 rfl) ?_
    refine va_get (D := D) (ci := 4) (fs := fsX g (x)) (v := .int (x.1 0 4)) (C := RX4) (T := TX4) (N := 16) hx hb hts iX4 hown hK hP 0 rfl rfl 4 (by decide) (hts (.fieldLink RX4 30 "FacadeShow" "windNow" "I") (by decide +kernel)) (fun _ h9 => h9) rfl dX4_isAimedAt_11 ?_
    refine lv_iconst (v := 3) hx hb dX4_isAimedAt_14 (by decide) ?_
    refine lv_icmp_le (tgt := 27) hx hb dX4_isAimedAt_15 (by decide) (fun c_6 => ?_) (fun c_6 => ?_)
    · have hs := sp_t c_6 hs
      refine lv_iconst (v := 0) hx hb dX4_isAimedAt_27 (by decide) ?_
      exact b28  (0) hs ls (lv_sub hl [1, 2] rfl)
    · have hs := sp_f c_6 hs
      refine lv_aload_n hx hb dX4_isAimedAt_18 rfl (lv_at hl 0 rfl) ?_
      refine va_get (D := D) (ci := 4) (fs := fsX g (x)) (v := .int (x.1 0 4)) (C := RX4) (T := TX4) (N := 16) hx hb hts iX4 hown hK hP 0 rfl rfl 4 (by decide) (hts (.fieldLink RX4 30 "FacadeShow" "windNow" "I") (by decide +kernel)) (fun _ h9 => h9) rfl dX4_isAimedAt_19 ?_
      refine lv_iconst (v := 3) hx hb dX4_isAimedAt_22 (by decide) ?_
      refine lv_isub hx hb dX4_isAimedAt_23 ?_
      refine lv_goto (tgt := 28) hx hb dX4_isAimedAt_24 (by decide) ?_
      exact b28  ((x.1 0 4) - 3) hs ls (lv_sub hl [1, 2] rfl)
  · have hs := sp_t c_5 hs
    refine lv_iconst (v := 0) hx hb dX4_isAimedAt_8 (by decide) ?_
    exact rt_z hx hb hr (by decide) hs dX4_isAimedAt_9 hlocks
def s_X4_breachesBy_b4 (x : XS) (a1 : Nat) : Nat → Int32 → Int32 → Option Int32
  | 0, _, _ => none
  | F + 1, p2, p3 => (if 16 ≤ p3 then some (p2) else grd a1 (x).2.2 ((s_X4_isAimedAt x a1 p3).bind fun v_3 => (if v_3 = 0 then s_X4_breachesBy_b4 x a1 F (p2) (p3 + 1) else (s_X4_meetsTheLiving x a1 p3).bind fun v_5 => (if v_5 = 0 then s_X4_breachesBy_b4 x a1 F (p2) (p3 + 1) else (s_X4_isBlocked x a1 p3).bind fun v_7 => (if v_7 = 0 then s_X4_breachesBy_b4 x a1 F (p2 + 1) (p3 + 1) else s_X4_breachesBy_b4 x a1 F (p2) (p3 + 1))))))
def s_X4_breachesBy (x : XS) (a1 : Nat) : Option Int32 := s_X4_breachesBy_b4 x a1  FU (0) (0)
set_option maxHeartbeats 4000000 in
set_option maxRecDepth 100000 in
theorem c_X4_breachesBy (l : Launch) (D : va_G) (ca : Nat → ClassId) (g : Nat → Nat) (x : XS) (a1 : Nat) {r : Int32} (hs : s_X4_breachesBy x a1 = some r) : Met l yX4_breachesBy wsX4_breachesBy ({ frames := 4, cells := 0, slots := 0, locals := 91 }) (rP [.ref (g 0), .ref (adP g a1)] D ca (wX g ca x)) (vp_Si (fun z => z = r)) 0 0 (fun _ => False) := by
  refine Met.ofW (cc := cX4_breachesBy) (maxL := 4) (ret := (some .int)) (by decide) rfl ?_
  intro p e s m args below meth c s₁ B hml hv
  obtain ⟨rfl, hP, hC⟩ := hv
  have hx := B.exec
  have hb := B.bytes
  have hr := B.returns
  have hts := atoms_spec (ws := wsX4_breachesBy) B.pre
  have hown : s.vm.findClass RX4 = some m.cls := findClass_of_methodNamed B.named
  have hlocks := B.notSynchronized
  have hK := hC.1
  have hl := lv_entry ([.ref (g 0), .ref (adP g a1)]) (n := 4) (Nat.le_of_ble_eq_true rfl)
  rw [lg_entry_eq]
  generalize (lg_sl ([.ref (g 0), .ref (adP g a1)]) ++ List.replicate (4 - (lg_sl ([.ref (g 0), .ref (adP g a1)])).length) Slot.unset).toArray = ls at hl ⊢
  have hl : lv_has ls 4 [(0, .ref (g 0)), (1, .ref (adP g a1))] := hl
  have b4 : ∀ (F : Nat) (p2 : Int32) (p3 : Int32), s_X4_breachesBy_b4 x a1 F p2 p3 = some r → ∀ (ls : Array Slot), lv_has ls 4 [(0, .ref (g 0)), (1, .ref (adP g a1)), (2, .int (p2)), (3, .int (p3))] → W p l e (headSpec wsX4_breachesBy ({ frames := 4, cells := 0, slots := 0, locals := 91 })).room s m #[.ref (g 0), .ref (adP g a1)] below meth c s.heap [] 0 0 (MQ below (vp_Si (fun z => z = r)) #[.ref (g 0), .ref (adP g a1)] s 0 0 (fun _ => False)) (F0 m 4 ls []) := by
    intro F
    induction F with
    | zero =>
      intro p2 p3 hs
      simp [s_X4_breachesBy_b4] at hs
    | succ F ih4 =>
      intro p2 p3 hs ls hl
      rw [s_X4_breachesBy_b4] at hs
      refine lv_iload_n hx hb dX4_breachesBy_4 rfl (lv_at hl 3 rfl) ?_
      refine lv_bipush (v := 16) hx hb dX4_breachesBy_5 (by decide) ?_
      refine lv_icmp_ge (tgt := 46) hx hb dX4_breachesBy_7 (by decide) (fun c_1 => ?_) (fun c_1 => ?_)
      · have hs := sp_t c_1 hs
        refine lv_iload_n hx hb dX4_breachesBy_46 rfl (lv_at hl 2 rfl) ?_
        exact rt_i hx hb hr hs dX4_breachesBy_47 hlocks
      · have hs := sp_f c_1 hs
        refine lv_aload_n hx hb dX4_breachesBy_10 rfl (lv_at hl 0 rfl) ?_
        refine lv_aload_n hx hb dX4_breachesBy_11 rfl (lv_at hl 1 rfl) ?_
        refine lv_iload_n hx hb dX4_breachesBy_12 rfl (lv_at hl 3 rfl) ?_
        obtain ⟨h_2, hs⟩ := sp_g hs
        obtain ⟨v_3, h_3, hs⟩ := sp_b hs
        refine rd_i (va_runV (As := [.ref (adP g a1), .int (p3)]) (rest := []) ⟨hx, hb, hml, hown, hts⟩ (c_X4_isAimedAt l D ca g x a1 p3 h_3) (cwV 2 hts gX4_breachesBy_X4_isAimedAt rfl rfl rfl (by decide +kernel) ⟨Nat.le_of_ble_eq_true rfl, Nat.le_of_ble_eq_true rfl⟩) (rP_V (q := (RX4, TX4, 16)) hP hC 0 rfl rfl) rfl rfl hl.1 rfl (lv_room (Nat.le_of_ble_eq_true rfl)) dX4_breachesBy_13 ⟨Nat.zero_le _, Nat.zero_le _⟩) ?_
        refine lv_if_eq (tgt := 40) hx hb dX4_breachesBy_16 (by decide) (fun c_4 => ?_) (fun c_4 => ?_)
        · have hs := sp_t c_4 hs
          refine lv_iinc (v := p3 + 1) (lv' := [(3, .int (p3 + 1)), (0, .ref (g 0)), (1, .ref (adP g a1)), (2, .int (p2))]) hx hb dX4_breachesBy_40 hl (k := 3) rfl rfl (by decide) rfl (fun ls hl => ?_)
          refine lv_goto (tgt := 4) hx hb dX4_breachesBy_43 (by decide) ?_
          exact ih4  (p2) (p3 + 1) hs ls (lv_sub hl [1, 2, 3, 0] rfl)
        · have hs := sp_f c_4 hs
          refine lv_aload_n hx hb dX4_breachesBy_19 rfl (lv_at hl 0 rfl) ?_
          refine lv_aload_n hx hb dX4_breachesBy_20 rfl (lv_at hl 1 rfl) ?_
          refine lv_iload_n hx hb dX4_breachesBy_21 rfl (lv_at hl 3 rfl) ?_
          obtain ⟨v_5, h_5, hs⟩ := sp_b hs
          refine rd_i (va_runV (As := [.ref (adP g a1), .int (p3)]) (rest := []) ⟨hx, hb, hml, hown, hts⟩ (c_X4_meetsTheLiving l D ca g x a1 p3 h_5) (cwV 2 hts gX4_breachesBy_X4_meetsTheLiving rfl rfl rfl (by decide +kernel) ⟨Nat.le_of_ble_eq_true rfl, Nat.le_of_ble_eq_true rfl⟩) (rP_V (q := (RX4, TX4, 16)) hP hC 0 rfl rfl) rfl rfl hl.1 rfl (lv_room (Nat.le_of_ble_eq_true rfl)) dX4_breachesBy_22 ⟨Nat.zero_le _, Nat.zero_le _⟩) ?_
          refine lv_if_eq (tgt := 40) hx hb dX4_breachesBy_25 (by decide) (fun c_6 => ?_) (fun c_6 => ?_)
          · have hs := sp_t c_6 hs
            refine lv_iinc (v := p3 + 1) (lv' := [(3, .int (p3 + 1)), (0, .ref (g 0)), (1, .ref (adP g a1)), (2, .int (p2))]) hx hb dX4_breachesBy_40 hl (k := 3) rfl rfl (by decide) rfl (fun ls hl => ?_)
            refine lv_goto (tgt := 4) hx hb dX4_breachesBy_43 (by decide) ?_
            exact ih4  (p2) (p3 + 1) hs ls (lv_sub hl [1, 2, 3, 0] rfl)
          · have hs := sp_f c_6 hs
            refine lv_aload_n hx hb dX4_breachesBy_28 rfl (lv_at hl 0 rfl) ?_
            refine lv_aload_n hx hb dX4_breachesBy_29 rfl (lv_at hl 1 rfl) ?_
            refine lv_iload_n hx hb dX4_breachesBy_30 rfl (lv_at hl 3 rfl) ?_
            obtain ⟨v_7, h_7, hs⟩ := sp_b hs
            refine rd_i (va_runV (As := [.ref (adP g a1), .int (p3)]) (rest := []) ⟨hx, hb, hml, hown, hts⟩ (c_X4_isBlocked l D ca g x a1 p3 h_7) (cwV 2 hts gX4_breachesBy_X4_isBlocked rfl rfl rfl (by decide +kernel) ⟨Nat.le_of_ble_eq_true rfl, Nat.le_of_ble_eq_true rfl⟩) (rP_V (q := (RX4, TX4, 16)) hP hC 0 rfl rfl) rfl rfl hl.1 rfl (lv_room (Nat.le_of_ble_eq_true rfl)) dX4_breachesBy_31 ⟨Nat.zero_le _, Nat.zero_le _⟩) ?_
            refine lv_if_ne (tgt := 40) hx hb dX4_breachesBy_34 (by decide) (fun c_8 => ?_) (fun c_8 => ?_)
            · have hs := sp_f c_8 hs
              refine lv_iinc (v := p3 + 1) (lv' := [(3, .int (p3 + 1)), (0, .ref (g 0)), (1, .ref (adP g a1)), (2, .int (p2))]) hx hb dX4_breachesBy_40 hl (k := 3) rfl rfl (by decide) rfl (fun ls hl => ?_)
              refine lv_goto (tgt := 4) hx hb dX4_breachesBy_43 (by decide) ?_
              exact ih4  (p2) (p3 + 1) hs ls (lv_sub hl [1, 2, 3, 0] rfl)
            · have hs := sp_t c_8 hs
              refine lv_iinc (v := p2 + 1) (lv' := [(2, .int (p2 + 1)), (0, .ref (g 0)), (1, .ref (adP g a1)), (3, .int (p3))]) hx hb dX4_breachesBy_37 hl (k := 2) rfl rfl (by decide) rfl (fun ls hl => ?_)
              refine lv_iinc (v := p3 + 1) (lv' := [(3, .int (p3 + 1)), (2, .int (p2 + 1)), (0, .ref (g 0)), (1, .ref (adP g a1))]) hx hb dX4_breachesBy_40 hl (k := 3) rfl rfl (by decide) rfl (fun ls hl => ?_)
              refine lv_goto (tgt := 4) hx hb dX4_breachesBy_43 (by decide) ?_
              exact ih4  (p2 + 1) (p3 + 1) hs ls (lv_sub hl [2, 3, 1, 0] rfl)
  unfold s_X4_breachesBy at hs
  refine lv_iconst (v := 0) hx hb dX4_breachesBy_0 (by decide) ?_
  refine lv_istore_n (lv' := [(2, .int (0)), (0, .ref (g 0)), (1, .ref (adP g a1))]) hx hb dX4_breachesBy_1 rfl hl (by decide) rfl (fun ls hl => ?_)
  refine lv_iconst (v := 0) hx hb dX4_breachesBy_2 (by decide) ?_
  refine lv_istore_n (lv' := [(3, .int (0)), (2, .int (0)), (0, .ref (g 0)), (1, .ref (adP g a1))]) hx hb dX4_breachesBy_3 rfl hl (by decide) rfl (fun ls hl => ?_)
  exact b4  FU (0) (0) hs ls (lv_sub hl [2, 3, 1, 0] rfl)
def s_X4_lightFrom (x : XS) (a1 : Nat) (a2 : Int32) : Option Int32 := grd a1 (x).2.2 ((s_X4_isAimedAt x a1 a2).bind fun v_2 => (if v_2 = 0 then some (0) else (s_X4_isBlocked x a1 a2).bind fun v_4 => (if v_4 = 0 then (s_X2_reliefOf x a2).bind fun v_6 => (if 1 ≤ (((a2 - (x.1 20 a1)) * (a2 - (x.1 20 a1))) + (((x.1 21 a1) - v_6) * ((x.1 21 a1) - v_6))) then dvz (((a2 - (x.1 20 a1)) * (a2 - (x.1 20 a1))) + (((x.1 21 a1) - v_6) * ((x.1 21 a1) - v_6))) ((s_X2_hundredthsOf x a2).bind fun v_9 => some ((((100 * (x.1 22 a1)) / (((a2 - (x.1 20 a1)) * (a2 - (x.1 20 a1))) + (((x.1 21 a1) - v_6) * ((x.1 21 a1) - v_6)))) * v_9) / 100)) else some (0)) else some (0))))
set_option maxHeartbeats 4000000 in
set_option maxRecDepth 100000 in
theorem c_X4_lightFrom (l : Launch) (D : va_G) (ca : Nat → ClassId) (g : Nat → Nat) (x : XS) (a1 : Nat) (a2 : Int32) {r : Int32} (hs : s_X4_lightFrom x a1 a2 = some r) : Met l yX4_lightFrom wsX4_lightFrom ({ frames := 4, cells := 0, slots := 0, locals := 91 }) (rP [.ref (g 0), .ref (adP g a1), .int (a2)] D ca (wX g ca x)) (vp_Si (fun z => z = r)) 0 0 (fun _ => False) := by
  refine Met.ofW (cc := cX4_lightFrom) (maxL := 6) (ret := (some .int)) (by decide) rfl ?_
  intro p e s m args below meth c s₁ B hml hv
  obtain ⟨rfl, hP, hC⟩ := hv
  have hx := B.exec
  have hb := B.bytes
  have hr := B.returns
  have hts := atoms_spec (ws := wsX4_lightFrom) B.pre
  have hown : s.vm.findClass RX4 = some m.cls := findClass_of_methodNamed B.named
  have hlocks := B.notSynchronized
  have hK := hC.1
  have iX0 : ∀ w ∈ u_ws RX0 TX0 10, w ∈ wsX4_lightFrom := by decide +kernel
  have iX4 : ∀ w ∈ u_ws RX4 TX4 16, w ∈ wsX4_lightFrom := by decide +kernel
  have hl := lv_entry ([.ref (g 0), .ref (adP g a1), .int (a2)]) (n := 6) (Nat.le_of_ble_eq_true rfl)
  rw [lg_entry_eq]
  generalize (lg_sl ([.ref (g 0), .ref (adP g a1), .int (a2)]) ++ List.replicate (6 - (lg_sl ([.ref (g 0), .ref (adP g a1), .int (a2)])).length) Slot.unset).toArray = ls at hl ⊢
  have hl : lv_has ls 6 [(0, .ref (g 0)), (1, .ref (adP g a1)), (2, .int (a2))] := hl
  unfold s_X4_lightFrom at hs
  refine lv_aload_n hx hb dX4_lightFrom_0 rfl (lv_at hl 0 rfl) ?_
  refine lv_aload_n hx hb dX4_lightFrom_1 rfl (lv_at hl 1 rfl) ?_
  refine lv_iload_n hx hb dX4_lightFrom_2 rfl (lv_at hl 2 rfl) ?_
  obtain ⟨h_1, hs⟩ := sp_g hs
  obtain ⟨v_2, h_2, hs⟩ := sp_b hs
  refine rd_i (va_runV (As := [.ref (adP g a1), .int (a2)]) (rest := []) ⟨hx, hb, hml, hown, hts⟩ (c_X4_isAimedAt l D ca g x a1 a2 h_2) (cwV 2 hts gX4_lightFrom_X4_isAimedAt rfl rfl rfl (by decide +kernel) ⟨Nat.le_of_ble_eq_true rfl, Nat.le_of_ble_eq_true rfl⟩) (rP_V (q := (RX4, TX4, 16)) hP hC 0 rfl rfl) rfl rfl hl.1 rfl (lv_room (Nat.le_of_ble_eq_true rfl)) dX4_lightFrom_3 ⟨Nat.zero_le _, Nat.zero_le _⟩) ?_
  refine lv_if_eq (tgt := 18) hx hb dX4_lightFrom_6 (by decide) (fun c_3 => ?_) (fun c_3 => ?_)
  · have hs := sp_t c_3 hs
    refine lv_iconst (v := 0) hx hb dX4_lightFrom_18 (by decide) ?_
    exact rt_i hx hb hr hs dX4_lightFrom_19 hlocks
  · have hs := sp_f c_3 hs
    refine lv_aload_n hx hb dX4_lightFrom_9 rfl (lv_at hl 0 rfl) ?_
    refine lv_aload_n hx hb dX4_lightFrom_10 rfl (lv_at hl 1 rfl) ?_
    refine lv_iload_n hx hb dX4_lightFrom_11 rfl (lv_at hl 2 rfl) ?_
    obtain ⟨v_4, h_4, hs⟩ := sp_b hs
    refine rd_i (va_runV (As := [.ref (adP g a1), .int (a2)]) (rest := []) ⟨hx, hb, hml, hown, hts⟩ (c_X4_isBlocked l D ca g x a1 a2 h_4) (cwV 2 hts gX4_lightFrom_X4_isBlocked rfl rfl rfl (by decide +kernel) ⟨Nat.le_of_ble_eq_true rfl, Nat.le_of_ble_eq_true rfl⟩) (rP_V (q := (RX4, TX4, 16)) hP hC 0 rfl rfl) rfl rfl hl.1 rfl (lv_room (Nat.le_of_ble_eq_true rfl)) dX4_lightFrom_12 ⟨Nat.zero_le _, Nat.zero_le _⟩) ?_
    refine lv_if_eq (tgt := 20) hx hb dX4_lightFrom_15 (by decide) (fun c_5 => ?_) (fun c_5 => ?_)
    · have hs := sp_t c_5 hs
      refine lv_iload_n hx hb dX4_lightFrom_20 rfl (lv_at hl 2 rfl) ?_
      refine lv_aload_n hx hb dX4_lightFrom_21 rfl (lv_at hl 1 rfl) ?_
      refine va_getN (D := D) (ci := 0) (fs := fsP (x) a1) (v := .int (x.1 20 a1)) (C := RX0) (T := TX0) (N := 10) hx hb hts iX0 hown hK hP (15 + a1) (wX_proj h_1) rfl 0 (by decide) (va_Nw.use rfl (hC.2.1 _ nk_X4_275)) (fun _ h9 => h9) rfl dX4_lightFrom_22 ?_
      refine lv_isub hx hb dX4_lightFrom_25 ?_
      refine lv_istore_n (lv' := [(3, .int (a2 - (x.1 20 a1))), (0, .ref (g 0)), (1, .ref (adP g a1)), (2, .int (a2))]) hx hb dX4_lightFrom_26 rfl hl (by decide) rfl (fun ls hl => ?_)
      refine lv_aload_n hx hb dX4_lightFrom_27 rfl (lv_at hl 2 rfl) ?_
      refine va_getN (D := D) (ci := 0) (fs := fsP (x) a1) (v := .int (x.1 21 a1)) (C := RX0) (T := TX0) (N := 10) hx hb hts iX0 hown hK hP (15 + a1) (wX_proj h_1) rfl 1 (by decide) (va_Nw.use rfl (hC.2.1 _ nk_X4_272)) (fun _ h9 => h9) rfl dX4_lightFrom_28 ?_
      refine lv_aload_n hx hb dX4_lightFrom_31 rfl (lv_at hl 1 rfl) ?_
      refine va_get (D := D) (ci := 4) (fs := fsX g (x)) (v := .ref (g 1)) (C := RX4) (T := TX4) (N := 16) hx hb hts iX4 hown hK hP 0 rfl rfl 0 (by decide) (hts (.fieldLink RX4 10 "FacadeShow" "square" "LFacadeShow$Square;") (by decide +kernel)) (fun _ h9 => h9) rfl dX4_lightFrom_32 ?_
      refine lv_iload_n hx hb dX4_lightFrom_35 rfl (lv_at hl 3 rfl) ?_
      obtain ⟨v_6, h_6, hs⟩ := sp_b hs
      refine rd_i (va_runVN (As := [.int (a2)]) (rest := [.int (x.1 21 a1)]) ⟨hx, hb, hml, hown, hts⟩ (c_X2_reliefOf l D ca g x a2 h_6) ⟨va_cnB 1 hts gX4_lightFrom_X2_reliefOf_n269 rfl rfl rfl (hC.2.1 _ nk_X4_269) (hts (.initialized RX2) (by decide +kernel)) (by decide +kernel) ⟨Nat.le_of_ble_eq_true rfl, Nat.le_of_ble_eq_true rfl⟩, hts (.instanceMethod yX2_reliefOf) (by decide +kernel), hts (.selects RX2 yX2_reliefOf yX2_reliefOf) (by decide +kernel)⟩ (rP_V (q := (RX2, TX2, 3)) hP hC 1 rfl rfl) rfl rfl hl.1 rfl (lv_room (Nat.le_of_ble_eq_true rfl)) dX4_lightFrom_36 ⟨Nat.zero_le _, Nat.zero_le _⟩) ?_
      refine lv_isub hx hb dX4_lightFrom_39 ?_
      refine lv_istore (lv' := [(4, .int ((x.1 21 a1) - v_6)), (3, .int (a2 - (x.1 20 a1))), (0, .ref (g 0)), (1, .ref (adP g a1)), (2, .int (a2))]) hx hb dX4_lightFrom_40 hl (by decide) rfl (fun ls hl => ?_)
      refine lv_iload_n hx hb dX4_lightFrom_42 rfl (lv_at hl 1 rfl) ?_
      refine lv_iload_n hx hb dX4_lightFrom_43 rfl (lv_at hl 1 rfl) ?_
      refine lv_imul hx hb dX4_lightFrom_44 ?_
      refine lv_iload hx hb dX4_lightFrom_45 (lv_at hl 0 rfl) ?_
      refine lv_iload hx hb dX4_lightFrom_47 (lv_at hl 0 rfl) ?_
      refine lv_imul hx hb dX4_lightFrom_49 ?_
      refine lv_iadd hx hb dX4_lightFrom_50 ?_
      refine lv_istore (lv' := [(5, .int (((a2 - (x.1 20 a1)) * (a2 - (x.1 20 a1))) + (((x.1 21 a1) - v_6) * ((x.1 21 a1) - v_6)))), (4, .int ((x.1 21 a1) - v_6)), (3, .int (a2 - (x.1 20 a1))), (0, .ref (g 0)), (1, .ref (adP g a1)), (2, .int (a2))]) hx hb dX4_lightFrom_51 hl (by decide) rfl (fun ls hl => ?_)
      refine lv_iload hx hb dX4_lightFrom_53 (lv_at hl 0 rfl) ?_
      refine lv_iconst (v := 1) hx hb dX4_lightFrom_55 (by decide) ?_
      refine lv_icmp_ge (tgt := 61) hx hb dX4_lightFrom_56 (by decide) (fun c_7 => ?_) (fun c_7 => ?_)
      · have hs := sp_t c_7 hs
        refine lv_bipush (v := 100) hx hb dX4_lightFrom_61 (by decide) ?_
        refine lv_aload_n hx hb dX4_lightFrom_63 rfl (lv_at hl 4 rfl) ?_
        refine va_getN (D := D) (ci := 0) (fs := fsP (x) a1) (v := .int (x.1 22 a1)) (C := RX0) (T := TX0) (N := 10) hx hb hts iX0 hown hK hP (15 + a1) (wX_proj h_1) rfl 2 (by decide) (va_Nw.use rfl (hC.2.1 _ nk_X4_162)) (fun _ h9 => h9) rfl dX4_lightFrom_64 ?_
        refine lv_imul hx hb dX4_lightFrom_67 ?_
        refine lv_iload hx hb dX4_lightFrom_68 (lv_at hl 0 rfl) ?_
        obtain ⟨h_8, hs⟩ := sp_d hs
        refine lv_idiv hx hb dX4_lightFrom_70 h_8 ?_
        refine lv_aload_n hx hb dX4_lightFrom_71 rfl (lv_at hl 3 rfl) ?_
        refine va_get (D := D) (ci := 4) (fs := fsX g (x)) (v := .ref (g 1)) (C := RX4) (T := TX4) (N := 16) hx hb hts iX4 hown hK hP 0 rfl rfl 0 (by decide) (hts (.fieldLink RX4 10 "FacadeShow" "square" "LFacadeShow$Square;") (by decide +kernel)) (fun _ h9 => h9) rfl dX4_lightFrom_72 ?_
        refine lv_iload_n hx hb dX4_lightFrom_75 rfl (lv_at hl 5 rfl) ?_
        obtain ⟨v_9, h_9, hs⟩ := sp_b hs
        refine rd_i (va_runVN (As := [.int (a2)]) (rest := [.int ((100 * (x.1 22 a1)) / (((a2 - (x.1 20 a1)) * (a2 - (x.1 20 a1))) + (((x.1 21 a1) - v_6) * ((x.1 21 a1) - v_6))))]) ⟨hx, hb, hml, hown, hts⟩ (c_X2_hundredthsOf l D ca g x a2 h_9) ⟨va_cnB 1 hts gX4_lightFrom_X2_hundredthsOf_n294 rfl rfl rfl (hC.2.1 _ nk_X4_294) (hts (.initialized RX2) (by decide +kernel)) (by decide +kernel) ⟨Nat.le_of_ble_eq_true rfl, Nat.le_of_ble_eq_true rfl⟩, hts (.instanceMethod yX2_hundredthsOf) (by decide +kernel), hts (.selects RX2 yX2_hundredthsOf yX2_hundredthsOf) (by decide +kernel)⟩ (rP_V (q := (RX2, TX2, 3)) hP hC 1 rfl rfl) rfl rfl hl.1 rfl (lv_room (Nat.le_of_ble_eq_true rfl)) dX4_lightFrom_76 ⟨Nat.zero_le _, Nat.zero_le _⟩) ?_
        refine lv_imul hx hb dX4_lightFrom_79 ?_
        refine lv_bipush (v := 100) hx hb dX4_lightFrom_80 (by decide) ?_
        refine lv_idiv hx hb dX4_lightFrom_82 (by decide) ?_
        exact rt_i hx hb hr hs dX4_lightFrom_83 hlocks
      · have hs := sp_f c_7 hs
        refine lv_iconst (v := 0) hx hb dX4_lightFrom_59 (by decide) ?_
        exact rt_i hx hb hr hs dX4_lightFrom_60 hlocks
    · have hs := sp_f c_5 hs
      refine lv_iconst (v := 0) hx hb dX4_lightFrom_18 (by decide) ?_
      exact rt_i hx hb hr hs dX4_lightFrom_19 hlocks
def s_X4_isInFocus (x : XS) (a1 : Nat) (a2 : Int32) : Option Int32 := grd a1 (x).2.2 ((s_X2_reliefOf x a2).bind fun v_2 => (if (((x.1 21 a1) - v_2) - (x.1 24 a1)) < (-1) then some 0 else (if 1 < (((x.1 21 a1) - v_2) - (x.1 24 a1)) then some 0 else some 1)))
set_option maxHeartbeats 4000000 in
set_option maxRecDepth 100000 in
theorem c_X4_isInFocus (l : Launch) (D : va_G) (ca : Nat → ClassId) (g : Nat → Nat) (x : XS) (a1 : Nat) (a2 : Int32) {r : Int32} (hs : s_X4_isInFocus x a1 a2 = some r) : Met l yX4_isInFocus wsX4_isInFocus ({ frames := 2, cells := 0, slots := 0, locals := 41 }) (rP [.ref (g 0), .ref (adP g a1), .int (a2)] D ca (wX g ca x)) (vp_Si (fun z => z = r)) 0 0 (fun _ => False) := by
  refine Met.ofW (cc := cX4_isInFocus) (maxL := 4) (ret := (some .boolean)) (by decide) rfl ?_
  intro p e s m args below meth c s₁ B hml hv
  obtain ⟨rfl, hP, hC⟩ := hv
  have hx := B.exec
  have hb := B.bytes
  have hr := B.returns
  have hts := atoms_spec (ws := wsX4_isInFocus) B.pre
  have hown : s.vm.findClass RX4 = some m.cls := findClass_of_methodNamed B.named
  have hlocks := B.notSynchronized
  have hK := hC.1
  have iX0 : ∀ w ∈ u_ws RX0 TX0 10, w ∈ wsX4_isInFocus := by decide +kernel
  have iX4 : ∀ w ∈ u_ws RX4 TX4 16, w ∈ wsX4_isInFocus := by decide +kernel
  have hl := lv_entry ([.ref (g 0), .ref (adP g a1), .int (a2)]) (n := 4) (Nat.le_of_ble_eq_true rfl)
  rw [lg_entry_eq]
  generalize (lg_sl ([.ref (g 0), .ref (adP g a1), .int (a2)]) ++ List.replicate (4 - (lg_sl ([.ref (g 0), .ref (adP g a1), .int (a2)])).length) Slot.unset).toArray = ls at hl ⊢
  have hl : lv_has ls 4 [(0, .ref (g 0)), (1, .ref (adP g a1)), (2, .int (a2))] := hl
  unfold s_X4_isInFocus at hs
  refine lv_aload_n hx hb dX4_isInFocus_0 rfl (lv_at hl 1 rfl) ?_
  obtain ⟨h_1, hs⟩ := sp_g hs
  refine va_getN (D := D) (ci := 0) (fs := fsP (x) a1) (v := .int (x.1 21 a1)) (C := RX0) (T := TX0) (N := 10) hx hb hts iX0 hown hK hP (15 + a1) (wX_proj h_1) rfl 1 (by decide) (va_Nw.use rfl (hC.2.1 _ nk_X4_272)) (fun _ h9 => h9) rfl dX4_isInFocus_1 ?_
  refine lv_aload_n hx hb dX4_isInFocus_4 rfl (lv_at hl 0 rfl) ?_
  refine va_get (D := D) (ci := 4) (fs := fsX g (x)) (v := .ref (g 1)) (C := RX4) (T := TX4) (N := 16) hx hb hts iX4 hown hK hP 0 rfl rfl 0 (by decide) (hts (.fieldLink RX4 10 "FacadeShow" "square" "LFacadeShow$Square;") (by decide +kernel)) (fun _ h9 => h9) rfl dX4_isInFocus_5 ?_
  refine lv_iload_n hx hb dX4_isInFocus_8 rfl (lv_at hl 2 rfl) ?_
  obtain ⟨v_2, h_2, hs⟩ := sp_b hs
  refine rd_i (va_runVN (As := [.int (a2)]) (rest := [.int (x.1 21 a1)]) ⟨hx, hb, hml, hown, hts⟩ (c_X2_reliefOf l D ca g x a2 h_2) ⟨va_cnB 1 hts gX4_isInFocus_X2_reliefOf_n269 rfl rfl rfl (hC.2.1 _ nk_X4_269) (hts (.initialized RX2) (by decide +kernel)) (by decide +kernel) ⟨Nat.le_of_ble_eq_true rfl, Nat.le_of_ble_eq_true rfl⟩, hts (.instanceMethod yX2_reliefOf) (by decide +kernel), hts (.selects RX2 yX2_reliefOf yX2_reliefOf) (by decide +kernel)⟩ (rP_V (q := (RX2, TX2, 3)) hP hC 1 rfl rfl) rfl rfl hl.1 rfl (lv_room (Nat.le_of_ble_eq_true rfl)) dX4_isInFocus_9 ⟨Nat.zero_le _, Nat.zero_le _⟩) ?_
  refine lv_isub hx hb dX4_isInFocus_12 ?_
  refine lv_aload_n hx hb dX4_isInFocus_13 rfl (lv_at hl 1 rfl) ?_
  refine va_getN (D := D) (ci := 0) (fs := fsP (x) a1) (v := .int (x.1 24 a1)) (C := RX0) (T := TX0) (N := 10) hx hb hts iX0 hown hK hP (15 + a1) (wX_proj h_1) rfl 4 (by decide) (va_Nw.use rfl (hC.2.1 _ nk_X4_297)) (fun _ h9 => h9) rfl dX4_isInFocus_14 ?_
  refine lv_isub hx hb dX4_isInFocus_17 ?_
  refine lv_istore_n (lv' := [(3, .int (((x.1 21 a1) - v_2) - (x.1 24 a1))), (0, .ref (g 0)), (1, .ref (adP g a1)), (2, .int (a2))]) hx hb dX4_isInFocus_18 rfl hl (by decide) rfl (fun ls hl => ?_)
  refine lv_iload_n hx hb dX4_isInFocus_19 rfl (lv_at hl 0 rfl) ?_
  refine lv_iconst (v := -1) hx hb dX4_isInFocus_20 (by decide) ?_
  refine lv_icmp_lt (tgt := 33) hx hb dX4_isInFocus_21 (by decide) (fun c_3 => ?_) (fun c_3 => ?_)
  · have hs := sp_t c_3 hs
    refine lv_iconst (v := 0) hx hb dX4_isInFocus_33 (by decide) ?_
    exact rt_z hx hb hr (by decide) hs dX4_isInFocus_34 hlocks
  · have hs := sp_f c_3 hs
    refine lv_iload_n hx hb dX4_isInFocus_24 rfl (lv_at hl 0 rfl) ?_
    refine lv_iconst (v := 1) hx hb dX4_isInFocus_25 (by decide) ?_
    refine lv_icmp_gt (tgt := 33) hx hb dX4_isInFocus_26 (by decide) (fun c_4 => ?_) (fun c_4 => ?_)
    · have hs := sp_t c_4 hs
      refine lv_iconst (v := 0) hx hb dX4_isInFocus_33 (by decide) ?_
      exact rt_z hx hb hr (by decide) hs dX4_isInFocus_34 hlocks
    · have hs := sp_f c_4 hs
      refine lv_iconst (v := 1) hx hb dX4_isInFocus_29 (by decide) ?_
      refine lv_goto (tgt := 34) hx hb dX4_isInFocus_30 (by decide) ?_
      exact rt_z hx hb hr (by decide) hs dX4_isInFocus_34 hlocks
def s_X4_lightOf_b4 (x : XS) (a1 : Int32) : Nat → Int32 → Int32 → Option Int32
  | 0, _, _ => none
  | F + 1, p2, p3 => (if 10 ≤ p3 then some (p2) else (s_X4_find x p3).bind fun v_2 => opq v_2 (s_X4_lightOf_b4 x a1 F (p2) (p3 + 1)) (fun j_2 => grd j_2 (x).2.2 ((s_X0_shines x j_2).bind fun v_4 => (if v_4 = 0 then s_X4_lightOf_b4 x a1 F (p2) (p3 + 1) else (s_X4_lightFrom x j_2 a1).bind fun v_6 => s_X4_lightOf_b4 x a1 F (p2 + v_6) (p3 + 1)))))
def s_X4_lightOf (x : XS) (a1 : Int32) : Option Int32 := s_X4_lightOf_b4 x a1  FU (0) (0)
set_option maxHeartbeats 4000000 in
set_option maxRecDepth 100000 in
theorem c_X4_lightOf (l : Launch) (D : va_G) (ca : Nat → ClassId) (g : Nat → Nat) (x : XS) (a1 : Int32) {r : Int32} (hs : s_X4_lightOf x a1 = some r) : Met l yX4_lightOf wsX4_lightOf ({ frames := 5, cells := 0, slots := 0, locals := 116 }) (rP [.ref (g 0), .int (a1)] D ca (wX g ca x)) (vp_Si (fun z => z = r)) 0 0 (fun _ => False) := by
  refine Met.ofW (cc := cX4_lightOf) (maxL := 5) (ret := (some .int)) (by decide) rfl ?_
  intro p e s m args below meth c s₁ B hml hv
  obtain ⟨rfl, hP, hC⟩ := hv
  have hx := B.exec
  have hb := B.bytes
  have hr := B.returns
  have hts := atoms_spec (ws := wsX4_lightOf) B.pre
  have hown : s.vm.findClass RX4 = some m.cls := findClass_of_methodNamed B.named
  have hlocks := B.notSynchronized
  have hK := hC.1
  have hl := lv_entry ([.ref (g 0), .int (a1)]) (n := 5) (Nat.le_of_ble_eq_true rfl)
  rw [lg_entry_eq]
  generalize (lg_sl ([.ref (g 0), .int (a1)]) ++ List.replicate (5 - (lg_sl ([.ref (g 0), .int (a1)])).length) Slot.unset).toArray = ls at hl ⊢
  have hl : lv_has ls 5 [(0, .ref (g 0)), (1, .int (a1))] := hl
  have b4 : ∀ (F : Nat) (p2 : Int32) (p3 : Int32), s_X4_lightOf_b4 x a1 F p2 p3 = some r → ∀ (ls : Array Slot), lv_has ls 5 [(0, .ref (g 0)), (1, .int (a1)), (2, .int (p2)), (3, .int (p3))] → W p l e (headSpec wsX4_lightOf ({ frames := 5, cells := 0, slots := 0, locals := 116 })).room s m #[.ref (g 0), .int (a1)] below meth c s.heap [] 0 0 (MQ below (vp_Si (fun z => z = r)) #[.ref (g 0), .int (a1)] s 0 0 (fun _ => False)) (F0 m 4 ls []) := by
    intro F
    induction F with
    | zero =>
      intro p2 p3 hs
      simp [s_X4_lightOf_b4] at hs
    | succ F ih4 =>
      intro p2 p3 hs ls hl
      rw [s_X4_lightOf_b4] at hs
      refine lv_iload_n hx hb dX4_lightOf_4 rfl (lv_at hl 3 rfl) ?_
      refine lv_bipush (v := 10) hx hb dX4_lightOf_5 (by decide) ?_
      refine lv_icmp_ge (tgt := 46) hx hb dX4_lightOf_7 (by decide) (fun c_1 => ?_) (fun c_1 => ?_)
      · have hs := sp_t c_1 hs
        refine lv_iload_n hx hb dX4_lightOf_46 rfl (lv_at hl 2 rfl) ?_
        exact rt_i hx hb hr hs dX4_lightOf_47 hlocks
      · have hs := sp_f c_1 hs
        refine lv_aload_n hx hb dX4_lightOf_10 rfl (lv_at hl 0 rfl) ?_
        refine lv_iload_n hx hb dX4_lightOf_11 rfl (lv_at hl 3 rfl) ?_
        obtain ⟨v_2, h_2, hs⟩ := sp_b hs
        refine rd_q (va_runV (As := [.int (p3)]) (rest := []) ⟨hx, hb, hml, hown, hts⟩ (c_X4_find l D ca g x p3 h_2) (cwV 1 hts gX4_lightOf_X4_find rfl rfl rfl (by decide +kernel) ⟨Nat.le_of_ble_eq_true rfl, Nat.le_of_ble_eq_true rfl⟩) (rP_V (q := (RX4, TX4, 16)) hP hC 0 rfl rfl) rfl rfl hl.1 rfl (lv_room (Nat.le_of_ble_eq_true rfl)) dX4_lightOf_12 ⟨Nat.zero_le _, Nat.zero_le _⟩) (fun o_2 => ?_) (fun j_2 o_2 => ?_)
        · have hs := sp_on o_2 hs
          refine lv_astoreN (lv' := [(4, .null), (0, .ref (g 0)), (1, .int (a1)), (2, .int (p2)), (3, .int (p3))]) hx hb dX4_lightOf_15 hl (by decide) rfl (fun ls hl => ?_)
          refine lv_aloadN hx hb dX4_lightOf_17 (lv_at hl 0 rfl) ?_
          refine lv_ifnullN (tgt := 40) hx hb dX4_lightOf_19 (by decide) ?_
          refine lv_iinc (v := p3 + 1) (lv' := [(3, .int (p3 + 1)), (4, .null), (0, .ref (g 0)), (1, .int (a1)), (2, .int (p2))]) hx hb dX4_lightOf_40 hl (k := 4) rfl rfl (by decide) rfl (fun ls hl => ?_)
          refine lv_goto (tgt := 4) hx hb dX4_lightOf_43 (by decide) ?_
          exact ih4  (p2) (p3 + 1) hs ls (lv_sub hl [2, 3, 4, 0] rfl)
        · have hs := sp_os o_2 hs
          refine lv_astore (lv' := [(4, .ref (adP g j_2)), (0, .ref (g 0)), (1, .int (a1)), (2, .int (p2)), (3, .int (p3))]) hx hb dX4_lightOf_15 hl (by decide) rfl (fun ls hl => ?_)
          refine lv_aload hx hb dX4_lightOf_17 (lv_at hl 0 rfl) ?_
          refine lv_ifnull hx hb dX4_lightOf_19 ?_
          refine lv_aload hx hb dX4_lightOf_22 (lv_at hl 0 rfl) ?_
          obtain ⟨h_3, hs⟩ := sp_g hs
          obtain ⟨v_4, h_4, hs⟩ := sp_b hs
          refine rd_i (va_runVN (As := []) (rest := []) ⟨hx, hb, hml, hown, hts⟩ (c_X0_shines l D ca g x j_2 h_4) ⟨va_cnB 0 hts gX4_lightOf_X0_shines_n193 rfl rfl rfl (hC.2.1 _ nk_X4_193) (hts (.initialized RX0) (by decide +kernel)) (by decide +kernel) ⟨Nat.le_of_ble_eq_true rfl, Nat.le_of_ble_eq_true rfl⟩, hts (.instanceMethod yX0_shines) (by decide +kernel), hts (.selects RX0 yX0_shines yX0_shines) (by decide +kernel)⟩ (rP_V (q := (RX0, TX0, 10)) hP hC (15 + j_2) (wX_proj h_3) rfl) rfl rfl hl.1 rfl (lv_room (Nat.le_of_ble_eq_true rfl)) dX4_lightOf_24 ⟨Nat.zero_le _, Nat.zero_le _⟩) ?_
          refine lv_if_eq (tgt := 40) hx hb dX4_lightOf_27 (by decide) (fun c_5 => ?_) (fun c_5 => ?_)
          · have hs := sp_t c_5 hs
            refine lv_iinc (v := p3 + 1) (lv' := [(3, .int (p3 + 1)), (4, .ref (adP g j_2)), (0, .ref (g 0)), (1, .int (a1)), (2, .int (p2))]) hx hb dX4_lightOf_40 hl (k := 4) rfl rfl (by decide) rfl (fun ls hl => ?_)
            refine lv_goto (tgt := 4) hx hb dX4_lightOf_43 (by decide) ?_
            exact ih4  (p2) (p3 + 1) hs ls (lv_sub hl [2, 3, 4, 0] rfl)
          · have hs := sp_f c_5 hs
            refine lv_iload_n hx hb dX4_lightOf_30 rfl (lv_at hl 3 rfl) ?_
            refine lv_aload_n hx hb dX4_lightOf_31 rfl (lv_at hl 1 rfl) ?_
            refine lv_aload hx hb dX4_lightOf_32 (lv_at hl 0 rfl) ?_
            refine lv_iload_n hx hb dX4_lightOf_34 rfl (lv_at hl 2 rfl) ?_
            obtain ⟨v_6, h_6, hs⟩ := sp_b hs
            refine rd_i (va_runV (As := [.ref (adP g j_2), .int (a1)]) (rest := [.int (p2)]) ⟨hx, hb, hml, hown, hts⟩ (c_X4_lightFrom l D ca g x j_2 a1 h_6) (cwV 2 hts gX4_lightOf_X4_lightFrom rfl rfl rfl (by decide +kernel) ⟨Nat.le_of_ble_eq_true rfl, Nat.le_of_ble_eq_true rfl⟩) (rP_V (q := (RX4, TX4, 16)) hP hC 0 rfl rfl) rfl rfl hl.1 rfl (lv_room (Nat.le_of_ble_eq_true rfl)) dX4_lightOf_35 ⟨Nat.zero_le _, Nat.zero_le _⟩) ?_
            refine lv_iadd hx hb dX4_lightOf_38 ?_
            refine lv_istore_n (lv' := [(2, .int (p2 + v_6)), (4, .ref (adP g j_2)), (0, .ref (g 0)), (1, .int (a1)), (3, .int (p3))]) hx hb dX4_lightOf_39 rfl hl (by decide) rfl (fun ls hl => ?_)
            refine lv_iinc (v := p3 + 1) (lv' := [(3, .int (p3 + 1)), (2, .int (p2 + v_6)), (4, .ref (adP g j_2)), (0, .ref (g 0)), (1, .int (a1))]) hx hb dX4_lightOf_40 hl (k := 4) rfl rfl (by decide) rfl (fun ls hl => ?_)
            refine lv_goto (tgt := 4) hx hb dX4_lightOf_43 (by decide) ?_
            exact ih4  (p2 + v_6) (p3 + 1) hs ls (lv_sub hl [3, 4, 1, 0] rfl)
  unfold s_X4_lightOf at hs
  refine lv_iconst (v := 0) hx hb dX4_lightOf_0 (by decide) ?_
  refine lv_istore_n (lv' := [(2, .int (0)), (0, .ref (g 0)), (1, .int (a1))]) hx hb dX4_lightOf_1 rfl hl (by decide) rfl (fun ls hl => ?_)
  refine lv_iconst (v := 0) hx hb dX4_lightOf_2 (by decide) ?_
  refine lv_istore_n (lv' := [(3, .int (0)), (2, .int (0)), (0, .ref (g 0)), (1, .int (a1))]) hx hb dX4_lightOf_3 rfl hl (by decide) rfl (fun ls hl => ?_)
  exact b4  FU (0) (0) hs ls (lv_sub hl [2, 3, 1, 0] rfl)
def s_X4_unfailedProjectors_b4 (x : XS) : Nat → Int32 → Int32 → Option Int32
  | 0, _, _ => none
  | F + 1, p1, p2 => (if 10 ≤ p2 then some (p1) else (s_X4_find x p2).bind fun v_2 => opq v_2 (s_X4_unfailedProjectors_b4 x F (p1) (p2 + 1)) (fun j_2 => grd j_2 (x).2.2 ((if (x.1 28 j_2) = 0 then s_X4_unfailedProjectors_b4 x F (p1 ||| (1 <<< (p2 &&& 31))) (p2 + 1) else s_X4_unfailedProjectors_b4 x F (p1) (p2 + 1)))))
def s_X4_unfailedProjectors (x : XS) : Option Int32 := s_X4_unfailedProjectors_b4 x  FU (0) (0)
set_option maxHeartbeats 4000000 in
set_option maxRecDepth 100000 in
theorem c_X4_unfailedProjectors (l : Launch) (D : va_G) (ca : Nat → ClassId) (g : Nat → Nat) (x : XS) {r : Int32} (hs : s_X4_unfailedProjectors x = some r) : Met l yX4_unfailedProjectors wsX4_unfailedProjectors ({ frames := 1, cells := 0, slots := 0, locals := 21 }) (rP [.ref (g 0)] D ca (wX g ca x)) (vp_Si (fun z => z = r)) 0 0 (fun _ => False) := by
  refine Met.ofW (cc := cX4_unfailedProjectors) (maxL := 4) (ret := (some .int)) (by decide) rfl ?_
  intro p e s m args below meth c s₁ B hml hv
  obtain ⟨rfl, hP, hC⟩ := hv
  have hx := B.exec
  have hb := B.bytes
  have hr := B.returns
  have hts := atoms_spec (ws := wsX4_unfailedProjectors) B.pre
  have hown : s.vm.findClass RX4 = some m.cls := findClass_of_methodNamed B.named
  have hlocks := B.notSynchronized
  have hK := hC.1
  have iX0 : ∀ w ∈ u_ws RX0 TX0 10, w ∈ wsX4_unfailedProjectors := by decide +kernel
  have hl := lv_entry ([.ref (g 0)]) (n := 4) (Nat.le_of_ble_eq_true rfl)
  rw [lg_entry_eq]
  generalize (lg_sl ([.ref (g 0)]) ++ List.replicate (4 - (lg_sl ([.ref (g 0)])).length) Slot.unset).toArray = ls at hl ⊢
  have hl : lv_has ls 4 [(0, .ref (g 0))] := hl
  have b4 : ∀ (F : Nat) (p1 : Int32) (p2 : Int32), s_X4_unfailedProjectors_b4 x F p1 p2 = some r → ∀ (ls : Array Slot), lv_has ls 4 [(0, .ref (g 0)), (1, .int (p1)), (2, .int (p2))] → W p l e (headSpec wsX4_unfailedProjectors ({ frames := 1, cells := 0, slots := 0, locals := 21 })).room s m #[.ref (g 0)] below meth c s.heap [] 0 0 (MQ below (vp_Si (fun z => z = r)) #[.ref (g 0)] s 0 0 (fun _ => False)) (F0 m 4 ls []) := by
    intro F
    induction F with
    | zero =>
      intro p1 p2 hs
      simp [s_X4_unfailedProjectors_b4] at hs
    | succ F ih4 =>
      intro p1 p2 hs ls hl
      rw [s_X4_unfailedProjectors_b4] at hs
      refine lv_iload_n hx hb dX4_unfailedProjectors_4 rfl (lv_at hl 2 rfl) ?_
      refine lv_bipush (v := 10) hx hb dX4_unfailedProjectors_5 (by decide) ?_
      refine lv_icmp_ge (tgt := 39) hx hb dX4_unfailedProjectors_7 (by decide) (fun c_1 => ?_) (fun c_1 => ?_)
      · have hs := sp_t c_1 hs
        refine lv_iload_n hx hb dX4_unfailedProjectors_39 rfl (lv_at hl 1 rfl) ?_
        exact rt_i hx hb hr hs dX4_unfailedProjectors_40 hlocks
      · have hs := sp_f c_1 hs
        refine lv_aload_n hx hb dX4_unfailedProjectors_10 rfl (lv_at hl 0 rfl) ?_
        refine lv_iload_n hx hb dX4_unfailedProjectors_11 rfl (lv_at hl 2 rfl) ?_
        obtain ⟨v_2, h_2, hs⟩ := sp_b hs
        refine rd_q (va_runV (As := [.int (p2)]) (rest := []) ⟨hx, hb, hml, hown, hts⟩ (c_X4_find l D ca g x p2 h_2) (cwV 1 hts gX4_unfailedProjectors_X4_find rfl rfl rfl (by decide +kernel) ⟨Nat.le_of_ble_eq_true rfl, Nat.le_of_ble_eq_true rfl⟩) (rP_V (q := (RX4, TX4, 16)) hP hC 0 rfl rfl) rfl rfl hl.1 rfl (lv_room (Nat.le_of_ble_eq_true rfl)) dX4_unfailedProjectors_12 ⟨Nat.zero_le _, Nat.zero_le _⟩) (fun o_2 => ?_) (fun j_2 o_2 => ?_)
        · have hs := sp_on o_2 hs
          refine lv_astore_nN (lv' := [(3, .null), (0, .ref (g 0)), (1, .int (p1)), (2, .int (p2))]) hx hb dX4_unfailedProjectors_15 rfl hl (by decide) rfl (fun ls hl => ?_)
          refine lv_aload_nN hx hb dX4_unfailedProjectors_16 rfl (lv_at hl 0 rfl) ?_
          refine lv_ifnullN (tgt := 33) hx hb dX4_unfailedProjectors_17 (by decide) ?_
          refine lv_iinc (v := p2 + 1) (lv' := [(2, .int (p2 + 1)), (3, .null), (0, .ref (g 0)), (1, .int (p1))]) hx hb dX4_unfailedProjectors_33 hl (k := 3) rfl rfl (by decide) rfl (fun ls hl => ?_)
          refine lv_goto (tgt := 4) hx hb dX4_unfailedProjectors_36 (by decide) ?_
          exact ih4  (p1) (p2 + 1) hs ls (lv_sub hl [2, 3, 0] rfl)
        · have hs := sp_os o_2 hs
          refine lv_astore_n (lv' := [(3, .ref (adP g j_2)), (0, .ref (g 0)), (1, .int (p1)), (2, .int (p2))]) hx hb dX4_unfailedProjectors_15 rfl hl (by decide) rfl (fun ls hl => ?_)
          refine lv_aload_n hx hb dX4_unfailedProjectors_16 rfl (lv_at hl 0 rfl) ?_
          refine lv_ifnull hx hb dX4_unfailedProjectors_17 ?_
          refine lv_aload_n hx hb dX4_unfailedProjectors_20 rfl (lv_at hl 0 rfl) ?_
          obtain ⟨h_3, hs⟩ := sp_g hs
          refine va_getN (D := D) (ci := 0) (fs := fsP (x) j_2) (v := .int (x.1 28 j_2)) (C := RX0) (T := TX0) (N := 10) hx hb hts iX0 hown hK hP (15 + j_2) (wX_proj h_3) rfl 8 (by decide) (va_Nw.use rfl (hC.2.1 _ nk_X4_170)) (fun _ h9 => h9) rfl dX4_unfailedProjectors_21 ?_
          refine lv_if_ne (tgt := 33) hx hb dX4_unfailedProjectors_24 (by decide) (fun c_4 => ?_) (fun c_4 => ?_)
          · have hs := sp_f c_4 hs
            refine lv_iinc (v := p2 + 1) (lv' := [(2, .int (p2 + 1)), (3, .ref (adP g j_2)), (0, .ref (g 0)), (1, .int (p1))]) hx hb dX4_unfailedProjectors_33 hl (k := 3) rfl rfl (by decide) rfl (fun ls hl => ?_)
            refine lv_goto (tgt := 4) hx hb dX4_unfailedProjectors_36 (by decide) ?_
            exact ih4  (p1) (p2 + 1) hs ls (lv_sub hl [2, 3, 0] rfl)
          · have hs := sp_t c_4 hs
            refine lv_iload_n hx hb dX4_unfailedProjectors_27 rfl (lv_at hl 2 rfl) ?_
            refine lv_iconst (v := 1) hx hb dX4_unfailedProjectors_28 (by decide) ?_
            refine lv_iload_n hx hb dX4_unfailedProjectors_29 rfl (lv_at hl 3 rfl) ?_
            refine lv_ishl hx hb dX4_unfailedProjectors_30 ?_
            refine lv_ior hx hb dX4_unfailedProjectors_31 ?_
            refine lv_istore_n (lv' := [(1, .int (p1 ||| (1 <<< (p2 &&& 31)))), (3, .ref (adP g j_2)), (0, .ref (g 0)), (2, .int (p2))]) hx hb dX4_unfailedProjectors_32 rfl hl (by decide) rfl (fun ls hl => ?_)
            refine lv_iinc (v := p2 + 1) (lv' := [(2, .int (p2 + 1)), (1, .int (p1 ||| (1 <<< (p2 &&& 31)))), (3, .ref (adP g j_2)), (0, .ref (g 0))]) hx hb dX4_unfailedProjectors_33 hl (k := 3) rfl rfl (by decide) rfl (fun ls hl => ?_)
            refine lv_goto (tgt := 4) hx hb dX4_unfailedProjectors_36 (by decide) ?_
            exact ih4  (p1 ||| (1 <<< (p2 &&& 31))) (p2 + 1) hs ls (lv_sub hl [3, 1, 0] rfl)
  unfold s_X4_unfailedProjectors at hs
  refine lv_iconst (v := 0) hx hb dX4_unfailedProjectors_0 (by decide) ?_
  refine lv_istore_n (lv' := [(1, .int (0)), (0, .ref (g 0))]) hx hb dX4_unfailedProjectors_1 rfl hl (by decide) rfl (fun ls hl => ?_)
  refine lv_iconst (v := 0) hx hb dX4_unfailedProjectors_2 (by decide) ?_
  refine lv_istore_n (lv' := [(2, .int (0)), (1, .int (0)), (0, .ref (g 0))]) hx hb dX4_unfailedProjectors_3 rfl hl (by decide) rfl (fun ls hl => ?_)
  exact b4  FU (0) (0) hs ls (lv_sub hl [2, 1, 0] rfl)
def s_X4_isCurfewNow (x : XS) : Option Int32 := (if ((x.1 0 15) - (x.1 0 15) / 1440 * 1440) < (x.1 0 8) then some 0 else (if (x.1 0 9) ≤ ((x.1 0 15) - (x.1 0 15) / 1440 * 1440) then some 0 else some 1))
set_option maxHeartbeats 4000000 in
set_option maxRecDepth 100000 in
theorem c_X4_isCurfewNow (l : Launch) (D : va_G) (ca : Nat → ClassId) (g : Nat → Nat) (x : XS) {r : Int32} (hs : s_X4_isCurfewNow x = some r) : Met l yX4_isCurfewNow wsX4_isCurfewNow ({ frames := 0, cells := 0, slots := 0, locals := 0 }) (rP [.ref (g 0)] D ca (wX g ca x)) (vp_Si (fun z => z = r)) 0 0 (fun _ => False) := by
  refine Met.ofW (cc := cX4_isCurfewNow) (maxL := 2) (ret := (some .boolean)) (by decide) rfl ?_
  intro p e s m args below meth c s₁ B hml hv
  obtain ⟨rfl, hP, hC⟩ := hv
  have hx := B.exec
  have hb := B.bytes
  have hr := B.returns
  have hts := atoms_spec (ws := wsX4_isCurfewNow) B.pre
  have hown : s.vm.findClass RX4 = some m.cls := findClass_of_methodNamed B.named
  have hlocks := B.notSynchronized
  have hK := hC.1
  have iX4 : ∀ w ∈ u_ws RX4 TX4 16, w ∈ wsX4_isCurfewNow := by decide +kernel
  have hl := lv_entry ([.ref (g 0)]) (n := 2) (Nat.le_of_ble_eq_true rfl)
  rw [lg_entry_eq]
  generalize (lg_sl ([.ref (g 0)]) ++ List.replicate (2 - (lg_sl ([.ref (g 0)])).length) Slot.unset).toArray = ls at hl ⊢
  have hl : lv_has ls 2 [(0, .ref (g 0))] := hl
  unfold s_X4_isCurfewNow at hs
  refine lv_aload_n hx hb dX4_isCurfewNow_0 rfl (lv_at hl 0 rfl) ?_
  refine va_get (D := D) (ci := 4) (fs := fsX g (x)) (v := .int (x.1 0 15)) (C := RX4) (T := TX4) (N := 16) hx hb hts iX4 hown hK hP 0 rfl rfl 15 (by decide) (hts (.fieldLink RX4 72 "FacadeShow" "minuteNow" "I") (by decide +kernel)) (fun _ h9 => h9) rfl dX4_isCurfewNow_1 ?_
  refine lv_sipush (v := 1440) hx hb dX4_isCurfewNow_4 (by decide) ?_
  refine lv_irem hx hb dX4_isCurfewNow_7 (by decide) ?_
  refine lv_istore_n (lv' := [(1, .int ((x.1 0 15) - (x.1 0 15) / 1440 * 1440)), (0, .ref (g 0))]) hx hb dX4_isCurfewNow_8 rfl hl (by decide) rfl (fun ls hl => ?_)
  refine lv_iload_n hx hb dX4_isCurfewNow_9 rfl (lv_at hl 0 rfl) ?_
  refine lv_aload_n hx hb dX4_isCurfewNow_10 rfl (lv_at hl 1 rfl) ?_
  refine va_get (D := D) (ci := 4) (fs := fsX g (x)) (v := .int (x.1 0 8)) (C := RX4) (T := TX4) (N := 16) hx hb hts iX4 hown hK hP 0 rfl rfl 8 (by decide) (hts (.fieldLink RX4 46 "FacadeShow" "curfewFrom" "I") (by decide +kernel)) (fun _ h9 => h9) rfl dX4_isCurfewNow_11 ?_
  refine lv_icmp_lt (tgt := 29) hx hb dX4_isCurfewNow_14 (by decide) (fun c_2 => ?_) (fun c_2 => ?_)
  · have hs := sp_t c_2 hs
    refine lv_iconst (v := 0) hx hb dX4_isCurfewNow_29 (by decide) ?_
    exact rt_z hx hb hr (by decide) hs dX4_isCurfewNow_30 hlocks
  · have hs := sp_f c_2 hs
    refine lv_iload_n hx hb dX4_isCurfewNow_17 rfl (lv_at hl 0 rfl) ?_
    refine lv_aload_n hx hb dX4_isCurfewNow_18 rfl (lv_at hl 1 rfl) ?_
    refine va_get (D := D) (ci := 4) (fs := fsX g (x)) (v := .int (x.1 0 9)) (C := RX4) (T := TX4) (N := 16) hx hb hts iX4 hown hK hP 0 rfl rfl 9 (by decide) (hts (.fieldLink RX4 49 "FacadeShow" "curfewTo" "I") (by decide +kernel)) (fun _ h9 => h9) rfl dX4_isCurfewNow_19 ?_
    refine lv_icmp_ge (tgt := 29) hx hb dX4_isCurfewNow_22 (by decide) (fun c_3 => ?_) (fun c_3 => ?_)
    · have hs := sp_t c_3 hs
      refine lv_iconst (v := 0) hx hb dX4_isCurfewNow_29 (by decide) ?_
      exact rt_z hx hb hr (by decide) hs dX4_isCurfewNow_30 hlocks
    · have hs := sp_f c_3 hs
      refine lv_iconst (v := 1) hx hb dX4_isCurfewNow_25 (by decide) ?_
      refine lv_goto (tgt := 30) hx hb dX4_isCurfewNow_26 (by decide) ?_
      exact rt_z hx hb hr (by decide) hs dX4_isCurfewNow_30 hlocks
def s_X4_lastFrameOfAll_b4 (x : XS) : Nat → Int32 → Int32 → Option Int32
  | 0, _, _ => none
  | F + 1, p1, p2 => (if 10 ≤ p2 then some (p1) else (s_X4_find x p2).bind fun v_2 => opq v_2 (s_X4_lastFrameOfAll_b4 x F (p1) (p2 + 1)) (fun j_2 => grd j_2 (x).2.2 ((s_X0_shines x j_2).bind fun v_4 => (if v_4 = 0 then s_X4_lastFrameOfAll_b4 x F (p1) (p2 + 1) else (if p1 = (-1) then s_X4_lastFrameOfAll_b4 x F (x.1 29 j_2) (p2 + 1) else (if p1 ≤ (x.1 29 j_2) then s_X4_lastFrameOfAll_b4 x F (p1) (p2 + 1) else s_X4_lastFrameOfAll_b4 x F (x.1 29 j_2) (p2 + 1)))))))
def s_X4_lastFrameOfAll (x : XS) : Option Int32 := s_X4_lastFrameOfAll_b4 x  FU (-1) (0)
set_option maxHeartbeats 4000000 in
set_option maxRecDepth 100000 in
theorem c_X4_lastFrameOfAll (l : Launch) (D : va_G) (ca : Nat → ClassId) (g : Nat → Nat) (x : XS) {r : Int32} (hs : s_X4_lastFrameOfAll x = some r) : Met l yX4_lastFrameOfAll wsX4_lastFrameOfAll ({ frames := 1, cells := 0, slots := 0, locals := 21 }) (rP [.ref (g 0)] D ca (wX g ca x)) (vp_Si (fun z => z = r)) 0 0 (fun _ => False) := by
  refine Met.ofW (cc := cX4_lastFrameOfAll) (maxL := 4) (ret := (some .int)) (by decide) rfl ?_
  intro p e s m args below meth c s₁ B hml hv
  obtain ⟨rfl, hP, hC⟩ := hv
  have hx := B.exec
  have hb := B.bytes
  have hr := B.returns
  have hts := atoms_spec (ws := wsX4_lastFrameOfAll) B.pre
  have hown : s.vm.findClass RX4 = some m.cls := findClass_of_methodNamed B.named
  have hlocks := B.notSynchronized
  have hK := hC.1
  have iX0 : ∀ w ∈ u_ws RX0 TX0 10, w ∈ wsX4_lastFrameOfAll := by decide +kernel
  have hl := lv_entry ([.ref (g 0)]) (n := 4) (Nat.le_of_ble_eq_true rfl)
  rw [lg_entry_eq]
  generalize (lg_sl ([.ref (g 0)]) ++ List.replicate (4 - (lg_sl ([.ref (g 0)])).length) Slot.unset).toArray = ls at hl ⊢
  have hl : lv_has ls 4 [(0, .ref (g 0))] := hl
  have b4 : ∀ (F : Nat) (p1 : Int32) (p2 : Int32), s_X4_lastFrameOfAll_b4 x F p1 p2 = some r → ∀ (ls : Array Slot), lv_has ls 4 [(0, .ref (g 0)), (1, .int (p1)), (2, .int (p2))] → W p l e (headSpec wsX4_lastFrameOfAll ({ frames := 1, cells := 0, slots := 0, locals := 21 })).room s m #[.ref (g 0)] below meth c s.heap [] 0 0 (MQ below (vp_Si (fun z => z = r)) #[.ref (g 0)] s 0 0 (fun _ => False)) (F0 m 4 ls []) := by
    intro F
    induction F with
    | zero =>
      intro p1 p2 hs
      simp [s_X4_lastFrameOfAll_b4] at hs
    | succ F ih4 =>
      intro p1 p2 hs ls hl
      rw [s_X4_lastFrameOfAll_b4] at hs
      refine lv_iload_n hx hb dX4_lastFrameOfAll_4 rfl (lv_at hl 2 rfl) ?_
      refine lv_bipush (v := 10) hx hb dX4_lastFrameOfAll_5 (by decide) ?_
      refine lv_icmp_ge (tgt := 51) hx hb dX4_lastFrameOfAll_7 (by decide) (fun c_1 => ?_) (fun c_1 => ?_)
      · have hs := sp_t c_1 hs
        refine lv_iload_n hx hb dX4_lastFrameOfAll_51 rfl (lv_at hl 1 rfl) ?_
        exact rt_i hx hb hr hs dX4_lastFrameOfAll_52 hlocks
      · have hs := sp_f c_1 hs
        refine lv_aload_n hx hb dX4_lastFrameOfAll_10 rfl (lv_at hl 0 rfl) ?_
        refine lv_iload_n hx hb dX4_lastFrameOfAll_11 rfl (lv_at hl 2 rfl) ?_
        obtain ⟨v_2, h_2, hs⟩ := sp_b hs
        refine rd_q (va_runV (As := [.int (p2)]) (rest := []) ⟨hx, hb, hml, hown, hts⟩ (c_X4_find l D ca g x p2 h_2) (cwV 1 hts gX4_lastFrameOfAll_X4_find rfl rfl rfl (by decide +kernel) ⟨Nat.le_of_ble_eq_true rfl, Nat.le_of_ble_eq_true rfl⟩) (rP_V (q := (RX4, TX4, 16)) hP hC 0 rfl rfl) rfl rfl hl.1 rfl (lv_room (Nat.le_of_ble_eq_true rfl)) dX4_lastFrameOfAll_12 ⟨Nat.zero_le _, Nat.zero_le _⟩) (fun o_2 => ?_) (fun j_2 o_2 => ?_)
        · have hs := sp_on o_2 hs
          refine lv_astore_nN (lv' := [(3, .null), (0, .ref (g 0)), (1, .int (p1)), (2, .int (p2))]) hx hb dX4_lastFrameOfAll_15 rfl hl (by decide) rfl (fun ls hl => ?_)
          refine lv_aload_nN hx hb dX4_lastFrameOfAll_16 rfl (lv_at hl 0 rfl) ?_
          refine lv_ifnullN (tgt := 45) hx hb dX4_lastFrameOfAll_17 (by decide) ?_
          refine lv_iinc (v := p2 + 1) (lv' := [(2, .int (p2 + 1)), (3, .null), (0, .ref (g 0)), (1, .int (p1))]) hx hb dX4_lastFrameOfAll_45 hl (k := 3) rfl rfl (by decide) rfl (fun ls hl => ?_)
          refine lv_goto (tgt := 4) hx hb dX4_lastFrameOfAll_48 (by decide) ?_
          exact ih4  (p1) (p2 + 1) hs ls (lv_sub hl [2, 3, 0] rfl)
        · have hs := sp_os o_2 hs
          refine lv_astore_n (lv' := [(3, .ref (adP g j_2)), (0, .ref (g 0)), (1, .int (p1)), (2, .int (p2))]) hx hb dX4_lastFrameOfAll_15 rfl hl (by decide) rfl (fun ls hl => ?_)
          refine lv_aload_n hx hb dX4_lastFrameOfAll_16 rfl (lv_at hl 0 rfl) ?_
          refine lv_ifnull hx hb dX4_lastFrameOfAll_17 ?_
          refine lv_aload_n hx hb dX4_lastFrameOfAll_20 rfl (lv_at hl 0 rfl) ?_
          obtain ⟨h_3, hs⟩ := sp_g hs
          obtain ⟨v_4, h_4, hs⟩ := sp_b hs
          refine rd_i (va_runVN (As := []) (rest := []) ⟨hx, hb, hml, hown, hts⟩ (c_X0_shines l D ca g x j_2 h_4) ⟨va_cnB 0 hts gX4_lastFrameOfAll_X0_shines_n193 rfl rfl rfl (hC.2.1 _ nk_X4_193) (hts (.initialized RX0) (by decide +kernel)) (by decide +kernel) ⟨Nat.le_of_ble_eq_true rfl, Nat.le_of_ble_eq_true rfl⟩, hts (.instanceMethod yX0_shines) (by decide +kernel), hts (.selects RX0 yX0_shines yX0_shines) (by decide +kernel)⟩ (rP_V (q := (RX0, TX0, 10)) hP hC (15 + j_2) (wX_proj h_3) rfl) rfl rfl hl.1 rfl (lv_room (Nat.le_of_ble_eq_true rfl)) dX4_lastFrameOfAll_21 ⟨Nat.zero_le _, Nat.zero_le _⟩) ?_
          refine lv_if_eq (tgt := 45) hx hb dX4_lastFrameOfAll_24 (by decide) (fun c_5 => ?_) (fun c_5 => ?_)
          · have hs := sp_t c_5 hs
            refine lv_iinc (v := p2 + 1) (lv' := [(2, .int (p2 + 1)), (3, .ref (adP g j_2)), (0, .ref (g 0)), (1, .int (p1))]) hx hb dX4_lastFrameOfAll_45 hl (k := 3) rfl rfl (by decide) rfl (fun ls hl => ?_)
            refine lv_goto (tgt := 4) hx hb dX4_lastFrameOfAll_48 (by decide) ?_
            exact ih4  (p1) (p2 + 1) hs ls (lv_sub hl [2, 3, 0] rfl)
          · have hs := sp_f c_5 hs
            refine lv_iload_n hx hb dX4_lastFrameOfAll_27 rfl (lv_at hl 2 rfl) ?_
            refine lv_iconst (v := -1) hx hb dX4_lastFrameOfAll_28 (by decide) ?_
            refine lv_icmp_eq (tgt := 40) hx hb dX4_lastFrameOfAll_29 (by decide) (fun c_6 => ?_) (fun c_6 => ?_)
            · have hs := sp_t c_6 hs
              refine lv_aload_n hx hb dX4_lastFrameOfAll_40 rfl (lv_at hl 0 rfl) ?_
              refine va_getN (D := D) (ci := 0) (fs := fsP (x) j_2) (v := .int (x.1 29 j_2)) (C := RX0) (T := TX0) (N := 10) hx hb hts iX0 hown hK hP (15 + j_2) (wX_proj h_3) rfl 9 (by decide) (va_Nw.use rfl (hC.2.1 _ nk_X4_231)) (fun _ h9 => h9) rfl dX4_lastFrameOfAll_41 ?_
              refine lv_istore_n (lv' := [(1, .int (x.1 29 j_2)), (3, .ref (adP g j_2)), (0, .ref (g 0)), (2, .int (p2))]) hx hb dX4_lastFrameOfAll_44 rfl hl (by decide) rfl (fun ls hl => ?_)
              refine lv_iinc (v := p2 + 1) (lv' := [(2, .int (p2 + 1)), (1, .int (x.1 29 j_2)), (3, .ref (adP g j_2)), (0, .ref (g 0))]) hx hb dX4_lastFrameOfAll_45 hl (k := 3) rfl rfl (by decide) rfl (fun ls hl => ?_)
              refine lv_goto (tgt := 4) hx hb dX4_lastFrameOfAll_48 (by decide) ?_
              exact ih4  (x.1 29 j_2) (p2 + 1) hs ls (lv_sub hl [3, 1, 0] rfl)
            · have hs := sp_f c_6 hs
              refine lv_aload_n hx hb dX4_lastFrameOfAll_32 rfl (lv_at hl 0 rfl) ?_
              refine va_getN (D := D) (ci := 0) (fs := fsP (x) j_2) (v := .int (x.1 29 j_2)) (C := RX0) (T := TX0) (N := 10) hx hb hts iX0 hown hK hP (15 + j_2) (wX_proj h_3) rfl 9 (by decide) (va_Nw.use rfl (hC.2.1 _ nk_X4_231)) (fun _ h9 => h9) rfl dX4_lastFrameOfAll_33 ?_
              refine lv_iload_n hx hb dX4_lastFrameOfAll_36 rfl (lv_at hl 2 rfl) ?_
              refine lv_icmp_ge (tgt := 45) hx hb dX4_lastFrameOfAll_37 (by decide) (fun c_7 => ?_) (fun c_7 => ?_)
              · have hs := sp_t c_7 hs
                refine lv_iinc (v := p2 + 1) (lv' := [(2, .int (p2 + 1)), (3, .ref (adP g j_2)), (0, .ref (g 0)), (1, .int (p1))]) hx hb dX4_lastFrameOfAll_45 hl (k := 3) rfl rfl (by decide) rfl (fun ls hl => ?_)
                refine lv_goto (tgt := 4) hx hb dX4_lastFrameOfAll_48 (by decide) ?_
                exact ih4  (p1) (p2 + 1) hs ls (lv_sub hl [2, 3, 0] rfl)
              · have hs := sp_f c_7 hs
                refine lv_aload_n hx hb dX4_lastFrameOfAll_40 rfl (lv_at hl 0 rfl) ?_
                refine va_getN (D := D) (ci := 0) (fs := fsP (x) j_2) (v := .int (x.1 29 j_2)) (C := RX0) (T := TX0) (N := 10) hx hb hts iX0 hown hK hP (15 + j_2) (wX_proj h_3) rfl 9 (by decide) (va_Nw.use rfl (hC.2.1 _ nk_X4_231)) (fun _ h9 => h9) rfl dX4_lastFrameOfAll_41 ?_
                refine lv_istore_n (lv' := [(1, .int (x.1 29 j_2)), (3, .ref (adP g j_2)), (0, .ref (g 0)), (2, .int (p2))]) hx hb dX4_lastFrameOfAll_44 rfl hl (by decide) rfl (fun ls hl => ?_)
                refine lv_iinc (v := p2 + 1) (lv' := [(2, .int (p2 + 1)), (1, .int (x.1 29 j_2)), (3, .ref (adP g j_2)), (0, .ref (g 0))]) hx hb dX4_lastFrameOfAll_45 hl (k := 3) rfl rfl (by decide) rfl (fun ls hl => ?_)
                refine lv_goto (tgt := 4) hx hb dX4_lastFrameOfAll_48 (by decide) ?_
                exact ih4  (x.1 29 j_2) (p2 + 1) hs ls (lv_sub hl [3, 1, 0] rfl)
  unfold s_X4_lastFrameOfAll at hs
  refine lv_iconst (v := -1) hx hb dX4_lastFrameOfAll_0 (by decide) ?_
  refine lv_istore_n (lv' := [(1, .int (-1)), (0, .ref (g 0))]) hx hb dX4_lastFrameOfAll_1 rfl hl (by decide) rfl (fun ls hl => ?_)
  refine lv_iconst (v := 0) hx hb dX4_lastFrameOfAll_2 (by decide) ?_
  refine lv_istore_n (lv' := [(2, .int (0)), (1, .int (-1)), (0, .ref (g 0))]) hx hb dX4_lastFrameOfAll_3 rfl hl (by decide) rfl (fun ls hl => ?_)
  exact b4  FU (-1) (0) hs ls (lv_sub hl [2, 1, 0] rfl)
def s_X4_breaches_b4 (x : XS) : Nat → Int32 → Int32 → Option Int32
  | 0, _, _ => none
  | F + 1, p1, p2 => (if 10 ≤ p2 then some (p1) else (s_X4_find x p2).bind fun v_2 => opq v_2 (s_X4_breaches_b4 x F (p1) (p2 + 1)) (fun j_2 => grd j_2 (x).2.2 ((s_X0_shines x j_2).bind fun v_4 => (if v_4 = 0 then s_X4_breaches_b4 x F (p1) (p2 + 1) else (s_X4_breachesBy x j_2).bind fun v_6 => s_X4_breaches_b4 x F (p1 + v_6) (p2 + 1)))))
def s_X4_breaches (x : XS) : Option Int32 := s_X4_breaches_b4 x  FU (0) (0)
set_option maxHeartbeats 4000000 in
set_option maxRecDepth 100000 in
theorem c_X4_breaches (l : Launch) (D : va_G) (ca : Nat → ClassId) (g : Nat → Nat) (x : XS) {r : Int32} (hs : s_X4_breaches x = some r) : Met l yX4_breaches wsX4_breaches ({ frames := 5, cells := 0, slots := 0, locals := 114 }) (rP [.ref (g 0)] D ca (wX g ca x)) (vp_Si (fun z => z = r)) 0 0 (fun _ => False) := by
  refine Met.ofW (cc := cX4_breaches) (maxL := 4) (ret := (some .int)) (by decide) rfl ?_
  intro p e s m args below meth c s₁ B hml hv
  obtain ⟨rfl, hP, hC⟩ := hv
  have hx := B.exec
  have hb := B.bytes
  have hr := B.returns
  have hts := atoms_spec (ws := wsX4_breaches) B.pre
  have hown : s.vm.findClass RX4 = some m.cls := findClass_of_methodNamed B.named
  have hlocks := B.notSynchronized
  have hK := hC.1
  have hl := lv_entry ([.ref (g 0)]) (n := 4) (Nat.le_of_ble_eq_true rfl)
  rw [lg_entry_eq]
  generalize (lg_sl ([.ref (g 0)]) ++ List.replicate (4 - (lg_sl ([.ref (g 0)])).length) Slot.unset).toArray = ls at hl ⊢
  have hl : lv_has ls 4 [(0, .ref (g 0))] := hl
  have b4 : ∀ (F : Nat) (p1 : Int32) (p2 : Int32), s_X4_breaches_b4 x F p1 p2 = some r → ∀ (ls : Array Slot), lv_has ls 4 [(0, .ref (g 0)), (1, .int (p1)), (2, .int (p2))] → W p l e (headSpec wsX4_breaches ({ frames := 5, cells := 0, slots := 0, locals := 114 })).room s m #[.ref (g 0)] below meth c s.heap [] 0 0 (MQ below (vp_Si (fun z => z = r)) #[.ref (g 0)] s 0 0 (fun _ => False)) (F0 m 4 ls []) := by
    intro F
    induction F with
    | zero =>
      intro p1 p2 hs
      simp [s_X4_breaches_b4] at hs
    | succ F ih4 =>
      intro p1 p2 hs ls hl
      rw [s_X4_breaches_b4] at hs
      refine lv_iload_n hx hb dX4_breaches_4 rfl (lv_at hl 2 rfl) ?_
      refine lv_bipush (v := 10) hx hb dX4_breaches_5 (by decide) ?_
      refine lv_icmp_ge (tgt := 41) hx hb dX4_breaches_7 (by decide) (fun c_1 => ?_) (fun c_1 => ?_)
      · have hs := sp_t c_1 hs
        refine lv_iload_n hx hb dX4_breaches_41 rfl (lv_at hl 1 rfl) ?_
        exact rt_i hx hb hr hs dX4_breaches_42 hlocks
      · have hs := sp_f c_1 hs
        refine lv_aload_n hx hb dX4_breaches_10 rfl (lv_at hl 0 rfl) ?_
        refine lv_iload_n hx hb dX4_breaches_11 rfl (lv_at hl 2 rfl) ?_
        obtain ⟨v_2, h_2, hs⟩ := sp_b hs
        refine rd_q (va_runV (As := [.int (p2)]) (rest := []) ⟨hx, hb, hml, hown, hts⟩ (c_X4_find l D ca g x p2 h_2) (cwV 1 hts gX4_breaches_X4_find rfl rfl rfl (by decide +kernel) ⟨Nat.le_of_ble_eq_true rfl, Nat.le_of_ble_eq_true rfl⟩) (rP_V (q := (RX4, TX4, 16)) hP hC 0 rfl rfl) rfl rfl hl.1 rfl (lv_room (Nat.le_of_ble_eq_true rfl)) dX4_breaches_12 ⟨Nat.zero_le _, Nat.zero_le _⟩) (fun o_2 => ?_) (fun j_2 o_2 => ?_)
        · have hs := sp_on o_2 hs
          refine lv_astore_nN (lv' := [(3, .null), (0, .ref (g 0)), (1, .int (p1)), (2, .int (p2))]) hx hb dX4_breaches_15 rfl hl (by decide) rfl (fun ls hl => ?_)
          refine lv_aload_nN hx hb dX4_breaches_16 rfl (lv_at hl 0 rfl) ?_
          refine lv_ifnullN (tgt := 35) hx hb dX4_breaches_17 (by decide) ?_
          refine lv_iinc (v := p2 + 1) (lv' := [(2, .int (p2 + 1)), (3, .null), (0, .ref (g 0)), (1, .int (p1))]) hx hb dX4_breaches_35 hl (k := 3) rfl rfl (by decide) rfl (fun ls hl => ?_)
          refine lv_goto (tgt := 4) hx hb dX4_breaches_38 (by decide) ?_
          exact ih4  (p1) (p2 + 1) hs ls (lv_sub hl [2, 3, 0] rfl)
        · have hs := sp_os o_2 hs
          refine lv_astore_n (lv' := [(3, .ref (adP g j_2)), (0, .ref (g 0)), (1, .int (p1)), (2, .int (p2))]) hx hb dX4_breaches_15 rfl hl (by decide) rfl (fun ls hl => ?_)
          refine lv_aload_n hx hb dX4_breaches_16 rfl (lv_at hl 0 rfl) ?_
          refine lv_ifnull hx hb dX4_breaches_17 ?_
          refine lv_aload_n hx hb dX4_breaches_20 rfl (lv_at hl 0 rfl) ?_
          obtain ⟨h_3, hs⟩ := sp_g hs
          obtain ⟨v_4, h_4, hs⟩ := sp_b hs
          refine rd_i (va_runVN (As := []) (rest := []) ⟨hx, hb, hml, hown, hts⟩ (c_X0_shines l D ca g x j_2 h_4) ⟨va_cnB 0 hts gX4_breaches_X0_shines_n193 rfl rfl rfl (hC.2.1 _ nk_X4_193) (hts (.initialized RX0) (by decide +kernel)) (by decide +kernel) ⟨Nat.le_of_ble_eq_true rfl, Nat.le_of_ble_eq_true rfl⟩, hts (.instanceMethod yX0_shines) (by decide +kernel), hts (.selects RX0 yX0_shines yX0_shines) (by decide +kernel)⟩ (rP_V (q := (RX0, TX0, 10)) hP hC (15 + j_2) (wX_proj h_3) rfl) rfl rfl hl.1 rfl (lv_room (Nat.le_of_ble_eq_true rfl)) dX4_breaches_21 ⟨Nat.zero_le _, Nat.zero_le _⟩) ?_
          refine lv_if_eq (tgt := 35) hx hb dX4_breaches_24 (by decide) (fun c_5 => ?_) (fun c_5 => ?_)
          · have hs := sp_t c_5 hs
            refine lv_iinc (v := p2 + 1) (lv' := [(2, .int (p2 + 1)), (3, .ref (adP g j_2)), (0, .ref (g 0)), (1, .int (p1))]) hx hb dX4_breaches_35 hl (k := 3) rfl rfl (by decide) rfl (fun ls hl => ?_)
            refine lv_goto (tgt := 4) hx hb dX4_breaches_38 (by decide) ?_
            exact ih4  (p1) (p2 + 1) hs ls (lv_sub hl [2, 3, 0] rfl)
          · have hs := sp_f c_5 hs
            refine lv_iload_n hx hb dX4_breaches_27 rfl (lv_at hl 2 rfl) ?_
            refine lv_aload_n hx hb dX4_breaches_28 rfl (lv_at hl 1 rfl) ?_
            refine lv_aload_n hx hb dX4_breaches_29 rfl (lv_at hl 0 rfl) ?_
            obtain ⟨v_6, h_6, hs⟩ := sp_b hs
            refine rd_i (va_runV (As := [.ref (adP g j_2)]) (rest := [.int (p1)]) ⟨hx, hb, hml, hown, hts⟩ (c_X4_breachesBy l D ca g x j_2 h_6) (cwV 1 hts gX4_breaches_X4_breachesBy rfl rfl rfl (by decide +kernel) ⟨Nat.le_of_ble_eq_true rfl, Nat.le_of_ble_eq_true rfl⟩) (rP_V (q := (RX4, TX4, 16)) hP hC 0 rfl rfl) rfl rfl hl.1 rfl (lv_room (Nat.le_of_ble_eq_true rfl)) dX4_breaches_30 ⟨Nat.zero_le _, Nat.zero_le _⟩) ?_
            refine lv_iadd hx hb dX4_breaches_33 ?_
            refine lv_istore_n (lv' := [(1, .int (p1 + v_6)), (3, .ref (adP g j_2)), (0, .ref (g 0)), (2, .int (p2))]) hx hb dX4_breaches_34 rfl hl (by decide) rfl (fun ls hl => ?_)
            refine lv_iinc (v := p2 + 1) (lv' := [(2, .int (p2 + 1)), (1, .int (p1 + v_6)), (3, .ref (adP g j_2)), (0, .ref (g 0))]) hx hb dX4_breaches_35 hl (k := 3) rfl rfl (by decide) rfl (fun ls hl => ?_)
            refine lv_goto (tgt := 4) hx hb dX4_breaches_38 (by decide) ?_
            exact ih4  (p1 + v_6) (p2 + 1) hs ls (lv_sub hl [3, 1, 0] rfl)
  unfold s_X4_breaches at hs
  refine lv_iconst (v := 0) hx hb dX4_breaches_0 (by decide) ?_
  refine lv_istore_n (lv' := [(1, .int (0)), (0, .ref (g 0))]) hx hb dX4_breaches_1 rfl hl (by decide) rfl (fun ls hl => ?_)
  refine lv_iconst (v := 0) hx hb dX4_breaches_2 (by decide) ?_
  refine lv_istore_n (lv' := [(2, .int (0)), (1, .int (0)), (0, .ref (g 0))]) hx hb dX4_breaches_3 rfl hl (by decide) rfl (fun ls hl => ?_)
  exact b4  FU (0) (0) hs ls (lv_sub hl [2, 1, 0] rfl)
def s_X4_surveyLights_b33 (k10 : XS → Int32 → Int32 → Option XS) (xx : XS) (p1 : Int32) (p2 : Int32) : Option XS := (s_X3_note xx p1 p2 0 1).bind fun v_1 => k10 (v_1) (p1) (p2 + 1)
def s_X4_surveyLights_b10 (k2 : XS → Int32 → Option XS) : Nat → XS → Int32 → Int32 → Option XS
  | 0, _, _, _ => none
  | F + 1, xx, p1, p2 => (if 10 ≤ p2 then k2 (xx) (p1 + 1) else (s_X4_find xx p2).bind fun v_3 => opq v_3 (s_X4_surveyLights_b33  (fun zx z_p1 z_p2 => s_X4_surveyLights_b10 k2 F zx z_p1 z_p2) (xx) (p1) (p2)) (fun j_3 => grd j_3 (xx).2.2 ((if (xx.1 28 j_3) = 0 then (s_X4_lightFrom xx j_3 p1).bind fun v_6 => (s_X4_isInFocus xx j_3 p1).bind fun v_7 => (s_X3_note xx p1 p2 v_6 v_7).bind fun v_8 => s_X4_surveyLights_b10 k2 F (v_8) (p1) (p2 + 1) else s_X4_surveyLights_b33  (fun zx z_p1 z_p2 => s_X4_surveyLights_b10 k2 F zx z_p1 z_p2) (xx) (p1) (p2)))))
def s_X4_surveyLights_b2 : Nat → XS → Int32 → Option XS
  | 0, _, _ => none
  | F + 1, xx, p1 => (if 16 ≤ p1 then some (xx) else s_X4_surveyLights_b10  (fun zx z_p1 => s_X4_surveyLights_b2  F zx z_p1) FU (xx) (p1) (0))
def s_X4_surveyLights (x : XS) : Option XS := s_X4_surveyLights_b2   FU (x) (0)
set_option maxHeartbeats 4000000 in
set_option maxRecDepth 100000 in
theorem c_X4_surveyLights (l : Launch) (D : va_G) (ca : Nat → ClassId) (g : Nat → Nat) (x : XS) {r : XS} (hs : s_X4_surveyLights x = some r) (sz : Nat) : Met l yX4_surveyLights wsX4_surveyLights ({ frames := 5, cells := 0, slots := 0, locals := 116 }) (wP [.ref (g 0)] D ca (wX g ca x) sz) (wQv D (wX g ca x) (wX g ca r) sz) 0 0 (va_A (wX g ca x) sz) := by
  refine Met.ofW (cc := cX4_surveyLights) (maxL := 4) (ret := none) (by decide) rfl ?_
  intro p e s m args below meth c s₁ B hml hv
  obtain ⟨rfl, hsz, hP, hC, hD0⟩ := hv
  have hx := B.exec
  have hb := B.bytes
  have hr := B.returns
  have hts := atoms_spec (ws := wsX4_surveyLights) B.pre
  have hown : s.vm.findClass RX4 = some m.cls := findClass_of_methodNamed B.named
  have hlocks := B.notSynchronized
  have hK := hC.1
  subst hsz
  have hD := hD0.self (sz := s.heap.size)
  generalize hAe : va_A (wX g ca x) s.heap.size = A at hD ⊢
  have hA : ∀ q : Nat, s.heap.size ≤ q → A q := fun q h => by rw [← hAe]; exact Or.inr h
  have hS : va_S A s.heap s.heap [] := va_S.rf
  skip
  have iX0 : ∀ w ∈ u_ws RX0 TX0 10, w ∈ wsX4_surveyLights := by decide +kernel
  have iX4 : ∀ w ∈ u_ws RX4 TX4 16, w ∈ wsX4_surveyLights := by decide +kernel
  have hl := lv_entry ([.ref (g 0)]) (n := 4) (Nat.le_of_ble_eq_true rfl)
  rw [lg_entry_eq]
  generalize (lg_sl ([.ref (g 0)]) ++ List.replicate (4 - (lg_sl ([.ref (g 0)])).length) Slot.unset).toArray = ls at hl ⊢
  have hl : lv_has ls 4 [(0, .ref (g 0))] := hl
  have b33 : ∀ (k10 : XS → Int32 → Int32 → Option XS) (_ : ∀ (xx : XS) (p1 : Int32) (p2 : Int32), k10 xx p1 p2 = some r → ∀ (H : Heap) (locs : List Loc), va_P D vwCl (wX g ca xx) H → va_D A (wX g ca xx) → va_S A s.heap H locs → ∀ (ls : Array Slot), lv_has ls 4 [(0, .ref (g 0)), (1, .int (p1)), (2, .int (p2))] → W p l e (headSpec wsX4_surveyLights ({ frames := 5, cells := 0, slots := 0, locals := 116 })).room s m #[.ref (g 0)] below meth c H locs 0 0 (MQ below (wQv D (wX g ca x) (wX g ca r) s.heap.size) #[.ref (g 0)] s 0 0 A) (F0 m 10 ls [])) (xx : XS) (p1 : Int32) (p2 : Int32), s_X4_surveyLights_b33 k10 xx p1 p2 = some r → ∀ (H : Heap) (locs : List Loc), va_P D vwCl (wX g ca xx) H → va_D A (wX g ca xx) → va_S A s.heap H locs → ∀ (ls : Array Slot), lv_has ls 4 [(0, .ref (g 0)), (1, .int (p1)), (2, .int (p2))] → W p l e (headSpec wsX4_surveyLights ({ frames := 5, cells := 0, slots := 0, locals := 116 })).room s m #[.ref (g 0)] below meth c H locs 0 0 (MQ below (wQv D (wX g ca x) (wX g ca r) s.heap.size) #[.ref (g 0)] s 0 0 A) (F0 m 33 ls []) := by
    intro k10 hk10 xx p1 p2 hs H locs hP hD hS ls hl
    unfold s_X4_surveyLights_b33 at hs
    refine lv_aload_n hx hb dX4_surveyLights_33 rfl (lv_at hl 0 rfl) ?_
    refine va_get (D := D) (ci := 4) (fs := fsX g (xx)) (v := .ref (g 4)) (C := RX4) (T := TX4) (N := 16) hx hb hts iX4 hown hK hP 0 rfl rfl 7 (by decide) (hts (.fieldLink RX4 42 "FacadeShow" "survey" "LFacadeShow$Survey;") (by decide +kernel)) (fun _ h9 => h9) rfl dX4_surveyLights_34 ?_
    refine lv_iload_n hx hb dX4_surveyLights_37 rfl (lv_at hl 1 rfl) ?_
    refine lv_iload_n hx hb dX4_surveyLights_38 rfl (lv_at hl 2 rfl) ?_
    refine lv_iconst (v := 0) hx hb dX4_surveyLights_39 (by decide) ?_
    refine lv_iconst (v := 1) hx hb dX4_surveyLights_40 (by decide) ?_
    obtain ⟨v_1, h_1, hs⟩ := sp_b hs
    refine wr_v (va_runVN (As := [.int (p1), .int (p2), .int (0), .int (1)]) (rest := []) ⟨hx, hb, hml, hown, hts⟩ (c_X3_note l D ca g xx p1 p2 0 1 h_1 H.size) ⟨va_cnB 4 hts gX4_surveyLights_X3_note_n300 rfl rfl rfl (hC.2.1 _ nk_X4_300) (hts (.initialized RX3) (by decide +kernel)) (by decide +kernel) ⟨Nat.le_of_ble_eq_true rfl, Nat.le_of_ble_eq_true rfl⟩, hts (.instanceMethod yX3_note) (by decide +kernel), hts (.selects RX3 yX3_note yX3_note) (by decide +kernel)⟩ (wP_V (q := (RX3, TX3, 2)) hP hC hD 7 rfl rfl) rfl rfl hl.1 rfl (lv_room (Nat.le_of_ble_eq_true rfl)) dX4_surveyLights_41 ⟨Nat.zero_le _, Nat.zero_le _⟩) hD hS hA (fun H locs hP hD hS => ?_)
    refine lv_goto (tgt := 68) hx hb dX4_surveyLights_44 (by decide) ?_
    refine lv_iinc (v := p2 + 1) (lv' := [(2, .int (p2 + 1)), (0, .ref (g 0)), (1, .int (p1))]) hx hb dX4_surveyLights_68 hl (k := 2) rfl rfl (by decide) rfl (fun ls hl => ?_)
    refine lv_goto (tgt := 10) hx hb dX4_surveyLights_71 (by decide) ?_
    exact hk10  (v_1) (p1) (p2 + 1) hs H locs hP hD hS ls (lv_sub hl [1, 2, 0] rfl)
  have b10 : ∀ (k2 : XS → Int32 → Option XS) (_ : ∀ (xx : XS) (p1 : Int32), k2 xx p1 = some r → ∀ (H : Heap) (locs : List Loc), va_P D vwCl (wX g ca xx) H → va_D A (wX g ca xx) → va_S A s.heap H locs → ∀ (ls : Array Slot), lv_has ls 4 [(0, .ref (g 0)), (1, .int (p1))] → W p l e (headSpec wsX4_surveyLights ({ frames := 5, cells := 0, slots := 0, locals := 116 })).room s m #[.ref (g 0)] below meth c H locs 0 0 (MQ below (wQv D (wX g ca x) (wX g ca r) s.heap.size) #[.ref (g 0)] s 0 0 A) (F0 m 2 ls [])) (F : Nat) (xx : XS) (p1 : Int32) (p2 : Int32), s_X4_surveyLights_b10 k2 F xx p1 p2 = some r → ∀ (H : Heap) (locs : List Loc), va_P D vwCl (wX g ca xx) H → va_D A (wX g ca xx) → va_S A s.heap H locs → ∀ (ls : Array Slot), lv_has ls 4 [(0, .ref (g 0)), (1, .int (p1)), (2, .int (p2))] → W p l e (headSpec wsX4_surveyLights ({ frames := 5, cells := 0, slots := 0, locals := 116 })).room s m #[.ref (g 0)] below meth c H locs 0 0 (MQ below (wQv D (wX g ca x) (wX g ca r) s.heap.size) #[.ref (g 0)] s 0 0 A) (F0 m 10 ls []) := by
    intro k2 hk2
    intro F
    induction F with
    | zero =>
      intro xx p1 p2 hs
      simp [s_X4_surveyLights_b10] at hs
    | succ F ih10 =>
      intro xx p1 p2 hs H locs hP hD hS ls hl
      rw [s_X4_surveyLights_b10] at hs
      refine lv_iload_n hx hb dX4_surveyLights_10 rfl (lv_at hl 2 rfl) ?_
      refine lv_bipush (v := 10) hx hb dX4_surveyLights_11 (by decide) ?_
      refine lv_icmp_ge (tgt := 74) hx hb dX4_surveyLights_13 (by decide) (fun c_2 => ?_) (fun c_2 => ?_)
      · have hs := sp_t c_2 hs
        refine lv_iinc (v := p1 + 1) (lv' := [(1, .int (p1 + 1)), (0, .ref (g 0)), (2, .int (p2))]) hx hb dX4_surveyLights_74 hl (k := 1) rfl rfl (by decide) rfl (fun ls hl => ?_)
        refine lv_goto (tgt := 2) hx hb dX4_surveyLights_77 (by decide) ?_
        exact hk2  (xx) (p1 + 1) hs H locs hP hD hS ls (lv_sub hl [1, 0] rfl)
      · have hs := sp_f c_2 hs
        refine lv_aload_n hx hb dX4_surveyLights_16 rfl (lv_at hl 0 rfl) ?_
        refine lv_iload_n hx hb dX4_surveyLights_17 rfl (lv_at hl 2 rfl) ?_
        obtain ⟨v_3, h_3, hs⟩ := sp_b hs
        refine rd_q (va_runV (As := [.int (p2)]) (rest := []) ⟨hx, hb, hml, hown, hts⟩ (c_X4_find l D ca g xx p2 h_3) (cwV 1 hts gX4_surveyLights_X4_find rfl rfl rfl (by decide +kernel) ⟨Nat.le_of_ble_eq_true rfl, Nat.le_of_ble_eq_true rfl⟩) (rP_V (q := (RX4, TX4, 16)) hP hC 0 rfl rfl) rfl rfl hl.1 rfl (lv_room (Nat.le_of_ble_eq_true rfl)) dX4_surveyLights_18 ⟨Nat.zero_le _, Nat.zero_le _⟩) (fun o_3 => ?_) (fun j_3 o_3 => ?_)
        · have hs := sp_on o_3 hs
          refine lv_astore_nN (lv' := [(3, .null), (0, .ref (g 0)), (1, .int (p1)), (2, .int (p2))]) hx hb dX4_surveyLights_21 rfl hl (by decide) rfl (fun ls hl => ?_)
          refine lv_aload_nN hx hb dX4_surveyLights_22 rfl (lv_at hl 0 rfl) ?_
          refine lv_ifnullN (tgt := 33) hx hb dX4_surveyLights_23 (by decide) ?_
          exact b33 (fun zx z_p1 z_p2 => s_X4_surveyLights_b10 k2 F zx z_p1 z_p2) (fun zx z_p1 z_p2 hs => ih10 zx z_p1 z_p2 hs) (xx) (p1) (p2) hs H locs hP hD hS ls (lv_sub hl [1, 2, 3] rfl)
        · have hs := sp_os o_3 hs
          refine lv_astore_n (lv' := [(3, .ref (adP g j_3)), (0, .ref (g 0)), (1, .int (p1)), (2, .int (p2))]) hx hb dX4_surveyLights_21 rfl hl (by decide) rfl (fun ls hl => ?_)
          refine lv_aload_n hx hb dX4_surveyLights_22 rfl (lv_at hl 0 rfl) ?_
          refine lv_ifnull hx hb dX4_surveyLights_23 ?_
          refine lv_aload_n hx hb dX4_surveyLights_26 rfl (lv_at hl 0 rfl) ?_
          obtain ⟨h_4, hs⟩ := sp_g hs
          refine va_getN (D := D) (ci := 0) (fs := fsP (xx) j_3) (v := .int (xx.1 28 j_3)) (C := RX0) (T := TX0) (N := 10) hx hb hts iX0 hown hK hP (15 + j_3) (wX_proj h_4) rfl 8 (by decide) (va_Nw.use rfl (hC.2.1 _ nk_X4_170)) (fun _ h9 => h9) rfl dX4_surveyLights_27 ?_
          refine lv_if_eq (tgt := 47) hx hb dX4_surveyLights_30 (by decide) (fun c_5 => ?_) (fun c_5 => ?_)
          · have hs := sp_t c_5 hs
            refine lv_aload_n hx hb dX4_surveyLights_47 rfl (lv_at hl 1 rfl) ?_
            refine va_get (D := D) (ci := 4) (fs := fsX g (xx)) (v := .ref (g 4)) (C := RX4) (T := TX4) (N := 16) hx hb hts iX4 hown hK hP 0 rfl rfl 7 (by decide) (hts (.fieldLink RX4 42 "FacadeShow" "survey" "LFacadeShow$Survey;") (by decide +kernel)) (fun _ h9 => h9) rfl dX4_surveyLights_48 ?_
            refine lv_iload_n hx hb dX4_surveyLights_51 rfl (lv_at hl 2 rfl) ?_
            refine lv_iload_n hx hb dX4_surveyLights_52 rfl (lv_at hl 3 rfl) ?_
            refine lv_aload_n hx hb dX4_surveyLights_53 rfl (lv_at hl 1 rfl) ?_
            refine lv_aload_n hx hb dX4_surveyLights_54 rfl (lv_at hl 0 rfl) ?_
            refine lv_iload_n hx hb dX4_surveyLights_55 rfl (lv_at hl 2 rfl) ?_
            obtain ⟨v_6, h_6, hs⟩ := sp_b hs
            refine rd_i (va_runV (As := [.ref (adP g j_3), .int (p1)]) (rest := [.int (p2), .int (p1), .ref (g 4)]) ⟨hx, hb, hml, hown, hts⟩ (c_X4_lightFrom l D ca g xx j_3 p1 h_6) (cwV 2 hts gX4_surveyLights_X4_lightFrom rfl rfl rfl (by decide +kernel) ⟨Nat.le_of_ble_eq_true rfl, Nat.le_of_ble_eq_true rfl⟩) (rP_V (q := (RX4, TX4, 16)) hP hC 0 rfl rfl) rfl rfl hl.1 rfl (lv_room (Nat.le_of_ble_eq_true rfl)) dX4_surveyLights_56 ⟨Nat.zero_le _, Nat.zero_le _⟩) ?_
            refine lv_aload_n hx hb dX4_surveyLights_59 rfl (lv_at hl 1 rfl) ?_
            refine lv_aload_n hx hb dX4_surveyLights_60 rfl (lv_at hl 0 rfl) ?_
            refine lv_iload_n hx hb dX4_surveyLights_61 rfl (lv_at hl 2 rfl) ?_
            obtain ⟨v_7, h_7, hs⟩ := sp_b hs
            refine rd_i (va_runV (As := [.ref (adP g j_3), .int (p1)]) (rest := [.int (v_6), .int (p2), .int (p1), .ref (g 4)]) ⟨hx, hb, hml, hown, hts⟩ (c_X4_isInFocus l D ca g xx j_3 p1 h_7) (cwV 2 hts gX4_surveyLights_X4_isInFocus rfl rfl rfl (by decide +kernel) ⟨Nat.le_of_ble_eq_true rfl, Nat.le_of_ble_eq_true rfl⟩) (rP_V (q := (RX4, TX4, 16)) hP hC 0 rfl rfl) rfl rfl hl.1 rfl (lv_room (Nat.le_of_ble_eq_true rfl)) dX4_surveyLights_62 ⟨Nat.zero_le _, Nat.zero_le _⟩) ?_
            obtain ⟨v_8, h_8, hs⟩ := sp_b hs
            refine wr_v (va_runVN (As := [.int (p1), .int (p2), .int (v_6), .int (v_7)]) (rest := []) ⟨hx, hb, hml, hown, hts⟩ (c_X3_note l D ca g xx p1 p2 v_6 v_7 h_8 H.size) ⟨va_cnB 4 hts gX4_surveyLights_X3_note_n300 rfl rfl rfl (hC.2.1 _ nk_X4_300) (hts (.initialized RX3) (by decide +kernel)) (by decide +kernel) ⟨Nat.le_of_ble_eq_true rfl, Nat.le_of_ble_eq_true rfl⟩, hts (.instanceMethod yX3_note) (by decide +kernel), hts (.selects RX3 yX3_note yX3_note) (by decide +kernel)⟩ (wP_V (q := (RX3, TX3, 2)) hP hC hD 7 rfl rfl) rfl rfl hl.1 rfl (lv_room (Nat.le_of_ble_eq_true rfl)) dX4_surveyLights_65 ⟨Nat.zero_le _, Nat.zero_le _⟩) hD hS hA (fun H locs hP hD hS => ?_)
            refine lv_iinc (v := p2 + 1) (lv' := [(2, .int (p2 + 1)), (3, .ref (adP g j_3)), (0, .ref (g 0)), (1, .int (p1))]) hx hb dX4_surveyLights_68 hl (k := 3) rfl rfl (by decide) rfl (fun ls hl => ?_)
            refine lv_goto (tgt := 10) hx hb dX4_surveyLights_71 (by decide) ?_
            exact ih10  (v_8) (p1) (p2 + 1) hs H locs hP hD hS ls (lv_sub hl [2, 3, 0] rfl)
          · have hs := sp_f c_5 hs
            exact b33 (fun zx z_p1 z_p2 => s_X4_surveyLights_b10 k2 F zx z_p1 z_p2) (fun zx z_p1 z_p2 hs => ih10 zx z_p1 z_p2 hs) (xx) (p1) (p2) hs H locs hP hD hS ls (lv_sub hl [1, 2, 3] rfl)
  have b2 : ∀ (F : Nat) (xx : XS) (p1 : Int32), s_X4_surveyLights_b2  F xx p1 = some r → ∀ (H : Heap) (locs : List Loc), va_P D vwCl (wX g ca xx) H → va_D A (wX g ca xx) → va_S A s.heap H locs → ∀ (ls : Array Slot), lv_has ls 4 [(0, .ref (g 0)), (1, .int (p1))] → W p l e (headSpec wsX4_surveyLights ({ frames := 5, cells := 0, slots := 0, locals := 116 })).room s m #[.ref (g 0)] below meth c H locs 0 0 (MQ below (wQv D (wX g ca x) (wX g ca r) s.heap.size) #[.ref (g 0)] s 0 0 A) (F0 m 2 ls []) := by
    intro F
    induction F with
    | zero =>
      intro xx p1 hs
      simp [s_X4_surveyLights_b2] at hs
    | succ F ih2 =>
      intro xx p1 hs H locs hP hD hS ls hl
      rw [s_X4_surveyLights_b2] at hs
      refine lv_iload_n hx hb dX4_surveyLights_2 rfl (lv_at hl 1 rfl) ?_
      refine lv_bipush (v := 16) hx hb dX4_surveyLights_3 (by decide) ?_
      refine lv_icmp_ge (tgt := 80) hx hb dX4_surveyLights_5 (by decide) (fun c_9 => ?_) (fun c_9 => ?_)
      · have hs := sp_t c_9 hs
        exact wt_v (f := wX g ca) hx hb hr hAe hs hP hD hS dX4_surveyLights_80 hlocks
      · have hs := sp_f c_9 hs
        refine lv_iconst (v := 0) hx hb dX4_surveyLights_8 (by decide) ?_
        refine lv_istore_n (lv' := [(2, .int (0)), (0, .ref (g 0)), (1, .int (p1))]) hx hb dX4_surveyLights_9 rfl hl (by decide) rfl (fun ls hl => ?_)
        exact b10 (fun zx z_p1 => s_X4_surveyLights_b2  F zx z_p1) (fun zx z_p1 hs => ih2 zx z_p1 hs) FU (xx) (p1) (0) hs H locs hP hD hS ls (lv_sub hl [1, 2, 0] rfl)
  unfold s_X4_surveyLights at hs
  obtain ⟨H, hHe⟩ : ∃ H, H = s.heap := ⟨_, rfl⟩
  obtain ⟨locs, hle⟩ : ∃ z : List Loc, z = [] := ⟨_, rfl⟩
  have hP : va_P D vwCl (wX g ca x) H := by rw [hHe]; exact hP
  have hS : va_S A s.heap H locs := by rw [hHe, hle]; exact hS
  show W p l e (headSpec wsX4_surveyLights ({ frames := 5, cells := 0, slots := 0, locals := 116 })).room s m #[.ref (g 0)] below meth c s.heap [] 0 0 _ _
  have hgo : W p l e (headSpec wsX4_surveyLights ({ frames := 5, cells := 0, slots := 0, locals := 116 })).room s m #[.ref (g 0)] below meth c H locs 0 0 (MQ below (wQv D (wX g ca x) (wX g ca r) s.heap.size) #[.ref (g 0)] s 0 0 A) (F0 m 0 ls []) := by
    refine lv_iconst (v := 0) hx hb dX4_surveyLights_0 (by decide) ?_
    refine lv_istore_n (lv' := [(1, .int (0)), (0, .ref (g 0))]) hx hb dX4_surveyLights_1 rfl hl (by decide) rfl (fun ls hl => ?_)
    exact b2  FU (x) (0) hs H locs hP hD hS ls (lv_sub hl [1, 0] rfl)
  rw [hHe, hle] at hgo
  exact hgo
