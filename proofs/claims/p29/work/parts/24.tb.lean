def s_X4_blended (x : XS) (a1 : Int32) (a2 : Int32) : Option (Nat × Int32 × XS) := (s_X4_find x a1).bind fun v_1 => opq v_1 (some (1, 0, x)) (fun j_1 => (s_X4_isColumn a2).bind fun v_2 => (if v_2 = 0 then some (1, 0, x) else grd j_1 (x).2.2 ((s_X0_shines x j_1).bind fun v_5 => (if v_5 = 0 then some (0, 0, x) else (s_X4_lightFrom x j_1 a2).bind fun v_7 => (s_X4_lightOf x a2).bind fun v_8 => (if v_8 ≤ 0 then some (0, v_7, x) else (if (x.1 0 6) < v_8 then dvzL v_8.toInt64 (some (0, ((v_7.toInt64 * ((x.1 0 6).toInt64)) / v_8.toInt64).toInt32, x)) else some (0, v_7, x)))))))
set_option maxHeartbeats 4000000 in
set_option maxRecDepth 100000 in
theorem c_X4_blended (l : Launch) (hl9 : l.stackTraces = false) (D : va_G) (ca : Nat → ClassId) (g : Nat → Nat) (x : XS) (a1 : Int32) (a2 : Int32) {r : (Nat × Int32 × XS)} (hs : s_X4_blended x a1 a2 = some r) (sz : Nat) : vx_Met l yX4_blended wsX4_blended ({ frames := 6, cells := 1, slots := 6, locals := 140 }) (tP [.ref (g 0), .int (a1), .int (a2)] D ca (wX g ca x) sz) (tQi r D (wX g ca x) (wX g ca) sz) (tX r.1 r.2.2 D (wX g ca x) (wX g ca) sz) 1 6 (va_A (wX g ca x) sz) := by
  refine vx_ofW (cc := cX4_blended) (maxL := 6) (ret := (some .int)) (by decide) rfl ?_
  intro p e s m args below meth c s₁ B hml hex hv
  obtain ⟨rfl, hsz, hP, hC, hD0, hz⟩ := hv
  have hx := B.exec
  have hb := B.bytes
  have hr := B.returns
  have hts := atoms_spec (ws := wsX4_blended) B.pre
  have hown : s.vm.findClass RX4 = some m.cls := findClass_of_methodNamed B.named
  have hlocks := B.notSynchronized
  have hK := hC.1
  subst hsz
  have hD := hD0.self (sz := s.heap.size)
  generalize hAe : va_A (wX g ca x) s.heap.size = A at hD hz ⊢
  have hA : ∀ q : Nat, s.heap.size ≤ q → A q := fun q h => by rw [← hAe]; exact Or.inr h
  have hS : va_S A s.heap s.heap [] := va_S.rf
  skip
  have hat1 : ∀ w ∈ (vx_atS RX4 83 "java/lang/IndexOutOfBoundsException" ["java/lang/RuntimeException", "java/lang/Exception"]).filter goodWord, w.before _ s = true := fun w hw => hts w (List.mem_cons_of_mem _ (List.mem_append_right _ hw))
  have iX4 : ∀ w ∈ u_ws RX4 TX4 16, w ∈ wsX4_blended := by decide +kernel
  have hl := lv_entry ([.ref (g 0), .int (a1), .int (a2)]) (n := 6) (Nat.le_of_ble_eq_true rfl)
  rw [lg_entry_eq]
  generalize (lg_sl ([.ref (g 0), .int (a1), .int (a2)]) ++ List.replicate (6 - (lg_sl ([.ref (g 0), .int (a1), .int (a2)])).length) Slot.unset).toArray = ls at hl ⊢
  have hl : lv_has ls 6 [(0, .ref (g 0)), (1, .int (a1)), (2, .int (a2))] := hl
  unfold s_X4_blended at hs
  obtain ⟨H, hHe⟩ : ∃ H, H = s.heap := ⟨_, rfl⟩
  obtain ⟨locs, hle⟩ : ∃ z : List Loc, z = [] := ⟨_, rfl⟩
  have hP : va_P D vwCl (wX g ca x) H := by rw [hHe]; exact hP
  have hS : va_S A s.heap H locs := by rw [hHe, hle]; exact hS
  show W p l e (headSpec wsX4_blended ({ frames := 6, cells := 1, slots := 6, locals := 140 })).room s m #[.ref (g 0), .int (a1), .int (a2)] below meth c s.heap [] 0 0 _ _
  have hgo : W p l e (headSpec wsX4_blended ({ frames := 6, cells := 1, slots := 6, locals := 140 })).room s m #[.ref (g 0), .int (a1), .int (a2)] below meth c H locs 0 0 (vx_MQ below (tQi r D (wX g ca x) (wX g ca) s.heap.size) (tX r.1 r.2.2 D (wX g ca x) (wX g ca) s.heap.size) #[.ref (g 0), .int (a1), .int (a2)] s 1 6 A) (F0 m 0 ls []) := by
    refine lv_aload_n hx hb dX4_blended_0 rfl (lv_at hl 0 rfl) ?_
    refine lv_iload_n hx hb dX4_blended_1 rfl (lv_at hl 1 rfl) ?_
    obtain ⟨v_1, h_1, hs⟩ := sp_b hs
    refine rd_q (va_runV (As := [.int (a1)]) (rest := []) ⟨hx, hb, hml, hown, hts⟩ (c_X4_find l D ca g x a1 h_1) (cwV 1 hts gX4_blended_X4_find rfl rfl rfl (by decide +kernel) ⟨Nat.le_of_ble_eq_true rfl, Nat.le_of_ble_eq_true rfl⟩) (rP_V (q := (RX4, TX4, 16)) hP hC 0 rfl rfl) rfl rfl hl.1 rfl (lv_room (Nat.le_of_ble_eq_true rfl)) dX4_blended_2 ⟨Nat.zero_le _, Nat.zero_le _⟩) (fun o_1 => ?_) (fun j_1 o_1 => ?_)
    · have hs := sp_on o_1 hs
      refine lv_astore_nN (lv' := [(3, .null), (0, .ref (g 0)), (1, .int (a1)), (2, .int (a2))]) hx hb dX4_blended_5 rfl hl (by decide) rfl (fun ls hl => ?_)
      refine lv_aload_nN hx hb dX4_blended_6 rfl (lv_at hl 0 rfl) ?_
      refine lv_ifnonnullN hx hb dX4_blended_7 ?_
      exact th_row (f := wX g ca) (text := "no such projector") 1 (by decide) hx hb hl9 hown (hts (.classLink RX4 79 "java/lang/IndexOutOfBoundsException") (by decide +kernel)) (hts (.initialized "java/lang/IndexOutOfBoundsException") (by decide +kernel)) (by decide +kernel) hC hat1 xg_1 xo_1 hz hAe hs hP hD hS (hl.1.trans hml.symm) dX4_blended_10 dX4_blended_13 dX4_blended_14 dX4_blended_16 dX4_blended_19 hex (Nat.le_of_ble_eq_true rfl) (Nat.le_of_ble_eq_true rfl) (Nat.le_of_ble_eq_true rfl) (Nat.le_of_ble_eq_true rfl) hlocks (Nat.le_of_ble_eq_true rfl) (Nat.le_of_ble_eq_true rfl)
    · have hs := sp_os o_1 hs
      refine lv_astore_n (lv' := [(3, .ref (adP g j_1)), (0, .ref (g 0)), (1, .int (a1)), (2, .int (a2))]) hx hb dX4_blended_5 rfl hl (by decide) rfl (fun ls hl => ?_)
      refine lv_aload_n hx hb dX4_blended_6 rfl (lv_at hl 0 rfl) ?_
      refine lv_ifnonnull (tgt := 20) hx hb dX4_blended_7 (by decide) ?_
      refine lv_iload_n hx hb dX4_blended_20 rfl (lv_at hl 3 rfl) ?_
      obtain ⟨v_2, h_2, hs⟩ := sp_b hs
      refine rd_i (va_runS (As := [.int (a2)]) (rest := []) ⟨hx, hb, hml, hown, hts⟩ (c_X4_isColumn l D ca a2 h_2) (va_cwS 1 hts gX4_blended_X4_isColumn rfl rfl rfl (by decide +kernel) ⟨Nat.le_of_ble_eq_true rfl, Nat.le_of_ble_eq_true rfl⟩) (rP_S va_P_nil hC) rfl rfl hl.1 rfl (lv_room (Nat.le_of_ble_eq_true rfl)) dX4_blended_21 ⟨Nat.zero_le _, Nat.zero_le _⟩) ?_
      refine lv_if_ne (tgt := 37) hx hb dX4_blended_24 (by decide) (fun c_3 => ?_) (fun c_3 => ?_)
      · have hs := sp_f c_3 hs
        refine lv_aload_n hx hb dX4_blended_37 rfl (lv_at hl 0 rfl) ?_
        obtain ⟨h_4, hs⟩ := sp_g hs
        obtain ⟨v_5, h_5, hs⟩ := sp_b hs
        refine rd_i (va_runVN (As := []) (rest := []) ⟨hx, hb, hml, hown, hts⟩ (c_X0_shines l D ca g x j_1 h_5) ⟨va_cnB 0 hts gX4_blended_X0_shines_n193 rfl rfl rfl (hC.2.1 _ nk_X4_193) (hts (.initialized RX0) (by decide +kernel)) (by decide +kernel) ⟨Nat.le_of_ble_eq_true rfl, Nat.le_of_ble_eq_true rfl⟩, hts (.instanceMethod yX0_shines) (by decide +kernel), hts (.selects RX0 yX0_shines yX0_shines) (by decide +kernel)⟩ (rP_V (q := (RX0, TX0, 10)) hP hC (15 + j_1) (wX_proj h_4) rfl) rfl rfl hl.1 rfl (lv_room (Nat.le_of_ble_eq_true rfl)) dX4_blended_38 ⟨Nat.zero_le _, Nat.zero_le _⟩) ?_
        refine lv_if_ne (tgt := 46) hx hb dX4_blended_41 (by decide) (fun c_6 => ?_) (fun c_6 => ?_)
        · have hs := sp_f c_6 hs
          refine lv_aload_n hx hb dX4_blended_46 rfl (lv_at hl 1 rfl) ?_
          refine lv_aload_n hx hb dX4_blended_47 rfl (lv_at hl 0 rfl) ?_
          refine lv_iload_n hx hb dX4_blended_48 rfl (lv_at hl 3 rfl) ?_
          obtain ⟨v_7, h_7, hs⟩ := sp_b hs
          refine rd_i (va_runV (As := [.ref (adP g j_1), .int (a2)]) (rest := []) ⟨hx, hb, hml, hown, hts⟩ (c_X4_lightFrom l D ca g x j_1 a2 h_7) (cwV 2 hts gX4_blended_X4_lightFrom rfl rfl rfl (by decide +kernel) ⟨Nat.le_of_ble_eq_true rfl, Nat.le_of_ble_eq_true rfl⟩) (rP_V (q := (RX4, TX4, 16)) hP hC 0 rfl rfl) rfl rfl hl.1 rfl (lv_room (Nat.le_of_ble_eq_true rfl)) dX4_blended_49 ⟨Nat.zero_le _, Nat.zero_le _⟩) ?_
          refine lv_istore (lv' := [(4, .int (v_7)), (3, .ref (adP g j_1)), (0, .ref (g 0)), (1, .int (a1)), (2, .int (a2))]) hx hb dX4_blended_52 hl (by decide) rfl (fun ls hl => ?_)
          refine lv_aload_n hx hb dX4_blended_54 rfl (lv_at hl 2 rfl) ?_
          refine lv_iload_n hx hb dX4_blended_55 rfl (lv_at hl 4 rfl) ?_
          obtain ⟨v_8, h_8, hs⟩ := sp_b hs
          refine rd_i (va_runV (As := [.int (a2)]) (rest := []) ⟨hx, hb, hml, hown, hts⟩ (c_X4_lightOf l D ca g x a2 h_8) (cwV 1 hts gX4_blended_X4_lightOf rfl rfl rfl (by decide +kernel) ⟨Nat.le_of_ble_eq_true rfl, Nat.le_of_ble_eq_true rfl⟩) (rP_V (q := (RX4, TX4, 16)) hP hC 0 rfl rfl) rfl rfl hl.1 rfl (lv_room (Nat.le_of_ble_eq_true rfl)) dX4_blended_56 ⟨Nat.zero_le _, Nat.zero_le _⟩) ?_
          refine lv_istore (lv' := [(5, .int (v_8)), (4, .int (v_7)), (3, .ref (adP g j_1)), (0, .ref (g 0)), (1, .int (a1)), (2, .int (a2))]) hx hb dX4_blended_59 hl (by decide) rfl (fun ls hl => ?_)
          refine lv_iload hx hb dX4_blended_61 (lv_at hl 0 rfl) ?_
          refine lv_if_le (tgt := 75) hx hb dX4_blended_63 (by decide) (fun c_9 => ?_) (fun c_9 => ?_)
          · have hs := sp_t c_9 hs
            refine lv_iload hx hb dX4_blended_75 (lv_at hl 1 rfl) ?_
            exact tt_i (f := wX g ca) hx hb hr hAe hs hP hD hS (Nat.le_of_ble_eq_true rfl) (Nat.le_of_ble_eq_true rfl) dX4_blended_77 hlocks
          · have hs := sp_f c_9 hs
            refine lv_iload hx hb dX4_blended_66 (lv_at hl 0 rfl) ?_
            refine lv_aload_n hx hb dX4_blended_68 rfl (lv_at hl 3 rfl) ?_
            refine va_get (D := D) (ci := 4) (fs := fsX g (x)) (v := .int (x.1 0 6)) (C := RX4) (T := TX4) (N := 16) hx hb hts iX4 hown hK hP 0 rfl rfl 6 (by decide) (hts (.fieldLink RX4 36 "FacadeShow" "levelNow" "I") (by decide +kernel)) (fun _ h9 => h9) rfl dX4_blended_69 ?_
            refine lv_icmp_gt (tgt := 78) hx hb dX4_blended_72 (by decide) (fun c_10 => ?_) (fun c_10 => ?_)
            · have hs := sp_t c_10 hs
              refine lv_iload hx hb dX4_blended_78 (lv_at hl 1 rfl) ?_
              refine lv_i2l hx hb dX4_blended_80 rfl ?_
              refine lv_aload_n hx hb dX4_blended_81 rfl (lv_at hl 3 rfl) ?_
              refine va_get (D := D) (ci := 4) (fs := fsX g (x)) (v := .int (x.1 0 6)) (C := RX4) (T := TX4) (N := 16) hx hb hts iX4 hown hK hP 0 rfl rfl 6 (by decide) (hts (.fieldLink RX4 36 "FacadeShow" "levelNow" "I") (by decide +kernel)) (fun _ h9 => h9) rfl dX4_blended_82 ?_
              refine lv_i2l hx hb dX4_blended_85 rfl ?_
              refine lv_lmul hx hb dX4_blended_86 ?_
              refine lv_iload hx hb dX4_blended_87 (lv_at hl 0 rfl) ?_
              refine lv_i2l hx hb dX4_blended_89 rfl ?_
              obtain ⟨h_11, hs⟩ := sp_dL hs
              refine lv_ldiv hx hb dX4_blended_90 h_11 ?_
              refine lv_l2i hx hb dX4_blended_91 rfl ?_
              exact tt_i (f := wX g ca) hx hb hr hAe hs hP hD hS (Nat.le_of_ble_eq_true rfl) (Nat.le_of_ble_eq_true rfl) dX4_blended_92 hlocks
            · have hs := sp_f c_10 hs
              refine lv_iload hx hb dX4_blended_75 (lv_at hl 1 rfl) ?_
              exact tt_i (f := wX g ca) hx hb hr hAe hs hP hD hS (Nat.le_of_ble_eq_true rfl) (Nat.le_of_ble_eq_true rfl) dX4_blended_77 hlocks
        · have hs := sp_t c_6 hs
          refine lv_iconst (v := 0) hx hb dX4_blended_44 (by decide) ?_
          exact tt_i (f := wX g ca) hx hb hr hAe hs hP hD hS (Nat.le_of_ble_eq_true rfl) (Nat.le_of_ble_eq_true rfl) dX4_blended_45 hlocks
      · have hs := sp_t c_3 hs
        exact th_row (f := wX g ca) (text := "no such column") 1 (by decide) hx hb hl9 hown (hts (.classLink RX4 79 "java/lang/IndexOutOfBoundsException") (by decide +kernel)) (hts (.initialized "java/lang/IndexOutOfBoundsException") (by decide +kernel)) (by decide +kernel) hC hat1 xg_1 xo_1 hz hAe hs hP hD hS (hl.1.trans hml.symm) dX4_blended_27 dX4_blended_30 dX4_blended_31 dX4_blended_33 dX4_blended_36 hex (Nat.le_of_ble_eq_true rfl) (Nat.le_of_ble_eq_true rfl) (Nat.le_of_ble_eq_true rfl) (Nat.le_of_ble_eq_true rfl) hlocks (Nat.le_of_ble_eq_true rfl) (Nat.le_of_ble_eq_true rfl)
  rw [hHe, hle] at hgo
  exact hgo
def s_X4_covered_b26 (a1 : Int32) : Nat → XS → Int32 → Int32 → Option (Nat × Int32 × XS)
  | 0, _, _, _ => none
  | F + 1, xx, p2, p3 => (if 16 ≤ p3 then some (0, p2, xx) else (s_X3_isWellCovered xx p3 a1 (xx.1 0 6)).bind fun v_2 => (if v_2 = 0 then s_X4_covered_b26 a1 F (xx) (p2) (p3 + 1) else s_X4_covered_b26 a1 F (xx) (p2 ||| (1 <<< (p3 &&& 31))) (p3 + 1)))
def s_X4_covered (x : XS) (a1 : Int32) : Option (Nat × Int32 × XS) := (s_X4_isSetOfProjectors x a1).bind fun v_4 => (if v_4 = 0 then some (2, 0, x) else (s_X4_surveyLights x).bind fun v_6 => s_X4_covered_b26 a1  FU (v_6) (0) (0))
set_option maxHeartbeats 4000000 in
set_option maxRecDepth 100000 in
theorem c_X4_covered (l : Launch) (hl9 : l.stackTraces = false) (D : va_G) (ca : Nat → ClassId) (g : Nat → Nat) (x : XS) (a1 : Int32) {r : (Nat × Int32 × XS)} (hs : s_X4_covered x a1 = some r) (sz : Nat) : vx_Met l yX4_covered wsX4_covered ({ frames := 6, cells := 1, slots := 6, locals := 139 }) (tP [.ref (g 0), .int (a1)] D ca (wX g ca x) sz) (tQi r D (wX g ca x) (wX g ca) sz) (tX r.1 r.2.2 D (wX g ca x) (wX g ca) sz) 1 6 (va_A (wX g ca x) sz) := by
  refine vx_ofW (cc := cX4_covered) (maxL := 4) (ret := (some .int)) (by decide) rfl ?_
  intro p e s m args below meth c s₁ B hml hex hv
  obtain ⟨rfl, hsz, hP, hC, hD0, hz⟩ := hv
  have hx := B.exec
  have hb := B.bytes
  have hr := B.returns
  have hts := atoms_spec (ws := wsX4_covered) B.pre
  have hown : s.vm.findClass RX4 = some m.cls := findClass_of_methodNamed B.named
  have hlocks := B.notSynchronized
  have hK := hC.1
  subst hsz
  have hD := hD0.self (sz := s.heap.size)
  generalize hAe : va_A (wX g ca x) s.heap.size = A at hD hz ⊢
  have hA : ∀ q : Nat, s.heap.size ≤ q → A q := fun q h => by rw [← hAe]; exact Or.inr h
  have hS : va_S A s.heap s.heap [] := va_S.rf
  skip
  have hat2 : ∀ w ∈ (vx_atS RX4 90 "java/lang/IllegalArgumentException" ["java/lang/RuntimeException", "java/lang/Exception"]).filter goodWord, w.before _ s = true := fun w hw => hts w (List.mem_cons_of_mem _ (List.mem_append_right _ hw))
  have iX4 : ∀ w ∈ u_ws RX4 TX4 16, w ∈ wsX4_covered := by decide +kernel
  have hl := lv_entry ([.ref (g 0), .int (a1)]) (n := 4) (Nat.le_of_ble_eq_true rfl)
  rw [lg_entry_eq]
  generalize (lg_sl ([.ref (g 0), .int (a1)]) ++ List.replicate (4 - (lg_sl ([.ref (g 0), .int (a1)])).length) Slot.unset).toArray = ls at hl ⊢
  have hl : lv_has ls 4 [(0, .ref (g 0)), (1, .int (a1))] := hl
  have b26 : ∀ (F : Nat) (xx : XS) (p2 : Int32) (p3 : Int32), s_X4_covered_b26 a1 F xx p2 p3 = some r → ∀ (H : Heap) (locs : List Loc), va_P D vwCl (wX g ca xx) H → va_D A (wX g ca xx) → va_S A s.heap H locs → ∀ (ls : Array Slot), lv_has ls 4 [(0, .ref (g 0)), (1, .int (a1)), (2, .int (p2)), (3, .int (p3))] → W p l e (headSpec wsX4_covered ({ frames := 6, cells := 1, slots := 6, locals := 139 })).room s m #[.ref (g 0), .int (a1)] below meth c H locs 0 0 (vx_MQ below (tQi r D (wX g ca x) (wX g ca) s.heap.size) (tX r.1 r.2.2 D (wX g ca x) (wX g ca) s.heap.size) #[.ref (g 0), .int (a1)] s 1 6 A) (F0 m 26 ls []) := by
    intro F
    induction F with
    | zero =>
      intro xx p2 p3 hs
      simp [s_X4_covered_b26] at hs
    | succ F ih26 =>
      intro xx p2 p3 hs H locs hP hD hS ls hl
      rw [s_X4_covered_b26] at hs
      refine lv_iload_n hx hb dX4_covered_26 rfl (lv_at hl 3 rfl) ?_
      refine lv_bipush (v := 16) hx hb dX4_covered_27 (by decide) ?_
      refine lv_icmp_ge (tgt := 60) hx hb dX4_covered_29 (by decide) (fun c_1 => ?_) (fun c_1 => ?_)
      · have hs := sp_t c_1 hs
        refine lv_iload_n hx hb dX4_covered_60 rfl (lv_at hl 2 rfl) ?_
        exact tt_i (f := wX g ca) hx hb hr hAe hs hP hD hS (Nat.le_of_ble_eq_true rfl) (Nat.le_of_ble_eq_true rfl) dX4_covered_61 hlocks
      · have hs := sp_f c_1 hs
        refine lv_aload_n hx hb dX4_covered_32 rfl (lv_at hl 0 rfl) ?_
        refine va_get (D := D) (ci := 4) (fs := fsX g (xx)) (v := .ref (g 4)) (C := RX4) (T := TX4) (N := 16) hx hb hts iX4 hown hK hP 0 rfl rfl 7 (by decide) (hts (.fieldLink RX4 42 "FacadeShow" "survey" "LFacadeShow$Survey;") (by decide +kernel)) (fun _ h9 => h9) rfl dX4_covered_33 ?_
        refine lv_iload_n hx hb dX4_covered_36 rfl (lv_at hl 3 rfl) ?_
        refine lv_iload_n hx hb dX4_covered_37 rfl (lv_at hl 1 rfl) ?_
        refine lv_aload_n hx hb dX4_covered_38 rfl (lv_at hl 0 rfl) ?_
        refine va_get (D := D) (ci := 4) (fs := fsX g (xx)) (v := .int (xx.1 0 6)) (C := RX4) (T := TX4) (N := 16) hx hb hts iX4 hown hK hP 0 rfl rfl 6 (by decide) (hts (.fieldLink RX4 36 "FacadeShow" "levelNow" "I") (by decide +kernel)) (fun _ h9 => h9) rfl dX4_covered_39 ?_
        obtain ⟨v_2, h_2, hs⟩ := sp_b hs
        refine rd_i (va_runVN (As := [.int (p3), .int (a1), .int (xx.1 0 6)]) (rest := []) ⟨hx, hb, hml, hown, hts⟩ (c_X3_isWellCovered l D ca g xx p3 a1 (xx.1 0 6) h_2) ⟨va_cnB 3 hts gX4_covered_X3_isWellCovered_n205 rfl rfl rfl (hC.2.1 _ nk_X4_205) (hts (.initialized RX3) (by decide +kernel)) (by decide +kernel) ⟨Nat.le_of_ble_eq_true rfl, Nat.le_of_ble_eq_true rfl⟩, hts (.instanceMethod yX3_isWellCovered) (by decide +kernel), hts (.selects RX3 yX3_isWellCovered yX3_isWellCovered) (by decide +kernel)⟩ (rP_V (q := (RX3, TX3, 2)) hP hC 7 rfl rfl) rfl rfl hl.1 rfl (lv_room (Nat.le_of_ble_eq_true rfl)) dX4_covered_42 ⟨Nat.zero_le _, Nat.zero_le _⟩) ?_
        refine lv_if_eq (tgt := 54) hx hb dX4_covered_45 (by decide) (fun c_3 => ?_) (fun c_3 => ?_)
        · have hs := sp_t c_3 hs
          refine lv_iinc (v := p3 + 1) (lv' := [(3, .int (p3 + 1)), (0, .ref (g 0)), (1, .int (a1)), (2, .int (p2))]) hx hb dX4_covered_54 hl (k := 3) rfl rfl (by decide) rfl (fun ls hl => ?_)
          refine lv_goto (tgt := 26) hx hb dX4_covered_57 (by decide) ?_
          exact ih26  (xx) (p2) (p3 + 1) hs H locs hP hD hS ls (lv_sub hl [1, 2, 3, 0] rfl)
        · have hs := sp_f c_3 hs
          refine lv_iload_n hx hb dX4_covered_48 rfl (lv_at hl 2 rfl) ?_
          refine lv_iconst (v := 1) hx hb dX4_covered_49 (by decide) ?_
          refine lv_iload_n hx hb dX4_covered_50 rfl (lv_at hl 3 rfl) ?_
          refine lv_ishl hx hb dX4_covered_51 ?_
          refine lv_ior hx hb dX4_covered_52 ?_
          refine lv_istore_n (lv' := [(2, .int (p2 ||| (1 <<< (p3 &&& 31)))), (0, .ref (g 0)), (1, .int (a1)), (3, .int (p3))]) hx hb dX4_covered_53 rfl hl (by decide) rfl (fun ls hl => ?_)
          refine lv_iinc (v := p3 + 1) (lv' := [(3, .int (p3 + 1)), (2, .int (p2 ||| (1 <<< (p3 &&& 31)))), (0, .ref (g 0)), (1, .int (a1))]) hx hb dX4_covered_54 hl (k := 3) rfl rfl (by decide) rfl (fun ls hl => ?_)
          refine lv_goto (tgt := 26) hx hb dX4_covered_57 (by decide) ?_
          exact ih26  (xx) (p2 ||| (1 <<< (p3 &&& 31))) (p3 + 1) hs H locs hP hD hS ls (lv_sub hl [2, 3, 1, 0] rfl)
  unfold s_X4_covered at hs
  obtain ⟨H, hHe⟩ : ∃ H, H = s.heap := ⟨_, rfl⟩
  obtain ⟨locs, hle⟩ : ∃ z : List Loc, z = [] := ⟨_, rfl⟩
  have hP : va_P D vwCl (wX g ca x) H := by rw [hHe]; exact hP
  have hS : va_S A s.heap H locs := by rw [hHe, hle]; exact hS
  show W p l e (headSpec wsX4_covered ({ frames := 6, cells := 1, slots := 6, locals := 139 })).room s m #[.ref (g 0), .int (a1)] below meth c s.heap [] 0 0 _ _
  have hgo : W p l e (headSpec wsX4_covered ({ frames := 6, cells := 1, slots := 6, locals := 139 })).room s m #[.ref (g 0), .int (a1)] below meth c H locs 0 0 (vx_MQ below (tQi r D (wX g ca x) (wX g ca) s.heap.size) (tX r.1 r.2.2 D (wX g ca x) (wX g ca) s.heap.size) #[.ref (g 0), .int (a1)] s 1 6 A) (F0 m 0 ls []) := by
    refine lv_aload_n hx hb dX4_covered_0 rfl (lv_at hl 0 rfl) ?_
    refine lv_iload_n hx hb dX4_covered_1 rfl (lv_at hl 1 rfl) ?_
    obtain ⟨v_4, h_4, hs⟩ := sp_b hs
    refine rd_i (va_runV (As := [.int (a1)]) (rest := []) ⟨hx, hb, hml, hown, hts⟩ (c_X4_isSetOfProjectors l D ca g x a1 h_4) (cwV 1 hts gX4_covered_X4_isSetOfProjectors rfl rfl rfl (by decide +kernel) ⟨Nat.le_of_ble_eq_true rfl, Nat.le_of_ble_eq_true rfl⟩) (rP_V (q := (RX4, TX4, 16)) hP hC 0 rfl rfl) rfl rfl hl.1 rfl (lv_room (Nat.le_of_ble_eq_true rfl)) dX4_covered_2 ⟨Nat.zero_le _, Nat.zero_le _⟩) ?_
    refine lv_if_ne (tgt := 18) hx hb dX4_covered_5 (by decide) (fun c_5 => ?_) (fun c_5 => ?_)
    · have hs := sp_f c_5 hs
      refine lv_aload_n hx hb dX4_covered_18 rfl (lv_at hl 0 rfl) ?_
      obtain ⟨v_6, h_6, hs⟩ := sp_b hs
      refine wr_v (va_runV (As := []) (rest := []) ⟨hx, hb, hml, hown, hts⟩ (c_X4_surveyLights l D ca g x h_6 H.size) (cwV 0 hts gX4_covered_X4_surveyLights rfl rfl rfl (by decide +kernel) ⟨Nat.le_of_ble_eq_true rfl, Nat.le_of_ble_eq_true rfl⟩) (wP_V (q := (RX4, TX4, 16)) hP hC hD 0 rfl rfl) rfl rfl hl.1 rfl (lv_room (Nat.le_of_ble_eq_true rfl)) dX4_covered_19 ⟨Nat.zero_le _, Nat.zero_le _⟩) hD hS hA (fun H locs hP hD hS => ?_)
      refine lv_iconst (v := 0) hx hb dX4_covered_22 (by decide) ?_
      refine lv_istore_n (lv' := [(2, .int (0)), (0, .ref (g 0)), (1, .int (a1))]) hx hb dX4_covered_23 rfl hl (by decide) rfl (fun ls hl => ?_)
      refine lv_iconst (v := 0) hx hb dX4_covered_24 (by decide) ?_
      refine lv_istore_n (lv' := [(3, .int (0)), (2, .int (0)), (0, .ref (g 0)), (1, .int (a1))]) hx hb dX4_covered_25 rfl hl (by decide) rfl (fun ls hl => ?_)
      exact b26  FU (v_6) (0) (0) hs H locs hP hD hS ls (lv_sub hl [2, 3, 1, 0] rfl)
    · have hs := sp_t c_5 hs
      exact th_row (f := wX g ca) (text := "projectors has others") 2 (by decide) hx hb hl9 hown (hts (.classLink RX4 86 "java/lang/IllegalArgumentException") (by decide +kernel)) (hts (.initialized "java/lang/IllegalArgumentException") (by decide +kernel)) (by decide +kernel) hC hat2 xg_2 xo_2 hz hAe hs hP hD hS (hl.1.trans hml.symm) dX4_covered_8 dX4_covered_11 dX4_covered_12 dX4_covered_14 dX4_covered_17 hex (Nat.le_of_ble_eq_true rfl) (Nat.le_of_ble_eq_true rfl) (Nat.le_of_ble_eq_true rfl) (Nat.le_of_ble_eq_true rfl) hlocks (Nat.le_of_ble_eq_true rfl) (Nat.le_of_ble_eq_true rfl)
  rw [hHe, hle] at hgo
  exact hgo
def s_X4_bears_b41 (a1 : Int32) : Nat → XS → Int32 → Int32 → Option (Nat × Int32 × XS)
  | 0, _, _, _ => none
  | F + 1, xx, p2, p3 => (if p2 = 0 then zb p2 (some (0, p2, xx)) else (if 10 ≤ p3 then zb p2 (some (0, p2, xx)) else (if (a1 &&& (1 <<< (p3 &&& 31))) = 0 then s_X4_bears_b41 a1 F (xx) (p2) (p3 + 1) else (s_X3_coversAll xx (xx.1 0 5) (a1 &&& ((1 <<< (p3 &&& 31)) ^^^ (-1))) (xx.1 0 6)).bind fun v_6 => s_X4_bears_b41 a1 F (xx) (v_6) (p3 + 1))))
def s_X4_bears (x : XS) (a1 : Int32) : Option (Nat × Int32 × XS) := (s_X4_isSetOfProjectors x a1).bind fun v_7 => (if v_7 = 0 then some (2, 0, x) else (s_X4_surveyLights x).bind fun v_9 => (s_X3_coversAll v_9 (v_9.1 0 5) a1 (v_9.1 0 6)).bind fun v_10 => s_X4_bears_b41 a1  FU (v_9) (v_10) (0))
set_option maxHeartbeats 4000000 in
set_option maxRecDepth 100000 in
theorem c_X4_bears (l : Launch) (hl9 : l.stackTraces = false) (D : va_G) (ca : Nat → ClassId) (g : Nat → Nat) (x : XS) (a1 : Int32) {r : (Nat × Int32 × XS)} (hs : s_X4_bears x a1 = some r) (sz : Nat) : vx_Met l yX4_bears wsX4_bears ({ frames := 6, cells := 1, slots := 6, locals := 139 }) (tP [.ref (g 0), .int (a1)] D ca (wX g ca x) sz) (tQi r D (wX g ca x) (wX g ca) sz) (tX r.1 r.2.2 D (wX g ca x) (wX g ca) sz) 1 6 (va_A (wX g ca x) sz) := by
  refine vx_ofW (cc := cX4_bears) (maxL := 5) (ret := (some .boolean)) (by decide) rfl ?_
  intro p e s m args below meth c s₁ B hml hex hv
  obtain ⟨rfl, hsz, hP, hC, hD0, hz⟩ := hv
  have hx := B.exec
  have hb := B.bytes
  have hr := B.returns
  have hts := atoms_spec (ws := wsX4_bears) B.pre
  have hown : s.vm.findClass RX4 = some m.cls := findClass_of_methodNamed B.named
  have hlocks := B.notSynchronized
  have hK := hC.1
  subst hsz
  have hD := hD0.self (sz := s.heap.size)
  generalize hAe : va_A (wX g ca x) s.heap.size = A at hD hz ⊢
  have hA : ∀ q : Nat, s.heap.size ≤ q → A q := fun q h => by rw [← hAe]; exact Or.inr h
  have hS : va_S A s.heap s.heap [] := va_S.rf
  skip
  have hat2 : ∀ w ∈ (vx_atS RX4 90 "java/lang/IllegalArgumentException" ["java/lang/RuntimeException", "java/lang/Exception"]).filter goodWord, w.before _ s = true := fun w hw => hts w (List.mem_cons_of_mem _ (List.mem_append_right _ hw))
  have iX4 : ∀ w ∈ u_ws RX4 TX4 16, w ∈ wsX4_bears := by decide +kernel
  have hl := lv_entry ([.ref (g 0), .int (a1)]) (n := 5) (Nat.le_of_ble_eq_true rfl)
  rw [lg_entry_eq]
  generalize (lg_sl ([.ref (g 0), .int (a1)]) ++ List.replicate (5 - (lg_sl ([.ref (g 0), .int (a1)])).length) Slot.unset).toArray = ls at hl ⊢
  have hl : lv_has ls 5 [(0, .ref (g 0)), (1, .int (a1))] := hl
  have b41 : ∀ (F : Nat) (xx : XS) (p2 : Int32) (p3 : Int32), s_X4_bears_b41 a1 F xx p2 p3 = some r → ∀ (H : Heap) (locs : List Loc), va_P D vwCl (wX g ca xx) H → va_D A (wX g ca xx) → va_S A s.heap H locs → ∀ (ls : Array Slot), lv_has ls 5 [(0, .ref (g 0)), (1, .int (a1)), (2, .int (p2)), (3, .int (p3))] → W p l e (headSpec wsX4_bears ({ frames := 6, cells := 1, slots := 6, locals := 139 })).room s m #[.ref (g 0), .int (a1)] below meth c H locs 0 0 (vx_MQ below (tQi r D (wX g ca x) (wX g ca) s.heap.size) (tX r.1 r.2.2 D (wX g ca x) (wX g ca) s.heap.size) #[.ref (g 0), .int (a1)] s 1 6 A) (F0 m 41 ls []) := by
    intro F
    induction F with
    | zero =>
      intro xx p2 p3 hs
      simp [s_X4_bears_b41] at hs
    | succ F ih41 =>
      intro xx p2 p3 hs H locs hP hD hS ls hl
      rw [s_X4_bears_b41] at hs
      refine lv_iload_n hx hb dX4_bears_41 rfl (lv_at hl 2 rfl) ?_
      refine lv_if_eq (tgt := 91) hx hb dX4_bears_42 (by decide) (fun c_1 => ?_) (fun c_1 => ?_)
      · have hs := sp_t c_1 hs
        refine lv_iload_n hx hb dX4_bears_91 rfl (lv_at hl 2 rfl) ?_
        obtain ⟨h_2, hs⟩ := sp_z hs
        exact tt_z (f := wX g ca) hx hb hr hAe h_2 hs hP hD hS (Nat.le_of_ble_eq_true rfl) (Nat.le_of_ble_eq_true rfl) dX4_bears_92 hlocks
      · have hs := sp_f c_1 hs
        refine lv_iload_n hx hb dX4_bears_45 rfl (lv_at hl 3 rfl) ?_
        refine lv_bipush (v := 10) hx hb dX4_bears_46 (by decide) ?_
        refine lv_icmp_ge (tgt := 91) hx hb dX4_bears_48 (by decide) (fun c_3 => ?_) (fun c_3 => ?_)
        · have hs := sp_t c_3 hs
          refine lv_iload_n hx hb dX4_bears_91 rfl (lv_at hl 2 rfl) ?_
          obtain ⟨h_4, hs⟩ := sp_z hs
          exact tt_z (f := wX g ca) hx hb hr hAe h_4 hs hP hD hS (Nat.le_of_ble_eq_true rfl) (Nat.le_of_ble_eq_true rfl) dX4_bears_92 hlocks
        · have hs := sp_f c_3 hs
          refine lv_iconst (v := 1) hx hb dX4_bears_51 (by decide) ?_
          refine lv_iload_n hx hb dX4_bears_52 rfl (lv_at hl 3 rfl) ?_
          refine lv_ishl hx hb dX4_bears_53 ?_
          refine lv_istore (lv' := [(4, .int (1 <<< (p3 &&& 31))), (0, .ref (g 0)), (1, .int (a1)), (2, .int (p2)), (3, .int (p3))]) hx hb dX4_bears_54 hl (by decide) rfl (fun ls hl => ?_)
          refine lv_iload_n hx hb dX4_bears_56 rfl (lv_at hl 2 rfl) ?_
          refine lv_iload hx hb dX4_bears_57 (lv_at hl 0 rfl) ?_
          refine lv_iand hx hb dX4_bears_59 ?_
          refine lv_if_eq (tgt := 85) hx hb dX4_bears_60 (by decide) (fun c_5 => ?_) (fun c_5 => ?_)
          · have hs := sp_t c_5 hs
            refine lv_iinc (v := p3 + 1) (lv' := [(3, .int (p3 + 1)), (4, .int (1 <<< (p3 &&& 31))), (0, .ref (g 0)), (1, .int (a1)), (2, .int (p2))]) hx hb dX4_bears_85 hl (k := 4) rfl rfl (by decide) rfl (fun ls hl => ?_)
            refine lv_goto (tgt := 41) hx hb dX4_bears_88 (by decide) ?_
            exact ih41  (xx) (p2) (p3 + 1) hs H locs hP hD hS ls (lv_sub hl [2, 3, 4, 0] rfl)
          · have hs := sp_f c_5 hs
            refine lv_aload_n hx hb dX4_bears_63 rfl (lv_at hl 1 rfl) ?_
            refine va_get (D := D) (ci := 4) (fs := fsX g (xx)) (v := .ref (g 4)) (C := RX4) (T := TX4) (N := 16) hx hb hts iX4 hown hK hP 0 rfl rfl 7 (by decide) (hts (.fieldLink RX4 42 "FacadeShow" "survey" "LFacadeShow$Survey;") (by decide +kernel)) (fun _ h9 => h9) rfl dX4_bears_64 ?_
            refine lv_aload_n hx hb dX4_bears_67 rfl (lv_at hl 1 rfl) ?_
            refine va_get (D := D) (ci := 4) (fs := fsX g (xx)) (v := .int (xx.1 0 5)) (C := RX4) (T := TX4) (N := 16) hx hb hts iX4 hown hK hP 0 rfl rfl 5 (by decide) (hts (.fieldLink RX4 33 "FacadeShow" "needed" "I") (by decide +kernel)) (fun _ h9 => h9) rfl dX4_bears_68 ?_
            refine lv_iload_n hx hb dX4_bears_71 rfl (lv_at hl 2 rfl) ?_
            refine lv_iload hx hb dX4_bears_72 (lv_at hl 0 rfl) ?_
            refine lv_iconst (v := -1) hx hb dX4_bears_74 (by decide) ?_
            refine lv_ixor hx hb dX4_bears_75 ?_
            refine lv_iand hx hb dX4_bears_76 ?_
            refine lv_aload_n hx hb dX4_bears_77 rfl (lv_at hl 1 rfl) ?_
            refine va_get (D := D) (ci := 4) (fs := fsX g (xx)) (v := .int (xx.1 0 6)) (C := RX4) (T := TX4) (N := 16) hx hb hts iX4 hown hK hP 0 rfl rfl 6 (by decide) (hts (.fieldLink RX4 36 "FacadeShow" "levelNow" "I") (by decide +kernel)) (fun _ h9 => h9) rfl dX4_bears_78 ?_
            obtain ⟨v_6, h_6, hs⟩ := sp_b hs
            refine rd_i (va_runVN (As := [.int (xx.1 0 5), .int (a1 &&& ((1 <<< (p3 &&& 31)) ^^^ (-1))), .int (xx.1 0 6)]) (rest := []) ⟨hx, hb, hml, hown, hts⟩ (c_X3_coversAll l D ca g xx (xx.1 0 5) (a1 &&& ((1 <<< (p3 &&& 31)) ^^^ (-1))) (xx.1 0 6) h_6) ⟨va_cnB 3 hts gX4_bears_X3_coversAll_n218 rfl rfl rfl (hC.2.1 _ nk_X4_218) (hts (.initialized RX3) (by decide +kernel)) (by decide +kernel) ⟨Nat.le_of_ble_eq_true rfl, Nat.le_of_ble_eq_true rfl⟩, hts (.instanceMethod yX3_coversAll) (by decide +kernel), hts (.selects RX3 yX3_coversAll yX3_coversAll) (by decide +kernel)⟩ (rP_V (q := (RX3, TX3, 2)) hP hC 7 rfl rfl) rfl rfl hl.1 rfl (lv_room (Nat.le_of_ble_eq_true rfl)) dX4_bears_81 ⟨Nat.zero_le _, Nat.zero_le _⟩) ?_
            refine lv_istore_n (lv' := [(2, .int (v_6)), (4, .int (1 <<< (p3 &&& 31))), (0, .ref (g 0)), (1, .int (a1)), (3, .int (p3))]) hx hb dX4_bears_84 rfl hl (by decide) rfl (fun ls hl => ?_)
            refine lv_iinc (v := p3 + 1) (lv' := [(3, .int (p3 + 1)), (2, .int (v_6)), (4, .int (1 <<< (p3 &&& 31))), (0, .ref (g 0)), (1, .int (a1))]) hx hb dX4_bears_85 hl (k := 4) rfl rfl (by decide) rfl (fun ls hl => ?_)
            refine lv_goto (tgt := 41) hx hb dX4_bears_88 (by decide) ?_
            exact ih41  (xx) (v_6) (p3 + 1) hs H locs hP hD hS ls (lv_sub hl [3, 4, 1, 0] rfl)
  unfold s_X4_bears at hs
  obtain ⟨H, hHe⟩ : ∃ H, H = s.heap := ⟨_, rfl⟩
  obtain ⟨locs, hle⟩ : ∃ z : List Loc, z = [] := ⟨_, rfl⟩
  have hP : va_P D vwCl (wX g ca x) H := by rw [hHe]; exact hP
  have hS : va_S A s.heap H locs := by rw [hHe, hle]; exact hS
  show W p l e (headSpec wsX4_bears ({ frames := 6, cells := 1, slots := 6, locals := 139 })).room s m #[.ref (g 0), .int (a1)] below meth c s.heap [] 0 0 _ _
  have hgo : W p l e (headSpec wsX4_bears ({ frames := 6, cells := 1, slots := 6, locals := 139 })).room s m #[.ref (g 0), .int (a1)] below meth c H locs 0 0 (vx_MQ below (tQi r D (wX g ca x) (wX g ca) s.heap.size) (tX r.1 r.2.2 D (wX g ca x) (wX g ca) s.heap.size) #[.ref (g 0), .int (a1)] s 1 6 A) (F0 m 0 ls []) := by
    refine lv_aload_n hx hb dX4_bears_0 rfl (lv_at hl 0 rfl) ?_
    refine lv_iload_n hx hb dX4_bears_1 rfl (lv_at hl 1 rfl) ?_
    obtain ⟨v_7, h_7, hs⟩ := sp_b hs
    refine rd_i (va_runV (As := [.int (a1)]) (rest := []) ⟨hx, hb, hml, hown, hts⟩ (c_X4_isSetOfProjectors l D ca g x a1 h_7) (cwV 1 hts gX4_bears_X4_isSetOfProjectors rfl rfl rfl (by decide +kernel) ⟨Nat.le_of_ble_eq_true rfl, Nat.le_of_ble_eq_true rfl⟩) (rP_V (q := (RX4, TX4, 16)) hP hC 0 rfl rfl) rfl rfl hl.1 rfl (lv_room (Nat.le_of_ble_eq_true rfl)) dX4_bears_2 ⟨Nat.zero_le _, Nat.zero_le _⟩) ?_
    refine lv_if_ne (tgt := 18) hx hb dX4_bears_5 (by decide) (fun c_8 => ?_) (fun c_8 => ?_)
    · have hs := sp_f c_8 hs
      refine lv_aload_n hx hb dX4_bears_18 rfl (lv_at hl 0 rfl) ?_
      obtain ⟨v_9, h_9, hs⟩ := sp_b hs
      refine wr_v (va_runV (As := []) (rest := []) ⟨hx, hb, hml, hown, hts⟩ (c_X4_surveyLights l D ca g x h_9 H.size) (cwV 0 hts gX4_bears_X4_surveyLights rfl rfl rfl (by decide +kernel) ⟨Nat.le_of_ble_eq_true rfl, Nat.le_of_ble_eq_true rfl⟩) (wP_V (q := (RX4, TX4, 16)) hP hC hD 0 rfl rfl) rfl rfl hl.1 rfl (lv_room (Nat.le_of_ble_eq_true rfl)) dX4_bears_19 ⟨Nat.zero_le _, Nat.zero_le _⟩) hD hS hA (fun H locs hP hD hS => ?_)
      refine lv_aload_n hx hb dX4_bears_22 rfl (lv_at hl 0 rfl) ?_
      refine va_get (D := D) (ci := 4) (fs := fsX g (v_9)) (v := .ref (g 4)) (C := RX4) (T := TX4) (N := 16) hx hb hts iX4 hown hK hP 0 rfl rfl 7 (by decide) (hts (.fieldLink RX4 42 "FacadeShow" "survey" "LFacadeShow$Survey;") (by decide +kernel)) (fun _ h9 => h9) rfl dX4_bears_23 ?_
      refine lv_aload_n hx hb dX4_bears_26 rfl (lv_at hl 0 rfl) ?_
      refine va_get (D := D) (ci := 4) (fs := fsX g (v_9)) (v := .int (v_9.1 0 5)) (C := RX4) (T := TX4) (N := 16) hx hb hts iX4 hown hK hP 0 rfl rfl 5 (by decide) (hts (.fieldLink RX4 33 "FacadeShow" "needed" "I") (by decide +kernel)) (fun _ h9 => h9) rfl dX4_bears_27 ?_
      refine lv_iload_n hx hb dX4_bears_30 rfl (lv_at hl 1 rfl) ?_
      refine lv_aload_n hx hb dX4_bears_31 rfl (lv_at hl 0 rfl) ?_
      refine va_get (D := D) (ci := 4) (fs := fsX g (v_9)) (v := .int (v_9.1 0 6)) (C := RX4) (T := TX4) (N := 16) hx hb hts iX4 hown hK hP 0 rfl rfl 6 (by decide) (hts (.fieldLink RX4 36 "FacadeShow" "levelNow" "I") (by decide +kernel)) (fun _ h9 => h9) rfl dX4_bears_32 ?_
      obtain ⟨v_10, h_10, hs⟩ := sp_b hs
      refine rd_i (va_runVN (As := [.int (v_9.1 0 5), .int (a1), .int (v_9.1 0 6)]) (rest := []) ⟨hx, hb, hml, hown, hts⟩ (c_X3_coversAll l D ca g v_9 (v_9.1 0 5) a1 (v_9.1 0 6) h_10) ⟨va_cnB 3 hts gX4_bears_X3_coversAll_n218 rfl rfl rfl (hC.2.1 _ nk_X4_218) (hts (.initialized RX3) (by decide +kernel)) (by decide +kernel) ⟨Nat.le_of_ble_eq_true rfl, Nat.le_of_ble_eq_true rfl⟩, hts (.instanceMethod yX3_coversAll) (by decide +kernel), hts (.selects RX3 yX3_coversAll yX3_coversAll) (by decide +kernel)⟩ (rP_V (q := (RX3, TX3, 2)) hP hC 7 rfl rfl) rfl rfl hl.1 rfl (lv_room (Nat.le_of_ble_eq_true rfl)) dX4_bears_35 ⟨Nat.zero_le _, Nat.zero_le _⟩) ?_
      refine lv_istore_n (lv' := [(2, .int (v_10)), (0, .ref (g 0)), (1, .int (a1))]) hx hb dX4_bears_38 rfl hl (by decide) rfl (fun ls hl => ?_)
      refine lv_iconst (v := 0) hx hb dX4_bears_39 (by decide) ?_
      refine lv_istore_n (lv' := [(3, .int (0)), (2, .int (v_10)), (0, .ref (g 0)), (1, .int (a1))]) hx hb dX4_bears_40 rfl hl (by decide) rfl (fun ls hl => ?_)
      exact b41  FU (v_9) (v_10) (0) hs H locs hP hD hS ls (lv_sub hl [2, 3, 1, 0] rfl)
    · have hs := sp_t c_8 hs
      exact th_row (f := wX g ca) (text := "projectors has others") 2 (by decide) hx hb hl9 hown (hts (.classLink RX4 86 "java/lang/IllegalArgumentException") (by decide +kernel)) (hts (.initialized "java/lang/IllegalArgumentException") (by decide +kernel)) (by decide +kernel) hC hat2 xg_2 xo_2 hz hAe hs hP hD hS (hl.1.trans hml.symm) dX4_bears_8 dX4_bears_11 dX4_bears_12 dX4_bears_14 dX4_bears_17 hex (Nat.le_of_ble_eq_true rfl) (Nat.le_of_ble_eq_true rfl) (Nat.le_of_ble_eq_true rfl) (Nat.le_of_ble_eq_true rfl) hlocks (Nat.le_of_ble_eq_true rfl) (Nat.le_of_ble_eq_true rfl)
  rw [hHe, hle] at hgo
  exact hgo
def s_X4_curfew (x : XS) (a1 : Int32) (a2 : Int32) : Option (Nat × Int32 × XS) := (if a1 < 0 then some (2, 0, x) else (if a1 < 1440 then (if a2 < a1 then some (2, 0, x) else (if a2 ≤ 1440 then some (0, 0, si (si (x) 0 8 a1) 0 9 a2) else some (2, 0, x))) else some (2, 0, x)))
set_option maxHeartbeats 4000000 in
set_option maxRecDepth 100000 in
theorem c_X4_curfew (l : Launch) (hl9 : l.stackTraces = false) (D : va_G) (ca : Nat → ClassId) (g : Nat → Nat) (x : XS) (a1 : Int32) (a2 : Int32) {r : (Nat × Int32 × XS)} (hs : s_X4_curfew x a1 a2 = some r) (sz : Nat) : vx_Met l yX4_curfew wsX4_curfew ({ frames := 6, cells := 1, slots := 6, locals := 82 }) (tP [.ref (g 0), .int (a1), .int (a2)] D ca (wX g ca x) sz) (tQv r D (wX g ca x) (wX g ca) sz) (tX r.1 r.2.2 D (wX g ca x) (wX g ca) sz) 1 6 (va_A (wX g ca x) sz) := by
  refine vx_ofW (cc := cX4_curfew) (maxL := 3) (ret := none) (by decide) rfl ?_
  intro p e s m args below meth c s₁ B hml hex hv
  obtain ⟨rfl, hsz, hP, hC, hD0, hz⟩ := hv
  have hx := B.exec
  have hb := B.bytes
  have hr := B.returns
  have hts := atoms_spec (ws := wsX4_curfew) B.pre
  have hown : s.vm.findClass RX4 = some m.cls := findClass_of_methodNamed B.named
  have hlocks := B.notSynchronized
  have hK := hC.1
  subst hsz
  have hD := hD0.self (sz := s.heap.size)
  generalize hAe : va_A (wX g ca x) s.heap.size = A at hD hz ⊢
  have hA : ∀ q : Nat, s.heap.size ≤ q → A q := fun q h => by rw [← hAe]; exact Or.inr h
  have hS : va_S A s.heap s.heap [] := va_S.rf
  skip
  have hat2 : ∀ w ∈ (vx_atS RX4 90 "java/lang/IllegalArgumentException" ["java/lang/RuntimeException", "java/lang/Exception"]).filter goodWord, w.before _ s = true := fun w hw => hts w (List.mem_cons_of_mem _ (List.mem_append_right _ hw))
  have iX4 : ∀ w ∈ u_ws RX4 TX4 16, w ∈ wsX4_curfew := by decide +kernel
  have hl := lv_entry ([.ref (g 0), .int (a1), .int (a2)]) (n := 3) (Nat.le_of_ble_eq_true rfl)
  rw [lg_entry_eq]
  generalize (lg_sl ([.ref (g 0), .int (a1), .int (a2)]) ++ List.replicate (3 - (lg_sl ([.ref (g 0), .int (a1), .int (a2)])).length) Slot.unset).toArray = ls at hl ⊢
  have hl : lv_has ls 3 [(0, .ref (g 0)), (1, .int (a1)), (2, .int (a2))] := hl
  unfold s_X4_curfew at hs
  obtain ⟨H, hHe⟩ : ∃ H, H = s.heap := ⟨_, rfl⟩
  obtain ⟨locs, hle⟩ : ∃ z : List Loc, z = [] := ⟨_, rfl⟩
  have hP : va_P D vwCl (wX g ca x) H := by rw [hHe]; exact hP
  have hS : va_S A s.heap H locs := by rw [hHe, hle]; exact hS
  show W p l e (headSpec wsX4_curfew ({ frames := 6, cells := 1, slots := 6, locals := 82 })).room s m #[.ref (g 0), .int (a1), .int (a2)] below meth c s.heap [] 0 0 _ _
  have hgo : W p l e (headSpec wsX4_curfew ({ frames := 6, cells := 1, slots := 6, locals := 82 })).room s m #[.ref (g 0), .int (a1), .int (a2)] below meth c H locs 0 0 (vx_MQ below (tQv r D (wX g ca x) (wX g ca) s.heap.size) (tX r.1 r.2.2 D (wX g ca x) (wX g ca) s.heap.size) #[.ref (g 0), .int (a1), .int (a2)] s 1 6 A) (F0 m 0 ls []) := by
    refine lv_iload_n hx hb dX4_curfew_0 rfl (lv_at hl 1 rfl) ?_
    refine lv_if_lt (tgt := 11) hx hb dX4_curfew_1 (by decide) (fun c_1 => ?_) (fun c_1 => ?_)
    · have hs := sp_t c_1 hs
      exact th_row (f := wX g ca) (text := "from is out of range") 2 (by decide) hx hb hl9 hown (hts (.classLink RX4 86 "java/lang/IllegalArgumentException") (by decide +kernel)) (hts (.initialized "java/lang/IllegalArgumentException") (by decide +kernel)) (by decide +kernel) hC hat2 xg_2 xo_2 hz hAe hs hP hD hS (hl.1.trans hml.symm) dX4_curfew_11 dX4_curfew_14 dX4_curfew_15 dX4_curfew_17 dX4_curfew_20 hex (Nat.le_of_ble_eq_true rfl) (Nat.le_of_ble_eq_true rfl) (Nat.le_of_ble_eq_true rfl) (Nat.le_of_ble_eq_true rfl) hlocks (Nat.le_of_ble_eq_true rfl) (Nat.le_of_ble_eq_true rfl)
    · have hs := sp_f c_1 hs
      refine lv_iload_n hx hb dX4_curfew_4 rfl (lv_at hl 1 rfl) ?_
      refine lv_sipush (v := 1440) hx hb dX4_curfew_5 (by decide) ?_
      refine lv_icmp_lt (tgt := 21) hx hb dX4_curfew_8 (by decide) (fun c_2 => ?_) (fun c_2 => ?_)
      · have hs := sp_t c_2 hs
        refine lv_iload_n hx hb dX4_curfew_21 rfl (lv_at hl 2 rfl) ?_
        refine lv_iload_n hx hb dX4_curfew_22 rfl (lv_at hl 1 rfl) ?_
        refine lv_icmp_lt (tgt := 33) hx hb dX4_curfew_23 (by decide) (fun c_3 => ?_) (fun c_3 => ?_)
        · have hs := sp_t c_3 hs
          exact th_row (f := wX g ca) (text := "to is out of range") 2 (by decide) hx hb hl9 hown (hts (.classLink RX4 86 "java/lang/IllegalArgumentException") (by decide +kernel)) (hts (.initialized "java/lang/IllegalArgumentException") (by decide +kernel)) (by decide +kernel) hC hat2 xg_2 xo_2 hz hAe hs hP hD hS (hl.1.trans hml.symm) dX4_curfew_33 dX4_curfew_36 dX4_curfew_37 dX4_curfew_39 dX4_curfew_42 hex (Nat.le_of_ble_eq_true rfl) (Nat.le_of_ble_eq_true rfl) (Nat.le_of_ble_eq_true rfl) (Nat.le_of_ble_eq_true rfl) hlocks (Nat.le_of_ble_eq_true rfl) (Nat.le_of_ble_eq_true rfl)
        · have hs := sp_f c_3 hs
          refine lv_iload_n hx hb dX4_curfew_26 rfl (lv_at hl 2 rfl) ?_
          refine lv_sipush (v := 1440) hx hb dX4_curfew_27 (by decide) ?_
          refine lv_icmp_le (tgt := 43) hx hb dX4_curfew_30 (by decide) (fun c_4 => ?_) (fun c_4 => ?_)
          · have hs := sp_t c_4 hs
            refine lv_aload_n hx hb dX4_curfew_43 rfl (lv_at hl 0 rfl) ?_
            refine lv_iload_n hx hb dX4_curfew_44 rfl (lv_at hl 1 rfl) ?_
            refine va_put (D := D) (ci := 4) (fs := fsX g (x)) (v := .int (a1)) (ty := .int) (C := RX4) (T := TX4) (N := 16) hx hb hts iX4 tyX4 tyX4_ok nmX4 hown hK hP hD hS 0 rfl rfl 8 (by decide) (hts (.fieldLink RX4 46 "FacadeShow" "curfewFrom" "I") (by decide +kernel)) (fun _ h9 => h9) rfl (by decide +kernel) rfl rfl (Nat.le_of_ble_eq_true rfl) dX4_curfew_45 (fun H locs hP hD hS => ?_)
            rw [wX_f8] at hP hD
            refine lv_aload_n hx hb dX4_curfew_48 rfl (lv_at hl 0 rfl) ?_
            refine lv_iload_n hx hb dX4_curfew_49 rfl (lv_at hl 2 rfl) ?_
            refine va_put (D := D) (ci := 4) (fs := fsX g (si (x) 0 8 a1)) (v := .int (a2)) (ty := .int) (C := RX4) (T := TX4) (N := 16) hx hb hts iX4 tyX4 tyX4_ok nmX4 hown hK hP hD hS 0 rfl rfl 9 (by decide) (hts (.fieldLink RX4 49 "FacadeShow" "curfewTo" "I") (by decide +kernel)) (fun _ h9 => h9) rfl (by decide +kernel) rfl rfl (Nat.le_of_ble_eq_true rfl) dX4_curfew_50 (fun H locs hP hD hS => ?_)
            rw [wX_f9] at hP hD
            exact tt_v (f := wX g ca) hx hb hr hAe hs hP hD hS (Nat.le_of_ble_eq_true rfl) (Nat.le_of_ble_eq_true rfl) dX4_curfew_53 hlocks
          · have hs := sp_f c_4 hs
            exact th_row (f := wX g ca) (text := "to is out of range") 2 (by decide) hx hb hl9 hown (hts (.classLink RX4 86 "java/lang/IllegalArgumentException") (by decide +kernel)) (hts (.initialized "java/lang/IllegalArgumentException") (by decide +kernel)) (by decide +kernel) hC hat2 xg_2 xo_2 hz hAe hs hP hD hS (hl.1.trans hml.symm) dX4_curfew_33 dX4_curfew_36 dX4_curfew_37 dX4_curfew_39 dX4_curfew_42 hex (Nat.le_of_ble_eq_true rfl) (Nat.le_of_ble_eq_true rfl) (Nat.le_of_ble_eq_true rfl) (Nat.le_of_ble_eq_true rfl) hlocks (Nat.le_of_ble_eq_true rfl) (Nat.le_of_ble_eq_true rfl)
      · have hs := sp_f c_2 hs
        exact th_row (f := wX g ca) (text := "from is out of range") 2 (by decide) hx hb hl9 hown (hts (.classLink RX4 86 "java/lang/IllegalArgumentException") (by decide +kernel)) (hts (.initialized "java/lang/IllegalArgumentException") (by decide +kernel)) (by decide +kernel) hC hat2 xg_2 xo_2 hz hAe hs hP hD hS (hl.1.trans hml.symm) dX4_curfew_11 dX4_curfew_14 dX4_curfew_15 dX4_curfew_17 dX4_curfew_20 hex (Nat.le_of_ble_eq_true rfl) (Nat.le_of_ble_eq_true rfl) (Nat.le_of_ble_eq_true rfl) (Nat.le_of_ble_eq_true rfl) hlocks (Nat.le_of_ble_eq_true rfl) (Nat.le_of_ble_eq_true rfl)
  rw [hHe, hle] at hgo
  exact hgo
def s_X4_ready (x : XS) (a1 : Int32) (a2 : Int32) : Option (Nat × Int32 × XS) := (s_X4_find x a1).bind fun v_1 => opq v_1 (some (1, 0, x)) (fun j_1 => (if a2 < 0 then some (2, 0, x) else (if a2 ≤ 99999 then grd j_1 (x).2.2 (some (0, x.1 29 j_1, si (x) 29 j_1 a2)) else some (2, 0, x))))
set_option maxHeartbeats 4000000 in
set_option maxRecDepth 100000 in
theorem c_X4_ready (l : Launch) (hl9 : l.stackTraces = false) (D : va_G) (ca : Nat → ClassId) (g : Nat → Nat) (x : XS) (a1 : Int32) (a2 : Int32) {r : (Nat × Int32 × XS)} (hs : s_X4_ready x a1 a2 = some r) (sz : Nat) : vx_Met l yX4_ready wsX4_ready ({ frames := 6, cells := 1, slots := 6, locals := 82 }) (tP [.ref (g 0), .int (a1), .int (a2)] D ca (wX g ca x) sz) (tQi r D (wX g ca x) (wX g ca) sz) (tX r.1 r.2.2 D (wX g ca x) (wX g ca) sz) 1 6 (va_A (wX g ca x) sz) := by
  refine vx_ofW (cc := cX4_ready) (maxL := 5) (ret := (some .int)) (by decide) rfl ?_
  intro p e s m args below meth c s₁ B hml hex hv
  obtain ⟨rfl, hsz, hP, hC, hD0, hz⟩ := hv
  have hx := B.exec
  have hb := B.bytes
  have hr := B.returns
  have hts := atoms_spec (ws := wsX4_ready) B.pre
  have hown : s.vm.findClass RX4 = some m.cls := findClass_of_methodNamed B.named
  have hlocks := B.notSynchronized
  have hK := hC.1
  subst hsz
  have hD := hD0.self (sz := s.heap.size)
  generalize hAe : va_A (wX g ca x) s.heap.size = A at hD hz ⊢
  have hA : ∀ q : Nat, s.heap.size ≤ q → A q := fun q h => by rw [← hAe]; exact Or.inr h
  have hS : va_S A s.heap s.heap [] := va_S.rf
  skip
  have hat1 : ∀ w ∈ (vx_atS RX4 83 "java/lang/IndexOutOfBoundsException" ["java/lang/RuntimeException", "java/lang/Exception"]).filter goodWord, w.before _ s = true := fun w hw => hts w (List.mem_cons_of_mem _ (List.mem_append_left _ (List.mem_append_right _ hw)))
  have hat2 : ∀ w ∈ (vx_atS RX4 90 "java/lang/IllegalArgumentException" ["java/lang/RuntimeException", "java/lang/Exception"]).filter goodWord, w.before _ s = true := fun w hw => hts w (List.mem_cons_of_mem _ (List.mem_append_right _ hw))
  have iX0 : ∀ w ∈ u_ws RX0 TX0 10, w ∈ wsX4_ready := by decide +kernel
  have hl := lv_entry ([.ref (g 0), .int (a1), .int (a2)]) (n := 5) (Nat.le_of_ble_eq_true rfl)
  rw [lg_entry_eq]
  generalize (lg_sl ([.ref (g 0), .int (a1), .int (a2)]) ++ List.replicate (5 - (lg_sl ([.ref (g 0), .int (a1), .int (a2)])).length) Slot.unset).toArray = ls at hl ⊢
  have hl : lv_has ls 5 [(0, .ref (g 0)), (1, .int (a1)), (2, .int (a2))] := hl
  unfold s_X4_ready at hs
  obtain ⟨H, hHe⟩ : ∃ H, H = s.heap := ⟨_, rfl⟩
  obtain ⟨locs, hle⟩ : ∃ z : List Loc, z = [] := ⟨_, rfl⟩
  have hP : va_P D vwCl (wX g ca x) H := by rw [hHe]; exact hP
  have hS : va_S A s.heap H locs := by rw [hHe, hle]; exact hS
  show W p l e (headSpec wsX4_ready ({ frames := 6, cells := 1, slots := 6, locals := 82 })).room s m #[.ref (g 0), .int (a1), .int (a2)] below meth c s.heap [] 0 0 _ _
  have hgo : W p l e (headSpec wsX4_ready ({ frames := 6, cells := 1, slots := 6, locals := 82 })).room s m #[.ref (g 0), .int (a1), .int (a2)] below meth c H locs 0 0 (vx_MQ below (tQi r D (wX g ca x) (wX g ca) s.heap.size) (tX r.1 r.2.2 D (wX g ca x) (wX g ca) s.heap.size) #[.ref (g 0), .int (a1), .int (a2)] s 1 6 A) (F0 m 0 ls []) := by
    refine lv_aload_n hx hb dX4_ready_0 rfl (lv_at hl 0 rfl) ?_
    refine lv_iload_n hx hb dX4_ready_1 rfl (lv_at hl 1 rfl) ?_
    obtain ⟨v_1, h_1, hs⟩ := sp_b hs
    refine rd_q (va_runV (As := [.int (a1)]) (rest := []) ⟨hx, hb, hml, hown, hts⟩ (c_X4_find l D ca g x a1 h_1) (cwV 1 hts gX4_ready_X4_find rfl rfl rfl (by decide +kernel) ⟨Nat.le_of_ble_eq_true rfl, Nat.le_of_ble_eq_true rfl⟩) (rP_V (q := (RX4, TX4, 16)) hP hC 0 rfl rfl) rfl rfl hl.1 rfl (lv_room (Nat.le_of_ble_eq_true rfl)) dX4_ready_2 ⟨Nat.zero_le _, Nat.zero_le _⟩) (fun o_1 => ?_) (fun j_1 o_1 => ?_)
    · have hs := sp_on o_1 hs
      refine lv_astore_nN (lv' := [(3, .null), (0, .ref (g 0)), (1, .int (a1)), (2, .int (a2))]) hx hb dX4_ready_5 rfl hl (by decide) rfl (fun ls hl => ?_)
      refine lv_aload_nN hx hb dX4_ready_6 rfl (lv_at hl 0 rfl) ?_
      refine lv_ifnonnullN hx hb dX4_ready_7 ?_
      exact th_row (f := wX g ca) (text := "no such projector") 1 (by decide) hx hb hl9 hown (hts (.classLink RX4 79 "java/lang/IndexOutOfBoundsException") (by decide +kernel)) (hts (.initialized "java/lang/IndexOutOfBoundsException") (by decide +kernel)) (by decide +kernel) hC hat1 xg_1 xo_1 hz hAe hs hP hD hS (hl.1.trans hml.symm) dX4_ready_10 dX4_ready_13 dX4_ready_14 dX4_ready_16 dX4_ready_19 hex (Nat.le_of_ble_eq_true rfl) (Nat.le_of_ble_eq_true rfl) (Nat.le_of_ble_eq_true rfl) (Nat.le_of_ble_eq_true rfl) hlocks (Nat.le_of_ble_eq_true rfl) (Nat.le_of_ble_eq_true rfl)
    · have hs := sp_os o_1 hs
      refine lv_astore_n (lv' := [(3, .ref (adP g j_1)), (0, .ref (g 0)), (1, .int (a1)), (2, .int (a2))]) hx hb dX4_ready_5 rfl hl (by decide) rfl (fun ls hl => ?_)
      refine lv_aload_n hx hb dX4_ready_6 rfl (lv_at hl 0 rfl) ?_
      refine lv_ifnonnull (tgt := 20) hx hb dX4_ready_7 (by decide) ?_
      refine lv_iload_n hx hb dX4_ready_20 rfl (lv_at hl 3 rfl) ?_
      refine lv_if_lt (tgt := 30) hx hb dX4_ready_21 (by decide) (fun c_2 => ?_) (fun c_2 => ?_)
      · have hs := sp_t c_2 hs
        exact th_row (f := wX g ca) (text := "frame is out of range") 2 (by decide) hx hb hl9 hown (hts (.classLink RX4 86 "java/lang/IllegalArgumentException") (by decide +kernel)) (hts (.initialized "java/lang/IllegalArgumentException") (by decide +kernel)) (by decide +kernel) hC hat2 xg_2 xo_2 hz hAe hs hP hD hS (hl.1.trans hml.symm) dX4_ready_30 dX4_ready_33 dX4_ready_34 dX4_ready_36 dX4_ready_39 hex (Nat.le_of_ble_eq_true rfl) (Nat.le_of_ble_eq_true rfl) (Nat.le_of_ble_eq_true rfl) (Nat.le_of_ble_eq_true rfl) hlocks (Nat.le_of_ble_eq_true rfl) (Nat.le_of_ble_eq_true rfl)
      · have hs := sp_f c_2 hs
        refine lv_iload_n hx hb dX4_ready_24 rfl (lv_at hl 3 rfl) ?_
        refine lv_ldc (v := 99999) hx hb hown (hts (.constant RX4 173 (99999)) (by decide +kernel)) dX4_ready_25 ?_
        refine lv_icmp_le (tgt := 40) hx hb dX4_ready_27 (by decide) (fun c_3 => ?_) (fun c_3 => ?_)
        · have hs := sp_t c_3 hs
          refine lv_aload_n hx hb dX4_ready_40 rfl (lv_at hl 0 rfl) ?_
          obtain ⟨h_4, hs⟩ := sp_g hs
          refine va_getN (D := D) (ci := 0) (fs := fsP (x) j_1) (v := .int (x.1 29 j_1)) (C := RX0) (T := TX0) (N := 10) hx hb hts iX0 hown hK hP (15 + j_1) (wX_proj h_4) rfl 9 (by decide) (va_Nw.use rfl (hC.2.1 _ nk_X4_231)) (fun _ h9 => h9) rfl dX4_ready_41 ?_
          refine lv_istore (lv' := [(4, .int (x.1 29 j_1)), (3, .ref (adP g j_1)), (0, .ref (g 0)), (1, .int (a1)), (2, .int (a2))]) hx hb dX4_ready_44 hl (by decide) rfl (fun ls hl => ?_)
          refine lv_aload_n hx hb dX4_ready_46 rfl (lv_at hl 1 rfl) ?_
          refine lv_iload_n hx hb dX4_ready_47 rfl (lv_at hl 4 rfl) ?_
          refine va_putN (D := D) (ci := 0) (fs := fsP (x) j_1) (v := .int (a2)) (ty := .int) (C := RX0) (T := TX0) (N := 10) hx hb hts iX0 tyX0 tyX0_ok nmX0 hown hK hP hD hS (15 + j_1) (wX_proj h_4) rfl 9 (by decide) (va_Nw.use rfl (hC.2.1 _ nk_X4_231)) (fun _ h9 => h9) rfl (by decide +kernel) rfl rfl (Nat.le_of_ble_eq_true rfl) dX4_ready_48 (fun H locs hP hD hS => ?_)
          rw [wX_p9 (x := x) h_4] at hP hD
          refine lv_iload hx hb dX4_ready_51 (lv_at hl 0 rfl) ?_
          exact tt_i (f := wX g ca) hx hb hr hAe hs hP hD hS (Nat.le_of_ble_eq_true rfl) (Nat.le_of_ble_eq_true rfl) dX4_ready_53 hlocks
        · have hs := sp_f c_3 hs
          exact th_row (f := wX g ca) (text := "frame is out of range") 2 (by decide) hx hb hl9 hown (hts (.classLink RX4 86 "java/lang/IllegalArgumentException") (by decide +kernel)) (hts (.initialized "java/lang/IllegalArgumentException") (by decide +kernel)) (by decide +kernel) hC hat2 xg_2 xo_2 hz hAe hs hP hD hS (hl.1.trans hml.symm) dX4_ready_30 dX4_ready_33 dX4_ready_34 dX4_ready_36 dX4_ready_39 hex (Nat.le_of_ble_eq_true rfl) (Nat.le_of_ble_eq_true rfl) (Nat.le_of_ble_eq_true rfl) (Nat.le_of_ble_eq_true rfl) hlocks (Nat.le_of_ble_eq_true rfl) (Nat.le_of_ble_eq_true rfl)
  rw [hHe, hle] at hgo
  exact hgo
def s_X4_propose (x : XS) (a1 : Int32) (a2 : Int32) : Option (Nat × Int32 × XS) := (s_X4_findScene x a1).bind fun v_1 => opq v_1 (some (1, 0, x)) (fun j_1 => (if a2 < 0 then some (2, 0, x) else (if a2 ≤ 999 then grd j_1 4 (some (0, x.1 12 j_1, si (x) 12 j_1 a2)) else some (2, 0, x))))
set_option maxHeartbeats 4000000 in
set_option maxRecDepth 100000 in
theorem c_X4_propose (l : Launch) (hl9 : l.stackTraces = false) (D : va_G) (ca : Nat → ClassId) (g : Nat → Nat) (x : XS) (a1 : Int32) (a2 : Int32) {r : (Nat × Int32 × XS)} (hs : s_X4_propose x a1 a2 = some r) (sz : Nat) : vx_Met l yX4_propose wsX4_propose ({ frames := 6, cells := 1, slots := 6, locals := 82 }) (tP [.ref (g 0), .int (a1), .int (a2)] D ca (wX g ca x) sz) (tQi r D (wX g ca x) (wX g ca) sz) (tX r.1 r.2.2 D (wX g ca x) (wX g ca) sz) 1 6 (va_A (wX g ca x) sz) := by
  refine vx_ofW (cc := cX4_propose) (maxL := 5) (ret := (some .int)) (by decide) rfl ?_
  intro p e s m args below meth c s₁ B hml hex hv
  obtain ⟨rfl, hsz, hP, hC, hD0, hz⟩ := hv
  have hx := B.exec
  have hb := B.bytes
  have hr := B.returns
  have hts := atoms_spec (ws := wsX4_propose) B.pre
  have hown : s.vm.findClass RX4 = some m.cls := findClass_of_methodNamed B.named
  have hlocks := B.notSynchronized
  have hK := hC.1
  subst hsz
  have hD := hD0.self (sz := s.heap.size)
  generalize hAe : va_A (wX g ca x) s.heap.size = A at hD hz ⊢
  have hA : ∀ q : Nat, s.heap.size ≤ q → A q := fun q h => by rw [← hAe]; exact Or.inr h
  have hS : va_S A s.heap s.heap [] := va_S.rf
  skip
  have hat1 : ∀ w ∈ (vx_atS RX4 83 "java/lang/IndexOutOfBoundsException" ["java/lang/RuntimeException", "java/lang/Exception"]).filter goodWord, w.before _ s = true := fun w hw => hts w (List.mem_cons_of_mem _ (List.mem_append_left _ (List.mem_append_right _ hw)))
  have hat2 : ∀ w ∈ (vx_atS RX4 90 "java/lang/IllegalArgumentException" ["java/lang/RuntimeException", "java/lang/Exception"]).filter goodWord, w.before _ s = true := fun w hw => hts w (List.mem_cons_of_mem _ (List.mem_append_right _ hw))
  have iX1 : ∀ w ∈ u_ws RX1 TX1 2, w ∈ wsX4_propose := by decide +kernel
  have hl := lv_entry ([.ref (g 0), .int (a1), .int (a2)]) (n := 5) (Nat.le_of_ble_eq_true rfl)
  rw [lg_entry_eq]
  generalize (lg_sl ([.ref (g 0), .int (a1), .int (a2)]) ++ List.replicate (5 - (lg_sl ([.ref (g 0), .int (a1), .int (a2)])).length) Slot.unset).toArray = ls at hl ⊢
  have hl : lv_has ls 5 [(0, .ref (g 0)), (1, .int (a1)), (2, .int (a2))] := hl
  unfold s_X4_propose at hs
  obtain ⟨H, hHe⟩ : ∃ H, H = s.heap := ⟨_, rfl⟩
  obtain ⟨locs, hle⟩ : ∃ z : List Loc, z = [] := ⟨_, rfl⟩
  have hP : va_P D vwCl (wX g ca x) H := by rw [hHe]; exact hP
  have hS : va_S A s.heap H locs := by rw [hHe, hle]; exact hS
  show W p l e (headSpec wsX4_propose ({ frames := 6, cells := 1, slots := 6, locals := 82 })).room s m #[.ref (g 0), .int (a1), .int (a2)] below meth c s.heap [] 0 0 _ _
  have hgo : W p l e (headSpec wsX4_propose ({ frames := 6, cells := 1, slots := 6, locals := 82 })).room s m #[.ref (g 0), .int (a1), .int (a2)] below meth c H locs 0 0 (vx_MQ below (tQi r D (wX g ca x) (wX g ca) s.heap.size) (tX r.1 r.2.2 D (wX g ca x) (wX g ca) s.heap.size) #[.ref (g 0), .int (a1), .int (a2)] s 1 6 A) (F0 m 0 ls []) := by
    refine lv_aload_n hx hb dX4_propose_0 rfl (lv_at hl 0 rfl) ?_
    refine lv_iload_n hx hb dX4_propose_1 rfl (lv_at hl 1 rfl) ?_
    obtain ⟨v_1, h_1, hs⟩ := sp_b hs
    refine rd_q (va_runV (As := [.int (a1)]) (rest := []) ⟨hx, hb, hml, hown, hts⟩ (c_X4_findScene l D ca g x a1 h_1) (cwV 1 hts gX4_propose_X4_findScene rfl rfl rfl (by decide +kernel) ⟨Nat.le_of_ble_eq_true rfl, Nat.le_of_ble_eq_true rfl⟩) (rP_V (q := (RX4, TX4, 16)) hP hC 0 rfl rfl) rfl rfl hl.1 rfl (lv_room (Nat.le_of_ble_eq_true rfl)) dX4_propose_2 ⟨Nat.zero_le _, Nat.zero_le _⟩) (fun o_1 => ?_) (fun j_1 o_1 => ?_)
    · have hs := sp_on o_1 hs
      refine lv_astore_nN (lv' := [(3, .null), (0, .ref (g 0)), (1, .int (a1)), (2, .int (a2))]) hx hb dX4_propose_5 rfl hl (by decide) rfl (fun ls hl => ?_)
      refine lv_aload_nN hx hb dX4_propose_6 rfl (lv_at hl 0 rfl) ?_
      refine lv_ifnonnullN hx hb dX4_propose_7 ?_
      exact th_row (f := wX g ca) (text := "no such scene") 1 (by decide) hx hb hl9 hown (hts (.classLink RX4 79 "java/lang/IndexOutOfBoundsException") (by decide +kernel)) (hts (.initialized "java/lang/IndexOutOfBoundsException") (by decide +kernel)) (by decide +kernel) hC hat1 xg_1 xo_1 hz hAe hs hP hD hS (hl.1.trans hml.symm) dX4_propose_10 dX4_propose_13 dX4_propose_14 dX4_propose_16 dX4_propose_19 hex (Nat.le_of_ble_eq_true rfl) (Nat.le_of_ble_eq_true rfl) (Nat.le_of_ble_eq_true rfl) (Nat.le_of_ble_eq_true rfl) hlocks (Nat.le_of_ble_eq_true rfl) (Nat.le_of_ble_eq_true rfl)
    · have hs := sp_os o_1 hs
      refine lv_astore_n (lv' := [(3, .ref (adS g j_1)), (0, .ref (g 0)), (1, .int (a1)), (2, .int (a2))]) hx hb dX4_propose_5 rfl hl (by decide) rfl (fun ls hl => ?_)
      refine lv_aload_n hx hb dX4_propose_6 rfl (lv_at hl 0 rfl) ?_
      refine lv_ifnonnull (tgt := 20) hx hb dX4_propose_7 (by decide) ?_
      refine lv_iload_n hx hb dX4_propose_20 rfl (lv_at hl 3 rfl) ?_
      refine lv_if_lt (tgt := 31) hx hb dX4_propose_21 (by decide) (fun c_2 => ?_) (fun c_2 => ?_)
      · have hs := sp_t c_2 hs
        exact th_row (f := wX g ca) (text := "version is out of range") 2 (by decide) hx hb hl9 hown (hts (.classLink RX4 86 "java/lang/IllegalArgumentException") (by decide +kernel)) (hts (.initialized "java/lang/IllegalArgumentException") (by decide +kernel)) (by decide +kernel) hC hat2 xg_2 xo_2 hz hAe hs hP hD hS (hl.1.trans hml.symm) dX4_propose_31 dX4_propose_34 dX4_propose_35 dX4_propose_37 dX4_propose_40 hex (Nat.le_of_ble_eq_true rfl) (Nat.le_of_ble_eq_true rfl) (Nat.le_of_ble_eq_true rfl) (Nat.le_of_ble_eq_true rfl) hlocks (Nat.le_of_ble_eq_true rfl) (Nat.le_of_ble_eq_true rfl)
      · have hs := sp_f c_2 hs
        refine lv_iload_n hx hb dX4_propose_24 rfl (lv_at hl 3 rfl) ?_
        refine lv_sipush (v := 999) hx hb dX4_propose_25 (by decide) ?_
        refine lv_icmp_le (tgt := 41) hx hb dX4_propose_28 (by decide) (fun c_3 => ?_) (fun c_3 => ?_)
        · have hs := sp_t c_3 hs
          refine lv_aload_n hx hb dX4_propose_41 rfl (lv_at hl 0 rfl) ?_
          obtain ⟨h_5, hs⟩ := sp_g hs
          refine va_getN (D := D) (ci := 1) (fs := fsS (x) j_1) (v := .int (x.1 12 j_1)) (C := RX1) (T := TX1) (N := 2) hx hb hts iX1 hown hK hP (11 + j_1) (wX_scene h_5) rfl 1 (by decide) (va_Nw.use rfl (hC.2.1 _ nk_X4_242)) (fun _ h9 => h9) rfl dX4_propose_42 ?_
          refine lv_istore (lv' := [(4, .int (x.1 12 j_1)), (3, .ref (adS g j_1)), (0, .ref (g 0)), (1, .int (a1)), (2, .int (a2))]) hx hb dX4_propose_45 hl (by decide) rfl (fun ls hl => ?_)
          refine lv_aload_n hx hb dX4_propose_47 rfl (lv_at hl 1 rfl) ?_
          refine lv_iload_n hx hb dX4_propose_48 rfl (lv_at hl 4 rfl) ?_
          refine va_putN (D := D) (ci := 1) (fs := fsS (x) j_1) (v := .int (a2)) (ty := .int) (C := RX1) (T := TX1) (N := 2) hx hb hts iX1 tyX1 tyX1_ok nmX1 hown hK hP hD hS (11 + j_1) (wX_scene h_5) rfl 1 (by decide) (va_Nw.use rfl (hC.2.1 _ nk_X4_242)) (fun _ h9 => h9) rfl (by decide +kernel) rfl rfl (Nat.le_of_ble_eq_true rfl) dX4_propose_49 (fun H locs hP hD hS => ?_)
          rw [wX_s1 (x := x) h_5] at hP hD
          refine lv_iload hx hb dX4_propose_52 (lv_at hl 0 rfl) ?_
          exact tt_i (f := wX g ca) hx hb hr hAe hs hP hD hS (Nat.le_of_ble_eq_true rfl) (Nat.le_of_ble_eq_true rfl) dX4_propose_54 hlocks
        · have hs := sp_f c_3 hs
          exact th_row (f := wX g ca) (text := "version is out of range") 2 (by decide) hx hb hl9 hown (hts (.classLink RX4 86 "java/lang/IllegalArgumentException") (by decide +kernel)) (hts (.initialized "java/lang/IllegalArgumentException") (by decide +kernel)) (by decide +kernel) hC hat2 xg_2 xo_2 hz hAe hs hP hD hS (hl.1.trans hml.symm) dX4_propose_31 dX4_propose_34 dX4_propose_35 dX4_propose_37 dX4_propose_40 hex (Nat.le_of_ble_eq_true rfl) (Nat.le_of_ble_eq_true rfl) (Nat.le_of_ble_eq_true rfl) (Nat.le_of_ble_eq_true rfl) hlocks (Nat.le_of_ble_eq_true rfl) (Nat.le_of_ble_eq_true rfl)
  rw [hHe, hle] at hgo
  exact hgo
def s_X4_answer (x : XS) (a1 : Int32) (a2 : Int32) : Option (Nat × Int32 × XS) := (s_X4_findScene x a1).bind fun v_1 => opq v_1 (some (1, 0, x)) (fun j_1 => grd j_1 4 ((if (x.1 12 j_1) = (-1) then some (3, 0, x) else (if a2 = 0 then some (0, (si (x) 12 j_1 (-1)).1 11 j_1, si (x) 12 j_1 (-1)) else some (0, (si (si (x) 11 j_1 (x.1 12 j_1)) 12 j_1 (-1)).1 11 j_1, si (si (x) 11 j_1 (x.1 12 j_1)) 12 j_1 (-1))))))
set_option maxHeartbeats 4000000 in
set_option maxRecDepth 100000 in
theorem c_X4_answer (l : Launch) (hl9 : l.stackTraces = false) (D : va_G) (ca : Nat → ClassId) (g : Nat → Nat) (x : XS) (a1 : Int32) (a2 : Int32) {r : (Nat × Int32 × XS)} (hs : s_X4_answer x a1 a2 = some r) (sz : Nat) : vx_Met l yX4_answer wsX4_answer ({ frames := 6, cells := 1, slots := 6, locals := 82 }) (tP [.ref (g 0), .int (a1), .int (a2)] D ca (wX g ca x) sz) (tQi r D (wX g ca x) (wX g ca) sz) (tX r.1 r.2.2 D (wX g ca x) (wX g ca) sz) 1 6 (va_A (wX g ca x) sz) := by
  refine vx_ofW (cc := cX4_answer) (maxL := 4) (ret := (some .int)) (by decide) rfl ?_
  intro p e s m args below meth c s₁ B hml hex hv
  obtain ⟨rfl, hsz, hP, hC, hD0, hz⟩ := hv
  have hx := B.exec
  have hb := B.bytes
  have hr := B.returns
  have hts := atoms_spec (ws := wsX4_answer) B.pre
  have hown : s.vm.findClass RX4 = some m.cls := findClass_of_methodNamed B.named
  have hlocks := B.notSynchronized
  have hK := hC.1
  subst hsz
  have hD := hD0.self (sz := s.heap.size)
  generalize hAe : va_A (wX g ca x) s.heap.size = A at hD hz ⊢
  have hA : ∀ q : Nat, s.heap.size ≤ q → A q := fun q h => by rw [← hAe]; exact Or.inr h
  have hS : va_S A s.heap s.heap [] := va_S.rf
  skip
  have hat1 : ∀ w ∈ (vx_atS RX4 83 "java/lang/IndexOutOfBoundsException" ["java/lang/RuntimeException", "java/lang/Exception"]).filter goodWord, w.before _ s = true := fun w hw => hts w (List.mem_cons_of_mem _ (List.mem_append_left _ (List.mem_append_right _ hw)))
  have hat3 : ∀ w ∈ (vx_atS RX4 112 "java/lang/IllegalStateException" ["java/lang/RuntimeException", "java/lang/Exception"]).filter goodWord, w.before _ s = true := fun w hw => hts w (List.mem_cons_of_mem _ (List.mem_append_right _ hw))
  have iX1 : ∀ w ∈ u_ws RX1 TX1 2, w ∈ wsX4_answer := by decide +kernel
  have hl := lv_entry ([.ref (g 0), .int (a1), .int (a2)]) (n := 4) (Nat.le_of_ble_eq_true rfl)
  rw [lg_entry_eq]
  generalize (lg_sl ([.ref (g 0), .int (a1), .int (a2)]) ++ List.replicate (4 - (lg_sl ([.ref (g 0), .int (a1), .int (a2)])).length) Slot.unset).toArray = ls at hl ⊢
  have hl : lv_has ls 4 [(0, .ref (g 0)), (1, .int (a1)), (2, .int (a2))] := hl
  unfold s_X4_answer at hs
  obtain ⟨H, hHe⟩ : ∃ H, H = s.heap := ⟨_, rfl⟩
  obtain ⟨locs, hle⟩ : ∃ z : List Loc, z = [] := ⟨_, rfl⟩
  have hP : va_P D vwCl (wX g ca x) H := by rw [hHe]; exact hP
  have hS : va_S A s.heap H locs := by rw [hHe, hle]; exact hS
  show W p l e (headSpec wsX4_answer ({ frames := 6, cells := 1, slots := 6, locals := 82 })).room s m #[.ref (g 0), .int (a1), .int (a2)] below meth c s.heap [] 0 0 _ _
  have hgo : W p l e (headSpec wsX4_answer ({ frames := 6, cells := 1, slots := 6, locals := 82 })).room s m #[.ref (g 0), .int (a1), .int (a2)] below meth c H locs 0 0 (vx_MQ below (tQi r D (wX g ca x) (wX g ca) s.heap.size) (tX r.1 r.2.2 D (wX g ca x) (wX g ca) s.heap.size) #[.ref (g 0), .int (a1), .int (a2)] s 1 6 A) (F0 m 0 ls []) := by
    refine lv_aload_n hx hb dX4_answer_0 rfl (lv_at hl 0 rfl) ?_
    refine lv_iload_n hx hb dX4_answer_1 rfl (lv_at hl 1 rfl) ?_
    obtain ⟨v_1, h_1, hs⟩ := sp_b hs
    refine rd_q (va_runV (As := [.int (a1)]) (rest := []) ⟨hx, hb, hml, hown, hts⟩ (c_X4_findScene l D ca g x a1 h_1) (cwV 1 hts gX4_answer_X4_findScene rfl rfl rfl (by decide +kernel) ⟨Nat.le_of_ble_eq_true rfl, Nat.le_of_ble_eq_true rfl⟩) (rP_V (q := (RX4, TX4, 16)) hP hC 0 rfl rfl) rfl rfl hl.1 rfl (lv_room (Nat.le_of_ble_eq_true rfl)) dX4_answer_2 ⟨Nat.zero_le _, Nat.zero_le _⟩) (fun o_1 => ?_) (fun j_1 o_1 => ?_)
    · have hs := sp_on o_1 hs
      refine lv_astore_nN (lv' := [(3, .null), (0, .ref (g 0)), (1, .int (a1)), (2, .int (a2))]) hx hb dX4_answer_5 rfl hl (by decide) rfl (fun ls hl => ?_)
      refine lv_aload_nN hx hb dX4_answer_6 rfl (lv_at hl 0 rfl) ?_
      refine lv_ifnonnullN hx hb dX4_answer_7 ?_
      exact th_row (f := wX g ca) (text := "no such scene") 1 (by decide) hx hb hl9 hown (hts (.classLink RX4 79 "java/lang/IndexOutOfBoundsException") (by decide +kernel)) (hts (.initialized "java/lang/IndexOutOfBoundsException") (by decide +kernel)) (by decide +kernel) hC hat1 xg_1 xo_1 hz hAe hs hP hD hS (hl.1.trans hml.symm) dX4_answer_10 dX4_answer_13 dX4_answer_14 dX4_answer_16 dX4_answer_19 hex (Nat.le_of_ble_eq_true rfl) (Nat.le_of_ble_eq_true rfl) (Nat.le_of_ble_eq_true rfl) (Nat.le_of_ble_eq_true rfl) hlocks (Nat.le_of_ble_eq_true rfl) (Nat.le_of_ble_eq_true rfl)
    · have hs := sp_os o_1 hs
      refine lv_astore_n (lv' := [(3, .ref (adS g j_1)), (0, .ref (g 0)), (1, .int (a1)), (2, .int (a2))]) hx hb dX4_answer_5 rfl hl (by decide) rfl (fun ls hl => ?_)
      refine lv_aload_n hx hb dX4_answer_6 rfl (lv_at hl 0 rfl) ?_
      refine lv_ifnonnull (tgt := 20) hx hb dX4_answer_7 (by decide) ?_
      refine lv_aload_n hx hb dX4_answer_20 rfl (lv_at hl 0 rfl) ?_
      obtain ⟨h_3, hs⟩ := sp_g hs
      refine va_getN (D := D) (ci := 1) (fs := fsS (x) j_1) (v := .int (x.1 12 j_1)) (C := RX1) (T := TX1) (N := 2) hx hb hts iX1 hown hK hP (11 + j_1) (wX_scene h_3) rfl 1 (by decide) (va_Nw.use rfl (hC.2.1 _ nk_X4_242)) (fun _ h9 => h9) rfl dX4_answer_21 ?_
      refine lv_iconst (v := -1) hx hb dX4_answer_24 (by decide) ?_
      refine lv_icmp_ne (tgt := 38) hx hb dX4_answer_25 (by decide) (fun c_4 => ?_) (fun c_4 => ?_)
      · have hs := sp_f c_4 hs
        refine lv_iload_n hx hb dX4_answer_38 rfl (lv_at hl 3 rfl) ?_
        refine lv_if_eq (tgt := 50) hx hb dX4_answer_39 (by decide) (fun c_5 => ?_) (fun c_5 => ?_)
        · have hs := sp_t c_5 hs
          refine lv_aload_n hx hb dX4_answer_50 rfl (lv_at hl 0 rfl) ?_
          refine lv_iconst (v := -1) hx hb dX4_answer_51 (by decide) ?_
          refine va_putN (D := D) (ci := 1) (fs := fsS (x) j_1) (v := .int (-1)) (ty := .int) (C := RX1) (T := TX1) (N := 2) hx hb hts iX1 tyX1 tyX1_ok nmX1 hown hK hP hD hS (11 + j_1) (wX_scene h_3) rfl 1 (by decide) (va_Nw.use rfl (hC.2.1 _ nk_X4_242)) (fun _ h9 => h9) rfl (by decide +kernel) rfl rfl (Nat.le_of_ble_eq_true rfl) dX4_answer_52 (fun H locs hP hD hS => ?_)
          rw [wX_s1 (x := x) h_3] at hP hD
          refine lv_aload_n hx hb dX4_answer_55 rfl (lv_at hl 0 rfl) ?_
          refine va_getN (D := D) (ci := 1) (fs := fsS (si (x) 12 j_1 (-1)) j_1) (v := .int ((si (x) 12 j_1 (-1)).1 11 j_1)) (C := RX1) (T := TX1) (N := 2) hx hb hts iX1 hown hK hP (11 + j_1) (wX_scene h_3) rfl 0 (by decide) (va_Nw.use rfl (hC.2.1 _ nk_X4_247)) (fun _ h9 => h9) rfl dX4_answer_56 ?_
          exact tt_i (f := wX g ca) hx hb hr hAe hs hP hD hS (Nat.le_of_ble_eq_true rfl) (Nat.le_of_ble_eq_true rfl) dX4_answer_59 hlocks
        · have hs := sp_f c_5 hs
          refine lv_aload_n hx hb dX4_answer_42 rfl (lv_at hl 0 rfl) ?_
          refine lv_aload_n hx hb dX4_answer_43 rfl (lv_at hl 0 rfl) ?_
          refine va_getN (D := D) (ci := 1) (fs := fsS (x) j_1) (v := .int (x.1 12 j_1)) (C := RX1) (T := TX1) (N := 2) hx hb hts iX1 hown hK hP (11 + j_1) (wX_scene h_3) rfl 1 (by decide) (va_Nw.use rfl (hC.2.1 _ nk_X4_242)) (fun _ h9 => h9) rfl dX4_answer_44 ?_
          refine va_putN (D := D) (ci := 1) (fs := fsS (x) j_1) (v := .int (x.1 12 j_1)) (ty := .int) (C := RX1) (T := TX1) (N := 2) hx hb hts iX1 tyX1 tyX1_ok nmX1 hown hK hP hD hS (11 + j_1) (wX_scene h_3) rfl 0 (by decide) (va_Nw.use rfl (hC.2.1 _ nk_X4_247)) (fun _ h9 => h9) rfl (by decide +kernel) rfl rfl (Nat.le_of_ble_eq_true rfl) dX4_answer_47 (fun H locs hP hD hS => ?_)
          rw [wX_s0 (x := x) h_3] at hP hD
          refine lv_aload_n hx hb dX4_answer_50 rfl (lv_at hl 0 rfl) ?_
          refine lv_iconst (v := -1) hx hb dX4_answer_51 (by decide) ?_
          refine va_putN (D := D) (ci := 1) (fs := fsS (si (x) 11 j_1 (x.1 12 j_1)) j_1) (v := .int (-1)) (ty := .int) (C := RX1) (T := TX1) (N := 2) hx hb hts iX1 tyX1 tyX1_ok nmX1 hown hK hP hD hS (11 + j_1) (wX_scene h_3) rfl 1 (by decide) (va_Nw.use rfl (hC.2.1 _ nk_X4_242)) (fun _ h9 => h9) rfl (by decide +kernel) rfl rfl (Nat.le_of_ble_eq_true rfl) dX4_answer_52 (fun H locs hP hD hS => ?_)
          rw [wX_s1 (x := si (x) 11 j_1 (x.1 12 j_1)) h_3] at hP hD
          refine lv_aload_n hx hb dX4_answer_55 rfl (lv_at hl 0 rfl) ?_
          refine va_getN (D := D) (ci := 1) (fs := fsS (si (si (x) 11 j_1 (x.1 12 j_1)) 12 j_1 (-1)) j_1) (v := .int ((si (si (x) 11 j_1 (x.1 12 j_1)) 12 j_1 (-1)).1 11 j_1)) (C := RX1) (T := TX1) (N := 2) hx hb hts iX1 hown hK hP (11 + j_1) (wX_scene h_3) rfl 0 (by decide) (va_Nw.use rfl (hC.2.1 _ nk_X4_247)) (fun _ h9 => h9) rfl dX4_answer_56 ?_
          exact tt_i (f := wX g ca) hx hb hr hAe hs hP hD hS (Nat.le_of_ble_eq_true rfl) (Nat.le_of_ble_eq_true rfl) dX4_answer_59 hlocks
      · have hs := sp_t c_4 hs
        exact th_row (f := wX g ca) (text := "nothing is proposed") 3 (by decide) hx hb hl9 hown (hts (.classLink RX4 108 "java/lang/IllegalStateException") (by decide +kernel)) (hts (.initialized "java/lang/IllegalStateException") (by decide +kernel)) (by decide +kernel) hC hat3 xg_3 xo_3 hz hAe hs hP hD hS (hl.1.trans hml.symm) dX4_answer_28 dX4_answer_31 dX4_answer_32 dX4_answer_34 dX4_answer_37 hex (Nat.le_of_ble_eq_true rfl) (Nat.le_of_ble_eq_true rfl) (Nat.le_of_ble_eq_true rfl) (Nat.le_of_ble_eq_true rfl) hlocks (Nat.le_of_ble_eq_true rfl) (Nat.le_of_ble_eq_true rfl)
  rw [hHe, hle] at hgo
  exact hgo
def s_X4_scene (x : XS) (a1 : Int32) (a2 : Int32) : Option (Nat × Int32 × XS) := (s_X4_findScene x a1).bind fun v_1 => opq v_1 (some (1, 0, x)) (fun j_1 => (if a2 = 0 then grd j_1 4 (some (0, x.1 11 j_1, x)) else grd j_1 4 (some (0, x.1 12 j_1, x))))
set_option maxHeartbeats 4000000 in
set_option maxRecDepth 100000 in
theorem c_X4_scene (l : Launch) (hl9 : l.stackTraces = false) (D : va_G) (ca : Nat → ClassId) (g : Nat → Nat) (x : XS) (a1 : Int32) (a2 : Int32) {r : (Nat × Int32 × XS)} (hs : s_X4_scene x a1 a2 = some r) (sz : Nat) : vx_Met l yX4_scene wsX4_scene ({ frames := 6, cells := 1, slots := 6, locals := 82 }) (tP [.ref (g 0), .int (a1), .int (a2)] D ca (wX g ca x) sz) (tQi r D (wX g ca x) (wX g ca) sz) (tX r.1 r.2.2 D (wX g ca x) (wX g ca) sz) 1 6 (va_A (wX g ca x) sz) := by
  refine vx_ofW (cc := cX4_scene) (maxL := 4) (ret := (some .int)) (by decide) rfl ?_
  intro p e s m args below meth c s₁ B hml hex hv
  obtain ⟨rfl, hsz, hP, hC, hD0, hz⟩ := hv
  have hx := B.exec
  have hb := B.bytes
  have hr := B.returns
  have hts := atoms_spec (ws := wsX4_scene) B.pre
  have hown : s.vm.findClass RX4 = some m.cls := findClass_of_methodNamed B.named
  have hlocks := B.notSynchronized
  have hK := hC.1
  subst hsz
  have hD := hD0.self (sz := s.heap.size)
  generalize hAe : va_A (wX g ca x) s.heap.size = A at hD hz ⊢
  have hA : ∀ q : Nat, s.heap.size ≤ q → A q := fun q h => by rw [← hAe]; exact Or.inr h
  have hS : va_S A s.heap s.heap [] := va_S.rf
  skip
  have hat1 : ∀ w ∈ (vx_atS RX4 83 "java/lang/IndexOutOfBoundsException" ["java/lang/RuntimeException", "java/lang/Exception"]).filter goodWord, w.before _ s = true := fun w hw => hts w (List.mem_cons_of_mem _ (List.mem_append_right _ hw))
  have iX1 : ∀ w ∈ u_ws RX1 TX1 2, w ∈ wsX4_scene := by decide +kernel
  have hl := lv_entry ([.ref (g 0), .int (a1), .int (a2)]) (n := 4) (Nat.le_of_ble_eq_true rfl)
  rw [lg_entry_eq]
  generalize (lg_sl ([.ref (g 0), .int (a1), .int (a2)]) ++ List.replicate (4 - (lg_sl ([.ref (g 0), .int (a1), .int (a2)])).length) Slot.unset).toArray = ls at hl ⊢
  have hl : lv_has ls 4 [(0, .ref (g 0)), (1, .int (a1)), (2, .int (a2))] := hl
  unfold s_X4_scene at hs
  obtain ⟨H, hHe⟩ : ∃ H, H = s.heap := ⟨_, rfl⟩
  obtain ⟨locs, hle⟩ : ∃ z : List Loc, z = [] := ⟨_, rfl⟩
  have hP : va_P D vwCl (wX g ca x) H := by rw [hHe]; exact hP
  have hS : va_S A s.heap H locs := by rw [hHe, hle]; exact hS
  show W p l e (headSpec wsX4_scene ({ frames := 6, cells := 1, slots := 6, locals := 82 })).room s m #[.ref (g 0), .int (a1), .int (a2)] below meth c s.heap [] 0 0 _ _
  have hgo : W p l e (headSpec wsX4_scene ({ frames := 6, cells := 1, slots := 6, locals := 82 })).room s m #[.ref (g 0), .int (a1), .int (a2)] below meth c H locs 0 0 (vx_MQ below (tQi r D (wX g ca x) (wX g ca) s.heap.size) (tX r.1 r.2.2 D (wX g ca x) (wX g ca) s.heap.size) #[.ref (g 0), .int (a1), .int (a2)] s 1 6 A) (F0 m 0 ls []) := by
    refine lv_aload_n hx hb dX4_scene_0 rfl (lv_at hl 0 rfl) ?_
    refine lv_iload_n hx hb dX4_scene_1 rfl (lv_at hl 1 rfl) ?_
    obtain ⟨v_1, h_1, hs⟩ := sp_b hs
    refine rd_q (va_runV (As := [.int (a1)]) (rest := []) ⟨hx, hb, hml, hown, hts⟩ (c_X4_findScene l D ca g x a1 h_1) (cwV 1 hts gX4_scene_X4_findScene rfl rfl rfl (by decide +kernel) ⟨Nat.le_of_ble_eq_true rfl, Nat.le_of_ble_eq_true rfl⟩) (rP_V (q := (RX4, TX4, 16)) hP hC 0 rfl rfl) rfl rfl hl.1 rfl (lv_room (Nat.le_of_ble_eq_true rfl)) dX4_scene_2 ⟨Nat.zero_le _, Nat.zero_le _⟩) (fun o_1 => ?_) (fun j_1 o_1 => ?_)
    · have hs := sp_on o_1 hs
      refine lv_astore_nN (lv' := [(3, .null), (0, .ref (g 0)), (1, .int (a1)), (2, .int (a2))]) hx hb dX4_scene_5 rfl hl (by decide) rfl (fun ls hl => ?_)
      refine lv_aload_nN hx hb dX4_scene_6 rfl (lv_at hl 0 rfl) ?_
      refine lv_ifnonnullN hx hb dX4_scene_7 ?_
      exact th_row (f := wX g ca) (text := "no such scene") 1 (by decide) hx hb hl9 hown (hts (.classLink RX4 79 "java/lang/IndexOutOfBoundsException") (by decide +kernel)) (hts (.initialized "java/lang/IndexOutOfBoundsException") (by decide +kernel)) (by decide +kernel) hC hat1 xg_1 xo_1 hz hAe hs hP hD hS (hl.1.trans hml.symm) dX4_scene_10 dX4_scene_13 dX4_scene_14 dX4_scene_16 dX4_scene_19 hex (Nat.le_of_ble_eq_true rfl) (Nat.le_of_ble_eq_true rfl) (Nat.le_of_ble_eq_true rfl) (Nat.le_of_ble_eq_true rfl) hlocks (Nat.le_of_ble_eq_true rfl) (Nat.le_of_ble_eq_true rfl)
    · have hs := sp_os o_1 hs
      refine lv_astore_n (lv' := [(3, .ref (adS g j_1)), (0, .ref (g 0)), (1, .int (a1)), (2, .int (a2))]) hx hb dX4_scene_5 rfl hl (by decide) rfl (fun ls hl => ?_)
      refine lv_aload_n hx hb dX4_scene_6 rfl (lv_at hl 0 rfl) ?_
      refine lv_ifnonnull (tgt := 20) hx hb dX4_scene_7 (by decide) ?_
      refine lv_iload_n hx hb dX4_scene_20 rfl (lv_at hl 3 rfl) ?_
      refine lv_if_eq (tgt := 31) hx hb dX4_scene_21 (by decide) (fun c_2 => ?_) (fun c_2 => ?_)
      · have hs := sp_t c_2 hs
        refine lv_aload_n hx hb dX4_scene_31 rfl (lv_at hl 0 rfl) ?_
        obtain ⟨h_4, hs⟩ := sp_g hs
        refine va_getN (D := D) (ci := 1) (fs := fsS (x) j_1) (v := .int (x.1 11 j_1)) (C := RX1) (T := TX1) (N := 2) hx hb hts iX1 hown hK hP (11 + j_1) (wX_scene h_4) rfl 0 (by decide) (va_Nw.use rfl (hC.2.1 _ nk_X4_247)) (fun _ h9 => h9) rfl dX4_scene_32 ?_
        exact tt_i (f := wX g ca) hx hb hr hAe hs hP hD hS (Nat.le_of_ble_eq_true rfl) (Nat.le_of_ble_eq_true rfl) dX4_scene_35 hlocks
      · have hs := sp_f c_2 hs
        refine lv_aload_n hx hb dX4_scene_24 rfl (lv_at hl 0 rfl) ?_
        obtain ⟨h_6, hs⟩ := sp_g hs
        refine va_getN (D := D) (ci := 1) (fs := fsS (x) j_1) (v := .int (x.1 12 j_1)) (C := RX1) (T := TX1) (N := 2) hx hb hts iX1 hown hK hP (11 + j_1) (wX_scene h_6) rfl 1 (by decide) (va_Nw.use rfl (hC.2.1 _ nk_X4_242)) (fun _ h9 => h9) rfl dX4_scene_25 ?_
        refine lv_goto (tgt := 35) hx hb dX4_scene_28 (by decide) ?_
        exact tt_i (f := wX g ca) hx hb hr hAe hs hP hD hS (Nat.le_of_ble_eq_true rfl) (Nat.le_of_ble_eq_true rfl) dX4_scene_35 hlocks
  rw [hHe, hle] at hgo
  exact hgo
def s_X4_show (x : XS) (a1 : Int32) : Option (Nat × Int64 × XS) := (if a1 = 0 then some (0, (x.1 0 11).toInt64, x) else (if a1 = 1 then some (0, (x.1 0 12).toInt64, x) else (if a1 = 2 then some (0, x.2.1 0, x) else (if a1 = 3 then some (0, x.2.1 1, x) else (if a1 = 4 then some (0, (x.1 0 15).toInt64, x) else (if a1 = 5 then (s_X4_countOfOn x).bind fun v_2 => some (0, v_2.toInt64, x) else some (2, 0, x)))))))
set_option maxHeartbeats 4000000 in
set_option maxRecDepth 100000 in
theorem c_X4_show (l : Launch) (hl9 : l.stackTraces = false) (D : va_G) (ca : Nat → ClassId) (g : Nat → Nat) (x : XS) (a1 : Int32) {r : (Nat × Int64 × XS)} (hs : s_X4_show x a1 = some r) (sz : Nat) : vx_Met l yX4_show wsX4_show ({ frames := 6, cells := 1, slots := 6, locals := 82 }) (tP [.ref (g 0), .int (a1)] D ca (wX g ca x) sz) (tQl r D (wX g ca x) (wX g ca) sz) (tX r.1 r.2.2 D (wX g ca x) (wX g ca) sz) 1 6 (va_A (wX g ca x) sz) := by
  refine vx_ofW (cc := cX4_show) (maxL := 2) (ret := (some .long)) (by decide) rfl ?_
  intro p e s m args below meth c s₁ B hml hex hv
  obtain ⟨rfl, hsz, hP, hC, hD0, hz⟩ := hv
  have hx := B.exec
  have hb := B.bytes
  have hr := B.returns
  have hts := atoms_spec (ws := wsX4_show) B.pre
  have hown : s.vm.findClass RX4 = some m.cls := findClass_of_methodNamed B.named
  have hlocks := B.notSynchronized
  have hK := hC.1
  subst hsz
  have hD := hD0.self (sz := s.heap.size)
  generalize hAe : va_A (wX g ca x) s.heap.size = A at hD hz ⊢
  have hA : ∀ q : Nat, s.heap.size ≤ q → A q := fun q h => by rw [← hAe]; exact Or.inr h
  have hS : va_S A s.heap s.heap [] := va_S.rf
  skip
  have hat2 : ∀ w ∈ (vx_atS RX4 90 "java/lang/IllegalArgumentException" ["java/lang/RuntimeException", "java/lang/Exception"]).filter goodWord, w.before _ s = true := fun w hw => hts w (List.mem_cons_of_mem _ (List.mem_append_right _ hw))
  have iX4 : ∀ w ∈ u_ws RX4 TX4 16, w ∈ wsX4_show := by decide +kernel
  have hl := lv_entry ([.ref (g 0), .int (a1)]) (n := 2) (Nat.le_of_ble_eq_true rfl)
  rw [lg_entry_eq]
  generalize (lg_sl ([.ref (g 0), .int (a1)]) ++ List.replicate (2 - (lg_sl ([.ref (g 0), .int (a1)])).length) Slot.unset).toArray = ls at hl ⊢
  have hl : lv_has ls 2 [(0, .ref (g 0)), (1, .int (a1))] := hl
  unfold s_X4_show at hs
  obtain ⟨H, hHe⟩ : ∃ H, H = s.heap := ⟨_, rfl⟩
  obtain ⟨locs, hle⟩ : ∃ z : List Loc, z = [] := ⟨_, rfl⟩
  have hP : va_P D vwCl (wX g ca x) H := by rw [hHe]; exact hP
  have hS : va_S A s.heap H locs := by rw [hHe, hle]; exact hS
  show W p l e (headSpec wsX4_show ({ frames := 6, cells := 1, slots := 6, locals := 82 })).room s m #[.ref (g 0), .int (a1)] below meth c s.heap [] 0 0 _ _
  have hgo : W p l e (headSpec wsX4_show ({ frames := 6, cells := 1, slots := 6, locals := 82 })).room s m #[.ref (g 0), .int (a1)] below meth c H locs 0 0 (vx_MQ below (tQl r D (wX g ca x) (wX g ca) s.heap.size) (tX r.1 r.2.2 D (wX g ca x) (wX g ca) s.heap.size) #[.ref (g 0), .int (a1)] s 1 6 A) (F0 m 0 ls []) := by
    refine lv_iload_n hx hb dX4_show_0 rfl (lv_at hl 1 rfl) ?_
    by_cases c_1_0 : a1 = 0
    · have hs := sp_t c_1_0 hs
      refine lv_tableIn (off := 39) (tgt := 40) hx hb dX4_show_1 (by rw [c_1_0]; decide) (by rw [c_1_0]; decide) (by rw [c_1_0]; decide) (by decide) ?_
      refine lv_aload_n hx hb dX4_show_40 rfl (lv_at hl 0 rfl) ?_
      refine va_get (D := D) (ci := 4) (fs := fsX g (x)) (v := .int (x.1 0 11)) (C := RX4) (T := TX4) (N := 16) hx hb hts iX4 hown hK hP 0 rfl rfl 11 (by decide) (hts (.fieldLink RX4 59 "FacadeShow" "frameNow" "I") (by decide +kernel)) (fun _ h9 => h9) rfl dX4_show_41 ?_
      refine lv_i2l hx hb dX4_show_44 rfl ?_
      exact tt_l (f := wX g ca) hx hb hr hAe hs hP hD hS (Nat.le_of_ble_eq_true rfl) (Nat.le_of_ble_eq_true rfl) dX4_show_45 hlocks
    · have hs := sp_f c_1_0 hs
      by_cases c_1_1 : a1 = 1
      · have hs := sp_t c_1_1 hs
        refine lv_tableIn (off := 45) (tgt := 46) hx hb dX4_show_1 (by rw [c_1_1]; decide) (by rw [c_1_1]; decide) (by rw [c_1_1]; decide) (by decide) ?_
        refine lv_aload_n hx hb dX4_show_46 rfl (lv_at hl 0 rfl) ?_
        refine va_get (D := D) (ci := 4) (fs := fsX g (x)) (v := .int (x.1 0 12)) (C := RX4) (T := TX4) (N := 16) hx hb hts iX4 hown hK hP 0 rfl rfl 12 (by decide) (hts (.fieldLink RX4 62 "FacadeShow" "heldCount" "I") (by decide +kernel)) (fun _ h9 => h9) rfl dX4_show_47 ?_
        refine lv_i2l hx hb dX4_show_50 rfl ?_
        exact tt_l (f := wX g ca) hx hb hr hAe hs hP hD hS (Nat.le_of_ble_eq_true rfl) (Nat.le_of_ble_eq_true rfl) dX4_show_51 hlocks
      · have hs := sp_f c_1_1 hs
        by_cases c_1_2 : a1 = 2
        · have hs := sp_t c_1_2 hs
          refine lv_tableIn (off := 51) (tgt := 52) hx hb dX4_show_1 (by rw [c_1_2]; decide) (by rw [c_1_2]; decide) (by rw [c_1_2]; decide) (by decide) ?_
          refine lv_aload_n hx hb dX4_show_52 rfl (lv_at hl 0 rfl) ?_
          refine va_get (D := D) (ci := 4) (fs := fsX g (x)) (v := .long (x.2.1 0)) (C := RX4) (T := TX4) (N := 16) hx hb hts iX4 hown hK hP 0 rfl rfl 13 (by decide) (hts (.fieldLink RX4 65 "FacadeShow" "breachCount" "J") (by decide +kernel)) (fun _ h9 => h9) rfl dX4_show_53 ?_
          exact tt_l (f := wX g ca) hx hb hr hAe hs hP hD hS (Nat.le_of_ble_eq_true rfl) (Nat.le_of_ble_eq_true rfl) dX4_show_56 hlocks
        · have hs := sp_f c_1_2 hs
          by_cases c_1_3 : a1 = 3
          · have hs := sp_t c_1_3 hs
            refine lv_tableIn (off := 56) (tgt := 57) hx hb dX4_show_1 (by rw [c_1_3]; decide) (by rw [c_1_3]; decide) (by rw [c_1_3]; decide) (by decide) ?_
            refine lv_aload_n hx hb dX4_show_57 rfl (lv_at hl 0 rfl) ?_
            refine va_get (D := D) (ci := 4) (fs := fsX g (x)) (v := .long (x.2.1 1)) (C := RX4) (T := TX4) (N := 16) hx hb hts iX4 hown hK hP 0 rfl rfl 14 (by decide) (hts (.fieldLink RX4 69 "FacadeShow" "energy" "J") (by decide +kernel)) (fun _ h9 => h9) rfl dX4_show_58 ?_
            exact tt_l (f := wX g ca) hx hb hr hAe hs hP hD hS (Nat.le_of_ble_eq_true rfl) (Nat.le_of_ble_eq_true rfl) dX4_show_61 hlocks
          · have hs := sp_f c_1_3 hs
            by_cases c_1_4 : a1 = 4
            · have hs := sp_t c_1_4 hs
              refine lv_tableIn (off := 61) (tgt := 62) hx hb dX4_show_1 (by rw [c_1_4]; decide) (by rw [c_1_4]; decide) (by rw [c_1_4]; decide) (by decide) ?_
              refine lv_aload_n hx hb dX4_show_62 rfl (lv_at hl 0 rfl) ?_
              refine va_get (D := D) (ci := 4) (fs := fsX g (x)) (v := .int (x.1 0 15)) (C := RX4) (T := TX4) (N := 16) hx hb hts iX4 hown hK hP 0 rfl rfl 15 (by decide) (hts (.fieldLink RX4 72 "FacadeShow" "minuteNow" "I") (by decide +kernel)) (fun _ h9 => h9) rfl dX4_show_63 ?_
              refine lv_i2l hx hb dX4_show_66 rfl ?_
              exact tt_l (f := wX g ca) hx hb hr hAe hs hP hD hS (Nat.le_of_ble_eq_true rfl) (Nat.le_of_ble_eq_true rfl) dX4_show_67 hlocks
            · have hs := sp_f c_1_4 hs
              by_cases c_1_5 : a1 = 5
              · have hs := sp_t c_1_5 hs
                refine lv_tableIn (off := 67) (tgt := 68) hx hb dX4_show_1 (by rw [c_1_5]; decide) (by rw [c_1_5]; decide) (by rw [c_1_5]; decide) (by decide) ?_
                refine lv_aload_n hx hb dX4_show_68 rfl (lv_at hl 0 rfl) ?_
                obtain ⟨v_2, h_2, hs⟩ := sp_b hs
                refine rd_i (va_runV (As := []) (rest := []) ⟨hx, hb, hml, hown, hts⟩ (c_X4_countOfOn l D ca g x h_2) (cwV 0 hts gX4_show_X4_countOfOn rfl rfl rfl (by decide +kernel) ⟨Nat.le_of_ble_eq_true rfl, Nat.le_of_ble_eq_true rfl⟩) (rP_V (q := (RX4, TX4, 16)) hP hC 0 rfl rfl) rfl rfl hl.1 rfl (lv_room (Nat.le_of_ble_eq_true rfl)) dX4_show_69 ⟨Nat.zero_le _, Nat.zero_le _⟩) ?_
                refine lv_i2l hx hb dX4_show_72 rfl ?_
                exact tt_l (f := wX g ca) hx hb hr hAe hs hP hD hS (Nat.le_of_ble_eq_true rfl) (Nat.le_of_ble_eq_true rfl) dX4_show_73 hlocks
              · have hs := sp_f c_1_5 hs
                have hne : (a1).toInt < 0 ∨ 5 < (a1).toInt := by
                  have n_0 := lv_neT (a := 0) c_1_0 rfl
                  have n_1 := lv_neT (a := 1) c_1_1 rfl
                  have n_2 := lv_neT (a := 2) c_1_2 rfl
                  have n_3 := lv_neT (a := 3) c_1_3 rfl
                  have n_4 := lv_neT (a := 4) c_1_4 rfl
                  have n_5 := lv_neT (a := 5) c_1_5 rfl
                  omega
                refine lv_tableOut (tgt := 74) hx hb dX4_show_1 hne (by decide) ?_
                exact th_row (f := wX g ca) (text := "what is out of range") 2 (by decide) hx hb hl9 hown (hts (.classLink RX4 86 "java/lang/IllegalArgumentException") (by decide +kernel)) (hts (.initialized "java/lang/IllegalArgumentException") (by decide +kernel)) (by decide +kernel) hC hat2 xg_2 xo_2 hz hAe hs hP hD hS (hl.1.trans hml.symm) dX4_show_74 dX4_show_77 dX4_show_78 dX4_show_80 dX4_show_83 hex (Nat.le_of_ble_eq_true rfl) (Nat.le_of_ble_eq_true rfl) (Nat.le_of_ble_eq_true rfl) (Nat.le_of_ble_eq_true rfl) hlocks (Nat.le_of_ble_eq_true rfl) (Nat.le_of_ble_eq_true rfl)
  rw [hHe, hle] at hgo
  exact hgo
def s_X4_pass_b142 (a1 : Int32) (k68 : XS → Int32 → Int32 → Int32 → Int32 → Int32 → Option (Nat × Int32 × XS)) (xx : XS) (p2 : Int32) (p3 : Int32) (p4 : Int32) (p5 : Int32) (p6 : Int32) : Option (Nat × Int32 × XS) := k68 (si (xx) 0 15 ((xx.1 0 15) + 1)) (p2) (p3) (p4) (p5) (p6 + 1)
def s_X4_pass_b92 (a1 : Int32) (k68 : XS → Int32 → Int32 → Int32 → Int32 → Int32 → Option (Nat × Int32 × XS)) (xx : XS) (p2 : Int32) (p3 : Int32) (p4 : Int32) (p5 : Int32) (p6 : Int32) (q0 : Int32) (q1 : Int32) (q2 : Int64) : Option (Nat × Int32 × XS) := (if p5 ≤ ((sl (sl (xx) 0 (q2 + ((q1 + q0).toInt64))) 1 (((sl (xx) 0 (q2 + ((q1 + q0).toInt64))).2.1 1) + p4.toInt64)).1 0 11) then s_X4_pass_b142 a1 k68 (si (sl (sl (xx) 0 (q2 + ((q1 + q0).toInt64))) 1 (((sl (xx) 0 (q2 + ((q1 + q0).toInt64))).2.1 1) + p4.toInt64)) 0 12 (((sl (sl (xx) 0 (q2 + ((q1 + q0).toInt64))) 1 (((sl (xx) 0 (q2 + ((q1 + q0).toInt64))).2.1 1) + p4.toInt64)).1 0 12) + 1)) (p2) (p3) (p4) (p5) (p6) else s_X4_pass_b142 a1 k68 (si (sl (sl (xx) 0 (q2 + ((q1 + q0).toInt64))) 1 (((sl (xx) 0 (q2 + ((q1 + q0).toInt64))).2.1 1) + p4.toInt64)) 0 11 (((sl (sl (xx) 0 (q2 + ((q1 + q0).toInt64))) 1 (((sl (xx) 0 (q2 + ((q1 + q0).toInt64))).2.1 1) + p4.toInt64)).1 0 11) + 1)) (p2) (p3) (p4) (p5) (p6))
def s_X4_pass_b68 (a1 : Int32) : Nat → XS → Int32 → Int32 → Int32 → Int32 → Int32 → Option (Nat × Int32 × XS)
  | 0, _, _, _, _, _, _ => none
  | F + 1, xx, p2, p3, p4, p5, p6 => (if a1 ≤ p6 then some (0, xx.1 0 15, xx) else (s_X4_isCurfewNow xx).bind fun v_3 => (if v_3 = 0 then s_X4_pass_b92 a1 (fun zx z_p2 z_p3 z_p4 z_p5 z_p6 => s_X4_pass_b68 a1 F zx z_p2 z_p3 z_p4 z_p5 z_p6) (xx) (p2) (p3) (p4) (p5) (p6) (0) (p2) (xx.2.1 0) else s_X4_pass_b92 a1 (fun zx z_p2 z_p3 z_p4 z_p5 z_p6 => s_X4_pass_b68 a1 F zx z_p2 z_p3 z_p4 z_p5 z_p6) (xx) (p2) (p3) (p4) (p5) (p6) (p3) (p2) (xx.2.1 0)))
def s_X4_pass (x : XS) (a1 : Int32) : Option (Nat × Int32 × XS) := (if a1 < 1 then some (2, 0, x) else (if a1 ≤ 1440 then (if a1 ≤ (99999 - (x.1 0 15)) then (s_X4_breaches x).bind fun v_8 => (s_X4_countOfOn x).bind fun v_9 => (s_X4_powerOfOn x).bind fun v_10 => (s_X4_lastFrameOfAll x).bind fun v_11 => s_X4_pass_b68 a1  FU (x) (v_8) (v_9) (v_10) (v_11) (0) else some (3, 0, x)) else some (2, 0, x)))
set_option maxHeartbeats 4000000 in
set_option maxRecDepth 100000 in
theorem c_X4_pass (l : Launch) (hl9 : l.stackTraces = false) (D : va_G) (ca : Nat → ClassId) (g : Nat → Nat) (x : XS) (a1 : Int32) {r : (Nat × Int32 × XS)} (hs : s_X4_pass x a1 = some r) (sz : Nat) : vx_Met l yX4_pass wsX4_pass ({ frames := 6, cells := 1, slots := 6, locals := 137 }) (tP [.ref (g 0), .int (a1)] D ca (wX g ca x) sz) (tQi r D (wX g ca x) (wX g ca) sz) (tX r.1 r.2.2 D (wX g ca x) (wX g ca) sz) 1 6 (va_A (wX g ca x) sz) := by
  refine vx_ofW (cc := cX4_pass) (maxL := 7) (ret := (some .int)) (by decide) rfl ?_
  intro p e s m args below meth c s₁ B hml hex hv
  obtain ⟨rfl, hsz, hP, hC, hD0, hz⟩ := hv
  have hx := B.exec
  have hb := B.bytes
  have hr := B.returns
  have hts := atoms_spec (ws := wsX4_pass) B.pre
  have hown : s.vm.findClass RX4 = some m.cls := findClass_of_methodNamed B.named
  have hlocks := B.notSynchronized
  have hK := hC.1
  subst hsz
  have hD := hD0.self (sz := s.heap.size)
  generalize hAe : va_A (wX g ca x) s.heap.size = A at hD hz ⊢
  have hA : ∀ q : Nat, s.heap.size ≤ q → A q := fun q h => by rw [← hAe]; exact Or.inr h
  have hS : va_S A s.heap s.heap [] := va_S.rf
  skip
  have hat2 : ∀ w ∈ (vx_atS RX4 90 "java/lang/IllegalArgumentException" ["java/lang/RuntimeException", "java/lang/Exception"]).filter goodWord, w.before _ s = true := fun w hw => hts w (List.mem_cons_of_mem _ (List.mem_append_left _ (List.mem_append_right _ hw)))
  have hat3 : ∀ w ∈ (vx_atS RX4 112 "java/lang/IllegalStateException" ["java/lang/RuntimeException", "java/lang/Exception"]).filter goodWord, w.before _ s = true := fun w hw => hts w (List.mem_cons_of_mem _ (List.mem_append_right _ hw))
  have iX4 : ∀ w ∈ u_ws RX4 TX4 16, w ∈ wsX4_pass := by decide +kernel
  have hl := lv_entry ([.ref (g 0), .int (a1)]) (n := 7) (Nat.le_of_ble_eq_true rfl)
  rw [lg_entry_eq]
  generalize (lg_sl ([.ref (g 0), .int (a1)]) ++ List.replicate (7 - (lg_sl ([.ref (g 0), .int (a1)])).length) Slot.unset).toArray = ls at hl ⊢
  have hl : lv_has ls 7 [(0, .ref (g 0)), (1, .int (a1))] := hl
  have b142 : ∀ (k68 : XS → Int32 → Int32 → Int32 → Int32 → Int32 → Option (Nat × Int32 × XS)) (_ : ∀ (xx : XS) (p2 : Int32) (p3 : Int32) (p4 : Int32) (p5 : Int32) (p6 : Int32), k68 xx p2 p3 p4 p5 p6 = some r → ∀ (H : Heap) (locs : List Loc), va_P D vwCl (wX g ca xx) H → va_D A (wX g ca xx) → va_S A s.heap H locs → ∀ (ls : Array Slot), lv_has ls 7 [(0, .ref (g 0)), (1, .int (a1)), (2, .int (p2)), (3, .int (p3)), (4, .int (p4)), (5, .int (p5)), (6, .int (p6))] → W p l e (headSpec wsX4_pass ({ frames := 6, cells := 1, slots := 6, locals := 137 })).room s m #[.ref (g 0), .int (a1)] below meth c H locs 0 0 (vx_MQ below (tQi r D (wX g ca x) (wX g ca) s.heap.size) (tX r.1 r.2.2 D (wX g ca x) (wX g ca) s.heap.size) #[.ref (g 0), .int (a1)] s 1 6 A) (F0 m 68 ls [])) (xx : XS) (p2 : Int32) (p3 : Int32) (p4 : Int32) (p5 : Int32) (p6 : Int32), s_X4_pass_b142 a1 k68 xx p2 p3 p4 p5 p6 = some r → ∀ (H : Heap) (locs : List Loc), va_P D vwCl (wX g ca xx) H → va_D A (wX g ca xx) → va_S A s.heap H locs → ∀ (ls : Array Slot), lv_has ls 7 [(0, .ref (g 0)), (1, .int (a1)), (2, .int (p2)), (3, .int (p3)), (4, .int (p4)), (5, .int (p5)), (6, .int (p6))] → W p l e (headSpec wsX4_pass ({ frames := 6, cells := 1, slots := 6, locals := 137 })).room s m #[.ref (g 0), .int (a1)] below meth c H locs 0 0 (vx_MQ below (tQi r D (wX g ca x) (wX g ca) s.heap.size) (tX r.1 r.2.2 D (wX g ca x) (wX g ca) s.heap.size) #[.ref (g 0), .int (a1)] s 1 6 A) (F0 m 142 ls []) := by
    intro k68 hk68 xx p2 p3 p4 p5 p6 hs H locs hP hD hS ls hl
    unfold s_X4_pass_b142 at hs
    refine lv_aload_n hx hb dX4_pass_142 rfl (lv_at hl 0 rfl) ?_
    refine lv_dup hx hb dX4_pass_143 rfl ?_
    refine va_get (D := D) (ci := 4) (fs := fsX g (xx)) (v := .int (xx.1 0 15)) (C := RX4) (T := TX4) (N := 16) hx hb hts iX4 hown hK hP 0 rfl rfl 15 (by decide) (hts (.fieldLink RX4 72 "FacadeShow" "minuteNow" "I") (by decide +kernel)) (fun _ h9 => h9) rfl dX4_pass_144 ?_
    refine lv_iconst (v := 1) hx hb dX4_pass_147 (by decide) ?_
    refine lv_iadd hx hb dX4_pass_148 ?_
    refine va_put (D := D) (ci := 4) (fs := fsX g (xx)) (v := .int ((xx.1 0 15) + 1)) (ty := .int) (C := RX4) (T := TX4) (N := 16) hx hb hts iX4 tyX4 tyX4_ok nmX4 hown hK hP hD hS 0 rfl rfl 15 (by decide) (hts (.fieldLink RX4 72 "FacadeShow" "minuteNow" "I") (by decide +kernel)) (fun _ h9 => h9) rfl (by decide +kernel) rfl rfl (Nat.le_of_ble_eq_true rfl) dX4_pass_149 (fun H locs hP hD hS => ?_)
    rw [wX_f15] at hP hD
    refine lv_iinc (v := p6 + 1) (lv' := [(6, .int (p6 + 1)), (0, .ref (g 0)), (1, .int (a1)), (2, .int (p2)), (3, .int (p3)), (4, .int (p4)), (5, .int (p5))]) hx hb dX4_pass_152 hl (k := 6) rfl rfl (by decide) rfl (fun ls hl => ?_)
    refine lv_goto (tgt := 68) hx hb dX4_pass_155 (by decide) ?_
    exact hk68  (si (xx) 0 15 ((xx.1 0 15) + 1)) (p2) (p3) (p4) (p5) (p6 + 1) hs H locs hP hD hS ls (lv_sub hl [1, 2, 3, 4, 5, 6, 0] rfl)
  have b92 : ∀ (k68 : XS → Int32 → Int32 → Int32 → Int32 → Int32 → Option (Nat × Int32 × XS)) (_ : ∀ (xx : XS) (p2 : Int32) (p3 : Int32) (p4 : Int32) (p5 : Int32) (p6 : Int32), k68 xx p2 p3 p4 p5 p6 = some r → ∀ (H : Heap) (locs : List Loc), va_P D vwCl (wX g ca xx) H → va_D A (wX g ca xx) → va_S A s.heap H locs → ∀ (ls : Array Slot), lv_has ls 7 [(0, .ref (g 0)), (1, .int (a1)), (2, .int (p2)), (3, .int (p3)), (4, .int (p4)), (5, .int (p5)), (6, .int (p6))] → W p l e (headSpec wsX4_pass ({ frames := 6, cells := 1, slots := 6, locals := 137 })).room s m #[.ref (g 0), .int (a1)] below meth c H locs 0 0 (vx_MQ below (tQi r D (wX g ca x) (wX g ca) s.heap.size) (tX r.1 r.2.2 D (wX g ca x) (wX g ca) s.heap.size) #[.ref (g 0), .int (a1)] s 1 6 A) (F0 m 68 ls [])) (xx : XS) (p2 : Int32) (p3 : Int32) (p4 : Int32) (p5 : Int32) (p6 : Int32) (q0 : Int32) (q1 : Int32) (q2 : Int64), s_X4_pass_b92 a1 k68 xx p2 p3 p4 p5 p6 q0 q1 q2 = some r → ∀ (H : Heap) (locs : List Loc), va_P D vwCl (wX g ca xx) H → va_D A (wX g ca xx) → va_S A s.heap H locs → ∀ (ls : Array Slot), lv_has ls 7 [(0, .ref (g 0)), (1, .int (a1)), (2, .int (p2)), (3, .int (p3)), (4, .int (p4)), (5, .int (p5)), (6, .int (p6))] → W p l e (headSpec wsX4_pass ({ frames := 6, cells := 1, slots := 6, locals := 137 })).room s m #[.ref (g 0), .int (a1)] below meth c H locs 0 0 (vx_MQ below (tQi r D (wX g ca x) (wX g ca) s.heap.size) (tX r.1 r.2.2 D (wX g ca x) (wX g ca) s.heap.size) #[.ref (g 0), .int (a1)] s 1 6 A) (F0 m 92 ls [.int (q0), .int (q1), .long (q2), .ref (g 0)]) := by
    intro k68 hk68 xx p2 p3 p4 p5 p6 q0 q1 q2 hs H locs hP hD hS ls hl
    unfold s_X4_pass_b92 at hs
    refine lv_iadd hx hb dX4_pass_92 ?_
    refine lv_i2l hx hb dX4_pass_93 rfl ?_
    refine lv_ladd hx hb dX4_pass_94 ?_
    refine va_put (D := D) (ci := 4) (fs := fsX g (xx)) (v := .long (q2 + ((q1 + q0).toInt64))) (ty := .long) (C := RX4) (T := TX4) (N := 16) hx hb hts iX4 tyX4 tyX4_ok nmX4 hown hK hP hD hS 0 rfl rfl 13 (by decide) (hts (.fieldLink RX4 65 "FacadeShow" "breachCount" "J") (by decide +kernel)) (fun _ h9 => h9) rfl (by decide +kernel) rfl rfl (Nat.le_of_ble_eq_true rfl) dX4_pass_95 (fun H locs hP hD hS => ?_)
    rw [wX_f13] at hP hD
    refine lv_aload_n hx hb dX4_pass_98 rfl (lv_at hl 0 rfl) ?_
    refine lv_dup hx hb dX4_pass_99 rfl ?_
    refine va_get (D := D) (ci := 4) (fs := fsX g (sl (xx) 0 (q2 + ((q1 + q0).toInt64)))) (v := .long ((sl (xx) 0 (q2 + ((q1 + q0).toInt64))).2.1 1)) (C := RX4) (T := TX4) (N := 16) hx hb hts iX4 hown hK hP 0 rfl rfl 14 (by decide) (hts (.fieldLink RX4 69 "FacadeShow" "energy" "J") (by decide +kernel)) (fun _ h9 => h9) rfl dX4_pass_100 ?_
    refine lv_iload hx hb dX4_pass_103 (lv_at hl 4 rfl) ?_
    refine lv_i2l hx hb dX4_pass_105 rfl ?_
    refine lv_ladd hx hb dX4_pass_106 ?_
    refine va_put (D := D) (ci := 4) (fs := fsX g (sl (xx) 0 (q2 + ((q1 + q0).toInt64)))) (v := .long (((sl (xx) 0 (q2 + ((q1 + q0).toInt64))).2.1 1) + p4.toInt64)) (ty := .long) (C := RX4) (T := TX4) (N := 16) hx hb hts iX4 tyX4 tyX4_ok nmX4 hown hK hP hD hS 0 rfl rfl 14 (by decide) (hts (.fieldLink RX4 69 "FacadeShow" "energy" "J") (by decide +kernel)) (fun _ h9 => h9) rfl (by decide +kernel) rfl rfl (Nat.le_of_ble_eq_true rfl) dX4_pass_107 (fun H locs hP hD hS => ?_)
    rw [wX_f14] at hP hD
    refine lv_aload_n hx hb dX4_pass_110 rfl (lv_at hl 0 rfl) ?_
    refine va_get (D := D) (ci := 4) (fs := fsX g (sl (sl (xx) 0 (q2 + ((q1 + q0).toInt64))) 1 (((sl (xx) 0 (q2 + ((q1 + q0).toInt64))).2.1 1) + p4.toInt64))) (v := .int ((sl (sl (xx) 0 (q2 + ((q1 + q0).toInt64))) 1 (((sl (xx) 0 (q2 + ((q1 + q0).toInt64))).2.1 1) + p4.toInt64)).1 0 11)) (C := RX4) (T := TX4) (N := 16) hx hb hts iX4 hown hK hP 0 rfl rfl 11 (by decide) (hts (.fieldLink RX4 59 "FacadeShow" "frameNow" "I") (by decide +kernel)) (fun _ h9 => h9) rfl dX4_pass_111 ?_
    refine lv_iload hx hb dX4_pass_114 (lv_at hl 5 rfl) ?_
    refine lv_icmp_ge (tgt := 132) hx hb dX4_pass_116 (by decide) (fun c_1 => ?_) (fun c_1 => ?_)
    · have hs := sp_t c_1 hs
      refine lv_aload_n hx hb dX4_pass_132 rfl (lv_at hl 0 rfl) ?_
      refine lv_dup hx hb dX4_pass_133 rfl ?_
      refine va_get (D := D) (ci := 4) (fs := fsX g (sl (sl (xx) 0 (q2 + ((q1 + q0).toInt64))) 1 (((sl (xx) 0 (q2 + ((q1 + q0).toInt64))).2.1 1) + p4.toInt64))) (v := .int ((sl (sl (xx) 0 (q2 + ((q1 + q0).toInt64))) 1 (((sl (xx) 0 (q2 + ((q1 + q0).toInt64))).2.1 1) + p4.toInt64)).1 0 12)) (C := RX4) (T := TX4) (N := 16) hx hb hts iX4 hown hK hP 0 rfl rfl 12 (by decide) (hts (.fieldLink RX4 62 "FacadeShow" "heldCount" "I") (by decide +kernel)) (fun _ h9 => h9) rfl dX4_pass_134 ?_
      refine lv_iconst (v := 1) hx hb dX4_pass_137 (by decide) ?_
      refine lv_iadd hx hb dX4_pass_138 ?_
      refine va_put (D := D) (ci := 4) (fs := fsX g (sl (sl (xx) 0 (q2 + ((q1 + q0).toInt64))) 1 (((sl (xx) 0 (q2 + ((q1 + q0).toInt64))).2.1 1) + p4.toInt64))) (v := .int (((sl (sl (xx) 0 (q2 + ((q1 + q0).toInt64))) 1 (((sl (xx) 0 (q2 + ((q1 + q0).toInt64))).2.1 1) + p4.toInt64)).1 0 12) + 1)) (ty := .int) (C := RX4) (T := TX4) (N := 16) hx hb hts iX4 tyX4 tyX4_ok nmX4 hown hK hP hD hS 0 rfl rfl 12 (by decide) (hts (.fieldLink RX4 62 "FacadeShow" "heldCount" "I") (by decide +kernel)) (fun _ h9 => h9) rfl (by decide +kernel) rfl rfl (Nat.le_of_ble_eq_true rfl) dX4_pass_139 (fun H locs hP hD hS => ?_)
      rw [wX_f12] at hP hD
      exact b142 k68 hk68 (si (sl (sl (xx) 0 (q2 + ((q1 + q0).toInt64))) 1 (((sl (xx) 0 (q2 + ((q1 + q0).toInt64))).2.1 1) + p4.toInt64)) 0 12 (((sl (sl (xx) 0 (q2 + ((q1 + q0).toInt64))) 1 (((sl (xx) 0 (q2 + ((q1 + q0).toInt64))).2.1 1) + p4.toInt64)).1 0 12) + 1)) (p2) (p3) (p4) (p5) (p6) hs H locs hP hD hS ls (lv_sub hl [0, 1, 2, 3, 4, 5, 6] rfl)
    · have hs := sp_f c_1 hs
      refine lv_aload_n hx hb dX4_pass_119 rfl (lv_at hl 0 rfl) ?_
      refine lv_dup hx hb dX4_pass_120 rfl ?_
      refine va_get (D := D) (ci := 4) (fs := fsX g (sl (sl (xx) 0 (q2 + ((q1 + q0).toInt64))) 1 (((sl (xx) 0 (q2 + ((q1 + q0).toInt64))).2.1 1) + p4.toInt64))) (v := .int ((sl (sl (xx) 0 (q2 + ((q1 + q0).toInt64))) 1 (((sl (xx) 0 (q2 + ((q1 + q0).toInt64))).2.1 1) + p4.toInt64)).1 0 11)) (C := RX4) (T := TX4) (N := 16) hx hb hts iX4 hown hK hP 0 rfl rfl 11 (by decide) (hts (.fieldLink RX4 59 "FacadeShow" "frameNow" "I") (by decide +kernel)) (fun _ h9 => h9) rfl dX4_pass_121 ?_
      refine lv_iconst (v := 1) hx hb dX4_pass_124 (by decide) ?_
      refine lv_iadd hx hb dX4_pass_125 ?_
      refine va_put (D := D) (ci := 4) (fs := fsX g (sl (sl (xx) 0 (q2 + ((q1 + q0).toInt64))) 1 (((sl (xx) 0 (q2 + ((q1 + q0).toInt64))).2.1 1) + p4.toInt64))) (v := .int (((sl (sl (xx) 0 (q2 + ((q1 + q0).toInt64))) 1 (((sl (xx) 0 (q2 + ((q1 + q0).toInt64))).2.1 1) + p4.toInt64)).1 0 11) + 1)) (ty := .int) (C := RX4) (T := TX4) (N := 16) hx hb hts iX4 tyX4 tyX4_ok nmX4 hown hK hP hD hS 0 rfl rfl 11 (by decide) (hts (.fieldLink RX4 59 "FacadeShow" "frameNow" "I") (by decide +kernel)) (fun _ h9 => h9) rfl (by decide +kernel) rfl rfl (Nat.le_of_ble_eq_true rfl) dX4_pass_126 (fun H locs hP hD hS => ?_)
      rw [wX_f11] at hP hD
      refine lv_goto (tgt := 142) hx hb dX4_pass_129 (by decide) ?_
      exact b142 k68 hk68 (si (sl (sl (xx) 0 (q2 + ((q1 + q0).toInt64))) 1 (((sl (xx) 0 (q2 + ((q1 + q0).toInt64))).2.1 1) + p4.toInt64)) 0 11 (((sl (sl (xx) 0 (q2 + ((q1 + q0).toInt64))) 1 (((sl (xx) 0 (q2 + ((q1 + q0).toInt64))).2.1 1) + p4.toInt64)).1 0 11) + 1)) (p2) (p3) (p4) (p5) (p6) hs H locs hP hD hS ls (lv_sub hl [0, 1, 2, 3, 4, 5, 6] rfl)
  have b68 : ∀ (F : Nat) (xx : XS) (p2 : Int32) (p3 : Int32) (p4 : Int32) (p5 : Int32) (p6 : Int32), s_X4_pass_b68 a1 F xx p2 p3 p4 p5 p6 = some r → ∀ (H : Heap) (locs : List Loc), va_P D vwCl (wX g ca xx) H → va_D A (wX g ca xx) → va_S A s.heap H locs → ∀ (ls : Array Slot), lv_has ls 7 [(0, .ref (g 0)), (1, .int (a1)), (2, .int (p2)), (3, .int (p3)), (4, .int (p4)), (5, .int (p5)), (6, .int (p6))] → W p l e (headSpec wsX4_pass ({ frames := 6, cells := 1, slots := 6, locals := 137 })).room s m #[.ref (g 0), .int (a1)] below meth c H locs 0 0 (vx_MQ below (tQi r D (wX g ca x) (wX g ca) s.heap.size) (tX r.1 r.2.2 D (wX g ca x) (wX g ca) s.heap.size) #[.ref (g 0), .int (a1)] s 1 6 A) (F0 m 68 ls []) := by
    intro F
    induction F with
    | zero =>
      intro xx p2 p3 p4 p5 p6 hs
      simp [s_X4_pass_b68] at hs
    | succ F ih68 =>
      intro xx p2 p3 p4 p5 p6 hs H locs hP hD hS ls hl
      rw [s_X4_pass_b68] at hs
      refine lv_iload hx hb dX4_pass_68 (lv_at hl 6 rfl) ?_
      refine lv_iload_n hx hb dX4_pass_70 rfl (lv_at hl 1 rfl) ?_
      refine lv_icmp_ge (tgt := 158) hx hb dX4_pass_71 (by decide) (fun c_2 => ?_) (fun c_2 => ?_)
      · have hs := sp_t c_2 hs
        refine lv_aload_n hx hb dX4_pass_158 rfl (lv_at hl 0 rfl) ?_
        refine va_get (D := D) (ci := 4) (fs := fsX g (xx)) (v := .int (xx.1 0 15)) (C := RX4) (T := TX4) (N := 16) hx hb hts iX4 hown hK hP 0 rfl rfl 15 (by decide) (hts (.fieldLink RX4 72 "FacadeShow" "minuteNow" "I") (by decide +kernel)) (fun _ h9 => h9) rfl dX4_pass_159 ?_
        exact tt_i (f := wX g ca) hx hb hr hAe hs hP hD hS (Nat.le_of_ble_eq_true rfl) (Nat.le_of_ble_eq_true rfl) dX4_pass_162 hlocks
      · have hs := sp_f c_2 hs
        refine lv_aload_n hx hb dX4_pass_74 rfl (lv_at hl 0 rfl) ?_
        refine lv_dup hx hb dX4_pass_75 rfl ?_
        refine va_get (D := D) (ci := 4) (fs := fsX g (xx)) (v := .long (xx.2.1 0)) (C := RX4) (T := TX4) (N := 16) hx hb hts iX4 hown hK hP 0 rfl rfl 13 (by decide) (hts (.fieldLink RX4 65 "FacadeShow" "breachCount" "J") (by decide +kernel)) (fun _ h9 => h9) rfl dX4_pass_76 ?_
        refine lv_iload_n hx hb dX4_pass_79 rfl (lv_at hl 2 rfl) ?_
        refine lv_aload_n hx hb dX4_pass_80 rfl (lv_at hl 0 rfl) ?_
        obtain ⟨v_3, h_3, hs⟩ := sp_b hs
        refine rd_i (va_runV (As := []) (rest := [.int (p2), .long (xx.2.1 0), .ref (g 0)]) ⟨hx, hb, hml, hown, hts⟩ (c_X4_isCurfewNow l D ca g xx h_3) (cwV 0 hts gX4_pass_X4_isCurfewNow rfl rfl rfl (by decide +kernel) ⟨Nat.le_of_ble_eq_true rfl, Nat.le_of_ble_eq_true rfl⟩) (rP_V (q := (RX4, TX4, 16)) hP hC 0 rfl rfl) rfl rfl hl.1 rfl (lv_room (Nat.le_of_ble_eq_true rfl)) dX4_pass_81 ⟨Nat.zero_le _, Nat.zero_le _⟩) ?_
        refine lv_if_eq (tgt := 91) hx hb dX4_pass_84 (by decide) (fun c_4 => ?_) (fun c_4 => ?_)
        · have hs := sp_t c_4 hs
          refine lv_iconst (v := 0) hx hb dX4_pass_91 (by decide) ?_
          exact b92 (fun zx z_p2 z_p3 z_p4 z_p5 z_p6 => s_X4_pass_b68 a1 F zx z_p2 z_p3 z_p4 z_p5 z_p6) (fun zx z_p2 z_p3 z_p4 z_p5 z_p6 hs => ih68 zx z_p2 z_p3 z_p4 z_p5 z_p6 hs) (xx) (p2) (p3) (p4) (p5) (p6) (0) (p2) (xx.2.1 0) hs H locs hP hD hS ls (lv_sub hl [0, 1, 2, 3, 4, 5, 6] rfl)
        · have hs := sp_f c_4 hs
          refine lv_iload_n hx hb dX4_pass_87 rfl (lv_at hl 3 rfl) ?_
          refine lv_goto (tgt := 92) hx hb dX4_pass_88 (by decide) ?_
          exact b92 (fun zx z_p2 z_p3 z_p4 z_p5 z_p6 => s_X4_pass_b68 a1 F zx z_p2 z_p3 z_p4 z_p5 z_p6) (fun zx z_p2 z_p3 z_p4 z_p5 z_p6 hs => ih68 zx z_p2 z_p3 z_p4 z_p5 z_p6 hs) (xx) (p2) (p3) (p4) (p5) (p6) (p3) (p2) (xx.2.1 0) hs H locs hP hD hS ls (lv_sub hl [0, 1, 2, 3, 4, 5, 6] rfl)
  unfold s_X4_pass at hs
  obtain ⟨H, hHe⟩ : ∃ H, H = s.heap := ⟨_, rfl⟩
  obtain ⟨locs, hle⟩ : ∃ z : List Loc, z = [] := ⟨_, rfl⟩
  have hP : va_P D vwCl (wX g ca x) H := by rw [hHe]; exact hP
  have hS : va_S A s.heap H locs := by rw [hHe, hle]; exact hS
  show W p l e (headSpec wsX4_pass ({ frames := 6, cells := 1, slots := 6, locals := 137 })).room s m #[.ref (g 0), .int (a1)] below meth c s.heap [] 0 0 _ _
  have hgo : W p l e (headSpec wsX4_pass ({ frames := 6, cells := 1, slots := 6, locals := 137 })).room s m #[.ref (g 0), .int (a1)] below meth c H locs 0 0 (vx_MQ below (tQi r D (wX g ca x) (wX g ca) s.heap.size) (tX r.1 r.2.2 D (wX g ca x) (wX g ca) s.heap.size) #[.ref (g 0), .int (a1)] s 1 6 A) (F0 m 0 ls []) := by
    refine lv_iload_n hx hb dX4_pass_0 rfl (lv_at hl 1 rfl) ?_
    refine lv_iconst (v := 1) hx hb dX4_pass_1 (by decide) ?_
    refine lv_icmp_lt (tgt := 12) hx hb dX4_pass_2 (by decide) (fun c_5 => ?_) (fun c_5 => ?_)
    · have hs := sp_t c_5 hs
      exact th_row (f := wX g ca) (text := "minutes is out of range") 2 (by decide) hx hb hl9 hown (hts (.classLink RX4 86 "java/lang/IllegalArgumentException") (by decide +kernel)) (hts (.initialized "java/lang/IllegalArgumentException") (by decide +kernel)) (by decide +kernel) hC hat2 xg_2 xo_2 hz hAe hs hP hD hS (hl.1.trans hml.symm) dX4_pass_12 dX4_pass_15 dX4_pass_16 dX4_pass_18 dX4_pass_21 hex (Nat.le_of_ble_eq_true rfl) (Nat.le_of_ble_eq_true rfl) (Nat.le_of_ble_eq_true rfl) (Nat.le_of_ble_eq_true rfl) hlocks (Nat.le_of_ble_eq_true rfl) (Nat.le_of_ble_eq_true rfl)
    · have hs := sp_f c_5 hs
      refine lv_iload_n hx hb dX4_pass_5 rfl (lv_at hl 1 rfl) ?_
      refine lv_sipush (v := 1440) hx hb dX4_pass_6 (by decide) ?_
      refine lv_icmp_le (tgt := 22) hx hb dX4_pass_9 (by decide) (fun c_6 => ?_) (fun c_6 => ?_)
      · have hs := sp_t c_6 hs
        refine lv_iload_n hx hb dX4_pass_22 rfl (lv_at hl 1 rfl) ?_
        refine lv_ldc (v := 99999) hx hb hown (hts (.constant RX4 173 (99999)) (by decide +kernel)) dX4_pass_23 ?_
        refine lv_aload_n hx hb dX4_pass_25 rfl (lv_at hl 0 rfl) ?_
        refine va_get (D := D) (ci := 4) (fs := fsX g (x)) (v := .int (x.1 0 15)) (C := RX4) (T := TX4) (N := 16) hx hb hts iX4 hown hK hP 0 rfl rfl 15 (by decide) (hts (.fieldLink RX4 72 "FacadeShow" "minuteNow" "I") (by decide +kernel)) (fun _ h9 => h9) rfl dX4_pass_26 ?_
        refine lv_isub hx hb dX4_pass_29 ?_
        refine lv_icmp_le (tgt := 43) hx hb dX4_pass_30 (by decide) (fun c_7 => ?_) (fun c_7 => ?_)
        · have hs := sp_t c_7 hs
          refine lv_aload_n hx hb dX4_pass_43 rfl (lv_at hl 0 rfl) ?_
          obtain ⟨v_8, h_8, hs⟩ := sp_b hs
          refine rd_i (va_runV (As := []) (rest := []) ⟨hx, hb, hml, hown, hts⟩ (c_X4_breaches l D ca g x h_8) (cwV 0 hts gX4_pass_X4_breaches rfl rfl rfl (by decide +kernel) ⟨Nat.le_of_ble_eq_true rfl, Nat.le_of_ble_eq_true rfl⟩) (rP_V (q := (RX4, TX4, 16)) hP hC 0 rfl rfl) rfl rfl hl.1 rfl (lv_room (Nat.le_of_ble_eq_true rfl)) dX4_pass_44 ⟨Nat.zero_le _, Nat.zero_le _⟩) ?_
          refine lv_istore_n (lv' := [(2, .int (v_8)), (0, .ref (g 0)), (1, .int (a1))]) hx hb dX4_pass_47 rfl hl (by decide) rfl (fun ls hl => ?_)
          refine lv_aload_n hx hb dX4_pass_48 rfl (lv_at hl 1 rfl) ?_
          obtain ⟨v_9, h_9, hs⟩ := sp_b hs
          refine rd_i (va_runV (As := []) (rest := []) ⟨hx, hb, hml, hown, hts⟩ (c_X4_countOfOn l D ca g x h_9) (cwV 0 hts gX4_pass_X4_countOfOn rfl rfl rfl (by decide +kernel) ⟨Nat.le_of_ble_eq_true rfl, Nat.le_of_ble_eq_true rfl⟩) (rP_V (q := (RX4, TX4, 16)) hP hC 0 rfl rfl) rfl rfl hl.1 rfl (lv_room (Nat.le_of_ble_eq_true rfl)) dX4_pass_49 ⟨Nat.zero_le _, Nat.zero_le _⟩) ?_
          refine lv_istore_n (lv' := [(3, .int (v_9)), (2, .int (v_8)), (0, .ref (g 0)), (1, .int (a1))]) hx hb dX4_pass_52 rfl hl (by decide) rfl (fun ls hl => ?_)
          refine lv_aload_n hx hb dX4_pass_53 rfl (lv_at hl 2 rfl) ?_
          obtain ⟨v_10, h_10, hs⟩ := sp_b hs
          refine rd_i (va_runV (As := []) (rest := []) ⟨hx, hb, hml, hown, hts⟩ (c_X4_powerOfOn l D ca g x h_10) (cwV 0 hts gX4_pass_X4_powerOfOn rfl rfl rfl (by decide +kernel) ⟨Nat.le_of_ble_eq_true rfl, Nat.le_of_ble_eq_true rfl⟩) (rP_V (q := (RX4, TX4, 16)) hP hC 0 rfl rfl) rfl rfl hl.1 rfl (lv_room (Nat.le_of_ble_eq_true rfl)) dX4_pass_54 ⟨Nat.zero_le _, Nat.zero_le _⟩) ?_
          refine lv_istore (lv' := [(4, .int (v_10)), (3, .int (v_9)), (2, .int (v_8)), (0, .ref (g 0)), (1, .int (a1))]) hx hb dX4_pass_57 hl (by decide) rfl (fun ls hl => ?_)
          refine lv_aload_n hx hb dX4_pass_59 rfl (lv_at hl 3 rfl) ?_
          obtain ⟨v_11, h_11, hs⟩ := sp_b hs
          refine rd_i (va_runV (As := []) (rest := []) ⟨hx, hb, hml, hown, hts⟩ (c_X4_lastFrameOfAll l D ca g x h_11) (cwV 0 hts gX4_pass_X4_lastFrameOfAll rfl rfl rfl (by decide +kernel) ⟨Nat.le_of_ble_eq_true rfl, Nat.le_of_ble_eq_true rfl⟩) (rP_V (q := (RX4, TX4, 16)) hP hC 0 rfl rfl) rfl rfl hl.1 rfl (lv_room (Nat.le_of_ble_eq_true rfl)) dX4_pass_60 ⟨Nat.zero_le _, Nat.zero_le _⟩) ?_
          refine lv_istore (lv' := [(5, .int (v_11)), (4, .int (v_10)), (3, .int (v_9)), (2, .int (v_8)), (0, .ref (g 0)), (1, .int (a1))]) hx hb dX4_pass_63 hl (by decide) rfl (fun ls hl => ?_)
          refine lv_iconst (v := 0) hx hb dX4_pass_65 (by decide) ?_
          refine lv_istore (lv' := [(6, .int (0)), (5, .int (v_11)), (4, .int (v_10)), (3, .int (v_9)), (2, .int (v_8)), (0, .ref (g 0)), (1, .int (a1))]) hx hb dX4_pass_66 hl (by decide) rfl (fun ls hl => ?_)
          exact b68  FU (x) (v_8) (v_9) (v_10) (v_11) (0) hs H locs hP hD hS ls (lv_sub hl [5, 6, 4, 3, 2, 1, 0] rfl)
        · have hs := sp_f c_7 hs
          exact th_row (f := wX g ca) (text := "the minute would be above the last one") 3 (by decide) hx hb hl9 hown (hts (.classLink RX4 108 "java/lang/IllegalStateException") (by decide +kernel)) (hts (.initialized "java/lang/IllegalStateException") (by decide +kernel)) (by decide +kernel) hC hat3 xg_3 xo_3 hz hAe hs hP hD hS (hl.1.trans hml.symm) dX4_pass_33 dX4_pass_36 dX4_pass_37 dX4_pass_39 dX4_pass_42 hex (Nat.le_of_ble_eq_true rfl) (Nat.le_of_ble_eq_true rfl) (Nat.le_of_ble_eq_true rfl) (Nat.le_of_ble_eq_true rfl) hlocks (Nat.le_of_ble_eq_true rfl) (Nat.le_of_ble_eq_true rfl)
      · have hs := sp_f c_6 hs
        exact th_row (f := wX g ca) (text := "minutes is out of range") 2 (by decide) hx hb hl9 hown (hts (.classLink RX4 86 "java/lang/IllegalArgumentException") (by decide +kernel)) (hts (.initialized "java/lang/IllegalArgumentException") (by decide +kernel)) (by decide +kernel) hC hat2 xg_2 xo_2 hz hAe hs hP hD hS (hl.1.trans hml.symm) dX4_pass_12 dX4_pass_15 dX4_pass_16 dX4_pass_18 dX4_pass_21 hex (Nat.le_of_ble_eq_true rfl) (Nat.le_of_ble_eq_true rfl) (Nat.le_of_ble_eq_true rfl) (Nat.le_of_ble_eq_true rfl) hlocks (Nat.le_of_ble_eq_true rfl) (Nat.le_of_ble_eq_true rfl)
  rw [hHe, hle] at hgo
  exact hgo
