def s_X4_projector (x : XS) (a1 : Int32) (a2 : Int32) (a3 : Int32) (a4 : Int32) (a5 : Int32) : Option (Nat × Int32 × XS) := (s_X4_isColumn a1).bind fun v_1 => (if v_1 = 0 then some (1, 0, x) else (s_X4_isOpenRow a2).bind fun v_3 => (if v_3 = 0 then some (1, 0, x) else (if a3 < 1 then some (2, 0, x) else (if a3 ≤ 9999 then (s_X4_isPhase a4).bind fun v_7 => (if v_7 = 0 then some (2, 0, x) else (if a5 < 1 then some (2, 0, x) else (if a5 ≤ 11 then (s_X2_contentOf x a1 a2).bind fun v_11 => (if v_11 = 0 then (if (x.1 0 2) < 0 then some (3, 0, x) else (if (x.1 0 2) < 10 then (s_X2_put x a1 a2 4).bind fun v_15 => chk 10 (x.1 0 2) (if (x.1 0 2).toNatClampNeg = (v_15).2.2 then some (0, x.1 0 2, pjX v_15 a1 a2 a3 a4 a5 ((x.1 0 2) + 1)) else none) else some (3, 0, x))) else some (3, 0, x)) else some (2, 0, x)))) else some (2, 0, x)))))
set_option maxHeartbeats 4000000 in
set_option maxRecDepth 100000 in
theorem c_X4_projector (l : Launch) (hl9 : l.stackTraces = false) (D : va_G) (ca : Nat → ClassId) (g : Nat → Nat) (x : XS) (a1 : Int32) (a2 : Int32) (a3 : Int32) (a4 : Int32) (a5 : Int32) {r : (Nat × Int32 × XS)} (hs : s_X4_projector x a1 a2 a3 a4 a5 = some r) (sz : Nat) : vx_Met l yX4_projector wsX4_projector ({ frames := 6, cells := 1, slots := 10, locals := 82 }) (tP [.ref (g 0), .int (a1), .int (a2), .int (a3), .int (a4), .int (a5)] D ca (wX g ca x) sz) (tQp r D (wX g ca x) g ca sz) (tX r.1 r.2.2 D (wX g ca x) (wX g ca) sz) 1 10 (va_A (wX g ca x) sz) := by
  refine vx_ofW (cc := cX4_projector) (maxL := 7) (ret := (some .int)) (by decide) rfl ?_
  intro p e s m args below meth c s₁ B hml hex hv
  obtain ⟨rfl, hsz, hP, hC, hD0, hz⟩ := hv
  have hx := B.exec
  have hb := B.bytes
  have hr := B.returns
  have hts := atoms_spec (ws := wsX4_projector) B.pre
  have hown : s.vm.findClass RX4 = some m.cls := findClass_of_methodNamed B.named
  have hlocks := B.notSynchronized
  have hK := hC.1
  subst hsz
  have hD := hD0.self (sz := s.heap.size)
  generalize hAe : va_A (wX g ca x) s.heap.size = A at hD hz ⊢
  have hA : ∀ q : Nat, s.heap.size ≤ q → A q := fun q h => by rw [← hAe]; exact Or.inr h
  have hS : va_S A s.heap s.heap [] := va_S.rf
  skip
  have hat1 : ∀ w ∈ (vx_atS RX4 83 "java/lang/IndexOutOfBoundsException" ["java/lang/RuntimeException", "java/lang/Exception"]).filter goodWord, w.before _ s = true := fun w hw => hts w (List.mem_cons_of_mem _ (List.mem_append_left _ (List.mem_append_left _ (List.mem_append_right _ hw))))
  have hat2 : ∀ w ∈ (vx_atS RX4 90 "java/lang/IllegalArgumentException" ["java/lang/RuntimeException", "java/lang/Exception"]).filter goodWord, w.before _ s = true := fun w hw => hts w (List.mem_cons_of_mem _ (List.mem_append_left _ (List.mem_append_right _ hw)))
  have hat3 : ∀ w ∈ (vx_atS RX4 112 "java/lang/IllegalStateException" ["java/lang/RuntimeException", "java/lang/Exception"]).filter goodWord, w.before _ s = true := fun w hw => hts w (List.mem_cons_of_mem _ (List.mem_append_right _ hw))
  have iX0 : ∀ w ∈ u_ws RX0 TX0 10, w ∈ wsX4_projector := by decide +kernel
  have iX4 : ∀ w ∈ u_ws RX4 TX4 16, w ∈ wsX4_projector := by decide +kernel
  have hl := lv_entry ([.ref (g 0), .int (a1), .int (a2), .int (a3), .int (a4), .int (a5)]) (n := 7) (Nat.le_of_ble_eq_true rfl)
  rw [lg_entry_eq]
  generalize (lg_sl ([.ref (g 0), .int (a1), .int (a2), .int (a3), .int (a4), .int (a5)]) ++ List.replicate (7 - (lg_sl ([.ref (g 0), .int (a1), .int (a2), .int (a3), .int (a4), .int (a5)])).length) Slot.unset).toArray = ls at hl ⊢
  have hl : lv_has ls 7 [(0, .ref (g 0)), (1, .int (a1)), (2, .int (a2)), (3, .int (a3)), (4, .int (a4)), (5, .int (a5))] := hl
  unfold s_X4_projector at hs
  obtain ⟨H, hHe⟩ : ∃ H, H = s.heap := ⟨_, rfl⟩
  obtain ⟨locs, hle⟩ : ∃ z : List Loc, z = [] := ⟨_, rfl⟩
  have hP : va_P D vwCl (wX g ca x) H := by rw [hHe]; exact hP
  have hS : va_S A s.heap H locs := by rw [hHe, hle]; exact hS
  show W p l e (headSpec wsX4_projector ({ frames := 6, cells := 1, slots := 10, locals := 82 })).room s m #[.ref (g 0), .int (a1), .int (a2), .int (a3), .int (a4), .int (a5)] below meth c s.heap [] 0 0 _ _
  have hgo : W p l e (headSpec wsX4_projector ({ frames := 6, cells := 1, slots := 10, locals := 82 })).room s m #[.ref (g 0), .int (a1), .int (a2), .int (a3), .int (a4), .int (a5)] below meth c H locs 0 0 (vx_MQ below (tQp r D (wX g ca x) g ca s.heap.size) (tX r.1 r.2.2 D (wX g ca x) (wX g ca) s.heap.size) #[.ref (g 0), .int (a1), .int (a2), .int (a3), .int (a4), .int (a5)] s 1 10 A) (F0 m 0 ls []) := by
    refine lv_iload_n hx hb dX4_projector_0 rfl (lv_at hl 1 rfl) ?_
    obtain ⟨v_1, h_1, hs⟩ := sp_b hs
    refine rd_i (va_runS (As := [.int (a1)]) (rest := []) ⟨hx, hb, hml, hown, hts⟩ (c_X4_isColumn l D ca a1 h_1) (va_cwS 1 hts gX4_projector_X4_isColumn rfl rfl rfl (by decide +kernel) ⟨Nat.le_of_ble_eq_true rfl, Nat.le_of_ble_eq_true rfl⟩) (rP_S va_P_nil hC) rfl rfl hl.1 rfl (lv_room (Nat.le_of_ble_eq_true rfl)) dX4_projector_1 ⟨Nat.zero_le _, Nat.zero_le _⟩) ?_
    refine lv_if_eq (tgt := 14) hx hb dX4_projector_4 (by decide) (fun c_2 => ?_) (fun c_2 => ?_)
    · have hs := sp_t c_2 hs
      exact th_row (f := wX g ca) (text := "no such cell") 1 (by decide) hx hb hl9 hown (hts (.classLink RX4 79 "java/lang/IndexOutOfBoundsException") (by decide +kernel)) (hts (.initialized "java/lang/IndexOutOfBoundsException") (by decide +kernel)) (by decide +kernel) hC hat1 xg_1 xo_1 hz hAe hs hP hD hS (hl.1.trans hml.symm) dX4_projector_14 dX4_projector_17 dX4_projector_18 dX4_projector_20 dX4_projector_23 hex (Nat.le_of_ble_eq_true rfl) (Nat.le_of_ble_eq_true rfl) (Nat.le_of_ble_eq_true rfl) (Nat.le_of_ble_eq_true rfl) hlocks (Nat.le_of_ble_eq_true rfl) (Nat.le_of_ble_eq_true rfl)
    · have hs := sp_f c_2 hs
      refine lv_iload_n hx hb dX4_projector_7 rfl (lv_at hl 2 rfl) ?_
      obtain ⟨v_3, h_3, hs⟩ := sp_b hs
      refine rd_i (va_runS (As := [.int (a2)]) (rest := []) ⟨hx, hb, hml, hown, hts⟩ (c_X4_isOpenRow l D ca a2 h_3) (va_cwS 1 hts gX4_projector_X4_isOpenRow rfl rfl rfl (by decide +kernel) ⟨Nat.le_of_ble_eq_true rfl, Nat.le_of_ble_eq_true rfl⟩) (rP_S va_P_nil hC) rfl rfl hl.1 rfl (lv_room (Nat.le_of_ble_eq_true rfl)) dX4_projector_8 ⟨Nat.zero_le _, Nat.zero_le _⟩) ?_
      refine lv_if_ne (tgt := 24) hx hb dX4_projector_11 (by decide) (fun c_4 => ?_) (fun c_4 => ?_)
      · have hs := sp_f c_4 hs
        refine lv_iload_n hx hb dX4_projector_24 rfl (lv_at hl 3 rfl) ?_
        refine lv_iconst (v := 1) hx hb dX4_projector_25 (by decide) ?_
        refine lv_icmp_lt (tgt := 36) hx hb dX4_projector_26 (by decide) (fun c_5 => ?_) (fun c_5 => ?_)
        · have hs := sp_t c_5 hs
          exact th_row (f := wX g ca) (text := "power is out of range") 2 (by decide) hx hb hl9 hown (hts (.classLink RX4 86 "java/lang/IllegalArgumentException") (by decide +kernel)) (hts (.initialized "java/lang/IllegalArgumentException") (by decide +kernel)) (by decide +kernel) hC hat2 xg_2 xo_2 hz hAe hs hP hD hS (hl.1.trans hml.symm) dX4_projector_36 dX4_projector_39 dX4_projector_40 dX4_projector_42 dX4_projector_45 hex (Nat.le_of_ble_eq_true rfl) (Nat.le_of_ble_eq_true rfl) (Nat.le_of_ble_eq_true rfl) (Nat.le_of_ble_eq_true rfl) hlocks (Nat.le_of_ble_eq_true rfl) (Nat.le_of_ble_eq_true rfl)
        · have hs := sp_f c_5 hs
          refine lv_iload_n hx hb dX4_projector_29 rfl (lv_at hl 3 rfl) ?_
          refine lv_sipush (v := 9999) hx hb dX4_projector_30 (by decide) ?_
          refine lv_icmp_le (tgt := 46) hx hb dX4_projector_33 (by decide) (fun c_6 => ?_) (fun c_6 => ?_)
          · have hs := sp_t c_6 hs
            refine lv_iload hx hb dX4_projector_46 (lv_at hl 4 rfl) ?_
            obtain ⟨v_7, h_7, hs⟩ := sp_b hs
            refine rd_i (va_runS (As := [.int (a4)]) (rest := []) ⟨hx, hb, hml, hown, hts⟩ (c_X4_isPhase l D ca a4 h_7) (va_cwS 1 hts gX4_projector_X4_isPhase rfl rfl rfl (by decide +kernel) ⟨Nat.le_of_ble_eq_true rfl, Nat.le_of_ble_eq_true rfl⟩) (rP_S va_P_nil hC) rfl rfl hl.1 rfl (lv_room (Nat.le_of_ble_eq_true rfl)) dX4_projector_48 ⟨Nat.zero_le _, Nat.zero_le _⟩) ?_
            refine lv_if_ne (tgt := 64) hx hb dX4_projector_51 (by decide) (fun c_8 => ?_) (fun c_8 => ?_)
            · have hs := sp_f c_8 hs
              refine lv_iload hx hb dX4_projector_64 (lv_at hl 5 rfl) ?_
              refine lv_iconst (v := 1) hx hb dX4_projector_66 (by decide) ?_
              refine lv_icmp_lt (tgt := 77) hx hb dX4_projector_67 (by decide) (fun c_9 => ?_) (fun c_9 => ?_)
              · have hs := sp_t c_9 hs
                exact th_row (f := wX g ca) (text := "focus is out of range") 2 (by decide) hx hb hl9 hown (hts (.classLink RX4 86 "java/lang/IllegalArgumentException") (by decide +kernel)) (hts (.initialized "java/lang/IllegalArgumentException") (by decide +kernel)) (by decide +kernel) hC hat2 xg_2 xo_2 hz hAe hs hP hD hS (hl.1.trans hml.symm) dX4_projector_77 dX4_projector_80 dX4_projector_81 dX4_projector_83 dX4_projector_86 hex (Nat.le_of_ble_eq_true rfl) (Nat.le_of_ble_eq_true rfl) (Nat.le_of_ble_eq_true rfl) (Nat.le_of_ble_eq_true rfl) hlocks (Nat.le_of_ble_eq_true rfl) (Nat.le_of_ble_eq_true rfl)
              · have hs := sp_f c_9 hs
                refine lv_iload hx hb dX4_projector_70 (lv_at hl 5 rfl) ?_
                refine lv_bipush (v := 11) hx hb dX4_projector_72 (by decide) ?_
                refine lv_icmp_le (tgt := 87) hx hb dX4_projector_74 (by decide) (fun c_10 => ?_) (fun c_10 => ?_)
                · have hs := sp_t c_10 hs
                  refine lv_aload_n hx hb dX4_projector_87 rfl (lv_at hl 0 rfl) ?_
                  refine va_get (D := D) (ci := 4) (fs := fsX g (x)) (v := .ref (g 1)) (C := RX4) (T := TX4) (N := 16) hx hb hts iX4 hown hK hP 0 rfl rfl 0 (by decide) (hts (.fieldLink RX4 10 "FacadeShow" "square" "LFacadeShow$Square;") (by decide +kernel)) (fun _ h9 => h9) rfl dX4_projector_88 ?_
                  refine lv_iload_n hx hb dX4_projector_91 rfl (lv_at hl 1 rfl) ?_
                  refine lv_iload_n hx hb dX4_projector_92 rfl (lv_at hl 2 rfl) ?_
                  obtain ⟨v_11, h_11, hs⟩ := sp_b hs
                  refine rd_i (va_runVN (As := [.int (a1), .int (a2)]) (rest := []) ⟨hx, hb, hml, hown, hts⟩ (c_X2_contentOf l D ca g x a1 a2 h_11) ⟨va_cnB 2 hts gX4_projector_X2_contentOf_n104 rfl rfl rfl (hC.2.1 _ nk_X4_104) (hts (.initialized RX2) (by decide +kernel)) (by decide +kernel) ⟨Nat.le_of_ble_eq_true rfl, Nat.le_of_ble_eq_true rfl⟩, hts (.instanceMethod yX2_contentOf) (by decide +kernel), hts (.selects RX2 yX2_contentOf yX2_contentOf) (by decide +kernel)⟩ (rP_V (q := (RX2, TX2, 3)) hP hC 1 rfl rfl) rfl rfl hl.1 rfl (lv_room (Nat.le_of_ble_eq_true rfl)) dX4_projector_93 ⟨Nat.zero_le _, Nat.zero_le _⟩) ?_
                  refine lv_if_eq (tgt := 109) hx hb dX4_projector_96 (by decide) (fun c_12 => ?_) (fun c_12 => ?_)
                  · have hs := sp_t c_12 hs
                    refine lv_aload_n hx hb dX4_projector_109 rfl (lv_at hl 0 rfl) ?_
                    refine va_get (D := D) (ci := 4) (fs := fsX g (x)) (v := .int (x.1 0 2)) (C := RX4) (T := TX4) (N := 16) hx hb hts iX4 hown hK hP 0 rfl rfl 2 (by decide) (hts (.fieldLink RX4 22 "FacadeShow" "projectorCount" "I") (by decide +kernel)) (fun _ h9 => h9) rfl dX4_projector_110 ?_
                    refine lv_istore (lv' := [(6, .int (x.1 0 2)), (0, .ref (g 0)), (1, .int (a1)), (2, .int (a2)), (3, .int (a3)), (4, .int (a4)), (5, .int (a5))]) hx hb dX4_projector_113 hl (by decide) rfl (fun ls hl => ?_)
                    refine lv_iload hx hb dX4_projector_115 (lv_at hl 0 rfl) ?_
                    refine lv_if_lt (tgt := 130) hx hb dX4_projector_117 (by decide) (fun c_13 => ?_) (fun c_13 => ?_)
                    · have hs := sp_t c_13 hs
                      exact th_row (f := wX g ca) (text := "there are as many projectors as there may be") 3 (by decide) hx hb hl9 hown (hts (.classLink RX4 108 "java/lang/IllegalStateException") (by decide +kernel)) (hts (.initialized "java/lang/IllegalStateException") (by decide +kernel)) (by decide +kernel) hC hat3 xg_3 xo_3 hz hAe hs hP hD hS (hl.1.trans hml.symm) dX4_projector_130 dX4_projector_133 dX4_projector_134 dX4_projector_136 dX4_projector_139 hex (Nat.le_of_ble_eq_true rfl) (Nat.le_of_ble_eq_true rfl) (Nat.le_of_ble_eq_true rfl) (Nat.le_of_ble_eq_true rfl) hlocks (Nat.le_of_ble_eq_true rfl) (Nat.le_of_ble_eq_true rfl)
                    · have hs := sp_f c_13 hs
                      refine lv_iload hx hb dX4_projector_120 (lv_at hl 0 rfl) ?_
                      refine lv_aload_n hx hb dX4_projector_122 rfl (lv_at hl 1 rfl) ?_
                      refine va_get (D := D) (ci := 4) (fs := fsX g (x)) (v := .ref (g 2)) (C := RX4) (T := TX4) (N := 16) hx hb hts iX4 hown hK hP 0 rfl rfl 1 (by decide) (hts (.fieldLink RX4 18 "FacadeShow" "placed" "[LFacadeShow$Projector;") (by decide +kernel)) (fun _ h9 => h9) rfl dX4_projector_123 ?_
                      refine va_alen (D := D) (v := 10) hx hb hK hP 5 3 rfl rfl rfl dX4_projector_126 ?_
                      refine lv_icmp_lt (tgt := 140) hx hb dX4_projector_127 (by decide) (fun c_14 => ?_) (fun c_14 => ?_)
                      · have hs := sp_t c_14 hs
                        refine lv_aload_n hx hb dX4_projector_140 rfl (lv_at hl 1 rfl) ?_
                        refine va_get (D := D) (ci := 4) (fs := fsX g (x)) (v := .ref (g 1)) (C := RX4) (T := TX4) (N := 16) hx hb hts iX4 hown hK hP 0 rfl rfl 0 (by decide) (hts (.fieldLink RX4 10 "FacadeShow" "square" "LFacadeShow$Square;") (by decide +kernel)) (fun _ h9 => h9) rfl dX4_projector_141 ?_
                        refine lv_iload_n hx hb dX4_projector_144 rfl (lv_at hl 2 rfl) ?_
                        refine lv_iload_n hx hb dX4_projector_145 rfl (lv_at hl 3 rfl) ?_
                        refine lv_iconst (v := 4) hx hb dX4_projector_146 (by decide) ?_
                        obtain ⟨v_15, h_15, hs⟩ := sp_b hs
                        refine wr_v (va_runVN (As := [.int (a1), .int (a2), .int (4)]) (rest := []) ⟨hx, hb, hml, hown, hts⟩ (c_X2_put l D ca g x a1 a2 4 h_15 H.size) ⟨va_cnB 3 hts gX4_projector_X2_put_n113 rfl rfl rfl (hC.2.1 _ nk_X4_113) (hts (.initialized RX2) (by decide +kernel)) (by decide +kernel) ⟨Nat.le_of_ble_eq_true rfl, Nat.le_of_ble_eq_true rfl⟩, hts (.instanceMethod yX2_put) (by decide +kernel), hts (.selects RX2 yX2_put yX2_put) (by decide +kernel)⟩ (wP_V (q := (RX2, TX2, 3)) hP hC hD 1 rfl rfl) rfl rfl hl.1 rfl (lv_room (Nat.le_of_ble_eq_true rfl)) dX4_projector_147 ⟨Nat.zero_le _, Nat.zero_le _⟩) hD hS hA (fun H locs hP hD hS => ?_)
                        refine lv_aload_n hx hb dX4_projector_150 rfl (lv_at hl 1 rfl) ?_
                        refine va_get (D := D) (ci := 4) (fs := fsX g (v_15)) (v := .ref (g 2)) (C := RX4) (T := TX4) (N := 16) hx hb hts iX4 hown hK hP 0 rfl rfl 1 (by decide) (hts (.fieldLink RX4 18 "FacadeShow" "placed" "[LFacadeShow$Projector;") (by decide +kernel)) (fun _ h9 => h9) rfl dX4_projector_151 ?_
                        refine lv_iload hx hb dX4_projector_154 (lv_at hl 0 rfl) ?_
                        obtain ⟨h_16, hs⟩ := sp_c hs
                        obtain ⟨h_17, hs⟩ := sp_e hs
                        refine va_new (ci := 0) (fs := [.int 0, .int 0, .int 0, .int 0, .int 0, .int 0, .int 0, .int 0, .int 0, .int 0]) (C := RX0) (T := TX0) (N := 10) hx hb hts iX0 tyX0 tyX0_ok hown (hts (.classLink RX4 16 RX0) (by decide +kernel)) (hts (.instantiable RX0 10) (by decide +kernel)) (hts (.initialized RX0) (by decide +kernel)) hK hP hD hS hA rfl (fun j hj => by rcases (show j = 0 ∨ j = 1 ∨ j = 2 ∨ j = 3 ∨ j = 4 ∨ j = 5 ∨ j = 6 ∨ j = 7 ∨ j = 8 ∨ j = 9 by omega) with rfl | rfl | rfl | rfl | rfl | rfl | rfl | rfl | rfl | rfl <;> rfl) (Nat.le_of_ble_eq_true rfl) (Nat.le_of_ble_eq_true rfl) dX4_projector_156 (fun q H hP hD hS => ?_)
                        refine lv_dup hx hb dX4_projector_159 rfl ?_
                        refine lv_iload_n hx hb dX4_projector_160 rfl (lv_at hl 2 rfl) ?_
                        refine lv_iload_n hx hb dX4_projector_161 rfl (lv_at hl 3 rfl) ?_
                        refine lv_iload_n hx hb dX4_projector_162 rfl (lv_at hl 4 rfl) ?_
                        refine lv_iload hx hb dX4_projector_163 (lv_at hl 5 rfl) ?_
                        refine lv_iload hx hb dX4_projector_165 (lv_at hl 6 rfl) ?_
                        refine wr_s (va_runIN (As := [.int a1, .int a2, .int a3, .int a4, .int a5]) (rest := [.ref q, .int (x.1 0 2), .ref (g 2)]) ⟨hx, hb, hml, hown, hts⟩ (c_X0_init l D ca (wX g ca v_15) q a1 a2 a3 a4 a5 H.size) ⟨va_cnB 5 hts gX4_projector_X0_init_n134 rfl rfl rfl (hC.2.1 _ nk_X4_134) (hts (.initialized RX0) (by decide +kernel)) (by decide +kernel) ⟨Nat.le_of_ble_eq_true rfl, Nat.le_of_ble_eq_true rfl⟩, rfl, hts (.instanceMethod yX0_init) (by decide +kernel)⟩ (wP_S hP hC hD) rfl rfl hl.1 rfl (lv_room (Nat.le_of_ble_eq_true rfl)) dX4_projector_167 ⟨Nat.le_of_ble_eq_true rfl, Nat.le_of_ble_eq_true rfl⟩) hD hS hA (fun u H locs hP hD hS _ => ?_)
                        have hP : va_P D vwCl (wX g ca v_15 ++ [pjC q a1 a2 a3 a4 a5]) H := hP
                        have hD : va_D A (wX g ca v_15 ++ [pjC q a1 a2 a3 a4 a5]) := hD
                        refine va_astq (D := D) (cA := ca 3) (n := 10) (f := plX g (v_15).2.2) (vs := [.int a1, .int a2, .int a3, .int a4, .int a5, .int (-1), .int (-1), .int 0, .int 0, .int 0]) (ci := 0) (r := (RX0, TX0, 10)) hx hb hK hP hD hS 5 3 ((wX g ca v_15).length + 0) rfl rfl (la_get (k := 0) rfl) rfl h_16 dX4_projector_170 (fun H locs hP hD hS => ?_)
                        refine lv_aload_n hx hb dX4_projector_171 rfl (lv_at hl 1 rfl) ?_
                        refine lv_iload hx hb dX4_projector_172 (lv_at hl 0 rfl) ?_
                        refine lv_iconst (v := 1) hx hb dX4_projector_174 (by decide) ?_
                        refine lv_iadd hx hb dX4_projector_175 ?_
                        refine va_put (D := D) (ci := 4) (fs := fsX g (v_15)) (v := .int ((x.1 0 2) + 1)) (ty := .int) (C := RX4) (T := TX4) (N := 16) hx hb hts iX4 tyX4 tyX4_ok nmX4 hown hK hP hD hS 0 rfl rfl 2 (by decide) (hts (.fieldLink RX4 22 "FacadeShow" "projectorCount" "I") (by decide +kernel)) (fun _ h9 => h9) rfl (by decide +kernel) rfl rfl (Nat.le_of_ble_eq_true rfl) dX4_projector_176 (fun H locs hP hD hS => ?_)
                        rw [pj_world (x := v_15) h_17] at hP hD
                        refine lv_iload hx hb dX4_projector_179 (lv_at hl 0 rfl) ?_
                        exact tp_i (g := g) (pjG_lt (by omega)) hx hb hr hAe hs hP hD hS (Nat.le_of_ble_eq_true rfl) (Nat.le_of_ble_eq_true rfl) dX4_projector_181 hlocks
                      · have hs := sp_f c_14 hs
                        exact th_row (f := wX g ca) (text := "there are as many projectors as there may be") 3 (by decide) hx hb hl9 hown (hts (.classLink RX4 108 "java/lang/IllegalStateException") (by decide +kernel)) (hts (.initialized "java/lang/IllegalStateException") (by decide +kernel)) (by decide +kernel) hC hat3 xg_3 xo_3 hz hAe hs hP hD hS (hl.1.trans hml.symm) dX4_projector_130 dX4_projector_133 dX4_projector_134 dX4_projector_136 dX4_projector_139 hex (Nat.le_of_ble_eq_true rfl) (Nat.le_of_ble_eq_true rfl) (Nat.le_of_ble_eq_true rfl) (Nat.le_of_ble_eq_true rfl) hlocks (Nat.le_of_ble_eq_true rfl) (Nat.le_of_ble_eq_true rfl)
                  · have hs := sp_f c_12 hs
                    exact th_row (f := wX g ca) (text := "the cell is not empty") 3 (by decide) hx hb hl9 hown (hts (.classLink RX4 108 "java/lang/IllegalStateException") (by decide +kernel)) (hts (.initialized "java/lang/IllegalStateException") (by decide +kernel)) (by decide +kernel) hC hat3 xg_3 xo_3 hz hAe hs hP hD hS (hl.1.trans hml.symm) dX4_projector_99 dX4_projector_102 dX4_projector_103 dX4_projector_105 dX4_projector_108 hex (Nat.le_of_ble_eq_true rfl) (Nat.le_of_ble_eq_true rfl) (Nat.le_of_ble_eq_true rfl) (Nat.le_of_ble_eq_true rfl) hlocks (Nat.le_of_ble_eq_true rfl) (Nat.le_of_ble_eq_true rfl)
                · have hs := sp_f c_10 hs
                  exact th_row (f := wX g ca) (text := "focus is out of range") 2 (by decide) hx hb hl9 hown (hts (.classLink RX4 86 "java/lang/IllegalArgumentException") (by decide +kernel)) (hts (.initialized "java/lang/IllegalArgumentException") (by decide +kernel)) (by decide +kernel) hC hat2 xg_2 xo_2 hz hAe hs hP hD hS (hl.1.trans hml.symm) dX4_projector_77 dX4_projector_80 dX4_projector_81 dX4_projector_83 dX4_projector_86 hex (Nat.le_of_ble_eq_true rfl) (Nat.le_of_ble_eq_true rfl) (Nat.le_of_ble_eq_true rfl) (Nat.le_of_ble_eq_true rfl) hlocks (Nat.le_of_ble_eq_true rfl) (Nat.le_of_ble_eq_true rfl)
            · have hs := sp_t c_8 hs
              exact th_row (f := wX g ca) (text := "phase is out of range") 2 (by decide) hx hb hl9 hown (hts (.classLink RX4 86 "java/lang/IllegalArgumentException") (by decide +kernel)) (hts (.initialized "java/lang/IllegalArgumentException") (by decide +kernel)) (by decide +kernel) hC hat2 xg_2 xo_2 hz hAe hs hP hD hS (hl.1.trans hml.symm) dX4_projector_54 dX4_projector_57 dX4_projector_58 dX4_projector_60 dX4_projector_63 hex (Nat.le_of_ble_eq_true rfl) (Nat.le_of_ble_eq_true rfl) (Nat.le_of_ble_eq_true rfl) (Nat.le_of_ble_eq_true rfl) hlocks (Nat.le_of_ble_eq_true rfl) (Nat.le_of_ble_eq_true rfl)
          · have hs := sp_f c_6 hs
            exact th_row (f := wX g ca) (text := "power is out of range") 2 (by decide) hx hb hl9 hown (hts (.classLink RX4 86 "java/lang/IllegalArgumentException") (by decide +kernel)) (hts (.initialized "java/lang/IllegalArgumentException") (by decide +kernel)) (by decide +kernel) hC hat2 xg_2 xo_2 hz hAe hs hP hD hS (hl.1.trans hml.symm) dX4_projector_36 dX4_projector_39 dX4_projector_40 dX4_projector_42 dX4_projector_45 hex (Nat.le_of_ble_eq_true rfl) (Nat.le_of_ble_eq_true rfl) (Nat.le_of_ble_eq_true rfl) (Nat.le_of_ble_eq_true rfl) hlocks (Nat.le_of_ble_eq_true rfl) (Nat.le_of_ble_eq_true rfl)
      · have hs := sp_t c_4 hs
        exact th_row (f := wX g ca) (text := "no such cell") 1 (by decide) hx hb hl9 hown (hts (.classLink RX4 79 "java/lang/IndexOutOfBoundsException") (by decide +kernel)) (hts (.initialized "java/lang/IndexOutOfBoundsException") (by decide +kernel)) (by decide +kernel) hC hat1 xg_1 xo_1 hz hAe hs hP hD hS (hl.1.trans hml.symm) dX4_projector_14 dX4_projector_17 dX4_projector_18 dX4_projector_20 dX4_projector_23 hex (Nat.le_of_ble_eq_true rfl) (Nat.le_of_ble_eq_true rfl) (Nat.le_of_ble_eq_true rfl) (Nat.le_of_ble_eq_true rfl) hlocks (Nat.le_of_ble_eq_true rfl) (Nat.le_of_ble_eq_true rfl)
  rw [hHe, hle] at hgo
  exact hgo
