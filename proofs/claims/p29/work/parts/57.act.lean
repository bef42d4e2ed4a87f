def s_L_act (x : XS) (a1 : Int32) : Option (Int64 × XS) := (s_L_low (a1 >>> (26 &&& 31)) 14).bind fun v_1 => (if v_1 = 0 then (s_L_low (a1 >>> (4 &&& 31)) 14).bind fun v_48 => (s_L_low (a1 >>> (7 &&& 31)) 20).bind fun v_49 => (s_L_low (a1 >>> (5 &&& 31)) 15).bind fun v_50 => (s_L_low (a1 >>> (11 &&& 31)) 12).bind fun v_51 => (s_L_low a1 38).bind fun v_52 => (if v_52 = 0 then s_L_column x (v_49 - 2) (v_51 - 2) (a1 >>> (9 &&& 31)) else (if v_52 = 1 then s_L_column x (v_49 - 2) (v_51 - 2) (a1 >>> (9 &&& 31)) else (if v_52 = 2 then s_L_tells x (v_49 - 2) (v_50 - 1) (a1 >>> (9 &&& 31)) else (if v_52 = 3 then s_L_tells x (v_49 - 2) (v_50 - 1) (a1 >>> (9 &&& 31)) else (if v_52 = 4 then s_L_need x a1 (a1 >>> (9 &&& 31)) else (if v_52 = 5 then (s_L_low (a1 >>> (3 &&& 31)) 14).bind fun v_54 => s_L_projector x (v_49 - 2) (v_50 - 1) (a1 >>> (9 &&& 31)) (v_51 - 2) v_54 else (if v_52 = 6 then (s_L_low (a1 >>> (3 &&& 31)) 14).bind fun v_55 => s_L_projector x (v_49 - 2) (v_50 - 1) (a1 >>> (9 &&& 31)) (v_51 - 2) v_55 else (if v_52 = 7 then (s_L_low (a1 >>> (3 &&& 31)) 14).bind fun v_56 => s_L_projector x (v_49 - 2) (v_50 - 1) (a1 >>> (9 &&& 31)) (v_51 - 2) v_56 else (if v_52 = 8 then (s_L_low (a1 >>> (3 &&& 31)) 14).bind fun v_57 => s_L_projector x (v_49 - 2) (v_50 - 1) (a1 >>> (9 &&& 31)) (v_51 - 2) v_57 else (if v_52 = 9 then (s_L_low (a1 >>> (3 &&& 31)) 14).bind fun v_58 => s_L_projector x (v_49 - 2) (v_50 - 1) (a1 >>> (9 &&& 31)) (v_51 - 2) v_58 else (if v_52 = 10 then s_L_aim x (v_48 - 2) (v_49 - 2) (a1 >>> (6 &&& 31)) else (if v_52 = 11 then s_L_aim x (v_48 - 2) (v_49 - 2) (a1 >>> (6 &&& 31)) else (if v_52 = 12 then s_L_aim x (v_48 - 2) (v_49 - 2) (a1 >>> (6 &&& 31)) else (if v_52 = 13 then (s_L_low (a1 >>> (8 &&& 31)) 4).bind fun v_59 => (if v_59 ≤ 0 then s_L_turn x (v_48 - 2) 0 else s_L_turn x (v_48 - 2) 1) else (if v_52 = 14 then (s_L_low (a1 >>> (8 &&& 31)) 4).bind fun v_61 => (if v_61 ≤ 0 then s_L_turn x (v_48 - 2) 0 else s_L_turn x (v_48 - 2) 1) else (if v_52 = 15 then (s_L_low (a1 >>> (8 &&& 31)) 4).bind fun v_63 => (if v_63 ≤ 0 then s_L_turn x (v_48 - 2) 0 else s_L_turn x (v_48 - 2) 1) else (if v_52 = 16 then (s_L_low (a1 >>> (8 &&& 31)) 4).bind fun v_65 => (if v_65 ≤ 0 then s_L_turn x (v_48 - 2) 0 else s_L_turn x (v_48 - 2) 1) else (if v_52 = 17 then s_L_fail x (v_48 - 2) (b2i (decide (((a1 >>> (15 &&& 31)) &&& 1) = 1))) else (if v_52 = 18 then s_L_phase x (v_51 - 2) a1 else (if v_52 = 19 then s_L_wind x (a1 >>> (9 &&& 31)) else (if v_52 = 20 then s_L_through x (v_48 - 2) (v_49 - 2) (v_50 - 1) else (if v_52 = 21 then s_L_gives x (v_48 - 2) (v_49 - 2) else (if v_52 = 22 then s_L_sharp x (v_48 - 2) (v_49 - 2) else (if v_52 = 23 then s_L_light x (v_49 - 2) else (if v_52 = 24 then s_L_blended x (v_48 - 2) (v_49 - 2) else (if v_52 = 25 then s_L_covered x a1 else (if v_52 = 26 then (s_L_low (a1 >>> (12 &&& 31)) 3).bind fun v_67 => (if v_67 = 0 then (s_X4_least x).bind fun v_69 => some (v_69.1.toInt64, v_69.2) else s_L_bears x a1) else (if v_52 = 27 then (s_X4_breaches x).bind fun v_70 => some (v_70.toInt64, x) else (if v_52 = 28 then s_L_curfew x a1 (a1 >>> (9 &&& 31)) else (if v_52 = 29 then s_L_ready x (v_48 - 2) a1 else (if v_52 = 30 then s_L_ready x (v_48 - 2) a1 else (if v_52 = 31 then s_L_propose x (v_51 - 2) a1 else (if v_52 = 32 then s_L_answer x (v_51 - 2) (b2i (decide (((a1 >>> (15 &&& 31)) &&& 1) = 1))) else (if v_52 = 33 then s_L_scene x (v_51 - 2) (b2i (decide (((a1 >>> (15 &&& 31)) &&& 1) = 1))) else (if v_52 = 34 then s_L_show x (a1 >>> (9 &&& 31)) else s_L_pass x (a1 >>> (9 &&& 31))))))))))))))))))))))))))))))))))))) else (s_L_low (a1 >>> (4 &&& 31)) 5).bind fun v_3 => (s_L_low (a1 >>> (7 &&& 31)) 16).bind fun v_4 => (s_L_low (a1 >>> (5 &&& 31)) 9).bind fun v_5 => (s_L_low (a1 >>> (9 &&& 31)) 90).bind fun v_6 => (s_L_low (a1 >>> (11 &&& 31)) 3).bind fun v_7 => (s_L_low a1 38).bind fun v_8 => (if v_8 = 0 then (s_L_low (a1 >>> (13 &&& 31)) 2).bind fun v_10 => s_L_column x v_4 v_7 v_10 else (if v_8 = 1 then (s_L_low (a1 >>> (13 &&& 31)) 2).bind fun v_11 => s_L_column x v_4 v_7 v_11 else (if v_8 = 2 then (s_L_low (a1 >>> (12 &&& 31)) 4).bind fun v_12 => s_L_tells x v_4 (3 + v_5) v_12 else (if v_8 = 3 then (s_L_low (a1 >>> (12 &&& 31)) 4).bind fun v_13 => s_L_tells x v_4 (3 + v_5) v_13 else (if v_8 = 4 then (s_L_low (a1 >>> (3 &&& 31)) 16).bind fun v_14 => s_L_need x ((1 <<< (v_4 &&& 31)) ||| (1 <<< (v_14 &&& 31))) (1 + (2 * v_6)) else (if v_8 = 5 then (s_L_low (a1 >>> (3 &&& 31)) 11).bind fun v_15 => s_L_projector x v_4 (3 + v_5) (100 + (40 * v_6)) v_7 (1 + v_15) else (if v_8 = 6 then (s_L_low (a1 >>> (3 &&& 31)) 11).bind fun v_16 => s_L_projector x v_4 (3 + v_5) (100 + (40 * v_6)) v_7 (1 + v_16) else (if v_8 = 7 then (s_L_low (a1 >>> (3 &&& 31)) 11).bind fun v_17 => s_L_projector x v_4 (3 + v_5) (100 + (40 * v_6)) v_7 (1 + v_17) else (if v_8 = 8 then (s_L_low (a1 >>> (3 &&& 31)) 11).bind fun v_18 => s_L_projector x v_4 (3 + v_5) (100 + (40 * v_6)) v_7 (1 + v_18) else (if v_8 = 9 then (s_L_low (a1 >>> (3 &&& 31)) 11).bind fun v_19 => s_L_projector x v_4 (3 + v_5) (100 + (40 * v_6)) v_7 (1 + v_19) else (if v_8 = 10 then (if (16 - v_4) ≤ 8 then (s_L_low (a1 >>> (12 &&& 31)) (16 - v_4)).bind fun v_21 => s_L_aim x v_3 v_4 (v_4 + v_21) else (s_L_low (a1 >>> (12 &&& 31)) 8).bind fun v_22 => s_L_aim x v_3 v_4 (v_4 + v_22)) else (if v_8 = 11 then (if (16 - v_4) ≤ 8 then (s_L_low (a1 >>> (12 &&& 31)) (16 - v_4)).bind fun v_24 => s_L_aim x v_3 v_4 (v_4 + v_24) else (s_L_low (a1 >>> (12 &&& 31)) 8).bind fun v_25 => s_L_aim x v_3 v_4 (v_4 + v_25)) else (if v_8 = 12 then (if (16 - v_4) ≤ 8 then (s_L_low (a1 >>> (12 &&& 31)) (16 - v_4)).bind fun v_27 => s_L_aim x v_3 v_4 (v_4 + v_27) else (s_L_low (a1 >>> (12 &&& 31)) 8).bind fun v_28 => s_L_aim x v_3 v_4 (v_4 + v_28)) else (if v_8 = 13 then (s_L_low (a1 >>> (8 &&& 31)) 4).bind fun v_29 => (if v_29 ≤ 0 then s_L_turn x v_3 0 else s_L_turn x v_3 1) else (if v_8 = 14 then (s_L_low (a1 >>> (8 &&& 31)) 4).bind fun v_31 => (if v_31 ≤ 0 then s_L_turn x v_3 0 else s_L_turn x v_3 1) else (if v_8 = 15 then (s_L_low (a1 >>> (8 &&& 31)) 4).bind fun v_33 => (if v_33 ≤ 0 then s_L_turn x v_3 0 else s_L_turn x v_3 1) else (if v_8 = 16 then (s_L_low (a1 >>> (8 &&& 31)) 4).bind fun v_35 => (if v_35 ≤ 0 then s_L_turn x v_3 0 else s_L_turn x v_3 1) else (if v_8 = 17 then s_L_fail x v_3 (b2i (decide (((a1 >>> (15 &&& 31)) &&& 1) = 1))) else (if v_8 = 18 then s_L_phase x v_7 (100 * v_6) else (if v_8 = 19 then (s_L_low (a1 >>> (9 &&& 31)) 9).bind fun v_37 => s_L_wind x v_37 else (if v_8 = 20 then (s_L_low (a1 >>> (3 &&& 31)) 12).bind fun v_38 => s_L_through x v_3 v_4 v_38 else (if v_8 = 21 then s_L_gives x v_3 v_4 else (if v_8 = 22 then s_L_sharp x v_3 v_4 else (if v_8 = 23 then s_L_light x v_4 else (if v_8 = 24 then s_L_blended x v_3 v_4 else (if v_8 = 25 then (s_L_low (a1 >>> (3 &&& 31)) 8).bind fun v_39 => s_L_covered x v_39 else (if v_8 = 26 then (s_L_low (a1 >>> (12 &&& 31)) 3).bind fun v_40 => (if v_40 = 0 then (s_X4_least x).bind fun v_43 => some (v_43.1.toInt64, v_43.2) else (s_L_low (a1 >>> (3 &&& 31)) 8).bind fun v_42 => s_L_bears x v_42) else (if v_8 = 27 then (s_X4_breaches x).bind fun v_44 => some (v_44.toInt64, x) else (if v_8 = 28 then (s_L_low (a1 >>> (3 &&& 31)) 300).bind fun v_45 => s_L_curfew x (10 * v_6) ((10 * v_6) + v_45) else (if v_8 = 29 then s_L_ready x v_3 (3 * v_6) else (if v_8 = 30 then s_L_ready x v_3 (3 * v_6) else (if v_8 = 31 then s_L_propose x v_7 v_6 else (if v_8 = 32 then s_L_answer x v_7 (b2i (decide (((a1 >>> (15 &&& 31)) &&& 1) = 1))) else (if v_8 = 33 then s_L_scene x v_7 (b2i (decide (((a1 >>> (15 &&& 31)) &&& 1) = 1))) else (if v_8 = 34 then (s_L_low (a1 >>> (9 &&& 31)) 6).bind fun v_46 => s_L_show x v_46 else (s_L_low (a1 >>> (9 &&& 31)) 40).bind fun v_47 => s_L_pass x (1 + v_47)))))))))))))))))))))))))))))))))))))
set_option maxHeartbeats 8000000 in
set_option maxRecDepth 100000 in
theorem c_L_act (l : Launch) (hl9 : l.stackTraces = false) (D : va_G) (ca : Nat → ClassId) (g : Nat → Nat) (x : XS) (a1 : Int32) {r : (Int64 × XS)} (hs : s_L_act x a1 = some r) (sz : Nat) : Met l yL_act wsL_act ({ frames := 8, cells := 1, slots := 10, locals := 188 }) (tP [.ref (g 0), .int (a1)] D ca (wX g ca x) sz) (pQl r.1 D (wX g ca x) g ca r.2 sz) 1 10 (va_A (wX g ca x) sz) := by
  refine Met.ofW (cc := cL_act) (maxL := 9) (ret := (some .long)) (by decide) rfl ?_
  intro p e s m args below meth c s₁ B hml hv
  obtain ⟨rfl, hsz, hP, hC, hD0, hz⟩ := hv
  have hx := B.exec
  have hb := B.bytes
  have hr := B.returns
  have hts := atoms_spec (ws := wsL_act) B.pre
  have hown : s.vm.findClass RL = some m.cls := findClass_of_methodNamed B.named
  have hlocks := B.notSynchronized
  have hK := hC.1
  subst hsz
  have hD := hD0.self (sz := s.heap.size)
  generalize hAe : va_A (wX g ca x) s.heap.size = A at hD hz ⊢
  have hA : ∀ q : Nat, s.heap.size ≤ q → A q := fun q h => by rw [← hAe]; exact Or.inr h
  have hS : va_S A s.heap s.heap [] := va_S.rf
  have hl := lv_entry ([.ref (g 0), .int (a1)]) (n := 9) (Nat.le_of_ble_eq_true rfl)
  rw [lg_entry_eq]
  generalize (lg_sl ([.ref (g 0), .int (a1)]) ++ List.replicate (9 - (lg_sl ([.ref (g 0), .int (a1)])).length) Slot.unset).toArray = ls at hl ⊢
  have hl : lv_has ls 9 [(0, .ref (g 0)), (1, .int (a1))] := hl
  unfold s_L_act at hs
  obtain ⟨H, hHe⟩ : ∃ H, H = s.heap := ⟨_, rfl⟩
  obtain ⟨locs, hle⟩ : ∃ z : List Loc, z = [] := ⟨_, rfl⟩
  have hP : va_P D vwCl (wX g ca x) H := by rw [hHe]; exact hP
  have hS : va_S A s.heap H locs := by rw [hHe, hle]; exact hS
  have hgo : W p l e (headSpec wsL_act ({ frames := 8, cells := 1, slots := 10, locals := 188 })).room s m #[.ref (g 0), .int (a1)] below meth c H locs 0 0 (MQ below (pQl r.1 D (wX g ca x) g ca r.2 s.heap.size) #[.ref (g 0), .int (a1)] s 1 10 A) (F0 m 0 ls []) := by
    refine lv_iload_n hx hb dL_act_0 rfl (lv_at hl 1 rfl) ?_
    refine lv_bipush (v := 26) hx hb dL_act_1 (by decide) ?_
    refine lv_ishr hx hb dL_act_3 ?_
    refine lv_bipush (v := 14) hx hb dL_act_4 (by decide) ?_
    obtain ⟨v_1, h_1, hs⟩ := sp_b hs
    refine rd_i (va_runS (As := [.int (a1 >>> (26 &&& 31)), .int (14)]) (rest := []) ⟨hx, hb, hml, hown, hts⟩ (c_L_low l D ca (a1 >>> (26 &&& 31)) 14 h_1) (va_cwS 2 hts gL_act_L_low rfl rfl rfl (by decide +kernel) ⟨Nat.le_of_ble_eq_true rfl, Nat.le_of_ble_eq_true rfl⟩) (rP_S va_P_nil hC) rfl rfl hl.1 rfl (lv_room (Nat.le_of_ble_eq_true rfl)) dL_act_6 ⟨Nat.zero_le _, Nat.zero_le _⟩) ?_
    refine lv_if_ne (tgt := 16) hx hb dL_act_9 (by decide) (fun c_2 => ?_) (fun c_2 => ?_)
    · have hs := sp_f c_2 hs
      refine lv_iconst (v := 0) hx hb dL_act_16 (by decide) ?_
      refine lv_istore_n (lv' := [(2, .int (0)), (0, .ref (g 0)), (1, .int (a1))]) hx hb dL_act_17 rfl hl (by decide) rfl (fun ls hl => ?_)
      refine lv_iload_n hx hb dL_act_18 rfl (lv_at hl 0 rfl) ?_
      refine lv_if_eq (tgt := 35) hx hb dL_act_19 (by decide) (fun _ => ?_) (fun c9 => absurd c9 (by decide))
      refine lv_iload_n hx hb dL_act_35 rfl (lv_at hl 2 rfl) ?_
      refine lv_iconst (v := 4) hx hb dL_act_36 (by decide) ?_
      refine lv_ishr hx hb dL_act_37 ?_
      refine lv_iconst (v := 5) hx hb dL_act_38 (by decide) ?_
      obtain ⟨v_3, h_3, hs⟩ := sp_b hs
      refine rd_i (va_runS (As := [.int (a1 >>> (4 &&& 31)), .int (5)]) (rest := []) ⟨hx, hb, hml, hown, hts⟩ (c_L_low l D ca (a1 >>> (4 &&& 31)) 5 h_3) (va_cwS 2 hts gL_act_L_low rfl rfl rfl (by decide +kernel) ⟨Nat.le_of_ble_eq_true rfl, Nat.le_of_ble_eq_true rfl⟩) (rP_S va_P_nil hC) rfl rfl hl.1 rfl (lv_room (Nat.le_of_ble_eq_true rfl)) dL_act_39 ⟨Nat.zero_le _, Nat.zero_le _⟩) ?_
      refine lv_istore_n (lv' := [(3, .int (v_3)), (2, .int (0)), (0, .ref (g 0)), (1, .int (a1))]) hx hb dL_act_42 rfl hl (by decide) rfl (fun ls hl => ?_)
      refine lv_iload_n hx hb dL_act_43 rfl (lv_at hl 1 rfl) ?_
      refine lv_if_eq (tgt := 61) hx hb dL_act_44 (by decide) (fun _ => ?_) (fun c9 => absurd c9 (by decide))
      refine lv_iload_n hx hb dL_act_61 rfl (lv_at hl 3 rfl) ?_
      refine lv_bipush (v := 7) hx hb dL_act_62 (by decide) ?_
      refine lv_ishr hx hb dL_act_64 ?_
      refine lv_bipush (v := 16) hx hb dL_act_65 (by decide) ?_
      obtain ⟨v_4, h_4, hs⟩ := sp_b hs
      refine rd_i (va_runS (As := [.int (a1 >>> (7 &&& 31)), .int (16)]) (rest := []) ⟨hx, hb, hml, hown, hts⟩ (c_L_low l D ca (a1 >>> (7 &&& 31)) 16 h_4) (va_cwS 2 hts gL_act_L_low rfl rfl rfl (by decide +kernel) ⟨Nat.le_of_ble_eq_true rfl, Nat.le_of_ble_eq_true rfl⟩) (rP_S va_P_nil hC) rfl rfl hl.1 rfl (lv_room (Nat.le_of_ble_eq_true rfl)) dL_act_67 ⟨Nat.zero_le _, Nat.zero_le _⟩) ?_
      refine lv_istore (lv' := [(4, .int (v_4)), (3, .int (v_3)), (2, .int (0)), (0, .ref (g 0)), (1, .int (a1))]) hx hb dL_act_70 hl (by decide) rfl (fun ls hl => ?_)
      refine lv_iload_n hx hb dL_act_72 rfl (lv_at hl 2 rfl) ?_
      refine lv_if_eq (tgt := 89) hx hb dL_act_73 (by decide) (fun _ => ?_) (fun c9 => absurd c9 (by decide))
      refine lv_iconst (v := 3) hx hb dL_act_89 (by decide) ?_
      refine lv_iload_n hx hb dL_act_90 rfl (lv_at hl 4 rfl) ?_
      refine lv_iconst (v := 5) hx hb dL_act_91 (by decide) ?_
      refine lv_ishr hx hb dL_act_92 ?_
      refine lv_bipush (v := 9) hx hb dL_act_93 (by decide) ?_
      obtain ⟨v_5, h_5, hs⟩ := sp_b hs
      refine rd_i (va_runS (As := [.int (a1 >>> (5 &&& 31)), .int (9)]) (rest := [.int (3)]) ⟨hx, hb, hml, hown, hts⟩ (c_L_low l D ca (a1 >>> (5 &&& 31)) 9 h_5) (va_cwS 2 hts gL_act_L_low rfl rfl rfl (by decide +kernel) ⟨Nat.le_of_ble_eq_true rfl, Nat.le_of_ble_eq_true rfl⟩) (rP_S va_P_nil hC) rfl rfl hl.1 rfl (lv_room (Nat.le_of_ble_eq_true rfl)) dL_act_95 ⟨Nat.zero_le _, Nat.zero_le _⟩) ?_
      refine lv_iadd hx hb dL_act_98 ?_
      refine lv_istore (lv' := [(5, .int (3 + v_5)), (4, .int (v_4)), (3, .int (v_3)), (2, .int (0)), (0, .ref (g 0)), (1, .int (a1))]) hx hb dL_act_99 hl (by decide) rfl (fun ls hl => ?_)
      refine lv_iload_n hx hb dL_act_101 rfl (lv_at hl 3 rfl) ?_
      refine lv_if_eq (tgt := 112) hx hb dL_act_102 (by decide) (fun _ => ?_) (fun c9 => absurd c9 (by decide))
      refine lv_iload_n hx hb dL_act_112 rfl (lv_at hl 5 rfl) ?_
      refine lv_bipush (v := 9) hx hb dL_act_113 (by decide) ?_
      refine lv_ishr hx hb dL_act_115 ?_
      refine lv_bipush (v := 90) hx hb dL_act_116 (by decide) ?_
      obtain ⟨v_6, h_6, hs⟩ := sp_b hs
      refine rd_i (va_runS (As := [.int (a1 >>> (9 &&& 31)), .int (90)]) (rest := []) ⟨hx, hb, hml, hown, hts⟩ (c_L_low l D ca (a1 >>> (9 &&& 31)) 90 h_6) (va_cwS 2 hts gL_act_L_low rfl rfl rfl (by decide +kernel) ⟨Nat.le_of_ble_eq_true rfl, Nat.le_of_ble_eq_true rfl⟩) (rP_S va_P_nil hC) rfl rfl hl.1 rfl (lv_room (Nat.le_of_ble_eq_true rfl)) dL_act_118 ⟨Nat.zero_le _, Nat.zero_le _⟩) ?_
      refine lv_istore (lv' := [(6, .int (v_6)), (5, .int (3 + v_5)), (4, .int (v_4)), (3, .int (v_3)), (2, .int (0)), (0, .ref (g 0)), (1, .int (a1))]) hx hb dL_act_121 hl (by decide) rfl (fun ls hl => ?_)
      refine lv_iload_n hx hb dL_act_123 rfl (lv_at hl 4 rfl) ?_
      refine lv_if_eq (tgt := 141) hx hb dL_act_124 (by decide) (fun _ => ?_) (fun c9 => absurd c9 (by decide))
      refine lv_iload_n hx hb dL_act_141 rfl (lv_at hl 6 rfl) ?_
      refine lv_bipush (v := 11) hx hb dL_act_142 (by decide) ?_
      refine lv_ishr hx hb dL_act_144 ?_
      refine lv_iconst (v := 3) hx hb dL_act_145 (by decide) ?_
      obtain ⟨v_7, h_7, hs⟩ := sp_b hs
      refine rd_i (va_runS (As := [.int (a1 >>> (11 &&& 31)), .int (3)]) (rest := []) ⟨hx, hb, hml, hown, hts⟩ (c_L_low l D ca (a1 >>> (11 &&& 31)) 3 h_7) (va_cwS 2 hts gL_act_L_low rfl rfl rfl (by decide +kernel) ⟨Nat.le_of_ble_eq_true rfl, Nat.le_of_ble_eq_true rfl⟩) (rP_S va_P_nil hC) rfl rfl hl.1 rfl (lv_room (Nat.le_of_ble_eq_true rfl)) dL_act_146 ⟨Nat.zero_le _, Nat.zero_le _⟩) ?_
      refine lv_istore (lv' := [(7, .int (v_7)), (6, .int (v_6)), (5, .int (3 + v_5)), (4, .int (v_4)), (3, .int (v_3)), (2, .int (0)), (0, .ref (g 0)), (1, .int (a1))]) hx hb dL_act_149 hl (by decide) rfl (fun ls hl => ?_)
      refine lv_iload_n hx hb dL_act_151 rfl (lv_at hl 7 rfl) ?_
      refine lv_bipush (v := 15) hx hb dL_act_152 (by decide) ?_
      refine lv_ishr hx hb dL_act_154 ?_
      refine lv_iconst (v := 1) hx hb dL_act_155 (by decide) ?_
      refine lv_iand hx hb dL_act_156 ?_
      refine lv_iconst (v := 1) hx hb dL_act_157 (by decide) ?_
      refine lv_boolI hx hb dL_act_158 dL_act_161 dL_act_162 dL_act_165 ?_
      refine lv_istore (lv' := [(8, .int (b2i (decide (((a1 >>> (15 &&& 31)) &&& 1) = 1)))), (7, .int (v_7)), (6, .int (v_6)), (5, .int (3 + v_5)), (4, .int (v_4)), (3, .int (v_3)), (2, .int (0)), (0, .ref (g 0)), (1, .int (a1))]) hx hb dL_act_166 hl (by decide) rfl (fun ls hl => ?_)
      refine lv_iload_n hx hb dL_act_168 rfl (lv_at hl 8 rfl) ?_
      refine lv_bipush (v := 38) hx hb dL_act_169 (by decide) ?_
      obtain ⟨v_8, h_8, hs⟩ := sp_b hs
      refine rd_i (va_runS (As := [.int (a1), .int (38)]) (rest := []) ⟨hx, hb, hml, hown, hts⟩ (c_L_low l D ca a1 38 h_8) (va_cwS 2 hts gL_act_L_low rfl rfl rfl (by decide +kernel) ⟨Nat.le_of_ble_eq_true rfl, Nat.le_of_ble_eq_true rfl⟩) (rP_S va_P_nil hC) rfl rfl hl.1 rfl (lv_room (Nat.le_of_ble_eq_true rfl)) dL_act_171 ⟨Nat.zero_le _, Nat.zero_le _⟩) ?_
      by_cases c_9_0 : v_8 = 0
      · have hs := sp_t c_9_0 hs
        refine lv_tableIn (off := 154) (tgt := 328) hx hb dL_act_174 (by rw [c_9_0]; decide) (by rw [c_9_0]; decide) (by rw [c_9_0]; decide) (by decide) ?_
        refine lv_aload_n hx hb dL_act_328 rfl (lv_at hl 7 rfl) ?_
        refine lv_iload hx hb dL_act_329 (lv_at hl 4 rfl) ?_
        refine lv_iload hx hb dL_act_331 (lv_at hl 1 rfl) ?_
        refine lv_iload_n hx hb dL_act_333 rfl (lv_at hl 6 rfl) ?_
        refine lv_if_eq (tgt := 342) hx hb dL_act_334 (by decide) (fun _ => ?_) (fun c9 => absurd c9 (by decide))
        refine lv_iload_n hx hb dL_act_342 rfl (lv_at hl 8 rfl) ?_
        refine lv_bipush (v := 13) hx hb dL_act_343 (by decide) ?_
        refine lv_ishr hx hb dL_act_345 ?_
        refine lv_iconst (v := 2) hx hb dL_act_346 (by decide) ?_
        obtain ⟨v_10, h_10, hs⟩ := sp_b hs
        refine rd_i (va_runS (As := [.int (a1 >>> (13 &&& 31)), .int (2)]) (rest := [.int (v_7), .int (v_4), .ref (g 0)]) ⟨hx, hb, hml, hown, hts⟩ (c_L_low l D ca (a1 >>> (13 &&& 31)) 2 h_10) (va_cwS 2 hts gL_act_L_low rfl rfl rfl (by decide +kernel) ⟨Nat.le_of_ble_eq_true rfl, Nat.le_of_ble_eq_true rfl⟩) (rP_S va_P_nil hC) rfl rfl hl.1 rfl (lv_room (Nat.le_of_ble_eq_true rfl)) dL_act_347 ⟨Nat.zero_le _, Nat.zero_le _⟩) ?_
        refine wr_l (vx_runSW (As := [.ref (g 0), .int (v_4), .int (v_7), .int (v_10)]) (rest := []) ⟨hx, hb, hml, hown, hts⟩ (c_L_column l hl9 D ca g x v_4 v_7 v_10 hs H.size) (vx_cwSW 4 hts gL_act_L_column rfl rfl rfl (by decide +kernel) ⟨Nat.le_of_ble_eq_true rfl, Nat.le_of_ble_eq_true rfl⟩) (tP_S hP hC hD hz hS hA) rfl rfl hl.1 rfl (lv_room (Nat.le_of_ble_eq_true rfl)) dL_act_350 ⟨Nat.le_of_ble_eq_true rfl, Nat.le_of_ble_eq_true rfl⟩) hD hS hA (fun H locs hP hD hS => ?_)
        exact wl_p (g := g) (g' := g) rfl hx hb hr hAe rfl hP hD hS (Nat.le_of_ble_eq_true rfl) (Nat.le_of_ble_eq_true rfl) dL_act_353 hlocks
      · have hs := sp_f c_9_0 hs
        by_cases c_9_1 : v_8 = 1
        · have hs := sp_t c_9_1 hs
          refine lv_tableIn (off := 154) (tgt := 328) hx hb dL_act_174 (by rw [c_9_1]; decide) (by rw [c_9_1]; decide) (by rw [c_9_1]; decide) (by decide) ?_
          refine lv_aload_n hx hb dL_act_328 rfl (lv_at hl 7 rfl) ?_
          refine lv_iload hx hb dL_act_329 (lv_at hl 4 rfl) ?_
          refine lv_iload hx hb dL_act_331 (lv_at hl 1 rfl) ?_
          refine lv_iload_n hx hb dL_act_333 rfl (lv_at hl 6 rfl) ?_
          refine lv_if_eq (tgt := 342) hx hb dL_act_334 (by decide) (fun _ => ?_) (fun c9 => absurd c9 (by decide))
          refine lv_iload_n hx hb dL_act_342 rfl (lv_at hl 8 rfl) ?_
          refine lv_bipush (v := 13) hx hb dL_act_343 (by decide) ?_
          refine lv_ishr hx hb dL_act_345 ?_
          refine lv_iconst (v := 2) hx hb dL_act_346 (by decide) ?_
          obtain ⟨v_11, h_11, hs⟩ := sp_b hs
          refine rd_i (va_runS (As := [.int (a1 >>> (13 &&& 31)), .int (2)]) (rest := [.int (v_7), .int (v_4), .ref (g 0)]) ⟨hx, hb, hml, hown, hts⟩ (c_L_low l D ca (a1 >>> (13 &&& 31)) 2 h_11) (va_cwS 2 hts gL_act_L_low rfl rfl rfl (by decide +kernel) ⟨Nat.le_of_ble_eq_true rfl, Nat.le_of_ble_eq_true rfl⟩) (rP_S va_P_nil hC) rfl rfl hl.1 rfl (lv_room (Nat.le_of_ble_eq_true rfl)) dL_act_347 ⟨Nat.zero_le _, Nat.zero_le _⟩) ?_
          refine wr_l (vx_runSW (As := [.ref (g 0), .int (v_4), .int (v_7), .int (v_11)]) (rest := []) ⟨hx, hb, hml, hown, hts⟩ (c_L_column l hl9 D ca g x v_4 v_7 v_11 hs H.size) (vx_cwSW 4 hts gL_act_L_column rfl rfl rfl (by decide +kernel) ⟨Nat.le_of_ble_eq_true rfl, Nat.le_of_ble_eq_true rfl⟩) (tP_S hP hC hD hz hS hA) rfl rfl hl.1 rfl (lv_room (Nat.le_of_ble_eq_true rfl)) dL_act_350 ⟨Nat.le_of_ble_eq_true rfl, Nat.le_of_ble_eq_true rfl⟩) hD hS hA (fun H locs hP hD hS => ?_)
          exact wl_p (g := g) (g' := g) rfl hx hb hr hAe rfl hP hD hS (Nat.le_of_ble_eq_true rfl) (Nat.le_of_ble_eq_true rfl) dL_act_353 hlocks
        · have hs := sp_f c_9_1 hs
          by_cases c_9_2 : v_8 = 2
          · have hs := sp_t c_9_2 hs
            refine lv_tableIn (off := 180) (tgt := 354) hx hb dL_act_174 (by rw [c_9_2]; decide) (by rw [c_9_2]; decide) (by rw [c_9_2]; decide) (by decide) ?_
            refine lv_aload_n hx hb dL_act_354 rfl (lv_at hl 7 rfl) ?_
            refine lv_iload hx hb dL_act_355 (lv_at hl 4 rfl) ?_
            refine lv_iload hx hb dL_act_357 (lv_at hl 3 rfl) ?_
            refine lv_iload_n hx hb dL_act_359 rfl (lv_at hl 6 rfl) ?_
            refine lv_if_eq (tgt := 368) hx hb dL_act_360 (by decide) (fun _ => ?_) (fun c9 => absurd c9 (by decide))
            refine lv_iload_n hx hb dL_act_368 rfl (lv_at hl 8 rfl) ?_
            refine lv_bipush (v := 12) hx hb dL_act_369 (by decide) ?_
            refine lv_ishr hx hb dL_act_371 ?_
            refine lv_iconst (v := 4) hx hb dL_act_372 (by decide) ?_
            obtain ⟨v_12, h_12, hs⟩ := sp_b hs
            refine rd_i (va_runS (As := [.int (a1 >>> (12 &&& 31)), .int (4)]) (rest := [.int (3 + v_5), .int (v_4), .ref (g 0)]) ⟨hx, hb, hml, hown, hts⟩ (c_L_low l D ca (a1 >>> (12 &&& 31)) 4 h_12) (va_cwS 2 hts gL_act_L_low rfl rfl rfl (by decide +kernel) ⟨Nat.le_of_ble_eq_true rfl, Nat.le_of_ble_eq_true rfl⟩) (rP_S va_P_nil hC) rfl rfl hl.1 rfl (lv_room (Nat.le_of_ble_eq_true rfl)) dL_act_373 ⟨Nat.zero_le _, Nat.zero_le _⟩) ?_
            refine wr_l (vx_runSW (As := [.ref (g 0), .int (v_4), .int (3 + v_5), .int (v_12)]) (rest := []) ⟨hx, hb, hml, hown, hts⟩ (c_L_tells l hl9 D ca g x v_4 (3 + v_5) v_12 hs H.size) (vx_cwSW 4 hts gL_act_L_tells rfl rfl rfl (by decide +kernel) ⟨Nat.le_of_ble_eq_true rfl, Nat.le_of_ble_eq_true rfl⟩) (tP_S hP hC hD hz hS hA) rfl rfl hl.1 rfl (lv_room (Nat.le_of_ble_eq_true rfl)) dL_act_376 ⟨Nat.le_of_ble_eq_true rfl, Nat.le_of_ble_eq_true rfl⟩) hD hS hA (fun H locs hP hD hS => ?_)
            exact wl_p (g := g) (g' := g) rfl hx hb hr hAe rfl hP hD hS (Nat.le_of_ble_eq_true rfl) (Nat.le_of_ble_eq_true rfl) dL_act_379 hlocks
          · have hs := sp_f c_9_2 hs
            by_cases c_9_3 : v_8 = 3
            · have hs := sp_t c_9_3 hs
              refine lv_tableIn (off := 180) (tgt := 354) hx hb dL_act_174 (by rw [c_9_3]; decide) (by rw [c_9_3]; decide) (by rw [c_9_3]; decide) (by decide) ?_
              refine lv_aload_n hx hb dL_act_354 rfl (lv_at hl 7 rfl) ?_
              refine lv_iload hx hb dL_act_355 (lv_at hl 4 rfl) ?_
              refine lv_iload hx hb dL_act_357 (lv_at hl 3 rfl) ?_
              refine lv_iload_n hx hb dL_act_359 rfl (lv_at hl 6 rfl) ?_
              refine lv_if_eq (tgt := 368) hx hb dL_act_360 (by decide) (fun _ => ?_) (fun c9 => absurd c9 (by decide))
              refine lv_iload_n hx hb dL_act_368 rfl (lv_at hl 8 rfl) ?_
              refine lv_bipush (v := 12) hx hb dL_act_369 (by decide) ?_
              refine lv_ishr hx hb dL_act_371 ?_
              refine lv_iconst (v := 4) hx hb dL_act_372 (by decide) ?_
              obtain ⟨v_13, h_13, hs⟩ := sp_b hs
              refine rd_i (va_runS (As := [.int (a1 >>> (12 &&& 31)), .int (4)]) (rest := [.int (3 + v_5), .int (v_4), .ref (g 0)]) ⟨hx, hb, hml, hown, hts⟩ (c_L_low l D ca (a1 >>> (12 &&& 31)) 4 h_13) (va_cwS 2 hts gL_act_L_low rfl rfl rfl (by decide +kernel) ⟨Nat.le_of_ble_eq_true rfl, Nat.le_of_ble_eq_true rfl⟩) (rP_S va_P_nil hC) rfl rfl hl.1 rfl (lv_room (Nat.le_of_ble_eq_true rfl)) dL_act_373 ⟨Nat.zero_le _, Nat.zero_le _⟩) ?_
              refine wr_l (vx_runSW (As := [.ref (g 0), .int (v_4), .int (3 + v_5), .int (v_13)]) (rest := []) ⟨hx, hb, hml, hown, hts⟩ (c_L_tells l hl9 D ca g x v_4 (3 + v_5) v_13 hs H.size) (vx_cwSW 4 hts gL_act_L_tells rfl rfl rfl (by decide +kernel) ⟨Nat.le_of_ble_eq_true rfl, Nat.le_of_ble_eq_true rfl⟩) (tP_S hP hC hD hz hS hA) rfl rfl hl.1 rfl (lv_room (Nat.le_of_ble_eq_true rfl)) dL_act_376 ⟨Nat.le_of_ble_eq_true rfl, Nat.le_of_ble_eq_true rfl⟩) hD hS hA (fun H locs hP hD hS => ?_)
              exact wl_p (g := g) (g' := g) rfl hx hb hr hAe rfl hP hD hS (Nat.le_of_ble_eq_true rfl) (Nat.le_of_ble_eq_true rfl) dL_act_379 hlocks
            · have hs := sp_f c_9_3 hs
              by_cases c_9_4 : v_8 = 4
              · have hs := sp_t c_9_4 hs
                refine lv_tableIn (off := 206) (tgt := 380) hx hb dL_act_174 (by rw [c_9_4]; decide) (by rw [c_9_4]; decide) (by rw [c_9_4]; decide) (by decide) ?_
                refine lv_aload_n hx hb dL_act_380 rfl (lv_at hl 7 rfl) ?_
                refine lv_iload_n hx hb dL_act_381 rfl (lv_at hl 6 rfl) ?_
                refine lv_if_eq (tgt := 389) hx hb dL_act_382 (by decide) (fun _ => ?_) (fun c9 => absurd c9 (by decide))
                refine lv_iconst (v := 1) hx hb dL_act_389 (by decide) ?_
                refine lv_iload hx hb dL_act_390 (lv_at hl 4 rfl) ?_
                refine lv_ishl hx hb dL_act_392 ?_
                refine lv_iconst (v := 1) hx hb dL_act_393 (by decide) ?_
                refine lv_iload_n hx hb dL_act_394 rfl (lv_at hl 8 rfl) ?_
                refine lv_iconst (v := 3) hx hb dL_act_395 (by decide) ?_
                refine lv_ishr hx hb dL_act_396 ?_
                refine lv_bipush (v := 16) hx hb dL_act_397 (by decide) ?_
                obtain ⟨v_14, h_14, hs⟩ := sp_b hs
                refine rd_i (va_runS (As := [.int (a1 >>> (3 &&& 31)), .int (16)]) (rest := [.int (1), .int (1 <<< (v_4 &&& 31)), .ref (g 0)]) ⟨hx, hb, hml, hown, hts⟩ (c_L_low l D ca (a1 >>> (3 &&& 31)) 16 h_14) (va_cwS 2 hts gL_act_L_low rfl rfl rfl (by decide +kernel) ⟨Nat.le_of_ble_eq_true rfl, Nat.le_of_ble_eq_true rfl⟩) (rP_S va_P_nil hC) rfl rfl hl.1 rfl (lv_room (Nat.le_of_ble_eq_true rfl)) dL_act_399 ⟨Nat.zero_le _, Nat.zero_le _⟩) ?_
                refine lv_ishl hx hb dL_act_402 ?_
                refine lv_ior hx hb dL_act_403 ?_
                refine lv_iload_n hx hb dL_act_404 rfl (lv_at hl 6 rfl) ?_
                refine lv_if_eq (tgt := 413) hx hb dL_act_405 (by decide) (fun _ => ?_) (fun c9 => absurd c9 (by decide))
                refine lv_iconst (v := 1) hx hb dL_act_413 (by decide) ?_
                refine lv_iconst (v := 2) hx hb dL_act_414 (by decide) ?_
                refine lv_iload hx hb dL_act_415 (lv_at hl 2 rfl) ?_
                refine lv_imul hx hb dL_act_417 ?_
                refine lv_iadd hx hb dL_act_418 ?_
                refine wr_l (vx_runSW (As := [.ref (g 0), .int ((1 <<< (v_4 &&& 31)) ||| (1 <<< (v_14 &&& 31))), .int (1 + (2 * v_6))]) (rest := []) ⟨hx, hb, hml, hown, hts⟩ (c_L_need l hl9 D ca g x ((1 <<< (v_4 &&& 31)) ||| (1 <<< (v_14 &&& 31))) (1 + (2 * v_6)) hs H.size) (vx_cwSW 3 hts gL_act_L_need rfl rfl rfl (by decide +kernel) ⟨Nat.le_of_ble_eq_true rfl, Nat.le_of_ble_eq_true rfl⟩) (tP_S hP hC hD hz hS hA) rfl rfl hl.1 rfl (lv_room (Nat.le_of_ble_eq_true rfl)) dL_act_419 ⟨Nat.le_of_ble_eq_true rfl, Nat.le_of_ble_eq_true rfl⟩) hD hS hA (fun H locs hP hD hS => ?_)
                exact wl_p (g := g) (g' := g) rfl hx hb hr hAe rfl hP hD hS (Nat.le_of_ble_eq_true rfl) (Nat.le_of_ble_eq_true rfl) dL_act_422 hlocks
              · have hs := sp_f c_9_4 hs
                by_cases c_9_5 : v_8 = 5
                · have hs := sp_t c_9_5 hs
                  refine lv_tableIn (off := 249) (tgt := 423) hx hb dL_act_174 (by rw [c_9_5]; decide) (by rw [c_9_5]; decide) (by rw [c_9_5]; decide) (by decide) ?_
                  refine lv_aload_n hx hb dL_act_423 rfl (lv_at hl 7 rfl) ?_
                  refine lv_iload hx hb dL_act_424 (lv_at hl 4 rfl) ?_
                  refine lv_iload hx hb dL_act_426 (lv_at hl 3 rfl) ?_
                  refine lv_iload_n hx hb dL_act_428 rfl (lv_at hl 6 rfl) ?_
                  refine lv_if_eq (tgt := 437) hx hb dL_act_429 (by decide) (fun _ => ?_) (fun c9 => absurd c9 (by decide))
                  refine lv_bipush (v := 100) hx hb dL_act_437 (by decide) ?_
                  refine lv_bipush (v := 40) hx hb dL_act_439 (by decide) ?_
                  refine lv_iload hx hb dL_act_441 (lv_at hl 2 rfl) ?_
                  refine lv_imul hx hb dL_act_443 ?_
                  refine lv_iadd hx hb dL_act_444 ?_
                  refine lv_iload hx hb dL_act_445 (lv_at hl 1 rfl) ?_
                  refine lv_iload_n hx hb dL_act_447 rfl (lv_at hl 6 rfl) ?_
                  refine lv_if_eq (tgt := 462) hx hb dL_act_448 (by decide) (fun _ => ?_) (fun c9 => absurd c9 (by decide))
                  refine lv_iconst (v := 1) hx hb dL_act_462 (by decide) ?_
                  refine lv_iload_n hx hb dL_act_463 rfl (lv_at hl 8 rfl) ?_
                  refine lv_iconst (v := 3) hx hb dL_act_464 (by decide) ?_
                  refine lv_ishr hx hb dL_act_465 ?_
                  refine lv_bipush (v := 11) hx hb dL_act_466 (by decide) ?_
                  obtain ⟨v_15, h_15, hs⟩ := sp_b hs
                  refine rd_i (va_runS (As := [.int (a1 >>> (3 &&& 31)), .int (11)]) (rest := [.int (1), .int (v_7), .int (100 + (40 * v_6)), .int (3 + v_5), .int (v_4), .ref (g 0)]) ⟨hx, hb, hml, hown, hts⟩ (c_L_low l D ca (a1 >>> (3 &&& 31)) 11 h_15) (va_cwS 2 hts gL_act_L_low rfl rfl rfl (by decide +kernel) ⟨Nat.le_of_ble_eq_true rfl, Nat.le_of_ble_eq_true rfl⟩) (rP_S va_P_nil hC) rfl rfl hl.1 rfl (lv_room (Nat.le_of_ble_eq_true rfl)) dL_act_468 ⟨Nat.zero_le _, Nat.zero_le _⟩) ?_
                  refine lv_iadd hx hb dL_act_471 ?_
                  refine wr_p (vx_runSW (As := [.ref (g 0), .int (v_4), .int (3 + v_5), .int (100 + (40 * v_6)), .int (v_7), .int (1 + v_15)]) (rest := []) ⟨hx, hb, hml, hown, hts⟩ (c_L_projector l hl9 D ca g x v_4 (3 + v_5) (100 + (40 * v_6)) v_7 (1 + v_15) hs H.size) (vx_cwSW 6 hts gL_act_L_projector rfl rfl rfl (by decide +kernel) ⟨Nat.le_of_ble_eq_true rfl, Nat.le_of_ble_eq_true rfl⟩) (tP_S hP hC hD hz hS hA) rfl rfl hl.1 rfl (lv_room (Nat.le_of_ble_eq_true rfl)) dL_act_472 ⟨Nat.le_of_ble_eq_true rfl, Nat.le_of_ble_eq_true rfl⟩) hD hS hA (fun g' H locs hg hP hD hS => ?_)
                  exact wl_p (g := g) (g' := g') hg hx hb hr hAe rfl hP hD hS (Nat.le_of_ble_eq_true rfl) (Nat.le_of_ble_eq_true rfl) dL_act_475 hlocks
                · have hs := sp_f c_9_5 hs
                  by_cases c_9_6 : v_8 = 6
                  · have hs := sp_t c_9_6 hs
                    refine lv_tableIn (off := 249) (tgt := 423) hx hb dL_act_174 (by rw [c_9_6]; decide) (by rw [c_9_6]; decide) (by rw [c_9_6]; decide) (by decide) ?_
                    refine lv_aload_n hx hb dL_act_423 rfl (lv_at hl 7 rfl) ?_
                    refine lv_iload hx hb dL_act_424 (lv_at hl 4 rfl) ?_
                    refine lv_iload hx hb dL_act_426 (lv_at hl 3 rfl) ?_
                    refine lv_iload_n hx hb dL_act_428 rfl (lv_at hl 6 rfl) ?_
                    refine lv_if_eq (tgt := 437) hx hb dL_act_429 (by decide) (fun _ => ?_) (fun c9 => absurd c9 (by decide))
                    refine lv_bipush (v := 100) hx hb dL_act_437 (by decide) ?_
                    refine lv_bipush (v := 40) hx hb dL_act_439 (by decide) ?_
                    refine lv_iload hx hb dL_act_441 (lv_at hl 2 rfl) ?_
                    refine lv_imul hx hb dL_act_443 ?_
                    refine lv_iadd hx hb dL_act_444 ?_
                    refine lv_iload hx hb dL_act_445 (lv_at hl 1 rfl) ?_
                    refine lv_iload_n hx hb dL_act_447 rfl (lv_at hl 6 rfl) ?_
                    refine lv_if_eq (tgt := 462) hx hb dL_act_448 (by decide) (fun _ => ?_) (fun c9 => absurd c9 (by decide))
                    refine lv_iconst (v := 1) hx hb dL_act_462 (by decide) ?_
                    refine lv_iload_n hx hb dL_act_463 rfl (lv_at hl 8 rfl) ?_
                    refine lv_iconst (v := 3) hx hb dL_act_464 (by decide) ?_
                    refine lv_ishr hx hb dL_act_465 ?_
                    refine lv_bipush (v := 11) hx hb dL_act_466 (by decide) ?_
                    obtain ⟨v_16, h_16, hs⟩ := sp_b hs
                    refine rd_i (va_runS (As := [.int (a1 >>> (3 &&& 31)), .int (11)]) (rest := [.int (1), .int (v_7), .int (100 + (40 * v_6)), .int (3 + v_5), .int (v_4), .ref (g 0)]) ⟨hx, hb, hml, hown, hts⟩ (c_L_low l D ca (a1 >>> (3 &&& 31)) 11 h_16) (va_cwS 2 hts gL_act_L_low rfl rfl rfl (by decide +kernel) ⟨Nat.le_of_ble_eq_true rfl, Nat.le_of_ble_eq_true rfl⟩) (rP_S va_P_nil hC) rfl rfl hl.1 rfl (lv_room (Nat.le_of_ble_eq_true rfl)) dL_act_468 ⟨Nat.zero_le _, Nat.zero_le _⟩) ?_
                    refine lv_iadd hx hb dL_act_471 ?_
                    refine wr_p (vx_runSW (As := [.ref (g 0), .int (v_4), .int (3 + v_5), .int (100 + (40 * v_6)), .int (v_7), .int (1 + v_16)]) (rest := []) ⟨hx, hb, hml, hown, hts⟩ (c_L_projector l hl9 D ca g x v_4 (3 + v_5) (100 + (40 * v_6)) v_7 (1 + v_16) hs H.size) (vx_cwSW 6 hts gL_act_L_projector rfl rfl rfl (by decide +kernel) ⟨Nat.le_of_ble_eq_true rfl, Nat.le_of_ble_eq_true rfl⟩) (tP_S hP hC hD hz hS hA) rfl rfl hl.1 rfl (lv_room (Nat.le_of_ble_eq_true rfl)) dL_act_472 ⟨Nat.le_of_ble_eq_true rfl, Nat.le_of_ble_eq_true rfl⟩) hD hS hA (fun g' H locs hg hP hD hS => ?_)
                    exact wl_p (g := g) (g' := g') hg hx hb hr hAe rfl hP hD hS (Nat.le_of_ble_eq_true rfl) (Nat.le_of_ble_eq_true rfl) dL_act_475 hlocks
                  · have hs := sp_f c_9_6 hs
                    by_cases c_9_7 : v_8 = 7
                    · have hs := sp_t c_9_7 hs
                      refine lv_tableIn (off := 249) (tgt := 423) hx hb dL_act_174 (by rw [c_9_7]; decide) (by rw [c_9_7]; decide) (by rw [c_9_7]; decide) (by decide) ?_
                      refine lv_aload_n hx hb dL_act_423 rfl (lv_at hl 7 rfl) ?_
                      refine lv_iload hx hb dL_act_424 (lv_at hl 4 rfl) ?_
                      refine lv_iload hx hb dL_act_426 (lv_at hl 3 rfl) ?_
                      refine lv_iload_n hx hb dL_act_428 rfl (lv_at hl 6 rfl) ?_
                      refine lv_if_eq (tgt := 437) hx hb dL_act_429 (by decide) (fun _ => ?_) (fun c9 => absurd c9 (by decide))
                      refine lv_bipush (v := 100) hx hb dL_act_437 (by decide) ?_
                      refine lv_bipush (v := 40) hx hb dL_act_439 (by decide) ?_
                      refine lv_iload hx hb dL_act_441 (lv_at hl 2 rfl) ?_
                      refine lv_imul hx hb dL_act_443 ?_
                      refine lv_iadd hx hb dL_act_444 ?_
                      refine lv_iload hx hb dL_act_445 (lv_at hl 1 rfl) ?_
                      refine lv_iload_n hx hb dL_act_447 rfl (lv_at hl 6 rfl) ?_
                      refine lv_if_eq (tgt := 462) hx hb dL_act_448 (by decide) (fun _ => ?_) (fun c9 => absurd c9 (by decide))
                      refine lv_iconst (v := 1) hx hb dL_act_462 (by decide) ?_
                      refine lv_iload_n hx hb dL_act_463 rfl (lv_at hl 8 rfl) ?_
                      refine lv_iconst (v := 3) hx hb dL_act_464 (by decide) ?_
                      refine lv_ishr hx hb dL_act_465 ?_
                      refine lv_bipush (v := 11) hx hb dL_act_466 (by decide) ?_
                      obtain ⟨v_17, h_17, hs⟩ := sp_b hs
                      refine rd_i (va_runS (As := [.int (a1 >>> (3 &&& 31)), .int (11)]) (rest := [.int (1), .int (v_7), .int (100 + (40 * v_6)), .int (3 + v_5), .int (v_4), .ref (g 0)]) ⟨hx, hb, hml, hown, hts⟩ (c_L_low l D ca (a1 >>> (3 &&& 31)) 11 h_17) (va_cwS 2 hts gL_act_L_low rfl rfl rfl (by decide +kernel) ⟨Nat.le_of_ble_eq_true rfl, Nat.le_of_ble_eq_true rfl⟩) (rP_S va_P_nil hC) rfl rfl hl.1 rfl (lv_room (Nat.le_of_ble_eq_true rfl)) dL_act_468 ⟨Nat.zero_le _, Nat.zero_le _⟩) ?_
                      refine lv_iadd hx hb dL_act_471 ?_
                      refine wr_p (vx_runSW (As := [.ref (g 0), .int (v_4), .int (3 + v_5), .int (100 + (40 * v_6)), .int (v_7), .int (1 + v_17)]) (rest := []) ⟨hx, hb, hml, hown, hts⟩ (c_L_projector l hl9 D ca g x v_4 (3 + v_5) (100 + (40 * v_6)) v_7 (1 + v_17) hs H.size) (vx_cwSW 6 hts gL_act_L_projector rfl rfl rfl (by decide +kernel) ⟨Nat.le_of_ble_eq_true rfl, Nat.le_of_ble_eq_true rfl⟩) (tP_S hP hC hD hz hS hA) rfl rfl hl.1 rfl (lv_room (Nat.le_of_ble_eq_true rfl)) dL_act_472 ⟨Nat.le_of_ble_eq_true rfl, Nat.le_of_ble_eq_true rfl⟩) hD hS hA (fun g' H locs hg hP hD hS => ?_)
                      exact wl_p (g := g) (g' := g') hg hx hb hr hAe rfl hP hD hS (Nat.le_of_ble_eq_true rfl) (Nat.le_of_ble_eq_true rfl) dL_act_475 hlocks
                    · have hs := sp_f c_9_7 hs
                      by_cases c_9_8 : v_8 = 8
                      · have hs := sp_t c_9_8 hs
                        refine lv_tableIn (off := 249) (tgt := 423) hx hb dL_act_174 (by rw [c_9_8]; decide) (by rw [c_9_8]; decide) (by rw [c_9_8]; decide) (by decide) ?_
                        refine lv_aload_n hx hb dL_act_423 rfl (lv_at hl 7 rfl) ?_
                        refine lv_iload hx hb dL_act_424 (lv_at hl 4 rfl) ?_
                        refine lv_iload hx hb dL_act_426 (lv_at hl 3 rfl) ?_
                        refine lv_iload_n hx hb dL_act_428 rfl (lv_at hl 6 rfl) ?_
                        refine lv_if_eq (tgt := 437) hx hb dL_act_429 (by decide) (fun _ => ?_) (fun c9 => absurd c9 (by decide))
                        refine lv_bipush (v := 100) hx hb dL_act_437 (by decide) ?_
                        refine lv_bipush (v := 40) hx hb dL_act_439 (by decide) ?_
                        refine lv_iload hx hb dL_act_441 (lv_at hl 2 rfl) ?_
                        refine lv_imul hx hb dL_act_443 ?_
                        refine lv_iadd hx hb dL_act_444 ?_
                        refine lv_iload hx hb dL_act_445 (lv_at hl 1 rfl) ?_
                        refine lv_iload_n hx hb dL_act_447 rfl (lv_at hl 6 rfl) ?_
                        refine lv_if_eq (tgt := 462) hx hb dL_act_448 (by decide) (fun _ => ?_) (fun c9 => absurd c9 (by decide))
                        refine lv_iconst (v := 1) hx hb dL_act_462 (by decide) ?_
                        refine lv_iload_n hx hb dL_act_463 rfl (lv_at hl 8 rfl) ?_
                        refine lv_iconst (v := 3) hx hb dL_act_464 (by decide) ?_
                        refine lv_ishr hx hb dL_act_465 ?_
                        refine lv_bipush (v := 11) hx hb dL_act_466 (by decide) ?_
                        obtain ⟨v_18, h_18, hs⟩ := sp_b hs
                        refine rd_i (va_runS (As := [.int (a1 >>> (3 &&& 31)), .int (11)]) (rest := [.int (1), .int (v_7), .int (100 + (40 * v_6)), .int (3 + v_5), .int (v_4), .ref (g 0)]) ⟨hx, hb, hml, hown, hts⟩ (c_L_low l D ca (a1 >>> (3 &&& 31)) 11 h_18) (va_cwS 2 hts gL_act_L_low rfl rfl rfl (by decide +kernel) ⟨Nat.le_of_ble_eq_true rfl, Nat.le_of_ble_eq_true rfl⟩) (rP_S va_P_nil hC) rfl rfl hl.1 rfl (lv_room (Nat.le_of_ble_eq_true rfl)) dL_act_468 ⟨Nat.zero_le _, Nat.zero_le _⟩) ?_
                        refine lv_iadd hx hb dL_act_471 ?_
                        refine wr_p (vx_runSW (As := [.ref (g 0), .int (v_4), .int (3 + v_5), .int (100 + (40 * v_6)), .int (v_7), .int (1 + v_18)]) (rest := []) ⟨hx, hb, hml, hown, hts⟩ (c_L_projector l hl9 D ca g x v_4 (3 + v_5) (100 + (40 * v_6)) v_7 (1 + v_18) hs H.size) (vx_cwSW 6 hts gL_act_L_projector rfl rfl rfl (by decide +kernel) ⟨Nat.le_of_ble_eq_true rfl, Nat.le_of_ble_eq_true rfl⟩) (tP_S hP hC hD hz hS hA) rfl rfl hl.1 rfl (lv_room (Nat.le_of_ble_eq_true rfl)) dL_act_472 ⟨Nat.le_of_ble_eq_true rfl, Nat.le_of_ble_eq_true rfl⟩) hD hS hA (fun g' H locs hg hP hD hS => ?_)
                        exact wl_p (g := g) (g' := g') hg hx hb hr hAe rfl hP hD hS (Nat.le_of_ble_eq_true rfl) (Nat.le_of_ble_eq_true rfl) dL_act_475 hlocks
                      · have hs := sp_f c_9_8 hs
                        by_cases c_9_9 : v_8 = 9
                        · have hs := sp_t c_9_9 hs
                          refine lv_tableIn (off := 249) (tgt := 423) hx hb dL_act_174 (by rw [c_9_9]; decide) (by rw [c_9_9]; decide) (by rw [c_9_9]; decide) (by decide) ?_
                          refine lv_aload_n hx hb dL_act_423 rfl (lv_at hl 7 rfl) ?_
                          refine lv_iload hx hb dL_act_424 (lv_at hl 4 rfl) ?_
                          refine lv_iload hx hb dL_act_426 (lv_at hl 3 rfl) ?_
                          refine lv_iload_n hx hb dL_act_428 rfl (lv_at hl 6 rfl) ?_
                          refine lv_if_eq (tgt := 437) hx hb dL_act_429 (by decide) (fun _ => ?_) (fun c9 => absurd c9 (by decide))
                          refine lv_bipush (v := 100) hx hb dL_act_437 (by decide) ?_
                          refine lv_bipush (v := 40) hx hb dL_act_439 (by decide) ?_
                          refine lv_iload hx hb dL_act_441 (lv_at hl 2 rfl) ?_
                          refine lv_imul hx hb dL_act_443 ?_
                          refine lv_iadd hx hb dL_act_444 ?_
                          refine lv_iload hx hb dL_act_445 (lv_at hl 1 rfl) ?_
                          refine lv_iload_n hx hb dL_act_447 rfl (lv_at hl 6 rfl) ?_
                          refine lv_if_eq (tgt := 462) hx hb dL_act_448 (by decide) (fun _ => ?_) (fun c9 => absurd c9 (by decide))
                          refine lv_iconst (v := 1) hx hb dL_act_462 (by decide) ?_
                          refine lv_iload_n hx hb dL_act_463 rfl (lv_at hl 8 rfl) ?_
                          refine lv_iconst (v := 3) hx hb dL_act_464 (by decide) ?_
                          refine lv_ishr hx hb dL_act_465 ?_
                          refine lv_bipush (v := 11) hx hb dL_act_466 (by decide) ?_
                          obtain ⟨v_19, h_19, hs⟩ := sp_b hs
                          refine rd_i (va_runS (As := [.int (a1 >>> (3 &&& 31)), .int (11)]) (rest := [.int (1), .int (v_7), .int (100 + (40 * v_6)), .int (3 + v_5), .int (v_4), .ref (g 0)]) ⟨hx, hb, hml, hown, hts⟩ (c_L_low l D ca (a1 >>> (3 &&& 31)) 11 h_19) (va_cwS 2 hts gL_act_L_low rfl rfl rfl (by decide +kernel) ⟨Nat.le_of_ble_eq_true rfl, Nat.le_of_ble_eq_true rfl⟩) (rP_S va_P_nil hC) rfl rfl hl.1 rfl (lv_room (Nat.le_of_ble_eq_true rfl)) dL_act_468 ⟨Nat.zero_le _, Nat.zero_le _⟩) ?_
                          refine lv_iadd hx hb dL_act_471 ?_
                          refine wr_p (vx_runSW (As := [.ref (g 0), .int (v_4), .int (3 + v_5), .int (100 + (40 * v_6)), .int (v_7), .int (1 + v_19)]) (rest := []) ⟨hx, hb, hml, hown, hts⟩ (c_L_projector l hl9 D ca g x v_4 (3 + v_5) (100 + (40 * v_6)) v_7 (1 + v_19) hs H.size) (vx_cwSW 6 hts gL_act_L_projector rfl rfl rfl (by decide +kernel) ⟨Nat.le_of_ble_eq_true rfl, Nat.le_of_ble_eq_true rfl⟩) (tP_S hP hC hD hz hS hA) rfl rfl hl.1 rfl (lv_room (Nat.le_of_ble_eq_true rfl)) dL_act_472 ⟨Nat.le_of_ble_eq_true rfl, Nat.le_of_ble_eq_true rfl⟩) hD hS hA (fun g' H locs hg hP hD hS => ?_)
                          exact wl_p (g := g) (g' := g') hg hx hb hr hAe rfl hP hD hS (Nat.le_of_ble_eq_true rfl) (Nat.le_of_ble_eq_true rfl) dL_act_475 hlocks
                        · have hs := sp_f c_9_9 hs
                          by_cases c_9_10 : v_8 = 10
                          · have hs := sp_t c_9_10 hs
                            refine lv_tableIn (off := 302) (tgt := 476) hx hb dL_act_174 (by rw [c_9_10]; decide) (by rw [c_9_10]; decide) (by rw [c_9_10]; decide) (by decide) ?_
                            refine lv_aload_n hx hb dL_act_476 rfl (lv_at hl 7 rfl) ?_
                            refine lv_iload_n hx hb dL_act_477 rfl (lv_at hl 5 rfl) ?_
                            refine lv_iload hx hb dL_act_478 (lv_at hl 4 rfl) ?_
                            refine lv_iload_n hx hb dL_act_480 rfl (lv_at hl 6 rfl) ?_
                            refine lv_if_eq (tgt := 491) hx hb dL_act_481 (by decide) (fun _ => ?_) (fun c9 => absurd c9 (by decide))
                            refine lv_iload hx hb dL_act_491 (lv_at hl 4 rfl) ?_
                            refine lv_iload_n hx hb dL_act_493 rfl (lv_at hl 8 rfl) ?_
                            refine lv_bipush (v := 12) hx hb dL_act_494 (by decide) ?_
                            refine lv_ishr hx hb dL_act_496 ?_
                            refine lv_bipush (v := 8) hx hb dL_act_497 (by decide) ?_
                            refine lv_bipush (v := 16) hx hb dL_act_499 (by decide) ?_
                            refine lv_iload hx hb dL_act_501 (lv_at hl 4 rfl) ?_
                            refine lv_isub hx hb dL_act_503 ?_
                            refine lv_icmp_ge (tgt := 512) hx hb dL_act_504 (by decide) (fun c_20 => ?_) (fun c_20 => ?_)
                            · have hs := sp_t c_20 hs
                              refine lv_bipush (v := 16) hx hb dL_act_512 (by decide) ?_
                              refine lv_iload hx hb dL_act_514 (lv_at hl 4 rfl) ?_
                              refine lv_isub hx hb dL_act_516 ?_
                              obtain ⟨v_21, h_21, hs⟩ := sp_b hs
                              refine rd_i (va_runS (As := [.int (a1 >>> (12 &&& 31)), .int (16 - v_4)]) (rest := [.int (v_4), .int (v_4), .int (v_3), .ref (g 0)]) ⟨hx, hb, hml, hown, hts⟩ (c_L_low l D ca (a1 >>> (12 &&& 31)) (16 - v_4) h_21) (va_cwS 2 hts gL_act_L_low rfl rfl rfl (by decide +kernel) ⟨Nat.le_of_ble_eq_true rfl, Nat.le_of_ble_eq_true rfl⟩) (rP_S va_P_nil hC) rfl rfl hl.1 rfl (lv_room (Nat.le_of_ble_eq_true rfl)) dL_act_517 ⟨Nat.zero_le _, Nat.zero_le _⟩) ?_
                              refine lv_iadd hx hb dL_act_520 ?_
                              refine wr_l (vx_runSW (As := [.ref (g 0), .int (v_3), .int (v_4), .int (v_4 + v_21)]) (rest := []) ⟨hx, hb, hml, hown, hts⟩ (c_L_aim l hl9 D ca g x v_3 v_4 (v_4 + v_21) hs H.size) (vx_cwSW 4 hts gL_act_L_aim rfl rfl rfl (by decide +kernel) ⟨Nat.le_of_ble_eq_true rfl, Nat.le_of_ble_eq_true rfl⟩) (tP_S hP hC hD hz hS hA) rfl rfl hl.1 rfl (lv_room (Nat.le_of_ble_eq_true rfl)) dL_act_521 ⟨Nat.le_of_ble_eq_true rfl, Nat.le_of_ble_eq_true rfl⟩) hD hS hA (fun H locs hP hD hS => ?_)
                              exact wl_p (g := g) (g' := g) rfl hx hb hr hAe rfl hP hD hS (Nat.le_of_ble_eq_true rfl) (Nat.le_of_ble_eq_true rfl) dL_act_524 hlocks
                            · have hs := sp_f c_20 hs
                              refine lv_bipush (v := 8) hx hb dL_act_507 (by decide) ?_
                              refine lv_goto (tgt := 517) hx hb dL_act_509 (by decide) ?_
                              obtain ⟨v_22, h_22, hs⟩ := sp_b hs
                              refine rd_i (va_runS (As := [.int (a1 >>> (12 &&& 31)), .int (8)]) (rest := [.int (v_4), .int (v_4), .int (v_3), .ref (g 0)]) ⟨hx, hb, hml, hown, hts⟩ (c_L_low l D ca (a1 >>> (12 &&& 31)) 8 h_22) (va_cwS 2 hts gL_act_L_low rfl rfl rfl (by decide +kernel) ⟨Nat.le_of_ble_eq_true rfl, Nat.le_of_ble_eq_true rfl⟩) (rP_S va_P_nil hC) rfl rfl hl.1 rfl (lv_room (Nat.le_of_ble_eq_true rfl)) dL_act_517 ⟨Nat.zero_le _, Nat.zero_le _⟩) ?_
                              refine lv_iadd hx hb dL_act_520 ?_
                              refine wr_l (vx_runSW (As := [.ref (g 0), .int (v_3), .int (v_4), .int (v_4 + v_22)]) (rest := []) ⟨hx, hb, hml, hown, hts⟩ (c_L_aim l hl9 D ca g x v_3 v_4 (v_4 + v_22) hs H.size) (vx_cwSW 4 hts gL_act_L_aim rfl rfl rfl (by decide +kernel) ⟨Nat.le_of_ble_eq_true rfl, Nat.le_of_ble_eq_true rfl⟩) (tP_S hP hC hD hz hS hA) rfl rfl hl.1 rfl (lv_room (Nat.le_of_ble_eq_true rfl)) dL_act_521 ⟨Nat.le_of_ble_eq_true rfl, Nat.le_of_ble_eq_true rfl⟩) hD hS hA (fun H locs hP hD hS => ?_)
                              exact wl_p (g := g) (g' := g) rfl hx hb hr hAe rfl hP hD hS (Nat.le_of_ble_eq_true rfl) (Nat.le_of_ble_eq_true rfl) dL_act_524 hlocks
                          · have hs := sp_f c_9_10 hs
                            by_cases c_9_11 : v_8 = 11
                            · have hs := sp_t c_9_11 hs
                              refine lv_tableIn (off := 302) (tgt := 476) hx hb dL_act_174 (by rw [c_9_11]; decide) (by rw [c_9_11]; decide) (by rw [c_9_11]; decide) (by decide) ?_
                              refine lv_aload_n hx hb dL_act_476 rfl (lv_at hl 7 rfl) ?_
                              refine lv_iload_n hx hb dL_act_477 rfl (lv_at hl 5 rfl) ?_
                              refine lv_iload hx hb dL_act_478 (lv_at hl 4 rfl) ?_
                              refine lv_iload_n hx hb dL_act_480 rfl (lv_at hl 6 rfl) ?_
                              refine lv_if_eq (tgt := 491) hx hb dL_act_481 (by decide) (fun _ => ?_) (fun c9 => absurd c9 (by decide))
                              refine lv_iload hx hb dL_act_491 (lv_at hl 4 rfl) ?_
                              refine lv_iload_n hx hb dL_act_493 rfl (lv_at hl 8 rfl) ?_
                              refine lv_bipush (v := 12) hx hb dL_act_494 (by decide) ?_
                              refine lv_ishr hx hb dL_act_496 ?_
                              refine lv_bipush (v := 8) hx hb dL_act_497 (by decide) ?_
                              refine lv_bipush (v := 16) hx hb dL_act_499 (by decide) ?_
                              refine lv_iload hx hb dL_act_501 (lv_at hl 4 rfl) ?_
                              refine lv_isub hx hb dL_act_503 ?_
                              refine lv_icmp_ge (tgt := 512) hx hb dL_act_504 (by decide) (fun c_23 => ?_) (fun c_23 => ?_)
                              · have hs := sp_t c_23 hs
                                refine lv_bipush (v := 16) hx hb dL_act_512 (by decide) ?_
                                refine lv_iload hx hb dL_act_514 (lv_at hl 4 rfl) ?_
                                refine lv_isub hx hb dL_act_516 ?_
                                obtain ⟨v_24, h_24, hs⟩ := sp_b hs
                                refine rd_i (va_runS (As := [.int (a1 >>> (12 &&& 31)), .int (16 - v_4)]) (rest := [.int (v_4), .int (v_4), .int (v_3), .ref (g 0)]) ⟨hx, hb, hml, hown, hts⟩ (c_L_low l D ca (a1 >>> (12 &&& 31)) (16 - v_4) h_24) (va_cwS 2 hts gL_act_L_low rfl rfl rfl (by decide +kernel) ⟨Nat.le_of_ble_eq_true rfl, Nat.le_of_ble_eq_true rfl⟩) (rP_S va_P_nil hC) rfl rfl hl.1 rfl (lv_room (Nat.le_of_ble_eq_true rfl)) dL_act_517 ⟨Nat.zero_le _, Nat.zero_le _⟩) ?_
                                refine lv_iadd hx hb dL_act_520 ?_
                                refine wr_l (vx_runSW (As := [.ref (g 0), .int (v_3), .int (v_4), .int (v_4 + v_24)]) (rest := []) ⟨hx, hb, hml, hown, hts⟩ (c_L_aim l hl9 D ca g x v_3 v_4 (v_4 + v_24) hs H.size) (vx_cwSW 4 hts gL_act_L_aim rfl rfl rfl (by decide +kernel) ⟨Nat.le_of_ble_eq_true rfl, Nat.le_of_ble_eq_true rfl⟩) (tP_S hP hC hD hz hS hA) rfl rfl hl.1 rfl (lv_room (Nat.le_of_ble_eq_true rfl)) dL_act_521 ⟨Nat.le_of_ble_eq_true rfl, Nat.le_of_ble_eq_true rfl⟩) hD hS hA (fun H locs hP hD hS => ?_)
                                exact wl_p (g := g) (g' := g) rfl hx hb hr hAe rfl hP hD hS (Nat.le_of_ble_eq_true rfl) (Nat.le_of_ble_eq_true rfl) dL_act_524 hlocks
                              · have hs := sp_f c_23 hs
                                refine lv_bipush (v := 8) hx hb dL_act_507 (by decide) ?_
                                refine lv_goto (tgt := 517) hx hb dL_act_509 (by decide) ?_
                                obtain ⟨v_25, h_25, hs⟩ := sp_b hs
                                refine rd_i (va_runS (As := [.int (a1 >>> (12 &&& 31)), .int (8)]) (rest := [.int (v_4), .int (v_4), .int (v_3), .ref (g 0)]) ⟨hx, hb, hml, hown, hts⟩ (c_L_low l D ca (a1 >>> (12 &&& 31)) 8 h_25) (va_cwS 2 hts gL_act_L_low rfl rfl rfl (by decide +kernel) ⟨Nat.le_of_ble_eq_true rfl, Nat.le_of_ble_eq_true rfl⟩) (rP_S va_P_nil hC) rfl rfl hl.1 rfl (lv_room (Nat.le_of_ble_eq_true rfl)) dL_act_517 ⟨Nat.zero_le _, Nat.zero_le _⟩) ?_
                                refine lv_iadd hx hb dL_act_520 ?_
                                refine wr_l (vx_runSW (As := [.ref (g 0), .int (v_3), .int (v_4), .int (v_4 + v_25)]) (rest := []) ⟨hx, hb, hml, hown, hts⟩ (c_L_aim l hl9 D ca g x v_3 v_4 (v_4 + v_25) hs H.size) (vx_cwSW 4 hts gL_act_L_aim rfl rfl rfl (by decide +kernel) ⟨Nat.le_of_ble_eq_true rfl, Nat.le_of_ble_eq_true rfl⟩) (tP_S hP hC hD hz hS hA) rfl rfl hl.1 rfl (lv_room (Nat.le_of_ble_eq_true rfl)) dL_act_521 ⟨Nat.le_of_ble_eq_true rfl, Nat.le_of_ble_eq_true rfl⟩) hD hS hA (fun H locs hP hD hS => ?_)
                                exact wl_p (g := g) (g' := g) rfl hx hb hr hAe rfl hP hD hS (Nat.le_of_ble_eq_true rfl) (Nat.le_of_ble_eq_true rfl) dL_act_524 hlocks
                            · have hs := sp_f c_9_11 hs
                              by_cases c_9_12 : v_8 = 12
                              · have hs := sp_t c_9_12 hs
                                refine lv_tableIn (off := 302) (tgt := 476) hx hb dL_act_174 (by rw [c_9_12]; decide) (by rw [c_9_12]; decide) (by rw [c_9_12]; decide) (by decide) ?_
                                refine lv_aload_n hx hb dL_act_476 rfl (lv_at hl 7 rfl) ?_
                                refine lv_iload_n hx hb dL_act_477 rfl (lv_at hl 5 rfl) ?_
                                refine lv_iload hx hb dL_act_478 (lv_at hl 4 rfl) ?_
                                refine lv_iload_n hx hb dL_act_480 rfl (lv_at hl 6 rfl) ?_
                                refine lv_if_eq (tgt := 491) hx hb dL_act_481 (by decide) (fun _ => ?_) (fun c9 => absurd c9 (by decide))
                                refine lv_iload hx hb dL_act_491 (lv_at hl 4 rfl) ?_
                                refine lv_iload_n hx hb dL_act_493 rfl (lv_at hl 8 rfl) ?_
                                refine lv_bipush (v := 12) hx hb dL_act_494 (by decide) ?_
                                refine lv_ishr hx hb dL_act_496 ?_
                                refine lv_bipush (v := 8) hx hb dL_act_497 (by decide) ?_
                                refine lv_bipush (v := 16) hx hb dL_act_499 (by decide) ?_
                                refine lv_iload hx hb dL_act_501 (lv_at hl 4 rfl) ?_
                                refine lv_isub hx hb dL_act_503 ?_
                                refine lv_icmp_ge (tgt := 512) hx hb dL_act_504 (by decide) (fun c_26 => ?_) (fun c_26 => ?_)
                                · have hs := sp_t c_26 hs
                                  refine lv_bipush (v := 16) hx hb dL_act_512 (by decide) ?_
                                  refine lv_iload hx hb dL_act_514 (lv_at hl 4 rfl) ?_
                                  refine lv_isub hx hb dL_act_516 ?_
                                  obtain ⟨v_27, h_27, hs⟩ := sp_b hs
                                  refine rd_i (va_runS (As := [.int (a1 >>> (12 &&& 31)), .int (16 - v_4)]) (rest := [.int (v_4), .int (v_4), .int (v_3), .ref (g 0)]) ⟨hx, hb, hml, hown, hts⟩ (c_L_low l D ca (a1 >>> (12 &&& 31)) (16 - v_4) h_27) (va_cwS 2 hts gL_act_L_low rfl rfl rfl (by decide +kernel) ⟨Nat.le_of_ble_eq_true rfl, Nat.le_of_ble_eq_true rfl⟩) (rP_S va_P_nil hC) rfl rfl hl.1 rfl (lv_room (Nat.le_of_ble_eq_true rfl)) dL_act_517 ⟨Nat.zero_le _, Nat.zero_le _⟩) ?_
                                  refine lv_iadd hx hb dL_act_520 ?_
                                  refine wr_l (vx_runSW (As := [.ref (g 0), .int (v_3), .int (v_4), .int (v_4 + v_27)]) (rest := []) ⟨hx, hb, hml, hown, hts⟩ (c_L_aim l hl9 D ca g x v_3 v_4 (v_4 + v_27) hs H.size) (vx_cwSW 4 hts gL_act_L_aim rfl rfl rfl (by decide +kernel) ⟨Nat.le_of_ble_eq_true rfl, Nat.le_of_ble_eq_true rfl⟩) (tP_S hP hC hD hz hS hA) rfl rfl hl.1 rfl (lv_room (Nat.le_of_ble_eq_true rfl)) dL_act_521 ⟨Nat.le_of_ble_eq_true rfl, Nat.le_of_ble_eq_true rfl⟩) hD hS hA (fun H locs hP hD hS => ?_)
                                  exact wl_p (g := g) (g' := g) rfl hx hb hr hAe rfl hP hD hS (Nat.le_of_ble_eq_true rfl) (Nat.le_of_ble_eq_true rfl) dL_act_524 hlocks
                                · have hs := sp_f c_26 hs
                                  refine lv_bipush (v := 8) hx hb dL_act_507 (by decide) ?_
                                  refine lv_goto (tgt := 517) hx hb dL_act_509 (by decide) ?_
                                  obtain ⟨v_28, h_28, hs⟩ := sp_b hs
                                  refine rd_i (va_runS (As := [.int (a1 >>> (12 &&& 31)), .int (8)]) (rest := [.int (v_4), .int (v_4), .int (v_3), .ref (g 0)]) ⟨hx, hb, hml, hown, hts⟩ (c_L_low l D ca (a1 >>> (12 &&& 31)) 8 h_28) (va_cwS 2 hts gL_act_L_low rfl rfl rfl (by decide +kernel) ⟨Nat.le_of_ble_eq_true rfl, Nat.le_of_ble_eq_true rfl⟩) (rP_S va_P_nil hC) rfl rfl hl.1 rfl (lv_room (Nat.le_of_ble_eq_true rfl)) dL_act_517 ⟨Nat.zero_le _, Nat.zero_le _⟩) ?_
                                  refine lv_iadd hx hb dL_act_520 ?_
                                  refine wr_l (vx_runSW (As := [.ref (g 0), .int (v_3), .int (v_4), .int (v_4 + v_28)]) (rest := []) ⟨hx, hb, hml, hown, hts⟩ (c_L_aim l hl9 D ca g x v_3 v_4 (v_4 + v_28) hs H.size) (vx_cwSW 4 hts gL_act_L_aim rfl rfl rfl (by decide +kernel) ⟨Nat.le_of_ble_eq_true rfl, Nat.le_of_ble_eq_true rfl⟩) (tP_S hP hC hD hz hS hA) rfl rfl hl.1 rfl (lv_room (Nat.le_of_ble_eq_true rfl)) dL_act_521 ⟨Nat.le_of_ble_eq_true rfl, Nat.le_of_ble_eq_true rfl⟩) hD hS hA (fun H locs hP hD hS => ?_)
                                  exact wl_p (g := g) (g' := g) rfl hx hb hr hAe rfl hP hD hS (Nat.le_of_ble_eq_true rfl) (Nat.le_of_ble_eq_true rfl) dL_act_524 hlocks
                              · have hs := sp_f c_9_12 hs
                                by_cases c_9_13 : v_8 = 13
                                · have hs := sp_t c_9_13 hs
                                  refine lv_tableIn (off := 351) (tgt := 525) hx hb dL_act_174 (by rw [c_9_13]; decide) (by rw [c_9_13]; decide) (by rw [c_9_13]; decide) (by decide) ?_
                                  refine lv_aload_n hx hb dL_act_525 rfl (lv_at hl 7 rfl) ?_
                                  refine lv_iload_n hx hb dL_act_526 rfl (lv_at hl 5 rfl) ?_
                                  refine lv_iload_n hx hb dL_act_527 rfl (lv_at hl 8 rfl) ?_
                                  refine lv_bipush (v := 8) hx hb dL_act_528 (by decide) ?_
                                  refine lv_ishr hx hb dL_act_530 ?_
                                  refine lv_iconst (v := 4) hx hb dL_act_531 (by decide) ?_
                                  obtain ⟨v_29, h_29, hs⟩ := sp_b hs
                                  refine rd_i (va_runS (As := [.int (a1 >>> (8 &&& 31)), .int (4)]) (rest := [.int (v_3), .ref (g 0)]) ⟨hx, hb, hml, hown, hts⟩ (c_L_low l D ca (a1 >>> (8 &&& 31)) 4 h_29) (va_cwS 2 hts gL_act_L_low rfl rfl rfl (by decide +kernel) ⟨Nat.le_of_ble_eq_true rfl, Nat.le_of_ble_eq_true rfl⟩) (rP_S va_P_nil hC) rfl rfl hl.1 rfl (lv_room (Nat.le_of_ble_eq_true rfl)) dL_act_532 ⟨Nat.zero_le _, Nat.zero_le _⟩) ?_
                                  refine lv_if_le (tgt := 542) hx hb dL_act_535 (by decide) (fun c_30 => ?_) (fun c_30 => ?_)
                                  · have hs := sp_t c_30 hs
                                    refine lv_iconst (v := 0) hx hb dL_act_542 (by decide) ?_
                                    refine wr_l (vx_runSW (As := [.ref (g 0), .int (v_3), .int (0)]) (rest := []) ⟨hx, hb, hml, hown, hts⟩ (c_L_turn l hl9 D ca g x v_3 0 hs H.size) (vx_cwSW 3 hts gL_act_L_turn rfl rfl rfl (by decide +kernel) ⟨Nat.le_of_ble_eq_true rfl, Nat.le_of_ble_eq_true rfl⟩) (tP_S hP hC hD hz hS hA) rfl rfl hl.1 rfl (lv_room (Nat.le_of_ble_eq_true rfl)) dL_act_543 ⟨Nat.le_of_ble_eq_true rfl, Nat.le_of_ble_eq_true rfl⟩) hD hS hA (fun H locs hP hD hS => ?_)
                                    exact wl_p (g := g) (g' := g) rfl hx hb hr hAe rfl hP hD hS (Nat.le_of_ble_eq_true rfl) (Nat.le_of_ble_eq_true rfl) dL_act_546 hlocks
                                  · have hs := sp_f c_30 hs
                                    refine lv_iconst (v := 1) hx hb dL_act_538 (by decide) ?_
                                    refine lv_goto (tgt := 543) hx hb dL_act_539 (by decide) ?_
                                    refine wr_l (vx_runSW (As := [.ref (g 0), .int (v_3), .int (1)]) (rest := []) ⟨hx, hb, hml, hown, hts⟩ (c_L_turn l hl9 D ca g x v_3 1 hs H.size) (vx_cwSW 3 hts gL_act_L_turn rfl rfl rfl (by decide +kernel) ⟨Nat.le_of_ble_eq_true rfl, Nat.le_of_ble_eq_true rfl⟩) (tP_S hP hC hD hz hS hA) rfl rfl hl.1 rfl (lv_room (Nat.le_of_ble_eq_true rfl)) dL_act_543 ⟨Nat.le_of_ble_eq_true rfl, Nat.le_of_ble_eq_true rfl⟩) hD hS hA (fun H locs hP hD hS => ?_)
                                    exact wl_p (g := g) (g' := g) rfl hx hb hr hAe rfl hP hD hS (Nat.le_of_ble_eq_true rfl) (Nat.le_of_ble_eq_true rfl) dL_act_546 hlocks
                                · have hs := sp_f c_9_13 hs
                                  by_cases c_9_14 : v_8 = 14
                                  · have hs := sp_t c_9_14 hs
                                    refine lv_tableIn (off := 351) (tgt := 525) hx hb dL_act_174 (by rw [c_9_14]; decide) (by rw [c_9_14]; decide) (by rw [c_9_14]; decide) (by decide) ?_
                                    refine lv_aload_n hx hb dL_act_525 rfl (lv_at hl 7 rfl) ?_
                                    refine lv_iload_n hx hb dL_act_526 rfl (lv_at hl 5 rfl) ?_
                                    refine lv_iload_n hx hb dL_act_527 rfl (lv_at hl 8 rfl) ?_
                                    refine lv_bipush (v := 8) hx hb dL_act_528 (by decide) ?_
                                    refine lv_ishr hx hb dL_act_530 ?_
                                    refine lv_iconst (v := 4) hx hb dL_act_531 (by decide) ?_
                                    obtain ⟨v_31, h_31, hs⟩ := sp_b hs
                                    refine rd_i (va_runS (As := [.int (a1 >>> (8 &&& 31)), .int (4)]) (rest := [.int (v_3), .ref (g 0)]) ⟨hx, hb, hml, hown, hts⟩ (c_L_low l D ca (a1 >>> (8 &&& 31)) 4 h_31) (va_cwS 2 hts gL_act_L_low rfl rfl rfl (by decide +kernel) ⟨Nat.le_of_ble_eq_true rfl, Nat.le_of_ble_eq_true rfl⟩) (rP_S va_P_nil hC) rfl rfl hl.1 rfl (lv_room (Nat.le_of_ble_eq_true rfl)) dL_act_532 ⟨Nat.zero_le _, Nat.zero_le _⟩) ?_
                                    refine lv_if_le (tgt := 542) hx hb dL_act_535 (by decide) (fun c_32 => ?_) (fun c_32 => ?_)
                                    · have hs := sp_t c_32 hs
                                      refine lv_iconst (v := 0) hx hb dL_act_542 (by decide) ?_
                                      refine wr_l (vx_runSW (As := [.ref (g 0), .int (v_3), .int (0)]) (rest := []) ⟨hx, hb, hml, hown, hts⟩ (c_L_turn l hl9 D ca g x v_3 0 hs H.size) (vx_cwSW 3 hts gL_act_L_turn rfl rfl rfl (by decide +kernel) ⟨Nat.le_of_ble_eq_true rfl, Nat.le_of_ble_eq_true rfl⟩) (tP_S hP hC hD hz hS hA) rfl rfl hl.1 rfl (lv_room (Nat.le_of_ble_eq_true rfl)) dL_act_543 ⟨Nat.le_of_ble_eq_true rfl, Nat.le_of_ble_eq_true rfl⟩) hD hS hA (fun H locs hP hD hS => ?_)
                                      exact wl_p (g := g) (g' := g) rfl hx hb hr hAe rfl hP hD hS (Nat.le_of_ble_eq_true rfl) (Nat.le_of_ble_eq_true rfl) dL_act_546 hlocks
                                    · have hs := sp_f c_32 hs
                                      refine lv_iconst (v := 1) hx hb dL_act_538 (by decide) ?_
                                      refine lv_goto (tgt := 543) hx hb dL_act_539 (by decide) ?_
                                      refine wr_l (vx_runSW (As := [.ref (g 0), .int (v_3), .int (1)]) (rest := []) ⟨hx, hb, hml, hown, hts⟩ (c_L_turn l hl9 D ca g x v_3 1 hs H.size) (vx_cwSW 3 hts gL_act_L_turn rfl rfl rfl (by decide +kernel) ⟨Nat.le_of_ble_eq_true rfl, Nat.le_of_ble_eq_true rfl⟩) (tP_S hP hC hD hz hS hA) rfl rfl hl.1 rfl (lv_room (Nat.le_of_ble_eq_true rfl)) dL_act_543 ⟨Nat.le_of_ble_eq_true rfl, Nat.le_of_ble_eq_true rfl⟩) hD hS hA (fun H locs hP hD hS => ?_)
                                      exact wl_p (g := g) (g' := g) rfl hx hb hr hAe rfl hP hD hS (Nat.le_of_ble_eq_true rfl) (Nat.le_of_ble_eq_true rfl) dL_act_546 hlocks
                                  · have hs := sp_f c_9_14 hs
                                    by_cases c_9_15 : v_8 = 15
                                    · have hs := sp_t c_9_15 hs
                                      refine lv_tableIn (off := 351) (tgt := 525) hx hb dL_act_174 (by rw [c_9_15]; decide) (by rw [c_9_15]; decide) (by rw [c_9_15]; decide) (by decide) ?_
                                      refine lv_aload_n hx hb dL_act_525 rfl (lv_at hl 7 rfl) ?_
                                      refine lv_iload_n hx hb dL_act_526 rfl (lv_at hl 5 rfl) ?_
                                      refine lv_iload_n hx hb dL_act_527 rfl (lv_at hl 8 rfl) ?_
                                      refine lv_bipush (v := 8) hx hb dL_act_528 (by decide) ?_
                                      refine lv_ishr hx hb dL_act_530 ?_
                                      refine lv_iconst (v := 4) hx hb dL_act_531 (by decide) ?_
                                      obtain ⟨v_33, h_33, hs⟩ := sp_b hs
                                      refine rd_i (va_runS (As := [.int (a1 >>> (8 &&& 31)), .int (4)]) (rest := [.int (v_3), .ref (g 0)]) ⟨hx, hb, hml, hown, hts⟩ (c_L_low l D ca (a1 >>> (8 &&& 31)) 4 h_33) (va_cwS 2 hts gL_act_L_low rfl rfl rfl (by decide +kernel) ⟨Nat.le_of_ble_eq_true rfl, Nat.le_of_ble_eq_true rfl⟩) (rP_S va_P_nil hC) rfl rfl hl.1 rfl (lv_room (Nat.le_of_ble_eq_true rfl)) dL_act_532 ⟨Nat.zero_le _, Nat.zero_le _⟩) ?_
                                      refine lv_if_le (tgt := 542) hx hb dL_act_535 (by decide) (fun c_34 => ?_) (fun c_34 => ?_)
                                      · have hs := sp_t c_34 hs
                                        refine lv_iconst (v := 0) hx hb dL_act_542 (by decide) ?_
                                        refine wr_l (vx_runSW (As := [.ref (g 0), .int (v_3), .int (0)]) (rest := []) ⟨hx, hb, hml, hown, hts⟩ (c_L_turn l hl9 D ca g x v_3 0 hs H.size) (vx_cwSW 3 hts gL_act_L_turn rfl rfl rfl (by decide +kernel) ⟨Nat.le_of_ble_eq_true rfl, Nat.le_of_ble_eq_true rfl⟩) (tP_S hP hC hD hz hS hA) rfl rfl hl.1 rfl (lv_room (Nat.le_of_ble_eq_true rfl)) dL_act_543 ⟨Nat.le_of_ble_eq_true rfl, Nat.le_of_ble_eq_true rfl⟩) hD hS hA (fun H locs hP hD hS => ?_)
                                        exact wl_p (g := g) (g' := g) rfl hx hb hr hAe rfl hP hD hS (Nat.le_of_ble_eq_true rfl) (Nat.le_of_ble_eq_true rfl) dL_act_546 hlocks
                                      · have hs := sp_f c_34 hs
                                        refine lv_iconst (v := 1) hx hb dL_act_538 (by decide) ?_
                                        refine lv_goto (tgt := 543) hx hb dL_act_539 (by decide) ?_
                                        refine wr_l (vx_runSW (As := [.ref (g 0), .int (v_3), .int (1)]) (rest := []) ⟨hx, hb, hml, hown, hts⟩ (c_L_turn l hl9 D ca g x v_3 1 hs H.size) (vx_cwSW 3 hts gL_act_L_turn rfl rfl rfl (by decide +kernel) ⟨Nat.le_of_ble_eq_true rfl, Nat.le_of_ble_eq_true rfl⟩) (tP_S hP hC hD hz hS hA) rfl rfl hl.1 rfl (lv_room (Nat.le_of_ble_eq_true rfl)) dL_act_543 ⟨Nat.le_of_ble_eq_true rfl, Nat.le_of_ble_eq_true rfl⟩) hD hS hA (fun H locs hP hD hS => ?_)
                                        exact wl_p (g := g) (g' := g) rfl hx hb hr hAe rfl hP hD hS (Nat.le_of_ble_eq_true rfl) (Nat.le_of_ble_eq_true rfl) dL_act_546 hlocks
                                    · have hs := sp_f c_9_15 hs
                                      by_cases c_9_16 : v_8 = 16
                                      · have hs := sp_t c_9_16 hs
                                        refine lv_tableIn (off := 351) (tgt := 525) hx hb dL_act_174 (by rw [c_9_16]; decide) (by rw [c_9_16]; decide) (by rw [c_9_16]; decide) (by decide) ?_
                                        refine lv_aload_n hx hb dL_act_525 rfl (lv_at hl 7 rfl) ?_
                                        refine lv_iload_n hx hb dL_act_526 rfl (lv_at hl 5 rfl) ?_
                                        refine lv_iload_n hx hb dL_act_527 rfl (lv_at hl 8 rfl) ?_
                                        refine lv_bipush (v := 8) hx hb dL_act_528 (by decide) ?_
                                        refine lv_ishr hx hb dL_act_530 ?_
                                        refine lv_iconst (v := 4) hx hb dL_act_531 (by decide) ?_
                                        obtain ⟨v_35, h_35, hs⟩ := sp_b hs
                                        refine rd_i (va_runS (As := [.int (a1 >>> (8 &&& 31)), .int (4)]) (rest := [.int (v_3), .ref (g 0)]) ⟨hx, hb, hml, hown, hts⟩ (c_L_low l D ca (a1 >>> (8 &&& 31)) 4 h_35) (va_cwS 2 hts gL_act_L_low rfl rfl rfl (by decide +kernel) ⟨Nat.le_of_ble_eq_true rfl, Nat.le_of_ble_eq_true rfl⟩) (rP_S va_P_nil hC) rfl rfl hl.1 rfl (lv_room (Nat.le_of_ble_eq_true rfl)) dL_act_532 ⟨Nat.zero_le _, Nat.zero_le _⟩) ?_
                                        refine lv_if_le (tgt := 542) hx hb dL_act_535 (by decide) (fun c_36 => ?_) (fun c_36 => ?_)
                                        · have hs := sp_t c_36 hs
                                          refine lv_iconst (v := 0) hx hb dL_act_542 (by decide) ?_
                                          refine wr_l (vx_runSW (As := [.ref (g 0), .int (v_3), .int (0)]) (rest := []) ⟨hx, hb, hml, hown, hts⟩ (c_L_turn l hl9 D ca g x v_3 0 hs H.size) (vx_cwSW 3 hts gL_act_L_turn rfl rfl rfl (by decide +kernel) ⟨Nat.le_of_ble_eq_true rfl, Nat.le_of_ble_eq_true rfl⟩) (tP_S hP hC hD hz hS hA) rfl rfl hl.1 rfl (lv_room (Nat.le_of_ble_eq_true rfl)) dL_act_543 ⟨Nat.le_of_ble_eq_true rfl, Nat.le_of_ble_eq_true rfl⟩) hD hS hA (fun H locs hP hD hS => ?_)
                                          exact wl_p (g := g) (g' := g) rfl hx hb hr hAe rfl hP hD hS (Nat.le_of_ble_eq_true rfl) (Nat.le_of_ble_eq_true rfl) dL_act_546 hlocks
                                        · have hs := sp_f c_36 hs
                                          refine lv_iconst (v := 1) hx hb dL_act_538 (by decide) ?_
                                          refine lv_goto (tgt := 543) hx hb dL_act_539 (by decide) ?_
                                          refine wr_l (vx_runSW (As := [.ref (g 0), .int (v_3), .int (1)]) (rest := []) ⟨hx, hb, hml, hown, hts⟩ (c_L_turn l hl9 D ca g x v_3 1 hs H.size) (vx_cwSW 3 hts gL_act_L_turn rfl rfl rfl (by decide +kernel) ⟨Nat.le_of_ble_eq_true rfl, Nat.le_of_ble_eq_true rfl⟩) (tP_S hP hC hD hz hS hA) rfl rfl hl.1 rfl (lv_room (Nat.le_of_ble_eq_true rfl)) dL_act_543 ⟨Nat.le_of_ble_eq_true rfl, Nat.le_of_ble_eq_true rfl⟩) hD hS hA (fun H locs hP hD hS => ?_)
                                          exact wl_p (g := g) (g' := g) rfl hx hb hr hAe rfl hP hD hS (Nat.le_of_ble_eq_true rfl) (Nat.le_of_ble_eq_true rfl) dL_act_546 hlocks
                                      · have hs := sp_f c_9_16 hs
                                        by_cases c_9_17 : v_8 = 17
                                        · have hs := sp_t c_9_17 hs
                                          refine lv_tableIn (off := 373) (tgt := 547) hx hb dL_act_174 (by rw [c_9_17]; decide) (by rw [c_9_17]; decide) (by rw [c_9_17]; decide) (by decide) ?_
                                          refine lv_aload_n hx hb dL_act_547 rfl (lv_at hl 7 rfl) ?_
                                          refine lv_iload_n hx hb dL_act_548 rfl (lv_at hl 5 rfl) ?_
                                          refine lv_iload hx hb dL_act_549 (lv_at hl 0 rfl) ?_
                                          refine wr_l (vx_runSW (As := [.ref (g 0), .int (v_3), .int (b2i (decide (((a1 >>> (15 &&& 31)) &&& 1) = 1)))]) (rest := []) ⟨hx, hb, hml, hown, hts⟩ (c_L_fail l hl9 D ca g x v_3 (b2i (decide (((a1 >>> (15 &&& 31)) &&& 1) = 1))) hs H.size) (vx_cwSW 3 hts gL_act_L_fail rfl rfl rfl (by decide +kernel) ⟨Nat.le_of_ble_eq_true rfl, Nat.le_of_ble_eq_true rfl⟩) (tP_S hP hC hD hz hS hA) rfl rfl hl.1 rfl (lv_room (Nat.le_of_ble_eq_true rfl)) dL_act_551 ⟨Nat.le_of_ble_eq_true rfl, Nat.le_of_ble_eq_true rfl⟩) hD hS hA (fun H locs hP hD hS => ?_)
                                          exact wl_p (g := g) (g' := g) rfl hx hb hr hAe rfl hP hD hS (Nat.le_of_ble_eq_true rfl) (Nat.le_of_ble_eq_true rfl) dL_act_554 hlocks
                                        · have hs := sp_f c_9_17 hs
                                          by_cases c_9_18 : v_8 = 18
                                          · have hs := sp_t c_9_18 hs
                                            refine lv_tableIn (off := 381) (tgt := 555) hx hb dL_act_174 (by rw [c_9_18]; decide) (by rw [c_9_18]; decide) (by rw [c_9_18]; decide) (by decide) ?_
                                            refine lv_aload_n hx hb dL_act_555 rfl (lv_at hl 7 rfl) ?_
                                            refine lv_iload hx hb dL_act_556 (lv_at hl 1 rfl) ?_
                                            refine lv_iload_n hx hb dL_act_558 rfl (lv_at hl 6 rfl) ?_
                                            refine lv_if_eq (tgt := 566) hx hb dL_act_559 (by decide) (fun _ => ?_) (fun c9 => absurd c9 (by decide))
                                            refine lv_bipush (v := 100) hx hb dL_act_566 (by decide) ?_
                                            refine lv_iload hx hb dL_act_568 (lv_at hl 2 rfl) ?_
                                            refine lv_imul hx hb dL_act_570 ?_
                                            refine wr_l (vx_runSW (As := [.ref (g 0), .int (v_7), .int (100 * v_6)]) (rest := []) ⟨hx, hb, hml, hown, hts⟩ (c_L_phase l hl9 D ca g x v_7 (100 * v_6) hs H.size) (vx_cwSW 3 hts gL_act_L_phase rfl rfl rfl (by decide +kernel) ⟨Nat.le_of_ble_eq_true rfl, Nat.le_of_ble_eq_true rfl⟩) (tP_S hP hC hD hz hS hA) rfl rfl hl.1 rfl (lv_room (Nat.le_of_ble_eq_true rfl)) dL_act_571 ⟨Nat.le_of_ble_eq_true rfl, Nat.le_of_ble_eq_true rfl⟩) hD hS hA (fun H locs hP hD hS => ?_)
                                            exact wl_p (g := g) (g' := g) rfl hx hb hr hAe rfl hP hD hS (Nat.le_of_ble_eq_true rfl) (Nat.le_of_ble_eq_true rfl) dL_act_574 hlocks
                                          · have hs := sp_f c_9_18 hs
                                            by_cases c_9_19 : v_8 = 19
                                            · have hs := sp_t c_9_19 hs
                                              refine lv_tableIn (off := 401) (tgt := 575) hx hb dL_act_174 (by rw [c_9_19]; decide) (by rw [c_9_19]; decide) (by rw [c_9_19]; decide) (by decide) ?_
                                              refine lv_aload_n hx hb dL_act_575 rfl (lv_at hl 7 rfl) ?_
                                              refine lv_iload_n hx hb dL_act_576 rfl (lv_at hl 6 rfl) ?_
                                              refine lv_if_eq (tgt := 585) hx hb dL_act_577 (by decide) (fun _ => ?_) (fun c9 => absurd c9 (by decide))
                                              refine lv_iload_n hx hb dL_act_585 rfl (lv_at hl 8 rfl) ?_
                                              refine lv_bipush (v := 9) hx hb dL_act_586 (by decide) ?_
                                              refine lv_ishr hx hb dL_act_588 ?_
                                              refine lv_bipush (v := 9) hx hb dL_act_589 (by decide) ?_
                                              obtain ⟨v_37, h_37, hs⟩ := sp_b hs
                                              refine rd_i (va_runS (As := [.int (a1 >>> (9 &&& 31)), .int (9)]) (rest := [.ref (g 0)]) ⟨hx, hb, hml, hown, hts⟩ (c_L_low l D ca (a1 >>> (9 &&& 31)) 9 h_37) (va_cwS 2 hts gL_act_L_low rfl rfl rfl (by decide +kernel) ⟨Nat.le_of_ble_eq_true rfl, Nat.le_of_ble_eq_true rfl⟩) (rP_S va_P_nil hC) rfl rfl hl.1 rfl (lv_room (Nat.le_of_ble_eq_true rfl)) dL_act_591 ⟨Nat.zero_le _, Nat.zero_le _⟩) ?_
                                              refine wr_l (vx_runSW (As := [.ref (g 0), .int (v_37)]) (rest := []) ⟨hx, hb, hml, hown, hts⟩ (c_L_wind l hl9 D ca g x v_37 hs H.size) (vx_cwSW 2 hts gL_act_L_wind rfl rfl rfl (by decide +kernel) ⟨Nat.le_of_ble_eq_true rfl, Nat.le_of_ble_eq_true rfl⟩) (tP_S hP hC hD hz hS hA) rfl rfl hl.1 rfl (lv_room (Nat.le_of_ble_eq_true rfl)) dL_act_594 ⟨Nat.le_of_ble_eq_true rfl, Nat.le_of_ble_eq_true rfl⟩) hD hS hA (fun H locs hP hD hS => ?_)
                                              exact wl_p (g := g) (g' := g) rfl hx hb hr hAe rfl hP hD hS (Nat.le_of_ble_eq_true rfl) (Nat.le_of_ble_eq_true rfl) dL_act_597 hlocks
                                            · have hs := sp_f c_9_19 hs
                                              by_cases c_9_20 : v_8 = 20
                                              · have hs := sp_t c_9_20 hs
                                                refine lv_tableIn (off := 424) (tgt := 598) hx hb dL_act_174 (by rw [c_9_20]; decide) (by rw [c_9_20]; decide) (by rw [c_9_20]; decide) (by decide) ?_
                                                refine lv_aload_n hx hb dL_act_598 rfl (lv_at hl 7 rfl) ?_
                                                refine lv_iload_n hx hb dL_act_599 rfl (lv_at hl 5 rfl) ?_
                                                refine lv_iload hx hb dL_act_600 (lv_at hl 4 rfl) ?_
                                                refine lv_iload_n hx hb dL_act_602 rfl (lv_at hl 6 rfl) ?_
                                                refine lv_if_eq (tgt := 611) hx hb dL_act_603 (by decide) (fun _ => ?_) (fun c9 => absurd c9 (by decide))
                                                refine lv_iload_n hx hb dL_act_611 rfl (lv_at hl 8 rfl) ?_
                                                refine lv_iconst (v := 3) hx hb dL_act_612 (by decide) ?_
                                                refine lv_ishr hx hb dL_act_613 ?_
                                                refine lv_bipush (v := 12) hx hb dL_act_614 (by decide) ?_
                                                obtain ⟨v_38, h_38, hs⟩ := sp_b hs
                                                refine rd_i (va_runS (As := [.int (a1 >>> (3 &&& 31)), .int (12)]) (rest := [.int (v_4), .int (v_3), .ref (g 0)]) ⟨hx, hb, hml, hown, hts⟩ (c_L_low l D ca (a1 >>> (3 &&& 31)) 12 h_38) (va_cwS 2 hts gL_act_L_low rfl rfl rfl (by decide +kernel) ⟨Nat.le_of_ble_eq_true rfl, Nat.le_of_ble_eq_true rfl⟩) (rP_S va_P_nil hC) rfl rfl hl.1 rfl (lv_room (Nat.le_of_ble_eq_true rfl)) dL_act_616 ⟨Nat.zero_le _, Nat.zero_le _⟩) ?_
                                                refine wr_l (vx_runSW (As := [.ref (g 0), .int (v_3), .int (v_4), .int (v_38)]) (rest := []) ⟨hx, hb, hml, hown, hts⟩ (c_L_through l hl9 D ca g x v_3 v_4 v_38 hs H.size) (vx_cwSW 4 hts gL_act_L_through rfl rfl rfl (by decide +kernel) ⟨Nat.le_of_ble_eq_true rfl, Nat.le_of_ble_eq_true rfl⟩) (tP_S hP hC hD hz hS hA) rfl rfl hl.1 rfl (lv_room (Nat.le_of_ble_eq_true rfl)) dL_act_619 ⟨Nat.le_of_ble_eq_true rfl, Nat.le_of_ble_eq_true rfl⟩) hD hS hA (fun H locs hP hD hS => ?_)
                                                exact wl_p (g := g) (g' := g) rfl hx hb hr hAe rfl hP hD hS (Nat.le_of_ble_eq_true rfl) (Nat.le_of_ble_eq_true rfl) dL_act_622 hlocks
                                              · have hs := sp_f c_9_20 hs
                                                by_cases c_9_21 : v_8 = 21
                                                · have hs := sp_t c_9_21 hs
                                                  refine lv_tableIn (off := 449) (tgt := 623) hx hb dL_act_174 (by rw [c_9_21]; decide) (by rw [c_9_21]; decide) (by rw [c_9_21]; decide) (by decide) ?_
                                                  refine lv_aload_n hx hb dL_act_623 rfl (lv_at hl 7 rfl) ?_
                                                  refine lv_iload_n hx hb dL_act_624 rfl (lv_at hl 5 rfl) ?_
                                                  refine lv_iload hx hb dL_act_625 (lv_at hl 4 rfl) ?_
                                                  refine wr_l (vx_runSW (As := [.ref (g 0), .int (v_3), .int (v_4)]) (rest := []) ⟨hx, hb, hml, hown, hts⟩ (c_L_gives l hl9 D ca g x v_3 v_4 hs H.size) (vx_cwSW 3 hts gL_act_L_gives rfl rfl rfl (by decide +kernel) ⟨Nat.le_of_ble_eq_true rfl, Nat.le_of_ble_eq_true rfl⟩) (tP_S hP hC hD hz hS hA) rfl rfl hl.1 rfl (lv_room (Nat.le_of_ble_eq_true rfl)) dL_act_627 ⟨Nat.le_of_ble_eq_true rfl, Nat.le_of_ble_eq_true rfl⟩) hD hS hA (fun H locs hP hD hS => ?_)
                                                  exact wl_p (g := g) (g' := g) rfl hx hb hr hAe rfl hP hD hS (Nat.le_of_ble_eq_true rfl) (Nat.le_of_ble_eq_true rfl) dL_act_630 hlocks
                                                · have hs := sp_f c_9_21 hs
                                                  by_cases c_9_22 : v_8 = 22
                                                  · have hs := sp_t c_9_22 hs
                                                    refine lv_tableIn (off := 457) (tgt := 631) hx hb dL_act_174 (by rw [c_9_22]; decide) (by rw [c_9_22]; decide) (by rw [c_9_22]; decide) (by decide) ?_
                                                    refine lv_aload_n hx hb dL_act_631 rfl (lv_at hl 7 rfl) ?_
                                                    refine lv_iload_n hx hb dL_act_632 rfl (lv_at hl 5 rfl) ?_
                                                    refine lv_iload hx hb dL_act_633 (lv_at hl 4 rfl) ?_
                                                    refine wr_l (vx_runSW (As := [.ref (g 0), .int (v_3), .int (v_4)]) (rest := []) ⟨hx, hb, hml, hown, hts⟩ (c_L_sharp l hl9 D ca g x v_3 v_4 hs H.size) (vx_cwSW 3 hts gL_act_L_sharp rfl rfl rfl (by decide +kernel) ⟨Nat.le_of_ble_eq_true rfl, Nat.le_of_ble_eq_true rfl⟩) (tP_S hP hC hD hz hS hA) rfl rfl hl.1 rfl (lv_room (Nat.le_of_ble_eq_true rfl)) dL_act_635 ⟨Nat.le_of_ble_eq_true rfl, Nat.le_of_ble_eq_true rfl⟩) hD hS hA (fun H locs hP hD hS => ?_)
                                                    exact wl_p (g := g) (g' := g) rfl hx hb hr hAe rfl hP hD hS (Nat.le_of_ble_eq_true rfl) (Nat.le_of_ble_eq_true rfl) dL_act_638 hlocks
                                                  · have hs := sp_f c_9_22 hs
                                                    by_cases c_9_23 : v_8 = 23
                                                    · have hs := sp_t c_9_23 hs
                                                      refine lv_tableIn (off := 465) (tgt := 639) hx hb dL_act_174 (by rw [c_9_23]; decide) (by rw [c_9_23]; decide) (by rw [c_9_23]; decide) (by decide) ?_
                                                      refine lv_aload_n hx hb dL_act_639 rfl (lv_at hl 7 rfl) ?_
                                                      refine lv_iload hx hb dL_act_640 (lv_at hl 4 rfl) ?_
                                                      refine wr_l (vx_runSW (As := [.ref (g 0), .int (v_4)]) (rest := []) ⟨hx, hb, hml, hown, hts⟩ (c_L_light l hl9 D ca g x v_4 hs H.size) (vx_cwSW 2 hts gL_act_L_light rfl rfl rfl (by decide +kernel) ⟨Nat.le_of_ble_eq_true rfl, Nat.le_of_ble_eq_true rfl⟩) (tP_S hP hC hD hz hS hA) rfl rfl hl.1 rfl (lv_room (Nat.le_of_ble_eq_true rfl)) dL_act_642 ⟨Nat.le_of_ble_eq_true rfl, Nat.le_of_ble_eq_true rfl⟩) hD hS hA (fun H locs hP hD hS => ?_)
                                                      exact wl_p (g := g) (g' := g) rfl hx hb hr hAe rfl hP hD hS (Nat.le_of_ble_eq_true rfl) (Nat.le_of_ble_eq_true rfl) dL_act_645 hlocks
                                                    · have hs := sp_f c_9_23 hs
                                                      by_cases c_9_24 : v_8 = 24
                                                      · have hs := sp_t c_9_24 hs
                                                        refine lv_tableIn (off := 472) (tgt := 646) hx hb dL_act_174 (by rw [c_9_24]; decide) (by rw [c_9_24]; decide) (by rw [c_9_24]; decide) (by decide) ?_
                                                        refine lv_aload_n hx hb dL_act_646 rfl (lv_at hl 7 rfl) ?_
                                                        refine lv_iload_n hx hb dL_act_647 rfl (lv_at hl 5 rfl) ?_
                                                        refine lv_iload hx hb dL_act_648 (lv_at hl 4 rfl) ?_
                                                        refine wr_l (vx_runSW (As := [.ref (g 0), .int (v_3), .int (v_4)]) (rest := []) ⟨hx, hb, hml, hown, hts⟩ (c_L_blended l hl9 D ca g x v_3 v_4 hs H.size) (vx_cwSW 3 hts gL_act_L_blended rfl rfl rfl (by decide +kernel) ⟨Nat.le_of_ble_eq_true rfl, Nat.le_of_ble_eq_true rfl⟩) (tP_S hP hC hD hz hS hA) rfl rfl hl.1 rfl (lv_room (Nat.le_of_ble_eq_true rfl)) dL_act_650 ⟨Nat.le_of_ble_eq_true rfl, Nat.le_of_ble_eq_true rfl⟩) hD hS hA (fun H locs hP hD hS => ?_)
                                                        exact wl_p (g := g) (g' := g) rfl hx hb hr hAe rfl hP hD hS (Nat.le_of_ble_eq_true rfl) (Nat.le_of_ble_eq_true rfl) dL_act_653 hlocks
                                                      · have hs := sp_f c_9_24 hs
                                                        by_cases c_9_25 : v_8 = 25
                                                        · have hs := sp_t c_9_25 hs
                                                          refine lv_tableIn (off := 480) (tgt := 654) hx hb dL_act_174 (by rw [c_9_25]; decide) (by rw [c_9_25]; decide) (by rw [c_9_25]; decide) (by decide) ?_
                                                          refine lv_aload_n hx hb dL_act_654 rfl (lv_at hl 7 rfl) ?_
                                                          refine lv_iload_n hx hb dL_act_655 rfl (lv_at hl 6 rfl) ?_
                                                          refine lv_if_eq (tgt := 663) hx hb dL_act_656 (by decide) (fun _ => ?_) (fun c9 => absurd c9 (by decide))
                                                          refine lv_iload_n hx hb dL_act_663 rfl (lv_at hl 8 rfl) ?_
                                                          refine lv_iconst (v := 3) hx hb dL_act_664 (by decide) ?_
                                                          refine lv_ishr hx hb dL_act_665 ?_
                                                          refine lv_bipush (v := 8) hx hb dL_act_666 (by decide) ?_
                                                          obtain ⟨v_39, h_39, hs⟩ := sp_b hs
                                                          refine rd_i (va_runS (As := [.int (a1 >>> (3 &&& 31)), .int (8)]) (rest := [.ref (g 0)]) ⟨hx, hb, hml, hown, hts⟩ (c_L_low l D ca (a1 >>> (3 &&& 31)) 8 h_39) (va_cwS 2 hts gL_act_L_low rfl rfl rfl (by decide +kernel) ⟨Nat.le_of_ble_eq_true rfl, Nat.le_of_ble_eq_true rfl⟩) (rP_S va_P_nil hC) rfl rfl hl.1 rfl (lv_room (Nat.le_of_ble_eq_true rfl)) dL_act_668 ⟨Nat.zero_le _, Nat.zero_le _⟩) ?_
                                                          refine wr_l (vx_runSW (As := [.ref (g 0), .int (v_39)]) (rest := []) ⟨hx, hb, hml, hown, hts⟩ (c_L_covered l hl9 D ca g x v_39 hs H.size) (vx_cwSW 2 hts gL_act_L_covered rfl rfl rfl (by decide +kernel) ⟨Nat.le_of_ble_eq_true rfl, Nat.le_of_ble_eq_true rfl⟩) (tP_S hP hC hD hz hS hA) rfl rfl hl.1 rfl (lv_room (Nat.le_of_ble_eq_true rfl)) dL_act_671 ⟨Nat.le_of_ble_eq_true rfl, Nat.le_of_ble_eq_true rfl⟩) hD hS hA (fun H locs hP hD hS => ?_)
                                                          exact wl_p (g := g) (g' := g) rfl hx hb hr hAe rfl hP hD hS (Nat.le_of_ble_eq_true rfl) (Nat.le_of_ble_eq_true rfl) dL_act_674 hlocks
                                                        · have hs := sp_f c_9_25 hs
                                                          by_cases c_9_26 : v_8 = 26
                                                          · have hs := sp_t c_9_26 hs
                                                            refine lv_tableIn (off := 501) (tgt := 675) hx hb dL_act_174 (by rw [c_9_26]; decide) (by rw [c_9_26]; decide) (by rw [c_9_26]; decide) (by decide) ?_
                                                            refine lv_iload_n hx hb dL_act_675 rfl (lv_at hl 8 rfl) ?_
                                                            refine lv_bipush (v := 12) hx hb dL_act_676 (by decide) ?_
                                                            refine lv_ishr hx hb dL_act_678 ?_
                                                            refine lv_iconst (v := 3) hx hb dL_act_679 (by decide) ?_
                                                            obtain ⟨v_40, h_40, hs⟩ := sp_b hs
                                                            refine rd_i (va_runS (As := [.int (a1 >>> (12 &&& 31)), .int (3)]) (rest := []) ⟨hx, hb, hml, hown, hts⟩ (c_L_low l D ca (a1 >>> (12 &&& 31)) 3 h_40) (va_cwS 2 hts gL_act_L_low rfl rfl rfl (by decide +kernel) ⟨Nat.le_of_ble_eq_true rfl, Nat.le_of_ble_eq_true rfl⟩) (rP_S va_P_nil hC) rfl rfl hl.1 rfl (lv_room (Nat.le_of_ble_eq_true rfl)) dL_act_680 ⟨Nat.zero_le _, Nat.zero_le _⟩) ?_
                                                            refine lv_if_ne (tgt := 694) hx hb dL_act_683 (by decide) (fun c_41 => ?_) (fun c_41 => ?_)
                                                            · have hs := sp_f c_41 hs
                                                              refine lv_aload_n hx hb dL_act_694 rfl (lv_at hl 7 rfl) ?_
                                                              refine lv_iload_n hx hb dL_act_695 rfl (lv_at hl 6 rfl) ?_
                                                              refine lv_if_eq (tgt := 703) hx hb dL_act_696 (by decide) (fun _ => ?_) (fun c9 => absurd c9 (by decide))
                                                              refine lv_iload_n hx hb dL_act_703 rfl (lv_at hl 8 rfl) ?_
                                                              refine lv_iconst (v := 3) hx hb dL_act_704 (by decide) ?_
                                                              refine lv_ishr hx hb dL_act_705 ?_
                                                              refine lv_bipush (v := 8) hx hb dL_act_706 (by decide) ?_
                                                              obtain ⟨v_42, h_42, hs⟩ := sp_b hs
                                                              refine rd_i (va_runS (As := [.int (a1 >>> (3 &&& 31)), .int (8)]) (rest := [.ref (g 0)]) ⟨hx, hb, hml, hown, hts⟩ (c_L_low l D ca (a1 >>> (3 &&& 31)) 8 h_42) (va_cwS 2 hts gL_act_L_low rfl rfl rfl (by decide +kernel) ⟨Nat.le_of_ble_eq_true rfl, Nat.le_of_ble_eq_true rfl⟩) (rP_S va_P_nil hC) rfl rfl hl.1 rfl (lv_room (Nat.le_of_ble_eq_true rfl)) dL_act_708 ⟨Nat.zero_le _, Nat.zero_le _⟩) ?_
                                                              refine wr_l (vx_runSW (As := [.ref (g 0), .int (v_42)]) (rest := []) ⟨hx, hb, hml, hown, hts⟩ (c_L_bears l hl9 D ca g x v_42 hs H.size) (vx_cwSW 2 hts gL_act_L_bears rfl rfl rfl (by decide +kernel) ⟨Nat.le_of_ble_eq_true rfl, Nat.le_of_ble_eq_true rfl⟩) (tP_S hP hC hD hz hS hA) rfl rfl hl.1 rfl (lv_room (Nat.le_of_ble_eq_true rfl)) dL_act_711 ⟨Nat.le_of_ble_eq_true rfl, Nat.le_of_ble_eq_true rfl⟩) hD hS hA (fun H locs hP hD hS => ?_)
                                                              exact wl_p (g := g) (g' := g) rfl hx hb hr hAe rfl hP hD hS (Nat.le_of_ble_eq_true rfl) (Nat.le_of_ble_eq_true rfl) dL_act_714 hlocks
                                                            · have hs := sp_t c_41 hs
                                                              refine lv_aload_n hx hb dL_act_686 rfl (lv_at hl 7 rfl) ?_
                                                              obtain ⟨v_43, h_43, hs⟩ := sp_b hs
                                                              refine wr_i (va_runV (As := []) (rest := []) ⟨hx, hb, hml, hown, hts⟩ (c_X4_least l D ca g x h_43 H.size) (cwV 0 hts gL_act_X4_least rfl rfl rfl (by decide +kernel) ⟨Nat.le_of_ble_eq_true rfl, Nat.le_of_ble_eq_true rfl⟩) (wP_V (q := (RX4, TX4, 16)) hP hC hD 0 rfl rfl) rfl rfl hl.1 rfl (lv_room (Nat.le_of_ble_eq_true rfl)) dL_act_687 ⟨Nat.zero_le _, Nat.zero_le _⟩) hD hS hA (fun H locs hP hD hS => ?_)
                                                              refine lv_i2l hx hb dL_act_690 rfl ?_
                                                              refine lv_goto (tgt := 714) hx hb dL_act_691 (by decide) ?_
                                                              cases hs
                                                              exact wl_p (g := g) (g' := g) rfl hx hb hr hAe rfl hP hD hS (Nat.le_of_ble_eq_true rfl) (Nat.le_of_ble_eq_true rfl) dL_act_714 hlocks
                                                          · have hs := sp_f c_9_26 hs
                                                            by_cases c_9_27 : v_8 = 27
                                                            · have hs := sp_t c_9_27 hs
                                                              refine lv_tableIn (off := 541) (tgt := 715) hx hb dL_act_174 (by rw [c_9_27]; decide) (by rw [c_9_27]; decide) (by rw [c_9_27]; decide) (by decide) ?_
                                                              refine lv_aload_n hx hb dL_act_715 rfl (lv_at hl 7 rfl) ?_
                                                              obtain ⟨v_44, h_44, hs⟩ := sp_b hs
                                                              refine rd_i (va_runV (As := []) (rest := []) ⟨hx, hb, hml, hown, hts⟩ (c_X4_breaches l D ca g x h_44) (cwV 0 hts gL_act_X4_breaches rfl rfl rfl (by decide +kernel) ⟨Nat.le_of_ble_eq_true rfl, Nat.le_of_ble_eq_true rfl⟩) (rP_V (q := (RX4, TX4, 16)) hP hC 0 rfl rfl) rfl rfl hl.1 rfl (lv_room (Nat.le_of_ble_eq_true rfl)) dL_act_716 ⟨Nat.zero_le _, Nat.zero_le _⟩) ?_
                                                              refine lv_i2l hx hb dL_act_719 rfl ?_
                                                              cases hs
                                                              exact wl_p (g := g) (g' := g) rfl hx hb hr hAe rfl hP hD hS (Nat.le_of_ble_eq_true rfl) (Nat.le_of_ble_eq_true rfl) dL_act_720 hlocks
                                                            · have hs := sp_f c_9_27 hs
                                                              by_cases c_9_28 : v_8 = 28
                                                              · have hs := sp_t c_9_28 hs
                                                                refine lv_tableIn (off := 547) (tgt := 721) hx hb dL_act_174 (by rw [c_9_28]; decide) (by rw [c_9_28]; decide) (by rw [c_9_28]; decide) (by decide) ?_
                                                                refine lv_aload_n hx hb dL_act_721 rfl (lv_at hl 7 rfl) ?_
                                                                refine lv_iload_n hx hb dL_act_722 rfl (lv_at hl 6 rfl) ?_
                                                                refine lv_if_eq (tgt := 730) hx hb dL_act_723 (by decide) (fun _ => ?_) (fun c9 => absurd c9 (by decide))
                                                                refine lv_bipush (v := 10) hx hb dL_act_730 (by decide) ?_
                                                                refine lv_iload hx hb dL_act_732 (lv_at hl 2 rfl) ?_
                                                                refine lv_imul hx hb dL_act_734 ?_
                                                                refine lv_iload_n hx hb dL_act_735 rfl (lv_at hl 6 rfl) ?_
                                                                refine lv_if_eq (tgt := 744) hx hb dL_act_736 (by decide) (fun _ => ?_) (fun c9 => absurd c9 (by decide))
                                                                refine lv_bipush (v := 10) hx hb dL_act_744 (by decide) ?_
                                                                refine lv_iload hx hb dL_act_746 (lv_at hl 2 rfl) ?_
                                                                refine lv_imul hx hb dL_act_748 ?_
                                                                refine lv_iload_n hx hb dL_act_749 rfl (lv_at hl 8 rfl) ?_
                                                                refine lv_iconst (v := 3) hx hb dL_act_750 (by decide) ?_
                                                                refine lv_ishr hx hb dL_act_751 ?_
                                                                refine lv_sipush (v := 300) hx hb dL_act_752 (by decide) ?_
                                                                obtain ⟨v_45, h_45, hs⟩ := sp_b hs
                                                                refine rd_i (va_runS (As := [.int (a1 >>> (3 &&& 31)), .int (300)]) (rest := [.int (10 * v_6), .int (10 * v_6), .ref (g 0)]) ⟨hx, hb, hml, hown, hts⟩ (c_L_low l D ca (a1 >>> (3 &&& 31)) 300 h_45) (va_cwS 2 hts gL_act_L_low rfl rfl rfl (by decide +kernel) ⟨Nat.le_of_ble_eq_true rfl, Nat.le_of_ble_eq_true rfl⟩) (rP_S va_P_nil hC) rfl rfl hl.1 rfl (lv_room (Nat.le_of_ble_eq_true rfl)) dL_act_755 ⟨Nat.zero_le _, Nat.zero_le _⟩) ?_
                                                                refine lv_iadd hx hb dL_act_758 ?_
                                                                refine wr_l (vx_runSW (As := [.ref (g 0), .int (10 * v_6), .int ((10 * v_6) + v_45)]) (rest := []) ⟨hx, hb, hml, hown, hts⟩ (c_L_curfew l hl9 D ca g x (10 * v_6) ((10 * v_6) + v_45) hs H.size) (vx_cwSW 3 hts gL_act_L_curfew rfl rfl rfl (by decide +kernel) ⟨Nat.le_of_ble_eq_true rfl, Nat.le_of_ble_eq_true rfl⟩) (tP_S hP hC hD hz hS hA) rfl rfl hl.1 rfl (lv_room (Nat.le_of_ble_eq_true rfl)) dL_act_759 ⟨Nat.le_of_ble_eq_true rfl, Nat.le_of_ble_eq_true rfl⟩) hD hS hA (fun H locs hP hD hS => ?_)
                                                                exact wl_p (g := g) (g' := g) rfl hx hb hr hAe rfl hP hD hS (Nat.le_of_ble_eq_true rfl) (Nat.le_of_ble_eq_true rfl) dL_act_762 hlocks
                                                              · have hs := sp_f c_9_28 hs
                                                                by_cases c_9_29 : v_8 = 29
                                                                · have hs := sp_t c_9_29 hs
                                                                  refine lv_tableIn (off := 589) (tgt := 763) hx hb dL_act_174 (by rw [c_9_29]; decide) (by rw [c_9_29]; decide) (by rw [c_9_29]; decide) (by decide) ?_
                                                                  refine lv_aload_n hx hb dL_act_763 rfl (lv_at hl 7 rfl) ?_
                                                                  refine lv_iload_n hx hb dL_act_764 rfl (lv_at hl 5 rfl) ?_
                                                                  refine lv_iload_n hx hb dL_act_765 rfl (lv_at hl 6 rfl) ?_
                                                                  refine lv_if_eq (tgt := 773) hx hb dL_act_766 (by decide) (fun _ => ?_) (fun c9 => absurd c9 (by decide))
                                                                  refine lv_iconst (v := 3) hx hb dL_act_773 (by decide) ?_
                                                                  refine lv_iload hx hb dL_act_774 (lv_at hl 2 rfl) ?_
                                                                  refine lv_imul hx hb dL_act_776 ?_
                                                                  refine wr_l (vx_runSW (As := [.ref (g 0), .int (v_3), .int (3 * v_6)]) (rest := []) ⟨hx, hb, hml, hown, hts⟩ (c_L_ready l hl9 D ca g x v_3 (3 * v_6) hs H.size) (vx_cwSW 3 hts gL_act_L_ready rfl rfl rfl (by decide +kernel) ⟨Nat.le_of_ble_eq_true rfl, Nat.le_of_ble_eq_true rfl⟩) (tP_S hP hC hD hz hS hA) rfl rfl hl.1 rfl (lv_room (Nat.le_of_ble_eq_true rfl)) dL_act_777 ⟨Nat.le_of_ble_eq_true rfl, Nat.le_of_ble_eq_true rfl⟩) hD hS hA (fun H locs hP hD hS => ?_)
                                                                  exact wl_p (g := g) (g' := g) rfl hx hb hr hAe rfl hP hD hS (Nat.le_of_ble_eq_true rfl) (Nat.le_of_ble_eq_true rfl) dL_act_780 hlocks
                                                                · have hs := sp_f c_9_29 hs
                                                                  by_cases c_9_30 : v_8 = 30
                                                                  · have hs := sp_t c_9_30 hs
                                                                    refine lv_tableIn (off := 589) (tgt := 763) hx hb dL_act_174 (by rw [c_9_30]; decide) (by rw [c_9_30]; decide) (by rw [c_9_30]; decide) (by decide) ?_
                                                                    refine lv_aload_n hx hb dL_act_763 rfl (lv_at hl 7 rfl) ?_
                                                                    refine lv_iload_n hx hb dL_act_764 rfl (lv_at hl 5 rfl) ?_
                                                                    refine lv_iload_n hx hb dL_act_765 rfl (lv_at hl 6 rfl) ?_
                                                                    refine lv_if_eq (tgt := 773) hx hb dL_act_766 (by decide) (fun _ => ?_) (fun c9 => absurd c9 (by decide))
                                                                    refine lv_iconst (v := 3) hx hb dL_act_773 (by decide) ?_
                                                                    refine lv_iload hx hb dL_act_774 (lv_at hl 2 rfl) ?_
                                                                    refine lv_imul hx hb dL_act_776 ?_
                                                                    refine wr_l (vx_runSW (As := [.ref (g 0), .int (v_3), .int (3 * v_6)]) (rest := []) ⟨hx, hb, hml, hown, hts⟩ (c_L_ready l hl9 D ca g x v_3 (3 * v_6) hs H.size) (vx_cwSW 3 hts gL_act_L_ready rfl rfl rfl (by decide +kernel) ⟨Nat.le_of_ble_eq_true rfl, Nat.le_of_ble_eq_true rfl⟩) (tP_S hP hC hD hz hS hA) rfl rfl hl.1 rfl (lv_room (Nat.le_of_ble_eq_true rfl)) dL_act_777 ⟨Nat.le_of_ble_eq_true rfl, Nat.le_of_ble_eq_true rfl⟩) hD hS hA (fun H locs hP hD hS => ?_)
                                                                    exact wl_p (g := g) (g' := g) rfl hx hb hr hAe rfl hP hD hS (Nat.le_of_ble_eq_true rfl) (Nat.le_of_ble_eq_true rfl) dL_act_780 hlocks
                                                                  · have hs := sp_f c_9_30 hs
                                                                    by_cases c_9_31 : v_8 = 31
                                                                    · have hs := sp_t c_9_31 hs
                                                                      refine lv_tableIn (off := 607) (tgt := 781) hx hb dL_act_174 (by rw [c_9_31]; decide) (by rw [c_9_31]; decide) (by rw [c_9_31]; decide) (by decide) ?_
                                                                      refine lv_aload_n hx hb dL_act_781 rfl (lv_at hl 7 rfl) ?_
                                                                      refine lv_iload hx hb dL_act_782 (lv_at hl 1 rfl) ?_
                                                                      refine lv_iload_n hx hb dL_act_784 rfl (lv_at hl 6 rfl) ?_
                                                                      refine lv_if_eq (tgt := 792) hx hb dL_act_785 (by decide) (fun _ => ?_) (fun c9 => absurd c9 (by decide))
                                                                      refine lv_iload hx hb dL_act_792 (lv_at hl 2 rfl) ?_
                                                                      refine wr_l (vx_runSW (As := [.ref (g 0), .int (v_7), .int (v_6)]) (rest := []) ⟨hx, hb, hml, hown, hts⟩ (c_L_propose l hl9 D ca g x v_7 v_6 hs H.size) (vx_cwSW 3 hts gL_act_L_propose rfl rfl rfl (by decide +kernel) ⟨Nat.le_of_ble_eq_true rfl, Nat.le_of_ble_eq_true rfl⟩) (tP_S hP hC hD hz hS hA) rfl rfl hl.1 rfl (lv_room (Nat.le_of_ble_eq_true rfl)) dL_act_794 ⟨Nat.le_of_ble_eq_true rfl, Nat.le_of_ble_eq_true rfl⟩) hD hS hA (fun H locs hP hD hS => ?_)
                                                                      exact wl_p (g := g) (g' := g) rfl hx hb hr hAe rfl hP hD hS (Nat.le_of_ble_eq_true rfl) (Nat.le_of_ble_eq_true rfl) dL_act_797 hlocks
                                                                    · have hs := sp_f c_9_31 hs
                                                                      by_cases c_9_32 : v_8 = 32
                                                                      · have hs := sp_t c_9_32 hs
                                                                        refine lv_tableIn (off := 624) (tgt := 798) hx hb dL_act_174 (by rw [c_9_32]; decide) (by rw [c_9_32]; decide) (by rw [c_9_32]; decide) (by decide) ?_
                                                                        refine lv_aload_n hx hb dL_act_798 rfl (lv_at hl 7 rfl) ?_
                                                                        refine lv_iload hx hb dL_act_799 (lv_at hl 1 rfl) ?_
                                                                        refine lv_iload hx hb dL_act_801 (lv_at hl 0 rfl) ?_
                                                                        refine wr_l (vx_runSW (As := [.ref (g 0), .int (v_7), .int (b2i (decide (((a1 >>> (15 &&& 31)) &&& 1) = 1)))]) (rest := []) ⟨hx, hb, hml, hown, hts⟩ (c_L_answer l hl9 D ca g x v_7 (b2i (decide (((a1 >>> (15 &&& 31)) &&& 1) = 1))) hs H.size) (vx_cwSW 3 hts gL_act_L_answer rfl rfl rfl (by decide +kernel) ⟨Nat.le_of_ble_eq_true rfl, Nat.le_of_ble_eq_true rfl⟩) (tP_S hP hC hD hz hS hA) rfl rfl hl.1 rfl (lv_room (Nat.le_of_ble_eq_true rfl)) dL_act_803 ⟨Nat.le_of_ble_eq_true rfl, Nat.le_of_ble_eq_true rfl⟩) hD hS hA (fun H locs hP hD hS => ?_)
                                                                        exact wl_p (g := g) (g' := g) rfl hx hb hr hAe rfl hP hD hS (Nat.le_of_ble_eq_true rfl) (Nat.le_of_ble_eq_true rfl) dL_act_806 hlocks
                                                                      · have hs := sp_f c_9_32 hs
                                                                        by_cases c_9_33 : v_8 = 33
                                                                        · have hs := sp_t c_9_33 hs
                                                                          refine lv_tableIn (off := 633) (tgt := 807) hx hb dL_act_174 (by rw [c_9_33]; decide) (by rw [c_9_33]; decide) (by rw [c_9_33]; decide) (by decide) ?_
                                                                          refine lv_aload_n hx hb dL_act_807 rfl (lv_at hl 7 rfl) ?_
                                                                          refine lv_iload hx hb dL_act_808 (lv_at hl 1 rfl) ?_
                                                                          refine lv_iload hx hb dL_act_810 (lv_at hl 0 rfl) ?_
                                                                          refine wr_l (vx_runSW (As := [.ref (g 0), .int (v_7), .int (b2i (decide (((a1 >>> (15 &&& 31)) &&& 1) = 1)))]) (rest := []) ⟨hx, hb, hml, hown, hts⟩ (c_L_scene l hl9 D ca g x v_7 (b2i (decide (((a1 >>> (15 &&& 31)) &&& 1) = 1))) hs H.size) (vx_cwSW 3 hts gL_act_L_scene rfl rfl rfl (by decide +kernel) ⟨Nat.le_of_ble_eq_true rfl, Nat.le_of_ble_eq_true rfl⟩) (tP_S hP hC hD hz hS hA) rfl rfl hl.1 rfl (lv_room (Nat.le_of_ble_eq_true rfl)) dL_act_812 ⟨Nat.le_of_ble_eq_true rfl, Nat.le_of_ble_eq_true rfl⟩) hD hS hA (fun H locs hP hD hS => ?_)
                                                                          exact wl_p (g := g) (g' := g) rfl hx hb hr hAe rfl hP hD hS (Nat.le_of_ble_eq_true rfl) (Nat.le_of_ble_eq_true rfl) dL_act_815 hlocks
                                                                        · have hs := sp_f c_9_33 hs
                                                                          by_cases c_9_34 : v_8 = 34
                                                                          · have hs := sp_t c_9_34 hs
                                                                            refine lv_tableIn (off := 642) (tgt := 816) hx hb dL_act_174 (by rw [c_9_34]; decide) (by rw [c_9_34]; decide) (by rw [c_9_34]; decide) (by decide) ?_
                                                                            refine lv_aload_n hx hb dL_act_816 rfl (lv_at hl 7 rfl) ?_
                                                                            refine lv_iload_n hx hb dL_act_817 rfl (lv_at hl 6 rfl) ?_
                                                                            refine lv_if_eq (tgt := 826) hx hb dL_act_818 (by decide) (fun _ => ?_) (fun c9 => absurd c9 (by decide))
                                                                            refine lv_iload_n hx hb dL_act_826 rfl (lv_at hl 8 rfl) ?_
                                                                            refine lv_bipush (v := 9) hx hb dL_act_827 (by decide) ?_
                                                                            refine lv_ishr hx hb dL_act_829 ?_
                                                                            refine lv_bipush (v := 6) hx hb dL_act_830 (by decide) ?_
                                                                            obtain ⟨v_46, h_46, hs⟩ := sp_b hs
                                                                            refine rd_i (va_runS (As := [.int (a1 >>> (9 &&& 31)), .int (6)]) (rest := [.ref (g 0)]) ⟨hx, hb, hml, hown, hts⟩ (c_L_low l D ca (a1 >>> (9 &&& 31)) 6 h_46) (va_cwS 2 hts gL_act_L_low rfl rfl rfl (by decide +kernel) ⟨Nat.le_of_ble_eq_true rfl, Nat.le_of_ble_eq_true rfl⟩) (rP_S va_P_nil hC) rfl rfl hl.1 rfl (lv_room (Nat.le_of_ble_eq_true rfl)) dL_act_832 ⟨Nat.zero_le _, Nat.zero_le _⟩) ?_
                                                                            refine wr_l (vx_runSW (As := [.ref (g 0), .int (v_46)]) (rest := []) ⟨hx, hb, hml, hown, hts⟩ (c_L_show l hl9 D ca g x v_46 hs H.size) (vx_cwSW 2 hts gL_act_L_show rfl rfl rfl (by decide +kernel) ⟨Nat.le_of_ble_eq_true rfl, Nat.le_of_ble_eq_true rfl⟩) (tP_S hP hC hD hz hS hA) rfl rfl hl.1 rfl (lv_room (Nat.le_of_ble_eq_true rfl)) dL_act_835 ⟨Nat.le_of_ble_eq_true rfl, Nat.le_of_ble_eq_true rfl⟩) hD hS hA (fun H locs hP hD hS => ?_)
                                                                            exact wl_p (g := g) (g' := g) rfl hx hb hr hAe rfl hP hD hS (Nat.le_of_ble_eq_true rfl) (Nat.le_of_ble_eq_true rfl) dL_act_838 hlocks
                                                                          · have hs := sp_f c_9_34 hs
                                                                            have hne : (v_8).toInt < 0 ∨ 34 < (v_8).toInt := by
                                                                              have n_0 := lv_neT (a := 0) c_9_0 rfl
                                                                              have n_1 := lv_neT (a := 1) c_9_1 rfl
                                                                              have n_2 := lv_neT (a := 2) c_9_2 rfl
                                                                              have n_3 := lv_neT (a := 3) c_9_3 rfl
                                                                              have n_4 := lv_neT (a := 4) c_9_4 rfl
                                                                              have n_5 := lv_neT (a := 5) c_9_5 rfl
                                                                              have n_6 := lv_neT (a := 6) c_9_6 rfl
                                                                              have n_7 := lv_neT (a := 7) c_9_7 rfl
                                                                              have n_8 := lv_neT (a := 8) c_9_8 rfl
                                                                              have n_9 := lv_neT (a := 9) c_9_9 rfl
                                                                              have n_10 := lv_neT (a := 10) c_9_10 rfl
                                                                              have n_11 := lv_neT (a := 11) c_9_11 rfl
                                                                              have n_12 := lv_neT (a := 12) c_9_12 rfl
                                                                              have n_13 := lv_neT (a := 13) c_9_13 rfl
                                                                              have n_14 := lv_neT (a := 14) c_9_14 rfl
                                                                              have n_15 := lv_neT (a := 15) c_9_15 rfl
                                                                              have n_16 := lv_neT (a := 16) c_9_16 rfl
                                                                              have n_17 := lv_neT (a := 17) c_9_17 rfl
                                                                              have n_18 := lv_neT (a := 18) c_9_18 rfl
                                                                              have n_19 := lv_neT (a := 19) c_9_19 rfl
                                                                              have n_20 := lv_neT (a := 20) c_9_20 rfl
                                                                              have n_21 := lv_neT (a := 21) c_9_21 rfl
                                                                              have n_22 := lv_neT (a := 22) c_9_22 rfl
                                                                              have n_23 := lv_neT (a := 23) c_9_23 rfl
                                                                              have n_24 := lv_neT (a := 24) c_9_24 rfl
                                                                              have n_25 := lv_neT (a := 25) c_9_25 rfl
                                                                              have n_26 := lv_neT (a := 26) c_9_26 rfl
                                                                              have n_27 := lv_neT (a := 27) c_9_27 rfl
                                                                              have n_28 := lv_neT (a := 28) c_9_28 rfl
                                                                              have n_29 := lv_neT (a := 29) c_9_29 rfl
                                                                              have n_30 := lv_neT (a := 30) c_9_30 rfl
                                                                              have n_31 := lv_neT (a := 31) c_9_31 rfl
                                                                              have n_32 := lv_neT (a := 32) c_9_32 rfl
                                                                              have n_33 := lv_neT (a := 33) c_9_33 rfl
                                                                              have n_34 := lv_neT (a := 34) c_9_34 rfl
                                                                              omega
                                                                            refine lv_tableOut (tgt := 839) hx hb dL_act_174 hne (by decide) ?_
                                                                            refine lv_aload_n hx hb dL_act_839 rfl (lv_at hl 7 rfl) ?_
                                                                            refine lv_iload_n hx hb dL_act_840 rfl (lv_at hl 6 rfl) ?_
                                                                            refine lv_if_eq (tgt := 849) hx hb dL_act_841 (by decide) (fun _ => ?_) (fun c9 => absurd c9 (by decide))
                                                                            refine lv_iconst (v := 1) hx hb dL_act_849 (by decide) ?_
                                                                            refine lv_iload_n hx hb dL_act_850 rfl (lv_at hl 8 rfl) ?_
                                                                            refine lv_bipush (v := 9) hx hb dL_act_851 (by decide) ?_
                                                                            refine lv_ishr hx hb dL_act_853 ?_
                                                                            refine lv_bipush (v := 40) hx hb dL_act_854 (by decide) ?_
                                                                            obtain ⟨v_47, h_47, hs⟩ := sp_b hs
                                                                            refine rd_i (va_runS (As := [.int (a1 >>> (9 &&& 31)), .int (40)]) (rest := [.int (1), .ref (g 0)]) ⟨hx, hb, hml, hown, hts⟩ (c_L_low l D ca (a1 >>> (9 &&& 31)) 40 h_47) (va_cwS 2 hts gL_act_L_low rfl rfl rfl (by decide +kernel) ⟨Nat.le_of_ble_eq_true rfl, Nat.le_of_ble_eq_true rfl⟩) (rP_S va_P_nil hC) rfl rfl hl.1 rfl (lv_room (Nat.le_of_ble_eq_true rfl)) dL_act_856 ⟨Nat.zero_le _, Nat.zero_le _⟩) ?_
                                                                            refine lv_iadd hx hb dL_act_859 ?_
                                                                            refine wr_l (vx_runSW (As := [.ref (g 0), .int (1 + v_47)]) (rest := []) ⟨hx, hb, hml, hown, hts⟩ (c_L_pass l hl9 D ca g x (1 + v_47) hs H.size) (vx_cwSW 2 hts gL_act_L_pass rfl rfl rfl (by decide +kernel) ⟨Nat.le_of_ble_eq_true rfl, Nat.le_of_ble_eq_true rfl⟩) (tP_S hP hC hD hz hS hA) rfl rfl hl.1 rfl (lv_room (Nat.le_of_ble_eq_true rfl)) dL_act_860 ⟨Nat.le_of_ble_eq_true rfl, Nat.le_of_ble_eq_true rfl⟩) hD hS hA (fun H locs hP hD hS => ?_)
                                                                            exact wl_p (g := g) (g' := g) rfl hx hb hr hAe rfl hP hD hS (Nat.le_of_ble_eq_true rfl) (Nat.le_of_ble_eq_true rfl) dL_act_863 hlocks
    · have hs := sp_t c_2 hs
      refine lv_iconst (v := 1) hx hb dL_act_12 (by decide) ?_
      refine lv_goto (tgt := 17) hx hb dL_act_13 (by decide) ?_
      refine lv_istore_n (lv' := [(2, .int (1)), (0, .ref (g 0)), (1, .int (a1))]) hx hb dL_act_17 rfl hl (by decide) rfl (fun ls hl => ?_)
      refine lv_iload_n hx hb dL_act_18 rfl (lv_at hl 0 rfl) ?_
      refine lv_if_eq (tgt := 35) hx hb dL_act_19 (by decide) (fun c9 => absurd c9 (by decide)) (fun _ => ?_)
      refine lv_iload_n hx hb dL_act_22 rfl (lv_at hl 2 rfl) ?_
      refine lv_iconst (v := 4) hx hb dL_act_23 (by decide) ?_
      refine lv_ishr hx hb dL_act_24 ?_
      refine lv_bipush (v := 14) hx hb dL_act_25 (by decide) ?_
      obtain ⟨v_48, h_48, hs⟩ := sp_b hs
      refine rd_i (va_runS (As := [.int (a1 >>> (4 &&& 31)), .int (14)]) (rest := []) ⟨hx, hb, hml, hown, hts⟩ (c_L_low l D ca (a1 >>> (4 &&& 31)) 14 h_48) (va_cwS 2 hts gL_act_L_low rfl rfl rfl (by decide +kernel) ⟨Nat.le_of_ble_eq_true rfl, Nat.le_of_ble_eq_true rfl⟩) (rP_S va_P_nil hC) rfl rfl hl.1 rfl (lv_room (Nat.le_of_ble_eq_true rfl)) dL_act_27 ⟨Nat.zero_le _, Nat.zero_le _⟩) ?_
      refine lv_iconst (v := 2) hx hb dL_act_30 (by decide) ?_
      refine lv_isub hx hb dL_act_31 ?_
      refine lv_goto (tgt := 42) hx hb dL_act_32 (by decide) ?_
      refine lv_istore_n (lv' := [(3, .int (v_48 - 2)), (2, .int (1)), (0, .ref (g 0)), (1, .int (a1))]) hx hb dL_act_42 rfl hl (by decide) rfl (fun ls hl => ?_)
      refine lv_iload_n hx hb dL_act_43 rfl (lv_at hl 1 rfl) ?_
      refine lv_if_eq (tgt := 61) hx hb dL_act_44 (by decide) (fun c9 => absurd c9 (by decide)) (fun _ => ?_)
      refine lv_iload_n hx hb dL_act_47 rfl (lv_at hl 3 rfl) ?_
      refine lv_bipush (v := 7) hx hb dL_act_48 (by decide) ?_
      refine lv_ishr hx hb dL_act_50 ?_
      refine lv_bipush (v := 20) hx hb dL_act_51 (by decide) ?_
      obtain ⟨v_49, h_49, hs⟩ := sp_b hs
      refine rd_i (va_runS (As := [.int (a1 >>> (7 &&& 31)), .int (20)]) (rest := []) ⟨hx, hb, hml, hown, hts⟩ (c_L_low l D ca (a1 >>> (7 &&& 31)) 20 h_49) (va_cwS 2 hts gL_act_L_low rfl rfl rfl (by decide +kernel) ⟨Nat.le_of_ble_eq_true rfl, Nat.le_of_ble_eq_true rfl⟩) (rP_S va_P_nil hC) rfl rfl hl.1 rfl (lv_room (Nat.le_of_ble_eq_true rfl)) dL_act_53 ⟨Nat.zero_le _, Nat.zero_le _⟩) ?_
      refine lv_iconst (v := 2) hx hb dL_act_56 (by decide) ?_
      refine lv_isub hx hb dL_act_57 ?_
      refine lv_goto (tgt := 70) hx hb dL_act_58 (by decide) ?_
      refine lv_istore (lv' := [(4, .int (v_49 - 2)), (3, .int (v_48 - 2)), (2, .int (1)), (0, .ref (g 0)), (1, .int (a1))]) hx hb dL_act_70 hl (by decide) rfl (fun ls hl => ?_)
      refine lv_iload_n hx hb dL_act_72 rfl (lv_at hl 2 rfl) ?_
      refine lv_if_eq (tgt := 89) hx hb dL_act_73 (by decide) (fun c9 => absurd c9 (by decide)) (fun _ => ?_)
      refine lv_iload_n hx hb dL_act_76 rfl (lv_at hl 4 rfl) ?_
      refine lv_iconst (v := 5) hx hb dL_act_77 (by decide) ?_
      refine lv_ishr hx hb dL_act_78 ?_
      refine lv_bipush (v := 15) hx hb dL_act_79 (by decide) ?_
      obtain ⟨v_50, h_50, hs⟩ := sp_b hs
      refine rd_i (va_runS (As := [.int (a1 >>> (5 &&& 31)), .int (15)]) (rest := []) ⟨hx, hb, hml, hown, hts⟩ (c_L_low l D ca (a1 >>> (5 &&& 31)) 15 h_50) (va_cwS 2 hts gL_act_L_low rfl rfl rfl (by decide +kernel) ⟨Nat.le_of_ble_eq_true rfl, Nat.le_of_ble_eq_true rfl⟩) (rP_S va_P_nil hC) rfl rfl hl.1 rfl (lv_room (Nat.le_of_ble_eq_true rfl)) dL_act_81 ⟨Nat.zero_le _, Nat.zero_le _⟩) ?_
      refine lv_iconst (v := 1) hx hb dL_act_84 (by decide) ?_
      refine lv_isub hx hb dL_act_85 ?_
      refine lv_goto (tgt := 99) hx hb dL_act_86 (by decide) ?_
      refine lv_istore (lv' := [(5, .int (v_50 - 1)), (4, .int (v_49 - 2)), (3, .int (v_48 - 2)), (2, .int (1)), (0, .ref (g 0)), (1, .int (a1))]) hx hb dL_act_99 hl (by decide) rfl (fun ls hl => ?_)
      refine lv_iload_n hx hb dL_act_101 rfl (lv_at hl 3 rfl) ?_
      refine lv_if_eq (tgt := 112) hx hb dL_act_102 (by decide) (fun c9 => absurd c9 (by decide)) (fun _ => ?_)
      refine lv_iload_n hx hb dL_act_105 rfl (lv_at hl 5 rfl) ?_
      refine lv_bipush (v := 9) hx hb dL_act_106 (by decide) ?_
      refine lv_ishr hx hb dL_act_108 ?_
      refine lv_goto (tgt := 121) hx hb dL_act_109 (by decide) ?_
      refine lv_istore (lv' := [(6, .int (a1 >>> (9 &&& 31))), (5, .int (v_50 - 1)), (4, .int (v_49 - 2)), (3, .int (v_48 - 2)), (2, .int (1)), (0, .ref (g 0)), (1, .int (a1))]) hx hb dL_act_121 hl (by decide) rfl (fun ls hl => ?_)
      refine lv_iload_n hx hb dL_act_123 rfl (lv_at hl 4 rfl) ?_
      refine lv_if_eq (tgt := 141) hx hb dL_act_124 (by decide) (fun c9 => absurd c9 (by decide)) (fun _ => ?_)
      refine lv_iload_n hx hb dL_act_127 rfl (lv_at hl 6 rfl) ?_
      refine lv_bipush (v := 11) hx hb dL_act_128 (by decide) ?_
      refine lv_ishr hx hb dL_act_130 ?_
      refine lv_bipush (v := 12) hx hb dL_act_131 (by decide) ?_
      obtain ⟨v_51, h_51, hs⟩ := sp_b hs
      refine rd_i (va_runS (As := [.int (a1 >>> (11 &&& 31)), .int (12)]) (rest := []) ⟨hx, hb, hml, hown, hts⟩ (c_L_low l D ca (a1 >>> (11 &&& 31)) 12 h_51) (va_cwS 2 hts gL_act_L_low rfl rfl rfl (by decide +kernel) ⟨Nat.le_of_ble_eq_true rfl, Nat.le_of_ble_eq_true rfl⟩) (rP_S va_P_nil hC) rfl rfl hl.1 rfl (lv_room (Nat.le_of_ble_eq_true rfl)) dL_act_133 ⟨Nat.zero_le _, Nat.zero_le _⟩) ?_
      refine lv_iconst (v := 2) hx hb dL_act_136 (by decide) ?_
      refine lv_isub hx hb dL_act_137 ?_
      refine lv_goto (tgt := 149) hx hb dL_act_138 (by decide) ?_
      refine lv_istore (lv' := [(7, .int (v_51 - 2)), (6, .int (a1 >>> (9 &&& 31))), (5, .int (v_50 - 1)), (4, .int (v_49 - 2)), (3, .int (v_48 - 2)), (2, .int (1)), (0, .ref (g 0)), (1, .int (a1))]) hx hb dL_act_149 hl (by decide) rfl (fun ls hl => ?_)
      refine lv_iload_n hx hb dL_act_151 rfl (lv_at hl 7 rfl) ?_
      refine lv_bipush (v := 15) hx hb dL_act_152 (by decide) ?_
      refine lv_ishr hx hb dL_act_154 ?_
      refine lv_iconst (v := 1) hx hb dL_act_155 (by decide) ?_
      refine lv_iand hx hb dL_act_156 ?_
      refine lv_iconst (v := 1) hx hb dL_act_157 (by decide) ?_
      refine lv_boolI hx hb dL_act_158 dL_act_161 dL_act_162 dL_act_165 ?_
      refine lv_istore (lv' := [(8, .int (b2i (decide (((a1 >>> (15 &&& 31)) &&& 1) = 1)))), (7, .int (v_51 - 2)), (6, .int (a1 >>> (9 &&& 31))), (5, .int (v_50 - 1)), (4, .int (v_49 - 2)), (3, .int (v_48 - 2)), (2, .int (1)), (0, .ref (g 0)), (1, .int (a1))]) hx hb dL_act_166 hl (by decide) rfl (fun ls hl => ?_)
      refine lv_iload_n hx hb dL_act_168 rfl (lv_at hl 8 rfl) ?_
      refine lv_bipush (v := 38) hx hb dL_act_169 (by decide) ?_
      obtain ⟨v_52, h_52, hs⟩ := sp_b hs
      refine rd_i (va_runS (As := [.int (a1), .int (38)]) (rest := []) ⟨hx, hb, hml, hown, hts⟩ (c_L_low l D ca a1 38 h_52) (va_cwS 2 hts gL_act_L_low rfl rfl rfl (by decide +kernel) ⟨Nat.le_of_ble_eq_true rfl, Nat.le_of_ble_eq_true rfl⟩) (rP_S va_P_nil hC) rfl rfl hl.1 rfl (lv_room (Nat.le_of_ble_eq_true rfl)) dL_act_171 ⟨Nat.zero_le _, Nat.zero_le _⟩) ?_
      by_cases c_53_0 : v_52 = 0
      · have hs := sp_t c_53_0 hs
        refine lv_tableIn (off := 154) (tgt := 328) hx hb dL_act_174 (by rw [c_53_0]; decide) (by rw [c_53_0]; decide) (by rw [c_53_0]; decide) (by decide) ?_
        refine lv_aload_n hx hb dL_act_328 rfl (lv_at hl 7 rfl) ?_
        refine lv_iload hx hb dL_act_329 (lv_at hl 4 rfl) ?_
        refine lv_iload hx hb dL_act_331 (lv_at hl 1 rfl) ?_
        refine lv_iload_n hx hb dL_act_333 rfl (lv_at hl 6 rfl) ?_
        refine lv_if_eq (tgt := 342) hx hb dL_act_334 (by decide) (fun c9 => absurd c9 (by decide)) (fun _ => ?_)
        refine lv_iload hx hb dL_act_337 (lv_at hl 2 rfl) ?_
        refine lv_goto (tgt := 350) hx hb dL_act_339 (by decide) ?_
        refine wr_l (vx_runSW (As := [.ref (g 0), .int (v_49 - 2), .int (v_51 - 2), .int (a1 >>> (9 &&& 31))]) (rest := []) ⟨hx, hb, hml, hown, hts⟩ (c_L_column l hl9 D ca g x (v_49 - 2) (v_51 - 2) (a1 >>> (9 &&& 31)) hs H.size) (vx_cwSW 4 hts gL_act_L_column rfl rfl rfl (by decide +kernel) ⟨Nat.le_of_ble_eq_true rfl, Nat.le_of_ble_eq_true rfl⟩) (tP_S hP hC hD hz hS hA) rfl rfl hl.1 rfl (lv_room (Nat.le_of_ble_eq_true rfl)) dL_act_350 ⟨Nat.le_of_ble_eq_true rfl, Nat.le_of_ble_eq_true rfl⟩) hD hS hA (fun H locs hP hD hS => ?_)
        exact wl_p (g := g) (g' := g) rfl hx hb hr hAe rfl hP hD hS (Nat.le_of_ble_eq_true rfl) (Nat.le_of_ble_eq_true rfl) dL_act_353 hlocks
      · have hs := sp_f c_53_0 hs
        by_cases c_53_1 : v_52 = 1
        · have hs := sp_t c_53_1 hs
          refine lv_tableIn (off := 154) (tgt := 328) hx hb dL_act_174 (by rw [c_53_1]; decide) (by rw [c_53_1]; decide) (by rw [c_53_1]; decide) (by decide) ?_
          refine lv_aload_n hx hb dL_act_328 rfl (lv_at hl 7 rfl) ?_
          refine lv_iload hx hb dL_act_329 (lv_at hl 4 rfl) ?_
          refine lv_iload hx hb dL_act_331 (lv_at hl 1 rfl) ?_
          refine lv_iload_n hx hb dL_act_333 rfl (lv_at hl 6 rfl) ?_
          refine lv_if_eq (tgt := 342) hx hb dL_act_334 (by decide) (fun c9 => absurd c9 (by decide)) (fun _ => ?_)
          refine lv_iload hx hb dL_act_337 (lv_at hl 2 rfl) ?_
          refine lv_goto (tgt := 350) hx hb dL_act_339 (by decide) ?_
          refine wr_l (vx_runSW (As := [.ref (g 0), .int (v_49 - 2), .int (v_51 - 2), .int (a1 >>> (9 &&& 31))]) (rest := []) ⟨hx, hb, hml, hown, hts⟩ (c_L_column l hl9 D ca g x (v_49 - 2) (v_51 - 2) (a1 >>> (9 &&& 31)) hs H.size) (vx_cwSW 4 hts gL_act_L_column rfl rfl rfl (by decide +kernel) ⟨Nat.le_of_ble_eq_true rfl, Nat.le_of_ble_eq_true rfl⟩) (tP_S hP hC hD hz hS hA) rfl rfl hl.1 rfl (lv_room (Nat.le_of_ble_eq_true rfl)) dL_act_350 ⟨Nat.le_of_ble_eq_true rfl, Nat.le_of_ble_eq_true rfl⟩) hD hS hA (fun H locs hP hD hS => ?_)
          exact wl_p (g := g) (g' := g) rfl hx hb hr hAe rfl hP hD hS (Nat.le_of_ble_eq_true rfl) (Nat.le_of_ble_eq_true rfl) dL_act_353 hlocks
        · have hs := sp_f c_53_1 hs
          by_cases c_53_2 : v_52 = 2
          · have hs := sp_t c_53_2 hs
            refine lv_tableIn (off := 180) (tgt := 354) hx hb dL_act_174 (by rw [c_53_2]; decide) (by rw [c_53_2]; decide) (by rw [c_53_2]; decide) (by decide) ?_
            refine lv_aload_n hx hb dL_act_354 rfl (lv_at hl 7 rfl) ?_
            refine lv_iload hx hb dL_act_355 (lv_at hl 4 rfl) ?_
            refine lv_iload hx hb dL_act_357 (lv_at hl 3 rfl) ?_
            refine lv_iload_n hx hb dL_act_359 rfl (lv_at hl 6 rfl) ?_
            refine lv_if_eq (tgt := 368) hx hb dL_act_360 (by decide) (fun c9 => absurd c9 (by decide)) (fun _ => ?_)
            refine lv_iload hx hb dL_act_363 (lv_at hl 2 rfl) ?_
            refine lv_goto (tgt := 376) hx hb dL_act_365 (by decide) ?_
            refine wr_l (vx_runSW (As := [.ref (g 0), .int (v_49 - 2), .int (v_50 - 1), .int (a1 >>> (9 &&& 31))]) (rest := []) ⟨hx, hb, hml, hown, hts⟩ (c_L_tells l hl9 D ca g x (v_49 - 2) (v_50 - 1) (a1 >>> (9 &&& 31)) hs H.size) (vx_cwSW 4 hts gL_act_L_tells rfl rfl rfl (by decide +kernel) ⟨Nat.le_of_ble_eq_true rfl, Nat.le_of_ble_eq_true rfl⟩) (tP_S hP hC hD hz hS hA) rfl rfl hl.1 rfl (lv_room (Nat.le_of_ble_eq_true rfl)) dL_act_376 ⟨Nat.le_of_ble_eq_true rfl, Nat.le_of_ble_eq_true rfl⟩) hD hS hA (fun H locs hP hD hS => ?_)
            exact wl_p (g := g) (g' := g) rfl hx hb hr hAe rfl hP hD hS (Nat.le_of_ble_eq_true rfl) (Nat.le_of_ble_eq_true rfl) dL_act_379 hlocks
          · have hs := sp_f c_53_2 hs
            by_cases c_53_3 : v_52 = 3
            · have hs := sp_t c_53_3 hs
              refine lv_tableIn (off := 180) (tgt := 354) hx hb dL_act_174 (by rw [c_53_3]; decide) (by rw [c_53_3]; decide) (by rw [c_53_3]; decide) (by decide) ?_
              refine lv_aload_n hx hb dL_act_354 rfl (lv_at hl 7 rfl) ?_
              refine lv_iload hx hb dL_act_355 (lv_at hl 4 rfl) ?_
              refine lv_iload hx hb dL_act_357 (lv_at hl 3 rfl) ?_
              refine lv_iload_n hx hb dL_act_359 rfl (lv_at hl 6 rfl) ?_
              refine lv_if_eq (tgt := 368) hx hb dL_act_360 (by decide) (fun c9 => absurd c9 (by decide)) (fun _ => ?_)
              refine lv_iload hx hb dL_act_363 (lv_at hl 2 rfl) ?_
              refine lv_goto (tgt := 376) hx hb dL_act_365 (by decide) ?_
              refine wr_l (vx_runSW (As := [.ref (g 0), .int (v_49 - 2), .int (v_50 - 1), .int (a1 >>> (9 &&& 31))]) (rest := []) ⟨hx, hb, hml, hown, hts⟩ (c_L_tells l hl9 D ca g x (v_49 - 2) (v_50 - 1) (a1 >>> (9 &&& 31)) hs H.size) (vx_cwSW 4 hts gL_act_L_tells rfl rfl rfl (by decide +kernel) ⟨Nat.le_of_ble_eq_true rfl, Nat.le_of_ble_eq_true rfl⟩) (tP_S hP hC hD hz hS hA) rfl rfl hl.1 rfl (lv_room (Nat.le_of_ble_eq_true rfl)) dL_act_376 ⟨Nat.le_of_ble_eq_true rfl, Nat.le_of_ble_eq_true rfl⟩) hD hS hA (fun H locs hP hD hS => ?_)
              exact wl_p (g := g) (g' := g) rfl hx hb hr hAe rfl hP hD hS (Nat.le_of_ble_eq_true rfl) (Nat.le_of_ble_eq_true rfl) dL_act_379 hlocks
            · have hs := sp_f c_53_3 hs
              by_cases c_53_4 : v_52 = 4
              · have hs := sp_t c_53_4 hs
                refine lv_tableIn (off := 206) (tgt := 380) hx hb dL_act_174 (by rw [c_53_4]; decide) (by rw [c_53_4]; decide) (by rw [c_53_4]; decide) (by decide) ?_
                refine lv_aload_n hx hb dL_act_380 rfl (lv_at hl 7 rfl) ?_
                refine lv_iload_n hx hb dL_act_381 rfl (lv_at hl 6 rfl) ?_
                refine lv_if_eq (tgt := 389) hx hb dL_act_382 (by decide) (fun c9 => absurd c9 (by decide)) (fun _ => ?_)
                refine lv_iload_n hx hb dL_act_385 rfl (lv_at hl 8 rfl) ?_
                refine lv_goto (tgt := 404) hx hb dL_act_386 (by decide) ?_
                refine lv_iload_n hx hb dL_act_404 rfl (lv_at hl 6 rfl) ?_
                refine lv_if_eq (tgt := 413) hx hb dL_act_405 (by decide) (fun c9 => absurd c9 (by decide)) (fun _ => ?_)
                refine lv_iload hx hb dL_act_408 (lv_at hl 2 rfl) ?_
                refine lv_goto (tgt := 419) hx hb dL_act_410 (by decide) ?_
                refine wr_l (vx_runSW (As := [.ref (g 0), .int (a1), .int (a1 >>> (9 &&& 31))]) (rest := []) ⟨hx, hb, hml, hown, hts⟩ (c_L_need l hl9 D ca g x a1 (a1 >>> (9 &&& 31)) hs H.size) (vx_cwSW 3 hts gL_act_L_need rfl rfl rfl (by decide +kernel) ⟨Nat.le_of_ble_eq_true rfl, Nat.le_of_ble_eq_true rfl⟩) (tP_S hP hC hD hz hS hA) rfl rfl hl.1 rfl (lv_room (Nat.le_of_ble_eq_true rfl)) dL_act_419 ⟨Nat.le_of_ble_eq_true rfl, Nat.le_of_ble_eq_true rfl⟩) hD hS hA (fun H locs hP hD hS => ?_)
                exact wl_p (g := g) (g' := g) rfl hx hb hr hAe rfl hP hD hS (Nat.le_of_ble_eq_true rfl) (Nat.le_of_ble_eq_true rfl) dL_act_422 hlocks
              · have hs := sp_f c_53_4 hs
                by_cases c_53_5 : v_52 = 5
                · have hs := sp_t c_53_5 hs
                  refine lv_tableIn (off := 249) (tgt := 423) hx hb dL_act_174 (by rw [c_53_5]; decide) (by rw [c_53_5]; decide) (by rw [c_53_5]; decide) (by decide) ?_
                  refine lv_aload_n hx hb dL_act_423 rfl (lv_at hl 7 rfl) ?_
                  refine lv_iload hx hb dL_act_424 (lv_at hl 4 rfl) ?_
                  refine lv_iload hx hb dL_act_426 (lv_at hl 3 rfl) ?_
                  refine lv_iload_n hx hb dL_act_428 rfl (lv_at hl 6 rfl) ?_
                  refine lv_if_eq (tgt := 437) hx hb dL_act_429 (by decide) (fun c9 => absurd c9 (by decide)) (fun _ => ?_)
                  refine lv_iload hx hb dL_act_432 (lv_at hl 2 rfl) ?_
                  refine lv_goto (tgt := 445) hx hb dL_act_434 (by decide) ?_
                  refine lv_iload hx hb dL_act_445 (lv_at hl 1 rfl) ?_
                  refine lv_iload_n hx hb dL_act_447 rfl (lv_at hl 6 rfl) ?_
                  refine lv_if_eq (tgt := 462) hx hb dL_act_448 (by decide) (fun c9 => absurd c9 (by decide)) (fun _ => ?_)
                  refine lv_iload_n hx hb dL_act_451 rfl (lv_at hl 8 rfl) ?_
                  refine lv_iconst (v := 3) hx hb dL_act_452 (by decide) ?_
                  refine lv_ishr hx hb dL_act_453 ?_
                  refine lv_bipush (v := 14) hx hb dL_act_454 (by decide) ?_
                  obtain ⟨v_54, h_54, hs⟩ := sp_b hs
                  refine rd_i (va_runS (As := [.int (a1 >>> (3 &&& 31)), .int (14)]) (rest := [.int (v_51 - 2), .int (a1 >>> (9 &&& 31)), .int (v_50 - 1), .int (v_49 - 2), .ref (g 0)]) ⟨hx, hb, hml, hown, hts⟩ (c_L_low l D ca (a1 >>> (3 &&& 31)) 14 h_54) (va_cwS 2 hts gL_act_L_low rfl rfl rfl (by decide +kernel) ⟨Nat.le_of_ble_eq_true rfl, Nat.le_of_ble_eq_true rfl⟩) (rP_S va_P_nil hC) rfl rfl hl.1 rfl (lv_room (Nat.le_of_ble_eq_true rfl)) dL_act_456 ⟨Nat.zero_le _, Nat.zero_le _⟩) ?_
                  refine lv_goto (tgt := 472) hx hb dL_act_459 (by decide) ?_
                  refine wr_p (vx_runSW (As := [.ref (g 0), .int (v_49 - 2), .int (v_50 - 1), .int (a1 >>> (9 &&& 31)), .int (v_51 - 2), .int (v_54)]) (rest := []) ⟨hx, hb, hml, hown, hts⟩ (c_L_projector l hl9 D ca g x (v_49 - 2) (v_50 - 1) (a1 >>> (9 &&& 31)) (v_51 - 2) v_54 hs H.size) (vx_cwSW 6 hts gL_act_L_projector rfl rfl rfl (by decide +kernel) ⟨Nat.le_of_ble_eq_true rfl, Nat.le_of_ble_eq_true rfl⟩) (tP_S hP hC hD hz hS hA) rfl rfl hl.1 rfl (lv_room (Nat.le_of_ble_eq_true rfl)) dL_act_472 ⟨Nat.le_of_ble_eq_true rfl, Nat.le_of_ble_eq_true rfl⟩) hD hS hA (fun g' H locs hg hP hD hS => ?_)
                  exact wl_p (g := g) (g' := g') hg hx hb hr hAe rfl hP hD hS (Nat.le_of_ble_eq_true rfl) (Nat.le_of_ble_eq_true rfl) dL_act_475 hlocks
                · have hs := sp_f c_53_5 hs
                  by_cases c_53_6 : v_52 = 6
                  · have hs := sp_t c_53_6 hs
                    refine lv_tableIn (off := 249) (tgt := 423) hx hb dL_act_174 (by rw [c_53_6]; decide) (by rw [c_53_6]; decide) (by rw [c_53_6]; decide) (by decide) ?_
                    refine lv_aload_n hx hb dL_act_423 rfl (lv_at hl 7 rfl) ?_
                    refine lv_iload hx hb dL_act_424 (lv_at hl 4 rfl) ?_
                    refine lv_iload hx hb dL_act_426 (lv_at hl 3 rfl) ?_
                    refine lv_iload_n hx hb dL_act_428 rfl (lv_at hl 6 rfl) ?_
                    refine lv_if_eq (tgt := 437) hx hb dL_act_429 (by decide) (fun c9 => absurd c9 (by decide)) (fun _ => ?_)
                    refine lv_iload hx hb dL_act_432 (lv_at hl 2 rfl) ?_
                    refine lv_goto (tgt := 445) hx hb dL_act_434 (by decide) ?_
                    refine lv_iload hx hb dL_act_445 (lv_at hl 1 rfl) ?_
                    refine lv_iload_n hx hb dL_act_447 rfl (lv_at hl 6 rfl) ?_
                    refine lv_if_eq (tgt := 462) hx hb dL_act_448 (by decide) (fun c9 => absurd c9 (by decide)) (fun _ => ?_)
                    refine lv_iload_n hx hb dL_act_451 rfl (lv_at hl 8 rfl) ?_
                    refine lv_iconst (v := 3) hx hb dL_act_452 (by decide) ?_
                    refine lv_ishr hx hb dL_act_453 ?_
                    refine lv_bipush (v := 14) hx hb dL_act_454 (by decide) ?_
                    obtain ⟨v_55, h_55, hs⟩ := sp_b hs
                    refine rd_i (va_runS (As := [.int (a1 >>> (3 &&& 31)), .int (14)]) (rest := [.int (v_51 - 2), .int (a1 >>> (9 &&& 31)), .int (v_50 - 1), .int (v_49 - 2), .ref (g 0)]) ⟨hx, hb, hml, hown, hts⟩ (c_L_low l D ca (a1 >>> (3 &&& 31)) 14 h_55) (va_cwS 2 hts gL_act_L_low rfl rfl rfl (by decide +kernel) ⟨Nat.le_of_ble_eq_true rfl, Nat.le_of_ble_eq_true rfl⟩) (rP_S va_P_nil hC) rfl rfl hl.1 rfl (lv_room (Nat.le_of_ble_eq_true rfl)) dL_act_456 ⟨Nat.zero_le _, Nat.zero_le _⟩) ?_
                    refine lv_goto (tgt := 472) hx hb dL_act_459 (by decide) ?_
                    refine wr_p (vx_runSW (As := [.ref (g 0), .int (v_49 - 2), .int (v_50 - 1), .int (a1 >>> (9 &&& 31)), .int (v_51 - 2), .int (v_55)]) (rest := []) ⟨hx, hb, hml, hown, hts⟩ (c_L_projector l hl9 D ca g x (v_49 - 2) (v_50 - 1) (a1 >>> (9 &&& 31)) (v_51 - 2) v_55 hs H.size) (vx_cwSW 6 hts gL_act_L_projector rfl rfl rfl (by decide +kernel) ⟨Nat.le_of_ble_eq_true rfl, Nat.le_of_ble_eq_true rfl⟩) (tP_S hP hC hD hz hS hA) rfl rfl hl.1 rfl (lv_room (Nat.le_of_ble_eq_true rfl)) dL_act_472 ⟨Nat.le_of_ble_eq_true rfl, Nat.le_of_ble_eq_true rfl⟩) hD hS hA (fun g' H locs hg hP hD hS => ?_)
                    exact wl_p (g := g) (g' := g') hg hx hb hr hAe rfl hP hD hS (Nat.le_of_ble_eq_true rfl) (Nat.le_of_ble_eq_true rfl) dL_act_475 hlocks
                  · have hs := sp_f c_53_6 hs
                    by_cases c_53_7 : v_52 = 7
                    · have hs := sp_t c_53_7 hs
                      refine lv_tableIn (off := 249) (tgt := 423) hx hb dL_act_174 (by rw [c_53_7]; decide) (by rw [c_53_7]; decide) (by rw [c_53_7]; decide) (by decide) ?_
                      refine lv_aload_n hx hb dL_act_423 rfl (lv_at hl 7 rfl) ?_
                      refine lv_iload hx hb dL_act_424 (lv_at hl 4 rfl) ?_
                      refine lv_iload hx hb dL_act_426 (lv_at hl 3 rfl) ?_
                      refine lv_iload_n hx hb dL_act_428 rfl (lv_at hl 6 rfl) ?_
                      refine lv_if_eq (tgt := 437) hx hb dL_act_429 (by decide) (fun c9 => absurd c9 (by decide)) (fun _ => ?_)
                      refine lv_iload hx hb dL_act_432 (lv_at hl 2 rfl) ?_
                      refine lv_goto (tgt := 445) hx hb dL_act_434 (by decide) ?_
                      refine lv_iload hx hb dL_act_445 (lv_at hl 1 rfl) ?_
                      refine lv_iload_n hx hb dL_act_447 rfl (lv_at hl 6 rfl) ?_
                      refine lv_if_eq (tgt := 462) hx hb dL_act_448 (by decide) (fun c9 => absurd c9 (by decide)) (fun _ => ?_)
                      refine lv_iload_n hx hb dL_act_451 rfl (lv_at hl 8 rfl) ?_
                      refine lv_iconst (v := 3) hx hb dL_act_452 (by decide) ?_
                      refine lv_ishr hx hb dL_act_453 ?_
                      refine lv_bipush (v := 14) hx hb dL_act_454 (by decide) ?_
                      obtain ⟨v_56, h_56, hs⟩ := sp_b hs
                      refine rd_i (va_runS (As := [.int (a1 >>> (3 &&& 31)), .int (14)]) (rest := [.int (v_51 - 2), .int (a1 >>> (9 &&& 31)), .int (v_50 - 1), .int (v_49 - 2), .ref (g 0)]) ⟨hx, hb, hml, hown, hts⟩ (c_L_low l D ca (a1 >>> (3 &&& 31)) 14 h_56) (va_cwS 2 hts gL_act_L_low rfl rfl rfl (by decide +kernel) ⟨Nat.le_of_ble_eq_true rfl, Nat.le_of_ble_eq_true rfl⟩) (rP_S va_P_nil hC) rfl rfl hl.1 rfl (lv_room (Nat.le_of_ble_eq_true rfl)) dL_act_456 ⟨Nat.zero_le _, Nat.zero_le _⟩) ?_
                      refine lv_goto (tgt := 472) hx hb dL_act_459 (by decide) ?_
                      refine wr_p (vx_runSW (As := [.ref (g 0), .int (v_49 - 2), .int (v_50 - 1), .int (a1 >>> (9 &&& 31)), .int (v_51 - 2), .int (v_56)]) (rest := []) ⟨hx, hb, hml, hown, hts⟩ (c_L_projector l hl9 D ca g x (v_49 - 2) (v_50 - 1) (a1 >>> (9 &&& 31)) (v_51 - 2) v_56 hs H.size) (vx_cwSW 6 hts gL_act_L_projector rfl rfl rfl (by decide +kernel) ⟨Nat.le_of_ble_eq_true rfl, Nat.le_of_ble_eq_true rfl⟩) (tP_S hP hC hD hz hS hA) rfl rfl hl.1 rfl (lv_room (Nat.le_of_ble_eq_true rfl)) dL_act_472 ⟨Nat.le_of_ble_eq_true rfl, Nat.le_of_ble_eq_true rfl⟩) hD hS hA (fun g' H locs hg hP hD hS => ?_)
                      exact wl_p (g := g) (g' := g') hg hx hb hr hAe rfl hP hD hS (Nat.le_of_ble_eq_true rfl) (Nat.le_of_ble_eq_true rfl) dL_act_475 hlocks
                    · have hs := sp_f c_53_7 hs
                      by_cases c_53_8 : v_52 = 8
                      · have hs := sp_t c_53_8 hs
                        refine lv_tableIn (off := 249) (tgt := 423) hx hb dL_act_174 (by rw [c_53_8]; decide) (by rw [c_53_8]; decide) (by rw [c_53_8]; decide) (by decide) ?_
                        refine lv_aload_n hx hb dL_act_423 rfl (lv_at hl 7 rfl) ?_
                        refine lv_iload hx hb dL_act_424 (lv_at hl 4 rfl) ?_
                        refine lv_iload hx hb dL_act_426 (lv_at hl 3 rfl) ?_
                        refine lv_iload_n hx hb dL_act_428 rfl (lv_at hl 6 rfl) ?_
                        refine lv_if_eq (tgt := 437) hx hb dL_act_429 (by decide) (fun c9 => absurd c9 (by decide)) (fun _ => ?_)
                        refine lv_iload hx hb dL_act_432 (lv_at hl 2 rfl) ?_
                        refine lv_goto (tgt := 445) hx hb dL_act_434 (by decide) ?_
                        refine lv_iload hx hb dL_act_445 (lv_at hl 1 rfl) ?_
                        refine lv_iload_n hx hb dL_act_447 rfl (lv_at hl 6 rfl) ?_
                        refine lv_if_eq (tgt := 462) hx hb dL_act_448 (by decide) (fun c9 => absurd c9 (by decide)) (fun _ => ?_)
                        refine lv_iload_n hx hb dL_act_451 rfl (lv_at hl 8 rfl) ?_
                        refine lv_iconst (v := 3) hx hb dL_act_452 (by decide) ?_
                        refine lv_ishr hx hb dL_act_453 ?_
                        refine lv_bipush (v := 14) hx hb dL_act_454 (by decide) ?_
                        obtain ⟨v_57, h_57, hs⟩ := sp_b hs
                        refine rd_i (va_runS (As := [.int (a1 >>> (3 &&& 31)), .int (14)]) (rest := [.int (v_51 - 2), .int (a1 >>> (9 &&& 31)), .int (v_50 - 1), .int (v_49 - 2), .ref (g 0)]) ⟨hx, hb, hml, hown, hts⟩ (c_L_low l D ca (a1 >>> (3 &&& 31)) 14 h_57) (va_cwS 2 hts gL_act_L_low rfl rfl rfl (by decide +kernel) ⟨Nat.le_of_ble_eq_true rfl, Nat.le_of_ble_eq_true rfl⟩) (rP_S va_P_nil hC) rfl rfl hl.1 rfl (lv_room (Nat.le_of_ble_eq_true rfl)) dL_act_456 ⟨Nat.zero_le _, Nat.zero_le _⟩) ?_
                        refine lv_goto (tgt := 472) hx hb dL_act_459 (by decide) ?_
                        refine wr_p (vx_runSW (As := [.ref (g 0), .int (v_49 - 2), .int (v_50 - 1), .int (a1 >>> (9 &&& 31)), .int (v_51 - 2), .int (v_57)]) (rest := []) ⟨hx, hb, hml, hown, hts⟩ (c_L_projector l hl9 D ca g x (v_49 - 2) (v_50 - 1) (a1 >>> (9 &&& 31)) (v_51 - 2) v_57 hs H.size) (vx_cwSW 6 hts gL_act_L_projector rfl rfl rfl (by decide +kernel) ⟨Nat.le_of_ble_eq_true rfl, Nat.le_of_ble_eq_true rfl⟩) (tP_S hP hC hD hz hS hA) rfl rfl hl.1 rfl (lv_room (Nat.le_of_ble_eq_true rfl)) dL_act_472 ⟨Nat.le_of_ble_eq_true rfl, Nat.le_of_ble_eq_true rfl⟩) hD hS hA (fun g' H locs hg hP hD hS => ?_)
                        exact wl_p (g := g) (g' := g') hg hx hb hr hAe rfl hP hD hS (Nat.le_of_ble_eq_true rfl) (Nat.le_of_ble_eq_true rfl) dL_act_475 hlocks
                      · have hs := sp_f c_53_8 hs
                        by_cases c_53_9 : v_52 = 9
                        · have hs := sp_t c_53_9 hs
                          refine lv_tableIn (off := 249) (tgt := 423) hx hb dL_act_174 (by rw [c_53_9]; decide) (by rw [c_53_9]; decide) (by rw [c_53_9]; decide) (by decide) ?_
                          refine lv_aload_n hx hb dL_act_423 rfl (lv_at hl 7 rfl) ?_
                          refine lv_iload hx hb dL_act_424 (lv_at hl 4 rfl) ?_
                          refine lv_iload hx hb dL_act_426 (lv_at hl 3 rfl) ?_
                          refine lv_iload_n hx hb dL_act_428 rfl (lv_at hl 6 rfl) ?_
                          refine lv_if_eq (tgt := 437) hx hb dL_act_429 (by decide) (fun c9 => absurd c9 (by decide)) (fun _ => ?_)
                          refine lv_iload hx hb dL_act_432 (lv_at hl 2 rfl) ?_
                          refine lv_goto (tgt := 445) hx hb dL_act_434 (by decide) ?_
                          refine lv_iload hx hb dL_act_445 (lv_at hl 1 rfl) ?_
                          refine lv_iload_n hx hb dL_act_447 rfl (lv_at hl 6 rfl) ?_
                          refine lv_if_eq (tgt := 462) hx hb dL_act_448 (by decide) (fun c9 => absurd c9 (by decide)) (fun _ => ?_)
                          refine lv_iload_n hx hb dL_act_451 rfl (lv_at hl 8 rfl) ?_
                          refine lv_iconst (v := 3) hx hb dL_act_452 (by decide) ?_
                          refine lv_ishr hx hb dL_act_453 ?_
                          refine lv_bipush (v := 14) hx hb dL_act_454 (by decide) ?_
                          obtain ⟨v_58, h_58, hs⟩ := sp_b hs
                          refine rd_i (va_runS (As := [.int (a1 >>> (3 &&& 31)), .int (14)]) (rest := [.int (v_51 - 2), .int (a1 >>> (9 &&& 31)), .int (v_50 - 1), .int (v_49 - 2), .ref (g 0)]) ⟨hx, hb, hml, hown, hts⟩ (c_L_low l D ca (a1 >>> (3 &&& 31)) 14 h_58) (va_cwS 2 hts gL_act_L_low rfl rfl rfl (by decide +kernel) ⟨Nat.le_of_ble_eq_true rfl, Nat.le_of_ble_eq_true rfl⟩) (rP_S va_P_nil hC) rfl rfl hl.1 rfl (lv_room (Nat.le_of_ble_eq_true rfl)) dL_act_456 ⟨Nat.zero_le _, Nat.zero_le _⟩) ?_
                          refine lv_goto (tgt := 472) hx hb dL_act_459 (by decide) ?_
                          refine wr_p (vx_runSW (As := [.ref (g 0), .int (v_49 - 2), .int (v_50 - 1), .int (a1 >>> (9 &&& 31)), .int (v_51 - 2), .int (v_58)]) (rest := []) ⟨hx, hb, hml, hown, hts⟩ (c_L_projector l hl9 D ca g x (v_49 - 2) (v_50 - 1) (a1 >>> (9 &&& 31)) (v_51 - 2) v_58 hs H.size) (vx_cwSW 6 hts gL_act_L_projector rfl rfl rfl (by decide +kernel) ⟨Nat.le_of_ble_eq_true rfl, Nat.le_of_ble_eq_true rfl⟩) (tP_S hP hC hD hz hS hA) rfl rfl hl.1 rfl (lv_room (Nat.le_of_ble_eq_true rfl)) dL_act_472 ⟨Nat.le_of_ble_eq_true rfl, Nat.le_of_ble_eq_true rfl⟩) hD hS hA (fun g' H locs hg hP hD hS => ?_)
                          exact wl_p (g := g) (g' := g') hg hx hb hr hAe rfl hP hD hS (Nat.le_of_ble_eq_true rfl) (Nat.le_of_ble_eq_true rfl) dL_act_475 hlocks
                        · have hs := sp_f c_53_9 hs
                          by_cases c_53_10 : v_52 = 10
                          · have hs := sp_t c_53_10 hs
                            refine lv_tableIn (off := 302) (tgt := 476) hx hb dL_act_174 (by rw [c_53_10]; decide) (by rw [c_53_10]; decide) (by rw [c_53_10]; decide) (by decide) ?_
                            refine lv_aload_n hx hb dL_act_476 rfl (lv_at hl 7 rfl) ?_
                            refine lv_iload_n hx hb dL_act_477 rfl (lv_at hl 5 rfl) ?_
                            refine lv_iload hx hb dL_act_478 (lv_at hl 4 rfl) ?_
                            refine lv_iload_n hx hb dL_act_480 rfl (lv_at hl 6 rfl) ?_
                            refine lv_if_eq (tgt := 491) hx hb dL_act_481 (by decide) (fun c9 => absurd c9 (by decide)) (fun _ => ?_)
                            refine lv_iload_n hx hb dL_act_484 rfl (lv_at hl 8 rfl) ?_
                            refine lv_bipush (v := 6) hx hb dL_act_485 (by decide) ?_
                            refine lv_ishr hx hb dL_act_487 ?_
                            refine lv_goto (tgt := 521) hx hb dL_act_488 (by decide) ?_
                            refine wr_l (vx_runSW (As := [.ref (g 0), .int (v_48 - 2), .int (v_49 - 2), .int (a1 >>> (6 &&& 31))]) (rest := []) ⟨hx, hb, hml, hown, hts⟩ (c_L_aim l hl9 D ca g x (v_48 - 2) (v_49 - 2) (a1 >>> (6 &&& 31)) hs H.size) (vx_cwSW 4 hts gL_act_L_aim rfl rfl rfl (by decide +kernel) ⟨Nat.le_of_ble_eq_true rfl, Nat.le_of_ble_eq_true rfl⟩) (tP_S hP hC hD hz hS hA) rfl rfl hl.1 rfl (lv_room (Nat.le_of_ble_eq_true rfl)) dL_act_521 ⟨Nat.le_of_ble_eq_true rfl, Nat.le_of_ble_eq_true rfl⟩) hD hS hA (fun H locs hP hD hS => ?_)
                            exact wl_p (g := g) (g' := g) rfl hx hb hr hAe rfl hP hD hS (Nat.le_of_ble_eq_true rfl) (Nat.le_of_ble_eq_true rfl) dL_act_524 hlocks
                          · have hs := sp_f c_53_10 hs
                            by_cases c_53_11 : v_52 = 11
                            · have hs := sp_t c_53_11 hs
                              refine lv_tableIn (off := 302) (tgt := 476) hx hb dL_act_174 (by rw [c_53_11]; decide) (by rw [c_53_11]; decide) (by rw [c_53_11]; decide) (by decide) ?_
                              refine lv_aload_n hx hb dL_act_476 rfl (lv_at hl 7 rfl) ?_
                              refine lv_iload_n hx hb dL_act_477 rfl (lv_at hl 5 rfl) ?_
                              refine lv_iload hx hb dL_act_478 (lv_at hl 4 rfl) ?_
                              refine lv_iload_n hx hb dL_act_480 rfl (lv_at hl 6 rfl) ?_
                              refine lv_if_eq (tgt := 491) hx hb dL_act_481 (by decide) (fun c9 => absurd c9 (by decide)) (fun _ => ?_)
                              refine lv_iload_n hx hb dL_act_484 rfl (lv_at hl 8 rfl) ?_
                              refine lv_bipush (v := 6) hx hb dL_act_485 (by decide) ?_
                              refine lv_ishr hx hb dL_act_487 ?_
                              refine lv_goto (tgt := 521) hx hb dL_act_488 (by decide) ?_
                              refine wr_l (vx_runSW (As := [.ref (g 0), .int (v_48 - 2), .int (v_49 - 2), .int (a1 >>> (6 &&& 31))]) (rest := []) ⟨hx, hb, hml, hown, hts⟩ (c_L_aim l hl9 D ca g x (v_48 - 2) (v_49 - 2) (a1 >>> (6 &&& 31)) hs H.size) (vx_cwSW 4 hts gL_act_L_aim rfl rfl rfl (by decide +kernel) ⟨Nat.le_of_ble_eq_true rfl, Nat.le_of_ble_eq_true rfl⟩) (tP_S hP hC hD hz hS hA) rfl rfl hl.1 rfl (lv_room (Nat.le_of_ble_eq_true rfl)) dL_act_521 ⟨Nat.le_of_ble_eq_true rfl, Nat.le_of_ble_eq_true rfl⟩) hD hS hA (fun H locs hP hD hS => ?_)
                              exact wl_p (g := g) (g' := g) rfl hx hb hr hAe rfl hP hD hS (Nat.le_of_ble_eq_true rfl) (Nat.le_of_ble_eq_true rfl) dL_act_524 hlocks
                            · have hs := sp_f c_53_11 hs
                              by_cases c_53_12 : v_52 = 12
                              · have hs := sp_t c_53_12 hs
                                refine lv_tableIn (off := 302) (tgt := 476) hx hb dL_act_174 (by rw [c_53_12]; decide) (by rw [c_53_12]; decide) (by rw [c_53_12]; decide) (by decide) ?_
                                refine lv_aload_n hx hb dL_act_476 rfl (lv_at hl 7 rfl) ?_
                                refine lv_iload_n hx hb dL_act_477 rfl (lv_at hl 5 rfl) ?_
                                refine lv_iload hx hb dL_act_478 (lv_at hl 4 rfl) ?_
                                refine lv_iload_n hx hb dL_act_480 rfl (lv_at hl 6 rfl) ?_
                                refine lv_if_eq (tgt := 491) hx hb dL_act_481 (by decide) (fun c9 => absurd c9 (by decide)) (fun _ => ?_)
                                refine lv_iload_n hx hb dL_act_484 rfl (lv_at hl 8 rfl) ?_
                                refine lv_bipush (v := 6) hx hb dL_act_485 (by decide) ?_
                                refine lv_ishr hx hb dL_act_487 ?_
                                refine lv_goto (tgt := 521) hx hb dL_act_488 (by decide) ?_
                                refine wr_l (vx_runSW (As := [.ref (g 0), .int (v_48 - 2), .int (v_49 - 2), .int (a1 >>> (6 &&& 31))]) (rest := []) ⟨hx, hb, hml, hown, hts⟩ (c_L_aim l hl9 D ca g x (v_48 - 2) (v_49 - 2) (a1 >>> (6 &&& 31)) hs H.size) (vx_cwSW 4 hts gL_act_L_aim rfl rfl rfl (by decide +kernel) ⟨Nat.le_of_ble_eq_true rfl, Nat.le_of_ble_eq_true rfl⟩) (tP_S hP hC hD hz hS hA) rfl rfl hl.1 rfl (lv_room (Nat.le_of_ble_eq_true rfl)) dL_act_521 ⟨Nat.le_of_ble_eq_true rfl, Nat.le_of_ble_eq_true rfl⟩) hD hS hA (fun H locs hP hD hS => ?_)
                                exact wl_p (g := g) (g' := g) rfl hx hb hr hAe rfl hP hD hS (Nat.le_of_ble_eq_true rfl) (Nat.le_of_ble_eq_true rfl) dL_act_524 hlocks
                              · have hs := sp_f c_53_12 hs
                                by_cases c_53_13 : v_52 = 13
                                · have hs := sp_t c_53_13 hs
                                  refine lv_tableIn (off := 351) (tgt := 525) hx hb dL_act_174 (by rw [c_53_13]; decide) (by rw [c_53_13]; decide) (by rw [c_53_13]; decide) (by decide) ?_
                                  refine lv_aload_n hx hb dL_act_525 rfl (lv_at hl 7 rfl) ?_
                                  refine lv_iload_n hx hb dL_act_526 rfl (lv_at hl 5 rfl) ?_
                                  refine lv_iload_n hx hb dL_act_527 rfl (lv_at hl 8 rfl) ?_
                                  refine lv_bipush (v := 8) hx hb dL_act_528 (by decide) ?_
                                  refine lv_ishr hx hb dL_act_530 ?_
                                  refine lv_iconst (v := 4) hx hb dL_act_531 (by decide) ?_
                                  obtain ⟨v_59, h_59, hs⟩ := sp_b hs
                                  refine rd_i (va_runS (As := [.int (a1 >>> (8 &&& 31)), .int (4)]) (rest := [.int (v_48 - 2), .ref (g 0)]) ⟨hx, hb, hml, hown, hts⟩ (c_L_low l D ca (a1 >>> (8 &&& 31)) 4 h_59) (va_cwS 2 hts gL_act_L_low rfl rfl rfl (by decide +kernel) ⟨Nat.le_of_ble_eq_true rfl, Nat.le_of_ble_eq_true rfl⟩) (rP_S va_P_nil hC) rfl rfl hl.1 rfl (lv_room (Nat.le_of_ble_eq_true rfl)) dL_act_532 ⟨Nat.zero_le _, Nat.zero_le _⟩) ?_
                                  refine lv_if_le (tgt := 542) hx hb dL_act_535 (by decide) (fun c_60 => ?_) (fun c_60 => ?_)
                                  · have hs := sp_t c_60 hs
                                    refine lv_iconst (v := 0) hx hb dL_act_542 (by decide) ?_
                                    refine wr_l (vx_runSW (As := [.ref (g 0), .int (v_48 - 2), .int (0)]) (rest := []) ⟨hx, hb, hml, hown, hts⟩ (c_L_turn l hl9 D ca g x (v_48 - 2) 0 hs H.size) (vx_cwSW 3 hts gL_act_L_turn rfl rfl rfl (by decide +kernel) ⟨Nat.le_of_ble_eq_true rfl, Nat.le_of_ble_eq_true rfl⟩) (tP_S hP hC hD hz hS hA) rfl rfl hl.1 rfl (lv_room (Nat.le_of_ble_eq_true rfl)) dL_act_543 ⟨Nat.le_of_ble_eq_true rfl, Nat.le_of_ble_eq_true rfl⟩) hD hS hA (fun H locs hP hD hS => ?_)
                                    exact wl_p (g := g) (g' := g) rfl hx hb hr hAe rfl hP hD hS (Nat.le_of_ble_eq_true rfl) (Nat.le_of_ble_eq_true rfl) dL_act_546 hlocks
                                  · have hs := sp_f c_60 hs
                                    refine lv_iconst (v := 1) hx hb dL_act_538 (by decide) ?_
                                    refine lv_goto (tgt := 543) hx hb dL_act_539 (by decide) ?_
                                    refine wr_l (vx_runSW (As := [.ref (g 0), .int (v_48 - 2), .int (1)]) (rest := []) ⟨hx, hb, hml, hown, hts⟩ (c_L_turn l hl9 D ca g x (v_48 - 2) 1 hs H.size) (vx_cwSW 3 hts gL_act_L_turn rfl rfl rfl (by decide +kernel) ⟨Nat.le_of_ble_eq_true rfl, Nat.le_of_ble_eq_true rfl⟩) (tP_S hP hC hD hz hS hA) rfl rfl hl.1 rfl (lv_room (Nat.le_of_ble_eq_true rfl)) dL_act_543 ⟨Nat.le_of_ble_eq_true rfl, Nat.le_of_ble_eq_true rfl⟩) hD hS hA (fun H locs hP hD hS => ?_)
                                    exact wl_p (g := g) (g' := g) rfl hx hb hr hAe rfl hP hD hS (Nat.le_of_ble_eq_true rfl) (Nat.le_of_ble_eq_true rfl) dL_act_546 hlocks
                                · have hs := sp_f c_53_13 hs
                                  by_cases c_53_14 : v_52 = 14
                                  · have hs := sp_t c_53_14 hs
                                    refine lv_tableIn (off := 351) (tgt := 525) hx hb dL_act_174 (by rw [c_53_14]; decide) (by rw [c_53_14]; decide) (by rw [c_53_14]; decide) (by decide) ?_
                                    refine lv_aload_n hx hb dL_act_525 rfl (lv_at hl 7 rfl) ?_
                                    refine lv_iload_n hx hb dL_act_526 rfl (lv_at hl 5 rfl) ?_
                                    refine lv_iload_n hx hb dL_act_527 rfl (lv_at hl 8 rfl) ?_
                                    refine lv_bipush (v := 8) hx hb dL_act_528 (by decide) ?_
                                    refine lv_ishr hx hb dL_act_530 ?_
                                    refine lv_iconst (v := 4) hx hb dL_act_531 (by decide) ?_
                                    obtain ⟨v_61, h_61, hs⟩ := sp_b hs
                                    refine rd_i (va_runS (As := [.int (a1 >>> (8 &&& 31)), .int (4)]) (rest := [.int (v_48 - 2), .ref (g 0)]) ⟨hx, hb, hml, hown, hts⟩ (c_L_low l D ca (a1 >>> (8 &&& 31)) 4 h_61) (va_cwS 2 hts gL_act_L_low rfl rfl rfl (by decide +kernel) ⟨Nat.le_of_ble_eq_true rfl, Nat.le_of_ble_eq_true rfl⟩) (rP_S va_P_nil hC) rfl rfl hl.1 rfl (lv_room (Nat.le_of_ble_eq_true rfl)) dL_act_532 ⟨Nat.zero_le _, Nat.zero_le _⟩) ?_
                                    refine lv_if_le (tgt := 542) hx hb dL_act_535 (by decide) (fun c_62 => ?_) (fun c_62 => ?_)
                                    · have hs := sp_t c_62 hs
                                      refine lv_iconst (v := 0) hx hb dL_act_542 (by decide) ?_
                                      refine wr_l (vx_runSW (As := [.ref (g 0), .int (v_48 - 2), .int (0)]) (rest := []) ⟨hx, hb, hml, hown, hts⟩ (c_L_turn l hl9 D ca g x (v_48 - 2) 0 hs H.size) (vx_cwSW 3 hts gL_act_L_turn rfl rfl rfl (by decide +kernel) ⟨Nat.le_of_ble_eq_true rfl, Nat.le_of_ble_eq_true rfl⟩) (tP_S hP hC hD hz hS hA) rfl rfl hl.1 rfl (lv_room (Nat.le_of_ble_eq_true rfl)) dL_act_543 ⟨Nat.le_of_ble_eq_true rfl, Nat.le_of_ble_eq_true rfl⟩) hD hS hA (fun H locs hP hD hS => ?_)
                                      exact wl_p (g := g) (g' := g) rfl hx hb hr hAe rfl hP hD hS (Nat.le_of_ble_eq_true rfl) (Nat.le_of_ble_eq_true rfl) dL_act_546 hlocks
                                    · have hs := sp_f c_62 hs
                                      refine lv_iconst (v := 1) hx hb dL_act_538 (by decide) ?_
                                      refine lv_goto (tgt := 543) hx hb dL_act_539 (by decide) ?_
                                      refine wr_l (vx_runSW (As := [.ref (g 0), .int (v_48 - 2), .int (1)]) (rest := []) ⟨hx, hb, hml, hown, hts⟩ (c_L_turn l hl9 D ca g x (v_48 - 2) 1 hs H.size) (vx_cwSW 3 hts gL_act_L_turn rfl rfl rfl (by decide +kernel) ⟨Nat.le_of_ble_eq_true rfl, Nat.le_of_ble_eq_true rfl⟩) (tP_S hP hC hD hz hS hA) rfl rfl hl.1 rfl (lv_room (Nat.le_of_ble_eq_true rfl)) dL_act_543 ⟨Nat.le_of_ble_eq_true rfl, Nat.le_of_ble_eq_true rfl⟩) hD hS hA (fun H locs hP hD hS => ?_)
                                      exact wl_p (g := g) (g' := g) rfl hx hb hr hAe rfl hP hD hS (Nat.le_of_ble_eq_true rfl) (Nat.le_of_ble_eq_true rfl) dL_act_546 hlocks
                                  · have hs := sp_f c_53_14 hs
                                    by_cases c_53_15 : v_52 = 15
                                    · have hs := sp_t c_53_15 hs
                                      refine lv_tableIn (off := 351) (tgt := 525) hx hb dL_act_174 (by rw [c_53_15]; decide) (by rw [c_53_15]; decide) (by rw [c_53_15]; decide) (by decide) ?_
                                      refine lv_aload_n hx hb dL_act_525 rfl (lv_at hl 7 rfl) ?_
                                      refine lv_iload_n hx hb dL_act_526 rfl (lv_at hl 5 rfl) ?_
                                      refine lv_iload_n hx hb dL_act_527 rfl (lv_at hl 8 rfl) ?_
                                      refine lv_bipush (v := 8) hx hb dL_act_528 (by decide) ?_
                                      refine lv_ishr hx hb dL_act_530 ?_
                                      refine lv_iconst (v := 4) hx hb dL_act_531 (by decide) ?_
                                      obtain ⟨v_63, h_63, hs⟩ := sp_b hs
                                      refine rd_i (va_runS (As := [.int (a1 >>> (8 &&& 31)), .int (4)]) (rest := [.int (v_48 - 2), .ref (g 0)]) ⟨hx, hb, hml, hown, hts⟩ (c_L_low l D ca (a1 >>> (8 &&& 31)) 4 h_63) (va_cwS 2 hts gL_act_L_low rfl rfl rfl (by decide +kernel) ⟨Nat.le_of_ble_eq_true rfl, Nat.le_of_ble_eq_true rfl⟩) (rP_S va_P_nil hC) rfl rfl hl.1 rfl (lv_room (Nat.le_of_ble_eq_true rfl)) dL_act_532 ⟨Nat.zero_le _, Nat.zero_le _⟩) ?_
                                      refine lv_if_le (tgt := 542) hx hb dL_act_535 (by decide) (fun c_64 => ?_) (fun c_64 => ?_)
                                      · have hs := sp_t c_64 hs
                                        refine lv_iconst (v := 0) hx hb dL_act_542 (by decide) ?_
                                        refine wr_l (vx_runSW (As := [.ref (g 0), .int (v_48 - 2), .int (0)]) (rest := []) ⟨hx, hb, hml, hown, hts⟩ (c_L_turn l hl9 D ca g x (v_48 - 2) 0 hs H.size) (vx_cwSW 3 hts gL_act_L_turn rfl rfl rfl (by decide +kernel) ⟨Nat.le_of_ble_eq_true rfl, Nat.le_of_ble_eq_true rfl⟩) (tP_S hP hC hD hz hS hA) rfl rfl hl.1 rfl (lv_room (Nat.le_of_ble_eq_true rfl)) dL_act_543 ⟨Nat.le_of_ble_eq_true rfl, Nat.le_of_ble_eq_true rfl⟩) hD hS hA (fun H locs hP hD hS => ?_)
                                        exact wl_p (g := g) (g' := g) rfl hx hb hr hAe rfl hP hD hS (Nat.le_of_ble_eq_true rfl) (Nat.le_of_ble_eq_true rfl) dL_act_546 hlocks
                                      · have hs := sp_f c_64 hs
                                        refine lv_iconst (v := 1) hx hb dL_act_538 (by decide) ?_
                                        refine lv_goto (tgt := 543) hx hb dL_act_539 (by decide) ?_
                                        refine wr_l (vx_runSW (As := [.ref (g 0), .int (v_48 - 2), .int (1)]) (rest := []) ⟨hx, hb, hml, hown, hts⟩ (c_L_turn l hl9 D ca g x (v_48 - 2) 1 hs H.size) (vx_cwSW 3 hts gL_act_L_turn rfl rfl rfl (by decide +kernel) ⟨Nat.le_of_ble_eq_true rfl, Nat.le_of_ble_eq_true rfl⟩) (tP_S hP hC hD hz hS hA) rfl rfl hl.1 rfl (lv_room (Nat.le_of_ble_eq_true rfl)) dL_act_543 ⟨Nat.le_of_ble_eq_true rfl, Nat.le_of_ble_eq_true rfl⟩) hD hS hA (fun H locs hP hD hS => ?_)
                                        exact wl_p (g := g) (g' := g) rfl hx hb hr hAe rfl hP hD hS (Nat.le_of_ble_eq_true rfl) (Nat.le_of_ble_eq_true rfl) dL_act_546 hlocks
                                    · have hs := sp_f c_53_15 hs
                                      by_cases c_53_16 : v_52 = 16
                                      · have hs := sp_t c_53_16 hs
                                        refine lv_tableIn (off := 351) (tgt := 525) hx hb dL_act_174 (by rw [c_53_16]; decide) (by rw [c_53_16]; decide) (by rw [c_53_16]; decide) (by decide) ?_
                                        refine lv_aload_n hx hb dL_act_525 rfl (lv_at hl 7 rfl) ?_
                                        refine lv_iload_n hx hb dL_act_526 rfl (lv_at hl 5 rfl) ?_
                                        refine lv_iload_n hx hb dL_act_527 rfl (lv_at hl 8 rfl) ?_
                                        refine lv_bipush (v := 8) hx hb dL_act_528 (by decide) ?_
                                        refine lv_ishr hx hb dL_act_530 ?_
                                        refine lv_iconst (v := 4) hx hb dL_act_531 (by decide) ?_
                                        obtain ⟨v_65, h_65, hs⟩ := sp_b hs
                                        refine rd_i (va_runS (As := [.int (a1 >>> (8 &&& 31)), .int (4)]) (rest := [.int (v_48 - 2), .ref (g 0)]) ⟨hx, hb, hml, hown, hts⟩ (c_L_low l D ca (a1 >>> (8 &&& 31)) 4 h_65) (va_cwS 2 hts gL_act_L_low rfl rfl rfl (by decide +kernel) ⟨Nat.le_of_ble_eq_true rfl, Nat.le_of_ble_eq_true rfl⟩) (rP_S va_P_nil hC) rfl rfl hl.1 rfl (lv_room (Nat.le_of_ble_eq_true rfl)) dL_act_532 ⟨Nat.zero_le _, Nat.zero_le _⟩) ?_
                                        refine lv_if_le (tgt := 542) hx hb dL_act_535 (by decide) (fun c_66 => ?_) (fun c_66 => ?_)
                                        · have hs := sp_t c_66 hs
                                          refine lv_iconst (v := 0) hx hb dL_act_542 (by decide) ?_
                                          refine wr_l (vx_runSW (As := [.ref (g 0), .int (v_48 - 2), .int (0)]) (rest := []) ⟨hx, hb, hml, hown, hts⟩ (c_L_turn l hl9 D ca g x (v_48 - 2) 0 hs H.size) (vx_cwSW 3 hts gL_act_L_turn rfl rfl rfl (by decide +kernel) ⟨Nat.le_of_ble_eq_true rfl, Nat.le_of_ble_eq_true rfl⟩) (tP_S hP hC hD hz hS hA) rfl rfl hl.1 rfl (lv_room (Nat.le_of_ble_eq_true rfl)) dL_act_543 ⟨Nat.le_of_ble_eq_true rfl, Nat.le_of_ble_eq_true rfl⟩) hD hS hA (fun H locs hP hD hS => ?_)
                                          exact wl_p (g := g) (g' := g) rfl hx hb hr hAe rfl hP hD hS (Nat.le_of_ble_eq_true rfl) (Nat.le_of_ble_eq_true rfl) dL_act_546 hlocks
                                        · have hs := sp_f c_66 hs
                                          refine lv_iconst (v := 1) hx hb dL_act_538 (by decide) ?_
                                          refine lv_goto (tgt := 543) hx hb dL_act_539 (by decide) ?_
                                          refine wr_l (vx_runSW (As := [.ref (g 0), .int (v_48 - 2), .int (1)]) (rest := []) ⟨hx, hb, hml, hown, hts⟩ (c_L_turn l hl9 D ca g x (v_48 - 2) 1 hs H.size) (vx_cwSW 3 hts gL_act_L_turn rfl rfl rfl (by decide +kernel) ⟨Nat.le_of_ble_eq_true rfl, Nat.le_of_ble_eq_true rfl⟩) (tP_S hP hC hD hz hS hA) rfl rfl hl.1 rfl (lv_room (Nat.le_of_ble_eq_true rfl)) dL_act_543 ⟨Nat.le_of_ble_eq_true rfl, Nat.le_of_ble_eq_true rfl⟩) hD hS hA (fun H locs hP hD hS => ?_)
                                          exact wl_p (g := g) (g' := g) rfl hx hb hr hAe rfl hP hD hS (Nat.le_of_ble_eq_true rfl) (Nat.le_of_ble_eq_true rfl) dL_act_546 hlocks
                                      · have hs := sp_f c_53_16 hs
                                        by_cases c_53_17 : v_52 = 17
                                        · have hs := sp_t c_53_17 hs
                                          refine lv_tableIn (off := 373) (tgt := 547) hx hb dL_act_174 (by rw [c_53_17]; decide) (by rw [c_53_17]; decide) (by rw [c_53_17]; decide) (by decide) ?_
                                          refine lv_aload_n hx hb dL_act_547 rfl (lv_at hl 7 rfl) ?_
                                          refine lv_iload_n hx hb dL_act_548 rfl (lv_at hl 5 rfl) ?_
                                          refine lv_iload hx hb dL_act_549 (lv_at hl 0 rfl) ?_
                                          refine wr_l (vx_runSW (As := [.ref (g 0), .int (v_48 - 2), .int (b2i (decide (((a1 >>> (15 &&& 31)) &&& 1) = 1)))]) (rest := []) ⟨hx, hb, hml, hown, hts⟩ (c_L_fail l hl9 D ca g x (v_48 - 2) (b2i (decide (((a1 >>> (15 &&& 31)) &&& 1) = 1))) hs H.size) (vx_cwSW 3 hts gL_act_L_fail rfl rfl rfl (by decide +kernel) ⟨Nat.le_of_ble_eq_true rfl, Nat.le_of_ble_eq_true rfl⟩) (tP_S hP hC hD hz hS hA) rfl rfl hl.1 rfl (lv_room (Nat.le_of_ble_eq_true rfl)) dL_act_551 ⟨Nat.le_of_ble_eq_true rfl, Nat.le_of_ble_eq_true rfl⟩) hD hS hA (fun H locs hP hD hS => ?_)
                                          exact wl_p (g := g) (g' := g) rfl hx hb hr hAe rfl hP hD hS (Nat.le_of_ble_eq_true rfl) (Nat.le_of_ble_eq_true rfl) dL_act_554 hlocks
                                        · have hs := sp_f c_53_17 hs
                                          by_cases c_53_18 : v_52 = 18
                                          · have hs := sp_t c_53_18 hs
                                            refine lv_tableIn (off := 381) (tgt := 555) hx hb dL_act_174 (by rw [c_53_18]; decide) (by rw [c_53_18]; decide) (by rw [c_53_18]; decide) (by decide) ?_
                                            refine lv_aload_n hx hb dL_act_555 rfl (lv_at hl 7 rfl) ?_
                                            refine lv_iload hx hb dL_act_556 (lv_at hl 1 rfl) ?_
                                            refine lv_iload_n hx hb dL_act_558 rfl (lv_at hl 6 rfl) ?_
                                            refine lv_if_eq (tgt := 566) hx hb dL_act_559 (by decide) (fun c9 => absurd c9 (by decide)) (fun _ => ?_)
                                            refine lv_iload_n hx hb dL_act_562 rfl (lv_at hl 8 rfl) ?_
                                            refine lv_goto (tgt := 571) hx hb dL_act_563 (by decide) ?_
                                            refine wr_l (vx_runSW (As := [.ref (g 0), .int (v_51 - 2), .int (a1)]) (rest := []) ⟨hx, hb, hml, hown, hts⟩ (c_L_phase l hl9 D ca g x (v_51 - 2) a1 hs H.size) (vx_cwSW 3 hts gL_act_L_phase rfl rfl rfl (by decide +kernel) ⟨Nat.le_of_ble_eq_true rfl, Nat.le_of_ble_eq_true rfl⟩) (tP_S hP hC hD hz hS hA) rfl rfl hl.1 rfl (lv_room (Nat.le_of_ble_eq_true rfl)) dL_act_571 ⟨Nat.le_of_ble_eq_true rfl, Nat.le_of_ble_eq_true rfl⟩) hD hS hA (fun H locs hP hD hS => ?_)
                                            exact wl_p (g := g) (g' := g) rfl hx hb hr hAe rfl hP hD hS (Nat.le_of_ble_eq_true rfl) (Nat.le_of_ble_eq_true rfl) dL_act_574 hlocks
                                          · have hs := sp_f c_53_18 hs
                                            by_cases c_53_19 : v_52 = 19
                                            · have hs := sp_t c_53_19 hs
                                              refine lv_tableIn (off := 401) (tgt := 575) hx hb dL_act_174 (by rw [c_53_19]; decide) (by rw [c_53_19]; decide) (by rw [c_53_19]; decide) (by decide) ?_
                                              refine lv_aload_n hx hb dL_act_575 rfl (lv_at hl 7 rfl) ?_
                                              refine lv_iload_n hx hb dL_act_576 rfl (lv_at hl 6 rfl) ?_
                                              refine lv_if_eq (tgt := 585) hx hb dL_act_577 (by decide) (fun c9 => absurd c9 (by decide)) (fun _ => ?_)
                                              refine lv_iload hx hb dL_act_580 (lv_at hl 2 rfl) ?_
                                              refine lv_goto (tgt := 594) hx hb dL_act_582 (by decide) ?_
                                              refine wr_l (vx_runSW (As := [.ref (g 0), .int (a1 >>> (9 &&& 31))]) (rest := []) ⟨hx, hb, hml, hown, hts⟩ (c_L_wind l hl9 D ca g x (a1 >>> (9 &&& 31)) hs H.size) (vx_cwSW 2 hts gL_act_L_wind rfl rfl rfl (by decide +kernel) ⟨Nat.le_of_ble_eq_true rfl, Nat.le_of_ble_eq_true rfl⟩) (tP_S hP hC hD hz hS hA) rfl rfl hl.1 rfl (lv_room (Nat.le_of_ble_eq_true rfl)) dL_act_594 ⟨Nat.le_of_ble_eq_true rfl, Nat.le_of_ble_eq_true rfl⟩) hD hS hA (fun H locs hP hD hS => ?_)
                                              exact wl_p (g := g) (g' := g) rfl hx hb hr hAe rfl hP hD hS (Nat.le_of_ble_eq_true rfl) (Nat.le_of_ble_eq_true rfl) dL_act_597 hlocks
                                            · have hs := sp_f c_53_19 hs
                                              by_cases c_53_20 : v_52 = 20
                                              · have hs := sp_t c_53_20 hs
                                                refine lv_tableIn (off := 424) (tgt := 598) hx hb dL_act_174 (by rw [c_53_20]; decide) (by rw [c_53_20]; decide) (by rw [c_53_20]; decide) (by decide) ?_
                                                refine lv_aload_n hx hb dL_act_598 rfl (lv_at hl 7 rfl) ?_
                                                refine lv_iload_n hx hb dL_act_599 rfl (lv_at hl 5 rfl) ?_
                                                refine lv_iload hx hb dL_act_600 (lv_at hl 4 rfl) ?_
                                                refine lv_iload_n hx hb dL_act_602 rfl (lv_at hl 6 rfl) ?_
                                                refine lv_if_eq (tgt := 611) hx hb dL_act_603 (by decide) (fun c9 => absurd c9 (by decide)) (fun _ => ?_)
                                                refine lv_iload hx hb dL_act_606 (lv_at hl 3 rfl) ?_
                                                refine lv_goto (tgt := 619) hx hb dL_act_608 (by decide) ?_
                                                refine wr_l (vx_runSW (As := [.ref (g 0), .int (v_48 - 2), .int (v_49 - 2), .int (v_50 - 1)]) (rest := []) ⟨hx, hb, hml, hown, hts⟩ (c_L_through l hl9 D ca g x (v_48 - 2) (v_49 - 2) (v_50 - 1) hs H.size) (vx_cwSW 4 hts gL_act_L_through rfl rfl rfl (by decide +kernel) ⟨Nat.le_of_ble_eq_true rfl, Nat.le_of_ble_eq_true rfl⟩) (tP_S hP hC hD hz hS hA) rfl rfl hl.1 rfl (lv_room (Nat.le_of_ble_eq_true rfl)) dL_act_619 ⟨Nat.le_of_ble_eq_true rfl, Nat.le_of_ble_eq_true rfl⟩) hD hS hA (fun H locs hP hD hS => ?_)
                                                exact wl_p (g := g) (g' := g) rfl hx hb hr hAe rfl hP hD hS (Nat.le_of_ble_eq_true rfl) (Nat.le_of_ble_eq_true rfl) dL_act_622 hlocks
                                              · have hs := sp_f c_53_20 hs
                                                by_cases c_53_21 : v_52 = 21
                                                · have hs := sp_t c_53_21 hs
                                                  refine lv_tableIn (off := 449) (tgt := 623) hx hb dL_act_174 (by rw [c_53_21]; decide) (by rw [c_53_21]; decide) (by rw [c_53_21]; decide) (by decide) ?_
                                                  refine lv_aload_n hx hb dL_act_623 rfl (lv_at hl 7 rfl) ?_
                                                  refine lv_iload_n hx hb dL_act_624 rfl (lv_at hl 5 rfl) ?_
                                                  refine lv_iload hx hb dL_act_625 (lv_at hl 4 rfl) ?_
                                                  refine wr_l (vx_runSW (As := [.ref (g 0), .int (v_48 - 2), .int (v_49 - 2)]) (rest := []) ⟨hx, hb, hml, hown, hts⟩ (c_L_gives l hl9 D ca g x (v_48 - 2) (v_49 - 2) hs H.size) (vx_cwSW 3 hts gL_act_L_gives rfl rfl rfl (by decide +kernel) ⟨Nat.le_of_ble_eq_true rfl, Nat.le_of_ble_eq_true rfl⟩) (tP_S hP hC hD hz hS hA) rfl rfl hl.1 rfl (lv_room (Nat.le_of_ble_eq_true rfl)) dL_act_627 ⟨Nat.le_of_ble_eq_true rfl, Nat.le_of_ble_eq_true rfl⟩) hD hS hA (fun H locs hP hD hS => ?_)
                                                  exact wl_p (g := g) (g' := g) rfl hx hb hr hAe rfl hP hD hS (Nat.le_of_ble_eq_true rfl) (Nat.le_of_ble_eq_true rfl) dL_act_630 hlocks
                                                · have hs := sp_f c_53_21 hs
                                                  by_cases c_53_22 : v_52 = 22
                                                  · have hs := sp_t c_53_22 hs
                                                    refine lv_tableIn (off := 457) (tgt := 631) hx hb dL_act_174 (by rw [c_53_22]; decide) (by rw [c_53_22]; decide) (by rw [c_53_22]; decide) (by decide) ?_
                                                    refine lv_aload_n hx hb dL_act_631 rfl (lv_at hl 7 rfl) ?_
                                                    refine lv_iload_n hx hb dL_act_632 rfl (lv_at hl 5 rfl) ?_
                                                    refine lv_iload hx hb dL_act_633 (lv_at hl 4 rfl) ?_
                                                    refine wr_l (vx_runSW (As := [.ref (g 0), .int (v_48 - 2), .int (v_49 - 2)]) (rest := []) ⟨hx, hb, hml, hown, hts⟩ (c_L_sharp l hl9 D ca g x (v_48 - 2) (v_49 - 2) hs H.size) (vx_cwSW 3 hts gL_act_L_sharp rfl rfl rfl (by decide +kernel) ⟨Nat.le_of_ble_eq_true rfl, Nat.le_of_ble_eq_true rfl⟩) (tP_S hP hC hD hz hS hA) rfl rfl hl.1 rfl (lv_room (Nat.le_of_ble_eq_true rfl)) dL_act_635 ⟨Nat.le_of_ble_eq_true rfl, Nat.le_of_ble_eq_true rfl⟩) hD hS hA (fun H locs hP hD hS => ?_)
                                                    exact wl_p (g := g) (g' := g) rfl hx hb hr hAe rfl hP hD hS (Nat.le_of_ble_eq_true rfl) (Nat.le_of_ble_eq_true rfl) dL_act_638 hlocks
                                                  · have hs := sp_f c_53_22 hs
                                                    by_cases c_53_23 : v_52 = 23
                                                    · have hs := sp_t c_53_23 hs
                                                      refine lv_tableIn (off := 465) (tgt := 639) hx hb dL_act_174 (by rw [c_53_23]; decide) (by rw [c_53_23]; decide) (by rw [c_53_23]; decide) (by decide) ?_
                                                      refine lv_aload_n hx hb dL_act_639 rfl (lv_at hl 7 rfl) ?_
                                                      refine lv_iload hx hb dL_act_640 (lv_at hl 4 rfl) ?_
                                                      refine wr_l (vx_runSW (As := [.ref (g 0), .int (v_49 - 2)]) (rest := []) ⟨hx, hb, hml, hown, hts⟩ (c_L_light l hl9 D ca g x (v_49 - 2) hs H.size) (vx_cwSW 2 hts gL_act_L_light rfl rfl rfl (by decide +kernel) ⟨Nat.le_of_ble_eq_true rfl, Nat.le_of_ble_eq_true rfl⟩) (tP_S hP hC hD hz hS hA) rfl rfl hl.1 rfl (lv_room (Nat.le_of_ble_eq_true rfl)) dL_act_642 ⟨Nat.le_of_ble_eq_true rfl, Nat.le_of_ble_eq_true rfl⟩) hD hS hA (fun H locs hP hD hS => ?_)
                                                      exact wl_p (g := g) (g' := g) rfl hx hb hr hAe rfl hP hD hS (Nat.le_of_ble_eq_true rfl) (Nat.le_of_ble_eq_true rfl) dL_act_645 hlocks
                                                    · have hs := sp_f c_53_23 hs
                                                      by_cases c_53_24 : v_52 = 24
                                                      · have hs := sp_t c_53_24 hs
                                                        refine lv_tableIn (off := 472) (tgt := 646) hx hb dL_act_174 (by rw [c_53_24]; decide) (by rw [c_53_24]; decide) (by rw [c_53_24]; decide) (by decide) ?_
                                                        refine lv_aload_n hx hb dL_act_646 rfl (lv_at hl 7 rfl) ?_
                                                        refine lv_iload_n hx hb dL_act_647 rfl (lv_at hl 5 rfl) ?_
                                                        refine lv_iload hx hb dL_act_648 (lv_at hl 4 rfl) ?_
                                                        refine wr_l (vx_runSW (As := [.ref (g 0), .int (v_48 - 2), .int (v_49 - 2)]) (rest := []) ⟨hx, hb, hml, hown, hts⟩ (c_L_blended l hl9 D ca g x (v_48 - 2) (v_49 - 2) hs H.size) (vx_cwSW 3 hts gL_act_L_blended rfl rfl rfl (by decide +kernel) ⟨Nat.le_of_ble_eq_true rfl, Nat.le_of_ble_eq_true rfl⟩) (tP_S hP hC hD hz hS hA) rfl rfl hl.1 rfl (lv_room (Nat.le_of_ble_eq_true rfl)) dL_act_650 ⟨Nat.le_of_ble_eq_true rfl, Nat.le_of_ble_eq_true rfl⟩) hD hS hA (fun H locs hP hD hS => ?_)
                                                        exact wl_p (g := g) (g' := g) rfl hx hb hr hAe rfl hP hD hS (Nat.le_of_ble_eq_true rfl) (Nat.le_of_ble_eq_true rfl) dL_act_653 hlocks
                                                      · have hs := sp_f c_53_24 hs
                                                        by_cases c_53_25 : v_52 = 25
                                                        · have hs := sp_t c_53_25 hs
                                                          refine lv_tableIn (off := 480) (tgt := 654) hx hb dL_act_174 (by rw [c_53_25]; decide) (by rw [c_53_25]; decide) (by rw [c_53_25]; decide) (by decide) ?_
                                                          refine lv_aload_n hx hb dL_act_654 rfl (lv_at hl 7 rfl) ?_
                                                          refine lv_iload_n hx hb dL_act_655 rfl (lv_at hl 6 rfl) ?_
                                                          refine lv_if_eq (tgt := 663) hx hb dL_act_656 (by decide) (fun c9 => absurd c9 (by decide)) (fun _ => ?_)
                                                          refine lv_iload_n hx hb dL_act_659 rfl (lv_at hl 8 rfl) ?_
                                                          refine lv_goto (tgt := 671) hx hb dL_act_660 (by decide) ?_
                                                          refine wr_l (vx_runSW (As := [.ref (g 0), .int (a1)]) (rest := []) ⟨hx, hb, hml, hown, hts⟩ (c_L_covered l hl9 D ca g x a1 hs H.size) (vx_cwSW 2 hts gL_act_L_covered rfl rfl rfl (by decide +kernel) ⟨Nat.le_of_ble_eq_true rfl, Nat.le_of_ble_eq_true rfl⟩) (tP_S hP hC hD hz hS hA) rfl rfl hl.1 rfl (lv_room (Nat.le_of_ble_eq_true rfl)) dL_act_671 ⟨Nat.le_of_ble_eq_true rfl, Nat.le_of_ble_eq_true rfl⟩) hD hS hA (fun H locs hP hD hS => ?_)
                                                          exact wl_p (g := g) (g' := g) rfl hx hb hr hAe rfl hP hD hS (Nat.le_of_ble_eq_true rfl) (Nat.le_of_ble_eq_true rfl) dL_act_674 hlocks
                                                        · have hs := sp_f c_53_25 hs
                                                          by_cases c_53_26 : v_52 = 26
                                                          · have hs := sp_t c_53_26 hs
                                                            refine lv_tableIn (off := 501) (tgt := 675) hx hb dL_act_174 (by rw [c_53_26]; decide) (by rw [c_53_26]; decide) (by rw [c_53_26]; decide) (by decide) ?_
                                                            refine lv_iload_n hx hb dL_act_675 rfl (lv_at hl 8 rfl) ?_
                                                            refine lv_bipush (v := 12) hx hb dL_act_676 (by decide) ?_
                                                            refine lv_ishr hx hb dL_act_678 ?_
                                                            refine lv_iconst (v := 3) hx hb dL_act_679 (by decide) ?_
                                                            obtain ⟨v_67, h_67, hs⟩ := sp_b hs
                                                            refine rd_i (va_runS (As := [.int (a1 >>> (12 &&& 31)), .int (3)]) (rest := []) ⟨hx, hb, hml, hown, hts⟩ (c_L_low l D ca (a1 >>> (12 &&& 31)) 3 h_67) (va_cwS 2 hts gL_act_L_low rfl rfl rfl (by decide +kernel) ⟨Nat.le_of_ble_eq_true rfl, Nat.le_of_ble_eq_true rfl⟩) (rP_S va_P_nil hC) rfl rfl hl.1 rfl (lv_room (Nat.le_of_ble_eq_true rfl)) dL_act_680 ⟨Nat.zero_le _, Nat.zero_le _⟩) ?_
                                                            refine lv_if_ne (tgt := 694) hx hb dL_act_683 (by decide) (fun c_68 => ?_) (fun c_68 => ?_)
                                                            · have hs := sp_f c_68 hs
                                                              refine lv_aload_n hx hb dL_act_694 rfl (lv_at hl 7 rfl) ?_
                                                              refine lv_iload_n hx hb dL_act_695 rfl (lv_at hl 6 rfl) ?_
                                                              refine lv_if_eq (tgt := 703) hx hb dL_act_696 (by decide) (fun c9 => absurd c9 (by decide)) (fun _ => ?_)
                                                              refine lv_iload_n hx hb dL_act_699 rfl (lv_at hl 8 rfl) ?_
                                                              refine lv_goto (tgt := 711) hx hb dL_act_700 (by decide) ?_
                                                              refine wr_l (vx_runSW (As := [.ref (g 0), .int (a1)]) (rest := []) ⟨hx, hb, hml, hown, hts⟩ (c_L_bears l hl9 D ca g x a1 hs H.size) (vx_cwSW 2 hts gL_act_L_bears rfl rfl rfl (by decide +kernel) ⟨Nat.le_of_ble_eq_true rfl, Nat.le_of_ble_eq_true rfl⟩) (tP_S hP hC hD hz hS hA) rfl rfl hl.1 rfl (lv_room (Nat.le_of_ble_eq_true rfl)) dL_act_711 ⟨Nat.le_of_ble_eq_true rfl, Nat.le_of_ble_eq_true rfl⟩) hD hS hA (fun H locs hP hD hS => ?_)
                                                              exact wl_p (g := g) (g' := g) rfl hx hb hr hAe rfl hP hD hS (Nat.le_of_ble_eq_true rfl) (Nat.le_of_ble_eq_true rfl) dL_act_714 hlocks
                                                            · have hs := sp_t c_68 hs
                                                              refine lv_aload_n hx hb dL_act_686 rfl (lv_at hl 7 rfl) ?_
                                                              obtain ⟨v_69, h_69, hs⟩ := sp_b hs
                                                              refine wr_i (va_runV (As := []) (rest := []) ⟨hx, hb, hml, hown, hts⟩ (c_X4_least l D ca g x h_69 H.size) (cwV 0 hts gL_act_X4_least rfl rfl rfl (by decide +kernel) ⟨Nat.le_of_ble_eq_true rfl, Nat.le_of_ble_eq_true rfl⟩) (wP_V (q := (RX4, TX4, 16)) hP hC hD 0 rfl rfl) rfl rfl hl.1 rfl (lv_room (Nat.le_of_ble_eq_true rfl)) dL_act_687 ⟨Nat.zero_le _, Nat.zero_le _⟩) hD hS hA (fun H locs hP hD hS => ?_)
                                                              refine lv_i2l hx hb dL_act_690 rfl ?_
                                                              refine lv_goto (tgt := 714) hx hb dL_act_691 (by decide) ?_
                                                              cases hs
                                                              exact wl_p (g := g) (g' := g) rfl hx hb hr hAe rfl hP hD hS (Nat.le_of_ble_eq_true rfl) (Nat.le_of_ble_eq_true rfl) dL_act_714 hlocks
                                                          · have hs := sp_f c_53_26 hs
                                                            by_cases c_53_27 : v_52 = 27
                                                            · have hs := sp_t c_53_27 hs
                                                              refine lv_tableIn (off := 541) (tgt := 715) hx hb dL_act_174 (by rw [c_53_27]; decide) (by rw [c_53_27]; decide) (by rw [c_53_27]; decide) (by decide) ?_
                                                              refine lv_aload_n hx hb dL_act_715 rfl (lv_at hl 7 rfl) ?_
                                                              obtain ⟨v_70, h_70, hs⟩ := sp_b hs
                                                              refine rd_i (va_runV (As := []) (rest := []) ⟨hx, hb, hml, hown, hts⟩ (c_X4_breaches l D ca g x h_70) (cwV 0 hts gL_act_X4_breaches rfl rfl rfl (by decide +kernel) ⟨Nat.le_of_ble_eq_true rfl, Nat.le_of_ble_eq_true rfl⟩) (rP_V (q := (RX4, TX4, 16)) hP hC 0 rfl rfl) rfl rfl hl.1 rfl (lv_room (Nat.le_of_ble_eq_true rfl)) dL_act_716 ⟨Nat.zero_le _, Nat.zero_le _⟩) ?_
                                                              refine lv_i2l hx hb dL_act_719 rfl ?_
                                                              cases hs
                                                              exact wl_p (g := g) (g' := g) rfl hx hb hr hAe rfl hP hD hS (Nat.le_of_ble_eq_true rfl) (Nat.le_of_ble_eq_true rfl) dL_act_720 hlocks
                                                            · have hs := sp_f c_53_27 hs
                                                              by_cases c_53_28 : v_52 = 28
                                                              · have hs := sp_t c_53_28 hs
                                                                refine lv_tableIn (off := 547) (tgt := 721) hx hb dL_act_174 (by rw [c_53_28]; decide) (by rw [c_53_28]; decide) (by rw [c_53_28]; decide) (by decide) ?_
                                                                refine lv_aload_n hx hb dL_act_721 rfl (lv_at hl 7 rfl) ?_
                                                                refine lv_iload_n hx hb dL_act_722 rfl (lv_at hl 6 rfl) ?_
                                                                refine lv_if_eq (tgt := 730) hx hb dL_act_723 (by decide) (fun c9 => absurd c9 (by decide)) (fun _ => ?_)
                                                                refine lv_iload_n hx hb dL_act_726 rfl (lv_at hl 8 rfl) ?_
                                                                refine lv_goto (tgt := 735) hx hb dL_act_727 (by decide) ?_
                                                                refine lv_iload_n hx hb dL_act_735 rfl (lv_at hl 6 rfl) ?_
                                                                refine lv_if_eq (tgt := 744) hx hb dL_act_736 (by decide) (fun c9 => absurd c9 (by decide)) (fun _ => ?_)
                                                                refine lv_iload hx hb dL_act_739 (lv_at hl 2 rfl) ?_
                                                                refine lv_goto (tgt := 759) hx hb dL_act_741 (by decide) ?_
                                                                refine wr_l (vx_runSW (As := [.ref (g 0), .int (a1), .int (a1 >>> (9 &&& 31))]) (rest := []) ⟨hx, hb, hml, hown, hts⟩ (c_L_curfew l hl9 D ca g x a1 (a1 >>> (9 &&& 31)) hs H.size) (vx_cwSW 3 hts gL_act_L_curfew rfl rfl rfl (by decide +kernel) ⟨Nat.le_of_ble_eq_true rfl, Nat.le_of_ble_eq_true rfl⟩) (tP_S hP hC hD hz hS hA) rfl rfl hl.1 rfl (lv_room (Nat.le_of_ble_eq_true rfl)) dL_act_759 ⟨Nat.le_of_ble_eq_true rfl, Nat.le_of_ble_eq_true rfl⟩) hD hS hA (fun H locs hP hD hS => ?_)
                                                                exact wl_p (g := g) (g' := g) rfl hx hb hr hAe rfl hP hD hS (Nat.le_of_ble_eq_true rfl) (Nat.le_of_ble_eq_true rfl) dL_act_762 hlocks
                                                              · have hs := sp_f c_53_28 hs
                                                                by_cases c_53_29 : v_52 = 29
                                                                · have hs := sp_t c_53_29 hs
                                                                  refine lv_tableIn (off := 589) (tgt := 763) hx hb dL_act_174 (by rw [c_53_29]; decide) (by rw [c_53_29]; decide) (by rw [c_53_29]; decide) (by decide) ?_
                                                                  refine lv_aload_n hx hb dL_act_763 rfl (lv_at hl 7 rfl) ?_
                                                                  refine lv_iload_n hx hb dL_act_764 rfl (lv_at hl 5 rfl) ?_
                                                                  refine lv_iload_n hx hb dL_act_765 rfl (lv_at hl 6 rfl) ?_
                                                                  refine lv_if_eq (tgt := 773) hx hb dL_act_766 (by decide) (fun c9 => absurd c9 (by decide)) (fun _ => ?_)
                                                                  refine lv_iload_n hx hb dL_act_769 rfl (lv_at hl 8 rfl) ?_
                                                                  refine lv_goto (tgt := 777) hx hb dL_act_770 (by decide) ?_
                                                                  refine wr_l (vx_runSW (As := [.ref (g 0), .int (v_48 - 2), .int (a1)]) (rest := []) ⟨hx, hb, hml, hown, hts⟩ (c_L_ready l hl9 D ca g x (v_48 - 2) a1 hs H.size) (vx_cwSW 3 hts gL_act_L_ready rfl rfl rfl (by decide +kernel) ⟨Nat.le_of_ble_eq_true rfl, Nat.le_of_ble_eq_true rfl⟩) (tP_S hP hC hD hz hS hA) rfl rfl hl.1 rfl (lv_room (Nat.le_of_ble_eq_true rfl)) dL_act_777 ⟨Nat.le_of_ble_eq_true rfl, Nat.le_of_ble_eq_true rfl⟩) hD hS hA (fun H locs hP hD hS => ?_)
                                                                  exact wl_p (g := g) (g' := g) rfl hx hb hr hAe rfl hP hD hS (Nat.le_of_ble_eq_true rfl) (Nat.le_of_ble_eq_true rfl) dL_act_780 hlocks
                                                                · have hs := sp_f c_53_29 hs
                                                                  by_cases c_53_30 : v_52 = 30
                                                                  · have hs := sp_t c_53_30 hs
                                                                    refine lv_tableIn (off := 589) (tgt := 763) hx hb dL_act_174 (by rw [c_53_30]; decide) (by rw [c_53_30]; decide) (by rw [c_53_30]; decide) (by decide) ?_
                                                                    refine lv_aload_n hx hb dL_act_763 rfl (lv_at hl 7 rfl) ?_
                                                                    refine lv_iload_n hx hb dL_act_764 rfl (lv_at hl 5 rfl) ?_
                                                                    refine lv_iload_n hx hb dL_act_765 rfl (lv_at hl 6 rfl) ?_
                                                                    refine lv_if_eq (tgt := 773) hx hb dL_act_766 (by decide) (fun c9 => absurd c9 (by decide)) (fun _ => ?_)
                                                                    refine lv_iload_n hx hb dL_act_769 rfl (lv_at hl 8 rfl) ?_
                                                                    refine lv_goto (tgt := 777) hx hb dL_act_770 (by decide) ?_
                                                                    refine wr_l (vx_runSW (As := [.ref (g 0), .int (v_48 - 2), .int (a1)]) (rest := []) ⟨hx, hb, hml, hown, hts⟩ (c_L_ready l hl9 D ca g x (v_48 - 2) a1 hs H.size) (vx_cwSW 3 hts gL_act_L_ready rfl rfl rfl (by decide +kernel) ⟨Nat.le_of_ble_eq_true rfl, Nat.le_of_ble_eq_true rfl⟩) (tP_S hP hC hD hz hS hA) rfl rfl hl.1 rfl (lv_room (Nat.le_of_ble_eq_true rfl)) dL_act_777 ⟨Nat.le_of_ble_eq_true rfl, Nat.le_of_ble_eq_true rfl⟩) hD hS hA (fun H locs hP hD hS => ?_)
                                                                    exact wl_p (g := g) (g' := g) rfl hx hb hr hAe rfl hP hD hS (Nat.le_of_ble_eq_true rfl) (Nat.le_of_ble_eq_true rfl) dL_act_780 hlocks
                                                                  · have hs := sp_f c_53_30 hs
                                                                    by_cases c_53_31 : v_52 = 31
                                                                    · have hs := sp_t c_53_31 hs
                                                                      refine lv_tableIn (off := 607) (tgt := 781) hx hb dL_act_174 (by rw [c_53_31]; decide) (by rw [c_53_31]; decide) (by rw [c_53_31]; decide) (by decide) ?_
                                                                      refine lv_aload_n hx hb dL_act_781 rfl (lv_at hl 7 rfl) ?_
                                                                      refine lv_iload hx hb dL_act_782 (lv_at hl 1 rfl) ?_
                                                                      refine lv_iload_n hx hb dL_act_784 rfl (lv_at hl 6 rfl) ?_
                                                                      refine lv_if_eq (tgt := 792) hx hb dL_act_785 (by decide) (fun c9 => absurd c9 (by decide)) (fun _ => ?_)
                                                                      refine lv_iload_n hx hb dL_act_788 rfl (lv_at hl 8 rfl) ?_
                                                                      refine lv_goto (tgt := 794) hx hb dL_act_789 (by decide) ?_
                                                                      refine wr_l (vx_runSW (As := [.ref (g 0), .int (v_51 - 2), .int (a1)]) (rest := []) ⟨hx, hb, hml, hown, hts⟩ (c_L_propose l hl9 D ca g x (v_51 - 2) a1 hs H.size) (vx_cwSW 3 hts gL_act_L_propose rfl rfl rfl (by decide +kernel) ⟨Nat.le_of_ble_eq_true rfl, Nat.le_of_ble_eq_true rfl⟩) (tP_S hP hC hD hz hS hA) rfl rfl hl.1 rfl (lv_room (Nat.le_of_ble_eq_true rfl)) dL_act_794 ⟨Nat.le_of_ble_eq_true rfl, Nat.le_of_ble_eq_true rfl⟩) hD hS hA (fun H locs hP hD hS => ?_)
                                                                      exact wl_p (g := g) (g' := g) rfl hx hb hr hAe rfl hP hD hS (Nat.le_of_ble_eq_true rfl) (Nat.le_of_ble_eq_true rfl) dL_act_797 hlocks
                                                                    · have hs := sp_f c_53_31 hs
                                                                      by_cases c_53_32 : v_52 = 32
                                                                      · have hs := sp_t c_53_32 hs
                                                                        refine lv_tableIn (off := 624) (tgt := 798) hx hb dL_act_174 (by rw [c_53_32]; decide) (by rw [c_53_32]; decide) (by rw [c_53_32]; decide) (by decide) ?_
                                                                        refine lv_aload_n hx hb dL_act_798 rfl (lv_at hl 7 rfl) ?_
                                                                        refine lv_iload hx hb dL_act_799 (lv_at hl 1 rfl) ?_
                                                                        refine lv_iload hx hb dL_act_801 (lv_at hl 0 rfl) ?_
                                                                        refine wr_l (vx_runSW (As := [.ref (g 0), .int (v_51 - 2), .int (b2i (decide (((a1 >>> (15 &&& 31)) &&& 1) = 1)))]) (rest := []) ⟨hx, hb, hml, hown, hts⟩ (c_L_answer l hl9 D ca g x (v_51 - 2) (b2i (decide (((a1 >>> (15 &&& 31)) &&& 1) = 1))) hs H.size) (vx_cwSW 3 hts gL_act_L_answer rfl rfl rfl (by decide +kernel) ⟨Nat.le_of_ble_eq_true rfl, Nat.le_of_ble_eq_true rfl⟩) (tP_S hP hC hD hz hS hA) rfl rfl hl.1 rfl (lv_room (Nat.le_of_ble_eq_true rfl)) dL_act_803 ⟨Nat.le_of_ble_eq_true rfl, Nat.le_of_ble_eq_true rfl⟩) hD hS hA (fun H locs hP hD hS => ?_)
                                                                        exact wl_p (g := g) (g' := g) rfl hx hb hr hAe rfl hP hD hS (Nat.le_of_ble_eq_true rfl) (Nat.le_of_ble_eq_true rfl) dL_act_806 hlocks
                                                                      · have hs := sp_f c_53_32 hs
                                                                        by_cases c_53_33 : v_52 = 33
                                                                        · have hs := sp_t c_53_33 hs
                                                                          refine lv_tableIn (off := 633) (tgt := 807) hx hb dL_act_174 (by rw [c_53_33]; decide) (by rw [c_53_33]; decide) (by rw [c_53_33]; decide) (by decide) ?_
                                                                          refine lv_aload_n hx hb dL_act_807 rfl (lv_at hl 7 rfl) ?_
                                                                          refine lv_iload hx hb dL_act_808 (lv_at hl 1 rfl) ?_
                                                                          refine lv_iload hx hb dL_act_810 (lv_at hl 0 rfl) ?_
                                                                          refine wr_l (vx_runSW (As := [.ref (g 0), .int (v_51 - 2), .int (b2i (decide (((a1 >>> (15 &&& 31)) &&& 1) = 1)))]) (rest := []) ⟨hx, hb, hml, hown, hts⟩ (c_L_scene l hl9 D ca g x (v_51 - 2) (b2i (decide (((a1 >>> (15 &&& 31)) &&& 1) = 1))) hs H.size) (vx_cwSW 3 hts gL_act_L_scene rfl rfl rfl (by decide +kernel) ⟨Nat.le_of_ble_eq_true rfl, Nat.le_of_ble_eq_true rfl⟩) (tP_S hP hC hD hz hS hA) rfl rfl hl.1 rfl (lv_room (Nat.le_of_ble_eq_true rfl)) dL_act_812 ⟨Nat.le_of_ble_eq_true rfl, Nat.le_of_ble_eq_true rfl⟩) hD hS hA (fun H locs hP hD hS => ?_)
                                                                          exact wl_p (g := g) (g' := g) rfl hx hb hr hAe rfl hP hD hS (Nat.le_of_ble_eq_true rfl) (Nat.le_of_ble_eq_true rfl) dL_act_815 hlocks
                                                                        · have hs := sp_f c_53_33 hs
                                                                          by_cases c_53_34 : v_52 = 34
                                                                          · have hs := sp_t c_53_34 hs
                                                                            refine lv_tableIn (off := 642) (tgt := 816) hx hb dL_act_174 (by rw [c_53_34]; decide) (by rw [c_53_34]; decide) (by rw [c_53_34]; decide) (by decide) ?_
                                                                            refine lv_aload_n hx hb dL_act_816 rfl (lv_at hl 7 rfl) ?_
                                                                            refine lv_iload_n hx hb dL_act_817 rfl (lv_at hl 6 rfl) ?_
                                                                            refine lv_if_eq (tgt := 826) hx hb dL_act_818 (by decide) (fun c9 => absurd c9 (by decide)) (fun _ => ?_)
                                                                            refine lv_iload hx hb dL_act_821 (lv_at hl 2 rfl) ?_
                                                                            refine lv_goto (tgt := 835) hx hb dL_act_823 (by decide) ?_
                                                                            refine wr_l (vx_runSW (As := [.ref (g 0), .int (a1 >>> (9 &&& 31))]) (rest := []) ⟨hx, hb, hml, hown, hts⟩ (c_L_show l hl9 D ca g x (a1 >>> (9 &&& 31)) hs H.size) (vx_cwSW 2 hts gL_act_L_show rfl rfl rfl (by decide +kernel) ⟨Nat.le_of_ble_eq_true rfl, Nat.le_of_ble_eq_true rfl⟩) (tP_S hP hC hD hz hS hA) rfl rfl hl.1 rfl (lv_room (Nat.le_of_ble_eq_true rfl)) dL_act_835 ⟨Nat.le_of_ble_eq_true rfl, Nat.le_of_ble_eq_true rfl⟩) hD hS hA (fun H locs hP hD hS => ?_)
                                                                            exact wl_p (g := g) (g' := g) rfl hx hb hr hAe rfl hP hD hS (Nat.le_of_ble_eq_true rfl) (Nat.le_of_ble_eq_true rfl) dL_act_838 hlocks
                                                                          · have hs := sp_f c_53_34 hs
                                                                            have hne : (v_52).toInt < 0 ∨ 34 < (v_52).toInt := by
                                                                              have n_0 := lv_neT (a := 0) c_53_0 rfl
                                                                              have n_1 := lv_neT (a := 1) c_53_1 rfl
                                                                              have n_2 := lv_neT (a := 2) c_53_2 rfl
                                                                              have n_3 := lv_neT (a := 3) c_53_3 rfl
                                                                              have n_4 := lv_neT (a := 4) c_53_4 rfl
                                                                              have n_5 := lv_neT (a := 5) c_53_5 rfl
                                                                              have n_6 := lv_neT (a := 6) c_53_6 rfl
                                                                              have n_7 := lv_neT (a := 7) c_53_7 rfl
                                                                              have n_8 := lv_neT (a := 8) c_53_8 rfl
                                                                              have n_9 := lv_neT (a := 9) c_53_9 rfl
                                                                              have n_10 := lv_neT (a := 10) c_53_10 rfl
                                                                              have n_11 := lv_neT (a := 11) c_53_11 rfl
                                                                              have n_12 := lv_neT (a := 12) c_53_12 rfl
                                                                              have n_13 := lv_neT (a := 13) c_53_13 rfl
                                                                              have n_14 := lv_neT (a := 14) c_53_14 rfl
                                                                              have n_15 := lv_neT (a := 15) c_53_15 rfl
                                                                              have n_16 := lv_neT (a := 16) c_53_16 rfl
                                                                              have n_17 := lv_neT (a := 17) c_53_17 rfl
                                                                              have n_18 := lv_neT (a := 18) c_53_18 rfl
                                                                              have n_19 := lv_neT (a := 19) c_53_19 rfl
                                                                              have n_20 := lv_neT (a := 20) c_53_20 rfl
                                                                              have n_21 := lv_neT (a := 21) c_53_21 rfl
                                                                              have n_22 := lv_neT (a := 22) c_53_22 rfl
                                                                              have n_23 := lv_neT (a := 23) c_53_23 rfl
                                                                              have n_24 := lv_neT (a := 24) c_53_24 rfl
                                                                              have n_25 := lv_neT (a := 25) c_53_25 rfl
                                                                              have n_26 := lv_neT (a := 26) c_53_26 rfl
                                                                              have n_27 := lv_neT (a := 27) c_53_27 rfl
                                                                              have n_28 := lv_neT (a := 28) c_53_28 rfl
                                                                              have n_29 := lv_neT (a := 29) c_53_29 rfl
                                                                              have n_30 := lv_neT (a := 30) c_53_30 rfl
                                                                              have n_31 := lv_neT (a := 31) c_53_31 rfl
                                                                              have n_32 := lv_neT (a := 32) c_53_32 rfl
                                                                              have n_33 := lv_neT (a := 33) c_53_33 rfl
                                                                              have n_34 := lv_neT (a := 34) c_53_34 rfl
                                                                              omega
                                                                            refine lv_tableOut (tgt := 839) hx hb dL_act_174 hne (by decide) ?_
                                                                            refine lv_aload_n hx hb dL_act_839 rfl (lv_at hl 7 rfl) ?_
                                                                            refine lv_iload_n hx hb dL_act_840 rfl (lv_at hl 6 rfl) ?_
                                                                            refine lv_if_eq (tgt := 849) hx hb dL_act_841 (by decide) (fun c9 => absurd c9 (by decide)) (fun _ => ?_)
                                                                            refine lv_iload hx hb dL_act_844 (lv_at hl 2 rfl) ?_
                                                                            refine lv_goto (tgt := 860) hx hb dL_act_846 (by decide) ?_
                                                                            refine wr_l (vx_runSW (As := [.ref (g 0), .int (a1 >>> (9 &&& 31))]) (rest := []) ⟨hx, hb, hml, hown, hts⟩ (c_L_pass l hl9 D ca g x (a1 >>> (9 &&& 31)) hs H.size) (vx_cwSW 2 hts gL_act_L_pass rfl rfl rfl (by decide +kernel) ⟨Nat.le_of_ble_eq_true rfl, Nat.le_of_ble_eq_true rfl⟩) (tP_S hP hC hD hz hS hA) rfl rfl hl.1 rfl (lv_room (Nat.le_of_ble_eq_true rfl)) dL_act_860 ⟨Nat.le_of_ble_eq_true rfl, Nat.le_of_ble_eq_true rfl⟩) hD hS hA (fun H locs hP hD hS => ?_)
                                                                            exact wl_p (g := g) (g' := g) rfl hx hb hr hAe rfl hP hD hS (Nat.le_of_ble_eq_true rfl) (Nat.le_of_ble_eq_true rfl) dL_act_863 hlocks
  rw [hHe, hle] at hgo
  exact hgo
