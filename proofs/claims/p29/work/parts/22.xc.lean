def s_J6_bitCount_0f7a4 (a0 : Int32) : Option Int32 := some ((((((((a0 - (((a0.toUInt32 >>> ((1 : Int32).toUInt32 &&& Int32.toUInt32 31)).toInt32) &&& 1431655765)) &&& 858993459) + ((((a0 - (((a0.toUInt32 >>> ((1 : Int32).toUInt32 &&& Int32.toUInt32 31)).toInt32) &&& 1431655765)).toUInt32 >>> ((2 : Int32).toUInt32 &&& Int32.toUInt32 31)).toInt32) &&& 858993459)) + (((((a0 - (((a0.toUInt32 >>> ((1 : Int32).toUInt32 &&& Int32.toUInt32 31)).toInt32) &&& 1431655765)) &&& 858993459) + ((((a0 - (((a0.toUInt32 >>> ((1 : Int32).toUInt32 &&& Int32.toUInt32 31)).toInt32) &&& 1431655765)).toUInt32 >>> ((2 : Int32).toUInt32 &&& Int32.toUInt32 31)).toInt32) &&& 858993459)).toUInt32 >>> ((4 : Int32).toUInt32 &&& Int32.toUInt32 31)).toInt32)) &&& 252645135) + (((((((a0 - (((a0.toUInt32 >>> ((1 : Int32).toUInt32 &&& Int32.toUInt32 31)).toInt32) &&& 1431655765)) &&& 858993459) + ((((a0 - (((a0.toUInt32 >>> ((1 : Int32).toUInt32 &&& Int32.toUInt32 31)).toInt32) &&& 1431655765)).toUInt32 >>> ((2 : Int32).toUInt32 &&& Int32.toUInt32 31)).toInt32) &&& 858993459)) + (((((a0 - (((a0.toUInt32 >>> ((1 : Int32).toUInt32 &&& Int32.toUInt32 31)).toInt32) &&& 1431655765)) &&& 858993459) + ((((a0 - (((a0.toUInt32 >>> ((1 : Int32).toUInt32 &&& Int32.toUInt32 31)).toInt32) &&& 1431655765)).toUInt32 >>> ((2 : Int32).toUInt32 &&& Int32.toUInt32 31)).toInt32) &&& 858993459)).toUInt32 >>> ((4 : Int32).toUInt32 &&& Int32.toUInt32 31)).toInt32)) &&& 252645135).toUInt32 >>> ((8 : Int32).toUInt32 &&& Int32.toUInt32 31)).toInt32)) + ((((((((a0 - (((a0.toUInt32 >>> ((1 : Int32).toUInt32 &&& Int32.toUInt32 31)).toInt32) &&& 1431655765)) &&& 858993459) + ((((a0 - (((a0.toUInt32 >>> ((1 : Int32).toUInt32 &&& Int32.toUInt32 31)).toInt32) &&& 1431655765)).toUInt32 >>> ((2 : Int32).toUInt32 &&& Int32.toUInt32 31)).toInt32) &&& 858993459)) + (((((a0 - (((a0.toUInt32 >>> ((1 : Int32).toUInt32 &&& Int32.toUInt32 31)).toInt32) &&& 1431655765)) &&& 858993459) + ((((a0 - (((a0.toUInt32 >>> ((1 : Int32).toUInt32 &&& Int32.toUInt32 31)).toInt32) &&& 1431655765)).toUInt32 >>> ((2 : Int32).toUInt32 &&& Int32.toUInt32 31)).toInt32) &&& 858993459)).toUInt32 >>> ((4 : Int32).toUInt32 &&& Int32.toUInt32 31)).toInt32)) &&& 252645135) + (((((((a0 - (((a0.toUInt32 >>> ((1 : Int32).toUInt32 &&& Int32.toUInt32 31)).toInt32) &&& 1431655765)) &&& 858993459) + ((((a0 - (((a0.toUInt32 >>> ((1 : Int32).toUInt32 &&& Int32.toUInt32 31)).toInt32) &&& 1431655765)).toUInt32 >>> ((2 : Int32).toUInt32 &&& Int32.toUInt32 31)).toInt32) &&& 858993459)) + (((((a0 - (((a0.toUInt32 >>> ((1 : Int32).toUInt32 &&& Int32.toUInt32 31)).toInt32) &&& 1431655765)) &&& 858993459) + ((((a0 - (((a0.toUInt32 >>> ((1 : Int32).toUInt32 &&& Int32.toUInt32 31)).toInt32) &&& 1431655765)).toUInt32 >>> ((2 : Int32).toUInt32 &&& Int32.toUInt32 31)).toInt32) &&& 858993459)).toUInt32 >>> ((4 : Int32).toUInt32 &&& Int32.toUInt32 31)).toInt32)) &&& 252645135).toUInt32 >>> ((8 : Int32).toUInt32 &&& Int32.toUInt32 31)).toInt32)).toUInt32 >>> ((16 : Int32).toUInt32 &&& Int32.toUInt32 31)).toInt32)) &&& 63)
set_option maxHeartbeats 4000000 in
set_option maxRecDepth 100000 in
theorem c_J6_bitCount_0f7a4 (l : Launch) (D : va_G) (ca : Nat → ClassId) (a0 : Int32) {r : Int32} (hs : s_J6_bitCount_0f7a4 a0 = some r) : Met l yJ6_bitCount_0f7a4 wsJ6_bitCount_0f7a4 ({ frames := 0, cells := 0, slots := 0, locals := 0 }) (rP [.int (a0)] D ca []) (vp_Si (fun z => z = r)) 0 0 (fun _ => False) := by
  refine Met.ofW (cc := cJ6_bitCount_0f7a4) (maxL := 1) (ret := (some .int)) (by decide) rfl ?_
  intro p e s m args below meth c s₁ B hml hv
  obtain ⟨rfl, hP, hC⟩ := hv
  have hx := B.exec
  have hb := B.bytes
  have hr := B.returns
  have hts := atoms_spec (ws := wsJ6_bitCount_0f7a4) B.pre
  have hown : s.vm.findClass RJ6 = some m.cls := findClass_of_methodNamed B.named
  have hlocks := B.notSynchronized
  have hK := hC.1
  have hl := lv_entry ([.int (a0)]) (n := 1) (Nat.le_of_ble_eq_true rfl)
  rw [lg_entry_eq]
  generalize (lg_sl ([.int (a0)]) ++ List.replicate (1 - (lg_sl ([.int (a0)])).length) Slot.unset).toArray = ls at hl ⊢
  have hl : lv_has ls 1 [(0, .int (a0))] := hl
  unfold s_J6_bitCount_0f7a4 at hs
  refine lv_iload_n hx hb dJ6_bitCount_0f7a4_0 rfl (lv_at hl 0 rfl) ?_
  refine lv_iload_n hx hb dJ6_bitCount_0f7a4_1 rfl (lv_at hl 0 rfl) ?_
  refine lv_iconst (v := 1) hx hb dJ6_bitCount_0f7a4_2 (by decide) ?_
  refine lv_iushr hx hb dJ6_bitCount_0f7a4_3 rfl ?_
  refine lv_ldcw (v := 1431655765) hx hb hown (hts (.constant RJ6 265 (1431655765)) (by decide +kernel)) dJ6_bitCount_0f7a4_4 ?_
  refine lv_iand hx hb dJ6_bitCount_0f7a4_7 ?_
  refine lv_isub hx hb dJ6_bitCount_0f7a4_8 ?_
  refine lv_istore_n (lv' := [(0, .int (a0 - (((a0.toUInt32 >>> ((1 : Int32).toUInt32 &&& Int32.toUInt32 31)).toInt32) &&& 1431655765)))]) hx hb dJ6_bitCount_0f7a4_9 rfl hl (by decide) rfl (fun ls hl => ?_)
  refine lv_iload_n hx hb dJ6_bitCount_0f7a4_10 rfl (lv_at hl 0 rfl) ?_
  refine lv_ldcw (v := 858993459) hx hb hown (hts (.constant RJ6 266 (858993459)) (by decide +kernel)) dJ6_bitCount_0f7a4_11 ?_
  refine lv_iand hx hb dJ6_bitCount_0f7a4_14 ?_
  refine lv_iload_n hx hb dJ6_bitCount_0f7a4_15 rfl (lv_at hl 0 rfl) ?_
  refine lv_iconst (v := 2) hx hb dJ6_bitCount_0f7a4_16 (by decide) ?_
  refine lv_iushr hx hb dJ6_bitCount_0f7a4_17 rfl ?_
  refine lv_ldcw (v := 858993459) hx hb hown (hts (.constant RJ6 266 (858993459)) (by decide +kernel)) dJ6_bitCount_0f7a4_18 ?_
  refine lv_iand hx hb dJ6_bitCount_0f7a4_21 ?_
  refine lv_iadd hx hb dJ6_bitCount_0f7a4_22 ?_
  refine lv_istore_n (lv' := [(0, .int (((a0 - (((a0.toUInt32 >>> ((1 : Int32).toUInt32 &&& Int32.toUInt32 31)).toInt32) &&& 1431655765)) &&& 858993459) + ((((a0 - (((a0.toUInt32 >>> ((1 : Int32).toUInt32 &&& Int32.toUInt32 31)).toInt32) &&& 1431655765)).toUInt32 >>> ((2 : Int32).toUInt32 &&& Int32.toUInt32 31)).toInt32) &&& 858993459)))]) hx hb dJ6_bitCount_0f7a4_23 rfl hl (by decide) rfl (fun ls hl => ?_)
  refine lv_iload_n hx hb dJ6_bitCount_0f7a4_24 rfl (lv_at hl 0 rfl) ?_
  refine lv_iload_n hx hb dJ6_bitCount_0f7a4_25 rfl (lv_at hl 0 rfl) ?_
  refine lv_iconst (v := 4) hx hb dJ6_bitCount_0f7a4_26 (by decide) ?_
  refine lv_iushr hx hb dJ6_bitCount_0f7a4_27 rfl ?_
  refine lv_iadd hx hb dJ6_bitCount_0f7a4_28 ?_
  refine lv_ldcw (v := 252645135) hx hb hown (hts (.constant RJ6 267 (252645135)) (by decide +kernel)) dJ6_bitCount_0f7a4_29 ?_
  refine lv_iand hx hb dJ6_bitCount_0f7a4_32 ?_
  refine lv_istore_n (lv' := [(0, .int (((((a0 - (((a0.toUInt32 >>> ((1 : Int32).toUInt32 &&& Int32.toUInt32 31)).toInt32) &&& 1431655765)) &&& 858993459) + ((((a0 - (((a0.toUInt32 >>> ((1 : Int32).toUInt32 &&& Int32.toUInt32 31)).toInt32) &&& 1431655765)).toUInt32 >>> ((2 : Int32).toUInt32 &&& Int32.toUInt32 31)).toInt32) &&& 858993459)) + (((((a0 - (((a0.toUInt32 >>> ((1 : Int32).toUInt32 &&& Int32.toUInt32 31)).toInt32) &&& 1431655765)) &&& 858993459) + ((((a0 - (((a0.toUInt32 >>> ((1 : Int32).toUInt32 &&& Int32.toUInt32 31)).toInt32) &&& 1431655765)).toUInt32 >>> ((2 : Int32).toUInt32 &&& Int32.toUInt32 31)).toInt32) &&& 858993459)).toUInt32 >>> ((4 : Int32).toUInt32 &&& Int32.toUInt32 31)).toInt32)) &&& 252645135))]) hx hb dJ6_bitCount_0f7a4_33 rfl hl (by decide) rfl (fun ls hl => ?_)
  refine lv_iload_n hx hb dJ6_bitCount_0f7a4_34 rfl (lv_at hl 0 rfl) ?_
  refine lv_iload_n hx hb dJ6_bitCount_0f7a4_35 rfl (lv_at hl 0 rfl) ?_
  refine lv_bipush (v := 8) hx hb dJ6_bitCount_0f7a4_36 (by decide) ?_
  refine lv_iushr hx hb dJ6_bitCount_0f7a4_38 rfl ?_
  refine lv_iadd hx hb dJ6_bitCount_0f7a4_39 ?_
  refine lv_istore_n (lv' := [(0, .int ((((((a0 - (((a0.toUInt32 >>> ((1 : Int32).toUInt32 &&& Int32.toUInt32 31)).toInt32) &&& 1431655765)) &&& 858993459) + ((((a0 - (((a0.toUInt32 >>> ((1 : Int32).toUInt32 &&& Int32.toUInt32 31)).toInt32) &&& 1431655765)).toUInt32 >>> ((2 : Int32).toUInt32 &&& Int32.toUInt32 31)).toInt32) &&& 858993459)) + (((((a0 - (((a0.toUInt32 >>> ((1 : Int32).toUInt32 &&& Int32.toUInt32 31)).toInt32) &&& 1431655765)) &&& 858993459) + ((((a0 - (((a0.toUInt32 >>> ((1 : Int32).toUInt32 &&& Int32.toUInt32 31)).toInt32) &&& 1431655765)).toUInt32 >>> ((2 : Int32).toUInt32 &&& Int32.toUInt32 31)).toInt32) &&& 858993459)).toUInt32 >>> ((4 : Int32).toUInt32 &&& Int32.toUInt32 31)).toInt32)) &&& 252645135) + (((((((a0 - (((a0.toUInt32 >>> ((1 : Int32).toUInt32 &&& Int32.toUInt32 31)).toInt32) &&& 1431655765)) &&& 858993459) + ((((a0 - (((a0.toUInt32 >>> ((1 : Int32).toUInt32 &&& Int32.toUInt32 31)).toInt32) &&& 1431655765)).toUInt32 >>> ((2 : Int32).toUInt32 &&& Int32.toUInt32 31)).toInt32) &&& 858993459)) + (((((a0 - (((a0.toUInt32 >>> ((1 : Int32).toUInt32 &&& Int32.toUInt32 31)).toInt32) &&& 1431655765)) &&& 858993459) + ((((a0 - (((a0.toUInt32 >>> ((1 : Int32).toUInt32 &&& Int32.toUInt32 31)).toInt32) &&& 1431655765)).toUInt32 >>> ((2 : Int32).toUInt32 &&& Int32.toUInt32 31)).toInt32) &&& 858993459)).toUInt32 >>> ((4 : Int32).toUInt32 &&& Int32.toUInt32 31)).toInt32)) &&& 252645135).toUInt32 >>> ((8 : Int32).toUInt32 &&& Int32.toUInt32 31)).toInt32)))]) hx hb dJ6_bitCount_0f7a4_40 rfl hl (by decide) rfl (fun ls hl => ?_)
  refine lv_iload_n hx hb dJ6_bitCount_0f7a4_41 rfl (lv_at hl 0 rfl) ?_
  refine lv_iload_n hx hb dJ6_bitCount_0f7a4_42 rfl (lv_at hl 0 rfl) ?_
  refine lv_bipush (v := 16) hx hb dJ6_bitCount_0f7a4_43 (by decide) ?_
  refine lv_iushr hx hb dJ6_bitCount_0f7a4_45 rfl ?_
  refine lv_iadd hx hb dJ6_bitCount_0f7a4_46 ?_
  refine lv_istore_n (lv' := [(0, .int (((((((a0 - (((a0.toUInt32 >>> ((1 : Int32).toUInt32 &&& Int32.toUInt32 31)).toInt32) &&& 1431655765)) &&& 858993459) + ((((a0 - (((a0.toUInt32 >>> ((1 : Int32).toUInt32 &&& Int32.toUInt32 31)).toInt32) &&& 1431655765)).toUInt32 >>> ((2 : Int32).toUInt32 &&& Int32.toUInt32 31)).toInt32) &&& 858993459)) + (((((a0 - (((a0.toUInt32 >>> ((1 : Int32).toUInt32 &&& Int32.toUInt32 31)).toInt32) &&& 1431655765)) &&& 858993459) + ((((a0 - (((a0.toUInt32 >>> ((1 : Int32).toUInt32 &&& Int32.toUInt32 31)).toInt32) &&& 1431655765)).toUInt32 >>> ((2 : Int32).toUInt32 &&& Int32.toUInt32 31)).toInt32) &&& 858993459)).toUInt32 >>> ((4 : Int32).toUInt32 &&& Int32.toUInt32 31)).toInt32)) &&& 252645135) + (((((((a0 - (((a0.toUInt32 >>> ((1 : Int32).toUInt32 &&& Int32.toUInt32 31)).toInt32) &&& 1431655765)) &&& 858993459) + ((((a0 - (((a0.toUInt32 >>> ((1 : Int32).toUInt32 &&& Int32.toUInt32 31)).toInt32) &&& 1431655765)).toUInt32 >>> ((2 : Int32).toUInt32 &&& Int32.toUInt32 31)).toInt32) &&& 858993459)) + (((((a0 - (((a0.toUInt32 >>> ((1 : Int32).toUInt32 &&& Int32.toUInt32 31)).toInt32) &&& 1431655765)) &&& 858993459) + ((((a0 - (((a0.toUInt32 >>> ((1 : Int32).toUInt32 &&& Int32.toUInt32 31)).toInt32) &&& 1431655765)).toUInt32 >>> ((2 : Int32).toUInt32 &&& Int32.toUInt32 31)).toInt32) &&& 858993459)).toUInt32 >>> ((4 : Int32).toUInt32 &&& Int32.toUInt32 31)).toInt32)) &&& 252645135).toUInt32 >>> ((8 : Int32).toUInt32 &&& Int32.toUInt32 31)).toInt32)) + ((((((((a0 - (((a0.toUInt32 >>> ((1 : Int32).toUInt32 &&& Int32.toUInt32 31)).toInt32) &&& 1431655765)) &&& 858993459) + ((((a0 - (((a0.toUInt32 >>> ((1 : Int32).toUInt32 &&& Int32.toUInt32 31)).toInt32) &&& 1431655765)).toUInt32 >>> ((2 : Int32).toUInt32 &&& Int32.toUInt32 31)).toInt32) &&& 858993459)) + (((((a0 - (((a0.toUInt32 >>> ((1 : Int32).toUInt32 &&& Int32.toUInt32 31)).toInt32) &&& 1431655765)) &&& 858993459) + ((((a0 - (((a0.toUInt32 >>> ((1 : Int32).toUInt32 &&& Int32.toUInt32 31)).toInt32) &&& 1431655765)).toUInt32 >>> ((2 : Int32).toUInt32 &&& Int32.toUInt32 31)).toInt32) &&& 858993459)).toUInt32 >>> ((4 : Int32).toUInt32 &&& Int32.toUInt32 31)).toInt32)) &&& 252645135) + (((((((a0 - (((a0.toUInt32 >>> ((1 : Int32).toUInt32 &&& Int32.toUInt32 31)).toInt32) &&& 1431655765)) &&& 858993459) + ((((a0 - (((a0.toUInt32 >>> ((1 : Int32).toUInt32 &&& Int32.toUInt32 31)).toInt32) &&& 1431655765)).toUInt32 >>> ((2 : Int32).toUInt32 &&& Int32.toUInt32 31)).toInt32) &&& 858993459)) + (((((a0 - (((a0.toUInt32 >>> ((1 : Int32).toUInt32 &&& Int32.toUInt32 31)).toInt32) &&& 1431655765)) &&& 858993459) + ((((a0 - (((a0.toUInt32 >>> ((1 : Int32).toUInt32 &&& Int32.toUInt32 31)).toInt32) &&& 1431655765)).toUInt32 >>> ((2 : Int32).toUInt32 &&& Int32.toUInt32 31)).toInt32) &&& 858993459)).toUInt32 >>> ((4 : Int32).toUInt32 &&& Int32.toUInt32 31)).toInt32)) &&& 252645135).toUInt32 >>> ((8 : Int32).toUInt32 &&& Int32.toUInt32 31)).toInt32)).toUInt32 >>> ((16 : Int32).toUInt32 &&& Int32.toUInt32 31)).toInt32)))]) hx hb dJ6_bitCount_0f7a4_47 rfl hl (by decide) rfl (fun ls hl => ?_)
  refine lv_iload_n hx hb dJ6_bitCount_0f7a4_48 rfl (lv_at hl 0 rfl) ?_
  refine lv_bipush (v := 63) hx hb dJ6_bitCount_0f7a4_49 (by decide) ?_
  refine lv_iand hx hb dJ6_bitCount_0f7a4_51 ?_
  exact rt_i hx hb hr hs dJ6_bitCount_0f7a4_52 hlocks
def s_X4_least_b21 : Nat → XS → Int32 → Int32 → Int32 → Int32 → Option (Int32 × XS)
  | 0, _, _, _, _, _ => none
  | F + 1, xx, p1, p2, p3, p4 => (if p1 < p4 then some (p2, xx) else (s_J6_bitCount_0f7a4 p4).bind fun v_2 => (if (p4 &&& (p1 ^^^ (-1))) = 0 then (if p3 ≤ v_2 then s_X4_least_b21  F (xx) (p1) (p2) (p3) (p4 + 1) else (s_X3_coversAll xx (xx.1 0 5) p4 (xx.1 0 6)).bind fun v_5 => (if v_5 = 0 then s_X4_least_b21  F (xx) (p1) (p2) (p3) (p4 + 1) else s_X4_least_b21  F (xx) (p1) (p4) (v_2) (p4 + 1))) else s_X4_least_b21  F (xx) (p1) (p2) (p3) (p4 + 1)))
def s_X4_least (x : XS) : Option (Int32 × XS) := (s_X4_surveyLights x).bind fun v_7 => (s_X4_unfailedProjectors v_7).bind fun v_8 => s_X4_least_b21   FU (v_7) (v_8) (-1) ((v_7.1 0 2) + 1) (0)
set_option maxHeartbeats 4000000 in
set_option maxRecDepth 100000 in
theorem c_X4_least (l : Launch) (D : va_G) (ca : Nat → ClassId) (g : Nat → Nat) (x : XS) {r : (Int32 × XS)} (hs : s_X4_least x = some r) (sz : Nat) : Met l yX4_least wsX4_least ({ frames := 6, cells := 0, slots := 0, locals := 139 }) (wP [.ref (g 0)] D ca (wX g ca x) sz) (wQi r.1 D (wX g ca x) (wX g ca r.2) sz) 0 0 (va_A (wX g ca x) sz) := by
  refine Met.ofW (cc := cX4_least) (maxL := 6) (ret := (some .int)) (by decide) rfl ?_
  intro p e s m args below meth c s₁ B hml hv
  obtain ⟨rfl, hsz, hP, hC, hD0⟩ := hv
  have hx := B.exec
  have hb := B.bytes
  have hr := B.returns
  have hts := atoms_spec (ws := wsX4_least) B.pre
  have hown : s.vm.findClass RX4 = some m.cls := findClass_of_methodNamed B.named
  have hlocks := B.notSynchronized
  have hK := hC.1
  subst hsz
  have hD := hD0.self (sz := s.heap.size)
  generalize hAe : va_A (wX g ca x) s.heap.size = A at hD ⊢
  have hA : ∀ q : Nat, s.heap.size ≤ q → A q := fun q h => by rw [← hAe]; exact Or.inr h
  have hS : va_S A s.heap s.heap [] := va_S.rf
  skip
  have iX4 : ∀ w ∈ u_ws RX4 TX4 16, w ∈ wsX4_least := by decide +kernel
  have hl := lv_entry ([.ref (g 0)]) (n := 6) (Nat.le_of_ble_eq_true rfl)
  rw [lg_entry_eq]
  generalize (lg_sl ([.ref (g 0)]) ++ List.replicate (6 - (lg_sl ([.ref (g 0)])).length) Slot.unset).toArray = ls at hl ⊢
  have hl : lv_has ls 6 [(0, .ref (g 0))] := hl
  have b21 : ∀ (F : Nat) (xx : XS) (p1 : Int32) (p2 : Int32) (p3 : Int32) (p4 : Int32), s_X4_least_b21  F xx p1 p2 p3 p4 = some r → ∀ (H : Heap) (locs : List Loc), va_P D vwCl (wX g ca xx) H → va_D A (wX g ca xx) → va_S A s.heap H locs → ∀ (ls : Array Slot), lv_has ls 6 [(0, .ref (g 0)), (1, .int (p1)), (2, .int (p2)), (3, .int (p3)), (4, .int (p4))] → W p l e (headSpec wsX4_least ({ frames := 6, cells := 0, slots := 0, locals := 139 })).room s m #[.ref (g 0)] below meth c H locs 0 0 (MQ below (wQi r.1 D (wX g ca x) (wX g ca r.2) s.heap.size) #[.ref (g 0)] s 0 0 A) (F0 m 21 ls []) := by
    intro F
    induction F with
    | zero =>
      intro xx p1 p2 p3 p4 hs
      simp [s_X4_least_b21] at hs
    | succ F ih21 =>
      intro xx p1 p2 p3 p4 hs H locs hP hD hS ls hl
      rw [s_X4_least_b21] at hs
      refine lv_iload hx hb dX4_least_21 (lv_at hl 4 rfl) ?_
      refine lv_iload_n hx hb dX4_least_23 rfl (lv_at hl 1 rfl) ?_
      refine lv_icmp_gt (tgt := 81) hx hb dX4_least_24 (by decide) (fun c_1 => ?_) (fun c_1 => ?_)
      · have hs := sp_t c_1 hs
        refine lv_iload_n hx hb dX4_least_81 rfl (lv_at hl 2 rfl) ?_
        exact wt_i (f := wX g ca) hx hb hr hAe hs hP hD hS dX4_least_82 hlocks
      · have hs := sp_f c_1 hs
        refine lv_iload hx hb dX4_least_27 (lv_at hl 4 rfl) ?_
        obtain ⟨v_2, h_2, hs⟩ := sp_b hs
        refine rd_i (va_runS (As := [.int (p4)]) (rest := []) ⟨hx, hb, hml, hown, hts⟩ (c_J6_bitCount_0f7a4 l D ca p4 h_2) (va_cwS 1 hts gX4_least_J6_bitCount_0f7a4 rfl rfl rfl (by decide +kernel) ⟨Nat.le_of_ble_eq_true rfl, Nat.le_of_ble_eq_true rfl⟩) (rP_S va_P_nil hC) rfl rfl hl.1 rfl (lv_room (Nat.le_of_ble_eq_true rfl)) dX4_least_29 ⟨Nat.zero_le _, Nat.zero_le _⟩) ?_
        refine lv_istore (lv' := [(5, .int (v_2)), (0, .ref (g 0)), (1, .int (p1)), (2, .int (p2)), (3, .int (p3)), (4, .int (p4))]) hx hb dX4_least_32 hl (by decide) rfl (fun ls hl => ?_)
        refine lv_iload hx hb dX4_least_34 (lv_at hl 5 rfl) ?_
        refine lv_iload_n hx hb dX4_least_36 rfl (lv_at hl 2 rfl) ?_
        refine lv_iconst (v := -1) hx hb dX4_least_37 (by decide) ?_
        refine lv_ixor hx hb dX4_least_38 ?_
        refine lv_iand hx hb dX4_least_39 ?_
        refine lv_if_ne (tgt := 75) hx hb dX4_least_40 (by decide) (fun c_3 => ?_) (fun c_3 => ?_)
        · have hs := sp_f c_3 hs
          refine lv_iinc (v := p4 + 1) (lv' := [(4, .int (p4 + 1)), (5, .int (v_2)), (0, .ref (g 0)), (1, .int (p1)), (2, .int (p2)), (3, .int (p3))]) hx hb dX4_least_75 hl (k := 5) rfl rfl (by decide) rfl (fun ls hl => ?_)
          refine lv_goto (tgt := 21) hx hb dX4_least_78 (by decide) ?_
          exact ih21  (xx) (p1) (p2) (p3) (p4 + 1) hs H locs hP hD hS ls (lv_sub hl [2, 3, 4, 5, 0] rfl)
        · have hs := sp_t c_3 hs
          refine lv_iload hx hb dX4_least_43 (lv_at hl 0 rfl) ?_
          refine lv_iload_n hx hb dX4_least_45 rfl (lv_at hl 4 rfl) ?_
          refine lv_icmp_ge (tgt := 75) hx hb dX4_least_46 (by decide) (fun c_4 => ?_) (fun c_4 => ?_)
          · have hs := sp_t c_4 hs
            refine lv_iinc (v := p4 + 1) (lv' := [(4, .int (p4 + 1)), (5, .int (v_2)), (0, .ref (g 0)), (1, .int (p1)), (2, .int (p2)), (3, .int (p3))]) hx hb dX4_least_75 hl (k := 5) rfl rfl (by decide) rfl (fun ls hl => ?_)
            refine lv_goto (tgt := 21) hx hb dX4_least_78 (by decide) ?_
            exact ih21  (xx) (p1) (p2) (p3) (p4 + 1) hs H locs hP hD hS ls (lv_sub hl [2, 3, 4, 5, 0] rfl)
          · have hs := sp_f c_4 hs
            refine lv_aload_n hx hb dX4_least_49 rfl (lv_at hl 1 rfl) ?_
            refine va_get (D := D) (ci := 4) (fs := fsX g (xx)) (v := .ref (g 4)) (C := RX4) (T := TX4) (N := 16) hx hb hts iX4 hown hK hP 0 rfl rfl 7 (by decide) (hts (.fieldLink RX4 42 "FacadeShow" "survey" "LFacadeShow$Survey;") (by decide +kernel)) (fun _ h9 => h9) rfl dX4_least_50 ?_
            refine lv_aload_n hx hb dX4_least_53 rfl (lv_at hl 1 rfl) ?_
            refine va_get (D := D) (ci := 4) (fs := fsX g (xx)) (v := .int (xx.1 0 5)) (C := RX4) (T := TX4) (N := 16) hx hb hts iX4 hown hK hP 0 rfl rfl 5 (by decide) (hts (.fieldLink RX4 33 "FacadeShow" "needed" "I") (by decide +kernel)) (fun _ h9 => h9) rfl dX4_least_54 ?_
            refine lv_iload hx hb dX4_least_57 (lv_at hl 5 rfl) ?_
            refine lv_aload_n hx hb dX4_least_59 rfl (lv_at hl 1 rfl) ?_
            refine va_get (D := D) (ci := 4) (fs := fsX g (xx)) (v := .int (xx.1 0 6)) (C := RX4) (T := TX4) (N := 16) hx hb hts iX4 hown hK hP 0 rfl rfl 6 (by decide) (hts (.fieldLink RX4 36 "FacadeShow" "levelNow" "I") (by decide +kernel)) (fun _ h9 => h9) rfl dX4_least_60 ?_
            obtain ⟨v_5, h_5, hs⟩ := sp_b hs
            refine rd_i (va_runVN (As := [.int (xx.1 0 5), .int (p4), .int (xx.1 0 6)]) (rest := []) ⟨hx, hb, hml, hown, hts⟩ (c_X3_coversAll l D ca g xx (xx.1 0 5) p4 (xx.1 0 6) h_5) ⟨va_cnB 3 hts gX4_least_X3_coversAll_n218 rfl rfl rfl (hC.2.1 _ nk_X4_218) (hts (.initialized RX3) (by decide +kernel)) (by decide +kernel) ⟨Nat.le_of_ble_eq_true rfl, Nat.le_of_ble_eq_true rfl⟩, hts (.instanceMethod yX3_coversAll) (by decide +kernel), hts (.selects RX3 yX3_coversAll yX3_coversAll) (by decide +kernel)⟩ (rP_V (q := (RX3, TX3, 2)) hP hC 7 rfl rfl) rfl rfl hl.1 rfl (lv_room (Nat.le_of_ble_eq_true rfl)) dX4_least_63 ⟨Nat.zero_le _, Nat.zero_le _⟩) ?_
            refine lv_if_eq (tgt := 75) hx hb dX4_least_66 (by decide) (fun c_6 => ?_) (fun c_6 => ?_)
            · have hs := sp_t c_6 hs
              refine lv_iinc (v := p4 + 1) (lv' := [(4, .int (p4 + 1)), (5, .int (v_2)), (0, .ref (g 0)), (1, .int (p1)), (2, .int (p2)), (3, .int (p3))]) hx hb dX4_least_75 hl (k := 5) rfl rfl (by decide) rfl (fun ls hl => ?_)
              refine lv_goto (tgt := 21) hx hb dX4_least_78 (by decide) ?_
              exact ih21  (xx) (p1) (p2) (p3) (p4 + 1) hs H locs hP hD hS ls (lv_sub hl [2, 3, 4, 5, 0] rfl)
            · have hs := sp_f c_6 hs
              refine lv_iload hx hb dX4_least_69 (lv_at hl 5 rfl) ?_
              refine lv_istore_n (lv' := [(2, .int (p4)), (5, .int (v_2)), (0, .ref (g 0)), (1, .int (p1)), (3, .int (p3)), (4, .int (p4))]) hx hb dX4_least_71 rfl hl (by decide) rfl (fun ls hl => ?_)
              refine lv_iload hx hb dX4_least_72 (lv_at hl 1 rfl) ?_
              refine lv_istore_n (lv' := [(3, .int (v_2)), (2, .int (p4)), (5, .int (v_2)), (0, .ref (g 0)), (1, .int (p1)), (4, .int (p4))]) hx hb dX4_least_74 rfl hl (by decide) rfl (fun ls hl => ?_)
              refine lv_iinc (v := p4 + 1) (lv' := [(4, .int (p4 + 1)), (3, .int (v_2)), (2, .int (p4)), (5, .int (v_2)), (0, .ref (g 0)), (1, .int (p1))]) hx hb dX4_least_75 hl (k := 5) rfl rfl (by decide) rfl (fun ls hl => ?_)
              refine lv_goto (tgt := 21) hx hb dX4_least_78 (by decide) ?_
              exact ih21  (xx) (p1) (p4) (v_2) (p4 + 1) hs H locs hP hD hS ls (lv_sub hl [4, 5, 2, 1, 0] rfl)
  unfold s_X4_least at hs
  obtain ⟨H, hHe⟩ : ∃ H, H = s.heap := ⟨_, rfl⟩
  obtain ⟨locs, hle⟩ : ∃ z : List Loc, z = [] := ⟨_, rfl⟩
  have hP : va_P D vwCl (wX g ca x) H := by rw [hHe]; exact hP
  have hS : va_S A s.heap H locs := by rw [hHe, hle]; exact hS
  show W p l e (headSpec wsX4_least ({ frames := 6, cells := 0, slots := 0, locals := 139 })).room s m #[.ref (g 0)] below meth c s.heap [] 0 0 _ _
  have hgo : W p l e (headSpec wsX4_least ({ frames := 6, cells := 0, slots := 0, locals := 139 })).room s m #[.ref (g 0)] below meth c H locs 0 0 (MQ below (wQi r.1 D (wX g ca x) (wX g ca r.2) s.heap.size) #[.ref (g 0)] s 0 0 A) (F0 m 0 ls []) := by
    refine lv_aload_n hx hb dX4_least_0 rfl (lv_at hl 0 rfl) ?_
    obtain ⟨v_7, h_7, hs⟩ := sp_b hs
    refine wr_v (va_runV (As := []) (rest := []) ⟨hx, hb, hml, hown, hts⟩ (c_X4_surveyLights l D ca g x h_7 H.size) (cwV 0 hts gX4_least_X4_surveyLights rfl rfl rfl (by decide +kernel) ⟨Nat.le_of_ble_eq_true rfl, Nat.le_of_ble_eq_true rfl⟩) (wP_V (q := (RX4, TX4, 16)) hP hC hD 0 rfl rfl) rfl rfl hl.1 rfl (lv_room (Nat.le_of_ble_eq_true rfl)) dX4_least_1 ⟨Nat.zero_le _, Nat.zero_le _⟩) hD hS hA (fun H locs hP hD hS => ?_)
    refine lv_aload_n hx hb dX4_least_4 rfl (lv_at hl 0 rfl) ?_
    obtain ⟨v_8, h_8, hs⟩ := sp_b hs
    refine rd_i (va_runV (As := []) (rest := []) ⟨hx, hb, hml, hown, hts⟩ (c_X4_unfailedProjectors l D ca g v_7 h_8) (cwV 0 hts gX4_least_X4_unfailedProjectors rfl rfl rfl (by decide +kernel) ⟨Nat.le_of_ble_eq_true rfl, Nat.le_of_ble_eq_true rfl⟩) (rP_V (q := (RX4, TX4, 16)) hP hC 0 rfl rfl) rfl rfl hl.1 rfl (lv_room (Nat.le_of_ble_eq_true rfl)) dX4_least_5 ⟨Nat.zero_le _, Nat.zero_le _⟩) ?_
    refine lv_istore_n (lv' := [(1, .int (v_8)), (0, .ref (g 0))]) hx hb dX4_least_8 rfl hl (by decide) rfl (fun ls hl => ?_)
    refine lv_iconst (v := -1) hx hb dX4_least_9 (by decide) ?_
    refine lv_istore_n (lv' := [(2, .int (-1)), (1, .int (v_8)), (0, .ref (g 0))]) hx hb dX4_least_10 rfl hl (by decide) rfl (fun ls hl => ?_)
    refine lv_aload_n hx hb dX4_least_11 rfl (lv_at hl 2 rfl) ?_
    refine va_get (D := D) (ci := 4) (fs := fsX g (v_7)) (v := .int (v_7.1 0 2)) (C := RX4) (T := TX4) (N := 16) hx hb hts iX4 hown hK hP 0 rfl rfl 2 (by decide) (hts (.fieldLink RX4 22 "FacadeShow" "projectorCount" "I") (by decide +kernel)) (fun _ h9 => h9) rfl dX4_least_12 ?_
    refine lv_iconst (v := 1) hx hb dX4_least_15 (by decide) ?_
    refine lv_iadd hx hb dX4_least_16 ?_
    refine lv_istore_n (lv' := [(3, .int ((v_7.1 0 2) + 1)), (2, .int (-1)), (1, .int (v_8)), (0, .ref (g 0))]) hx hb dX4_least_17 rfl hl (by decide) rfl (fun ls hl => ?_)
    refine lv_iconst (v := 0) hx hb dX4_least_18 (by decide) ?_
    refine lv_istore (lv' := [(4, .int (0)), (3, .int ((v_7.1 0 2) + 1)), (2, .int (-1)), (1, .int (v_8)), (0, .ref (g 0))]) hx hb dX4_least_19 hl (by decide) rfl (fun ls hl => ?_)
    exact b21  FU (v_7) (v_8) (-1) ((v_7.1 0 2) + 1) (0) hs H locs hP hD hS ls (lv_sub hl [4, 3, 2, 1, 0] rfl)
  rw [hHe, hle] at hgo
  exact hgo
def s_X4_leastAnew_b21 (k11 : XS → Int32 → Int32 → Option (Int32 × XS)) : Nat → XS → Int32 → Int32 → Int32 → Option (Int32 × XS)
  | 0, _, _, _, _ => none
  | F + 1, xx, p1, p2, p3 => (if p1 < p3 then k11 (xx) (p1) (p2 + 1) else (if (p3 &&& (p1 ^^^ (-1))) = 0 then (s_J6_bitCount_0f7a4 p3).bind fun v_3 => (if v_3 = p2 then (s_X3_coversAll xx (xx.1 0 5) p3 (xx.1 0 6)).bind fun v_5 => (if v_5 = 0 then s_X4_leastAnew_b21 k11 F (xx) (p1) (p2) (p3 + 1) else some (p2, xx)) else s_X4_leastAnew_b21 k11 F (xx) (p1) (p2) (p3 + 1)) else s_X4_leastAnew_b21 k11 F (xx) (p1) (p2) (p3 + 1)))
def s_X4_leastAnew_b11 : Nat → XS → Int32 → Int32 → Option (Int32 × XS)
  | 0, _, _, _ => none
  | F + 1, xx, p1, p2 => (if (xx.1 0 2) < p2 then some (-1, xx) else s_X4_leastAnew_b21  (fun zx z_p1 z_p2 => s_X4_leastAnew_b11  F zx z_p1 z_p2) FU (xx) (p1) (p2) (0))
def s_X4_leastAnew (x : XS) : Option (Int32 × XS) := (s_X4_surveyLights x).bind fun v_8 => (s_X4_unfailedProjectors v_8).bind fun v_9 => s_X4_leastAnew_b11   FU (v_8) (v_9) (0)
set_option maxHeartbeats 4000000 in
set_option maxRecDepth 100000 in
theorem c_X4_leastAnew (l : Launch) (D : va_G) (ca : Nat → ClassId) (g : Nat → Nat) (x : XS) {r : (Int32 × XS)} (hs : s_X4_leastAnew x = some r) (sz : Nat) : Met l yX4_leastAnew wsX4_leastAnew ({ frames := 6, cells := 0, slots := 0, locals := 139 }) (wP [.ref (g 0)] D ca (wX g ca x) sz) (wQi r.1 D (wX g ca x) (wX g ca r.2) sz) 0 0 (va_A (wX g ca x) sz) := by
  refine Met.ofW (cc := cX4_leastAnew) (maxL := 4) (ret := (some .int)) (by decide) rfl ?_
  intro p e s m args below meth c s₁ B hml hv
  obtain ⟨rfl, hsz, hP, hC, hD0⟩ := hv
  have hx := B.exec
  have hb := B.bytes
  have hr := B.returns
  have hts := atoms_spec (ws := wsX4_leastAnew) B.pre
  have hown : s.vm.findClass RX4 = some m.cls := findClass_of_methodNamed B.named
  have hlocks := B.notSynchronized
  have hK := hC.1
  subst hsz
  have hD := hD0.self (sz := s.heap.size)
  generalize hAe : va_A (wX g ca x) s.heap.size = A at hD ⊢
  have hA : ∀ q : Nat, s.heap.size ≤ q → A q := fun q h => by rw [← hAe]; exact Or.inr h
  have hS : va_S A s.heap s.heap [] := va_S.rf
  skip
  have iX4 : ∀ w ∈ u_ws RX4 TX4 16, w ∈ wsX4_leastAnew := by decide +kernel
  have hl := lv_entry ([.ref (g 0)]) (n := 4) (Nat.le_of_ble_eq_true rfl)
  rw [lg_entry_eq]
  generalize (lg_sl ([.ref (g 0)]) ++ List.replicate (4 - (lg_sl ([.ref (g 0)])).length) Slot.unset).toArray = ls at hl ⊢
  have hl : lv_has ls 4 [(0, .ref (g 0))] := hl
  have b21 : ∀ (k11 : XS → Int32 → Int32 → Option (Int32 × XS)) (_ : ∀ (xx : XS) (p1 : Int32) (p2 : Int32), k11 xx p1 p2 = some r → ∀ (H : Heap) (locs : List Loc), va_P D vwCl (wX g ca xx) H → va_D A (wX g ca xx) → va_S A s.heap H locs → ∀ (ls : Array Slot), lv_has ls 4 [(0, .ref (g 0)), (1, .int (p1)), (2, .int (p2))] → W p l e (headSpec wsX4_leastAnew ({ frames := 6, cells := 0, slots := 0, locals := 139 })).room s m #[.ref (g 0)] below meth c H locs 0 0 (MQ below (wQi r.1 D (wX g ca x) (wX g ca r.2) s.heap.size) #[.ref (g 0)] s 0 0 A) (F0 m 11 ls [])) (F : Nat) (xx : XS) (p1 : Int32) (p2 : Int32) (p3 : Int32), s_X4_leastAnew_b21 k11 F xx p1 p2 p3 = some r → ∀ (H : Heap) (locs : List Loc), va_P D vwCl (wX g ca xx) H → va_D A (wX g ca xx) → va_S A s.heap H locs → ∀ (ls : Array Slot), lv_has ls 4 [(0, .ref (g 0)), (1, .int (p1)), (2, .int (p2)), (3, .int (p3))] → W p l e (headSpec wsX4_leastAnew ({ frames := 6, cells := 0, slots := 0, locals := 139 })).room s m #[.ref (g 0)] below meth c H locs 0 0 (MQ below (wQi r.1 D (wX g ca x) (wX g ca r.2) s.heap.size) #[.ref (g 0)] s 0 0 A) (F0 m 21 ls []) := by
    intro k11 hk11
    intro F
    induction F with
    | zero =>
      intro xx p1 p2 p3 hs
      simp [s_X4_leastAnew_b21] at hs
    | succ F ih21 =>
      intro xx p1 p2 p3 hs H locs hP hD hS ls hl
      rw [s_X4_leastAnew_b21] at hs
      refine lv_iload_n hx hb dX4_leastAnew_21 rfl (lv_at hl 3 rfl) ?_
      refine lv_iload_n hx hb dX4_leastAnew_22 rfl (lv_at hl 1 rfl) ?_
      refine lv_icmp_gt (tgt := 69) hx hb dX4_leastAnew_23 (by decide) (fun c_1 => ?_) (fun c_1 => ?_)
      · have hs := sp_t c_1 hs
        refine lv_iinc (v := p2 + 1) (lv' := [(2, .int (p2 + 1)), (0, .ref (g 0)), (1, .int (p1)), (3, .int (p3))]) hx hb dX4_leastAnew_69 hl (k := 2) rfl rfl (by decide) rfl (fun ls hl => ?_)
        refine lv_goto (tgt := 11) hx hb dX4_leastAnew_72 (by decide) ?_
        exact hk11  (xx) (p1) (p2 + 1) hs H locs hP hD hS ls (lv_sub hl [1, 2, 0] rfl)
      · have hs := sp_f c_1 hs
        refine lv_iload_n hx hb dX4_leastAnew_26 rfl (lv_at hl 3 rfl) ?_
        refine lv_iload_n hx hb dX4_leastAnew_27 rfl (lv_at hl 1 rfl) ?_
        refine lv_iconst (v := -1) hx hb dX4_leastAnew_28 (by decide) ?_
        refine lv_ixor hx hb dX4_leastAnew_29 ?_
        refine lv_iand hx hb dX4_leastAnew_30 ?_
        refine lv_if_ne (tgt := 63) hx hb dX4_leastAnew_31 (by decide) (fun c_2 => ?_) (fun c_2 => ?_)
        · have hs := sp_f c_2 hs
          refine lv_iinc (v := p3 + 1) (lv' := [(3, .int (p3 + 1)), (0, .ref (g 0)), (1, .int (p1)), (2, .int (p2))]) hx hb dX4_leastAnew_63 hl (k := 3) rfl rfl (by decide) rfl (fun ls hl => ?_)
          refine lv_goto (tgt := 21) hx hb dX4_leastAnew_66 (by decide) ?_
          exact ih21  (xx) (p1) (p2) (p3 + 1) hs H locs hP hD hS ls (lv_sub hl [1, 2, 3, 0] rfl)
        · have hs := sp_t c_2 hs
          refine lv_iload_n hx hb dX4_leastAnew_34 rfl (lv_at hl 3 rfl) ?_
          obtain ⟨v_3, h_3, hs⟩ := sp_b hs
          refine rd_i (va_runS (As := [.int (p3)]) (rest := []) ⟨hx, hb, hml, hown, hts⟩ (c_J6_bitCount_0f7a4 l D ca p3 h_3) (va_cwS 1 hts gX4_leastAnew_J6_bitCount_0f7a4 rfl rfl rfl (by decide +kernel) ⟨Nat.le_of_ble_eq_true rfl, Nat.le_of_ble_eq_true rfl⟩) (rP_S va_P_nil hC) rfl rfl hl.1 rfl (lv_room (Nat.le_of_ble_eq_true rfl)) dX4_leastAnew_35 ⟨Nat.zero_le _, Nat.zero_le _⟩) ?_
          refine lv_iload_n hx hb dX4_leastAnew_38 rfl (lv_at hl 2 rfl) ?_
          refine lv_icmp_ne (tgt := 63) hx hb dX4_leastAnew_39 (by decide) (fun c_4 => ?_) (fun c_4 => ?_)
          · have hs := sp_f c_4 hs
            refine lv_iinc (v := p3 + 1) (lv' := [(3, .int (p3 + 1)), (0, .ref (g 0)), (1, .int (p1)), (2, .int (p2))]) hx hb dX4_leastAnew_63 hl (k := 3) rfl rfl (by decide) rfl (fun ls hl => ?_)
            refine lv_goto (tgt := 21) hx hb dX4_leastAnew_66 (by decide) ?_
            exact ih21  (xx) (p1) (p2) (p3 + 1) hs H locs hP hD hS ls (lv_sub hl [1, 2, 3, 0] rfl)
          · have hs := sp_t c_4 hs
            refine lv_aload_n hx hb dX4_leastAnew_42 rfl (lv_at hl 0 rfl) ?_
            refine va_get (D := D) (ci := 4) (fs := fsX g (xx)) (v := .ref (g 4)) (C := RX4) (T := TX4) (N := 16) hx hb hts iX4 hown hK hP 0 rfl rfl 7 (by decide) (hts (.fieldLink RX4 42 "FacadeShow" "survey" "LFacadeShow$Survey;") (by decide +kernel)) (fun _ h9 => h9) rfl dX4_leastAnew_43 ?_
            refine lv_aload_n hx hb dX4_leastAnew_46 rfl (lv_at hl 0 rfl) ?_
            refine va_get (D := D) (ci := 4) (fs := fsX g (xx)) (v := .int (xx.1 0 5)) (C := RX4) (T := TX4) (N := 16) hx hb hts iX4 hown hK hP 0 rfl rfl 5 (by decide) (hts (.fieldLink RX4 33 "FacadeShow" "needed" "I") (by decide +kernel)) (fun _ h9 => h9) rfl dX4_leastAnew_47 ?_
            refine lv_iload_n hx hb dX4_leastAnew_50 rfl (lv_at hl 3 rfl) ?_
            refine lv_aload_n hx hb dX4_leastAnew_51 rfl (lv_at hl 0 rfl) ?_
            refine va_get (D := D) (ci := 4) (fs := fsX g (xx)) (v := .int (xx.1 0 6)) (C := RX4) (T := TX4) (N := 16) hx hb hts iX4 hown hK hP 0 rfl rfl 6 (by decide) (hts (.fieldLink RX4 36 "FacadeShow" "levelNow" "I") (by decide +kernel)) (fun _ h9 => h9) rfl dX4_leastAnew_52 ?_
            obtain ⟨v_5, h_5, hs⟩ := sp_b hs
            refine rd_i (va_runVN (As := [.int (xx.1 0 5), .int (p3), .int (xx.1 0 6)]) (rest := []) ⟨hx, hb, hml, hown, hts⟩ (c_X3_coversAll l D ca g xx (xx.1 0 5) p3 (xx.1 0 6) h_5) ⟨va_cnB 3 hts gX4_leastAnew_X3_coversAll_n218 rfl rfl rfl (hC.2.1 _ nk_X4_218) (hts (.initialized RX3) (by decide +kernel)) (by decide +kernel) ⟨Nat.le_of_ble_eq_true rfl, Nat.le_of_ble_eq_true rfl⟩, hts (.instanceMethod yX3_coversAll) (by decide +kernel), hts (.selects RX3 yX3_coversAll yX3_coversAll) (by decide +kernel)⟩ (rP_V (q := (RX3, TX3, 2)) hP hC 7 rfl rfl) rfl rfl hl.1 rfl (lv_room (Nat.le_of_ble_eq_true rfl)) dX4_leastAnew_55 ⟨Nat.zero_le _, Nat.zero_le _⟩) ?_
            refine lv_if_eq (tgt := 63) hx hb dX4_leastAnew_58 (by decide) (fun c_6 => ?_) (fun c_6 => ?_)
            · have hs := sp_t c_6 hs
              refine lv_iinc (v := p3 + 1) (lv' := [(3, .int (p3 + 1)), (0, .ref (g 0)), (1, .int (p1)), (2, .int (p2))]) hx hb dX4_leastAnew_63 hl (k := 3) rfl rfl (by decide) rfl (fun ls hl => ?_)
              refine lv_goto (tgt := 21) hx hb dX4_leastAnew_66 (by decide) ?_
              exact ih21  (xx) (p1) (p2) (p3 + 1) hs H locs hP hD hS ls (lv_sub hl [1, 2, 3, 0] rfl)
            · have hs := sp_f c_6 hs
              refine lv_iload_n hx hb dX4_leastAnew_61 rfl (lv_at hl 2 rfl) ?_
              exact wt_i (f := wX g ca) hx hb hr hAe hs hP hD hS dX4_leastAnew_62 hlocks
  have b11 : ∀ (F : Nat) (xx : XS) (p1 : Int32) (p2 : Int32), s_X4_leastAnew_b11  F xx p1 p2 = some r → ∀ (H : Heap) (locs : List Loc), va_P D vwCl (wX g ca xx) H → va_D A (wX g ca xx) → va_S A s.heap H locs → ∀ (ls : Array Slot), lv_has ls 4 [(0, .ref (g 0)), (1, .int (p1)), (2, .int (p2))] → W p l e (headSpec wsX4_leastAnew ({ frames := 6, cells := 0, slots := 0, locals := 139 })).room s m #[.ref (g 0)] below meth c H locs 0 0 (MQ below (wQi r.1 D (wX g ca x) (wX g ca r.2) s.heap.size) #[.ref (g 0)] s 0 0 A) (F0 m 11 ls []) := by
    intro F
    induction F with
    | zero =>
      intro xx p1 p2 hs
      simp [s_X4_leastAnew_b11] at hs
    | succ F ih11 =>
      intro xx p1 p2 hs H locs hP hD hS ls hl
      rw [s_X4_leastAnew_b11] at hs
      refine lv_iload_n hx hb dX4_leastAnew_11 rfl (lv_at hl 2 rfl) ?_
      refine lv_aload_n hx hb dX4_leastAnew_12 rfl (lv_at hl 0 rfl) ?_
      refine va_get (D := D) (ci := 4) (fs := fsX g (xx)) (v := .int (xx.1 0 2)) (C := RX4) (T := TX4) (N := 16) hx hb hts iX4 hown hK hP 0 rfl rfl 2 (by decide) (hts (.fieldLink RX4 22 "FacadeShow" "projectorCount" "I") (by decide +kernel)) (fun _ h9 => h9) rfl dX4_leastAnew_13 ?_
      refine lv_icmp_gt (tgt := 75) hx hb dX4_leastAnew_16 (by decide) (fun c_7 => ?_) (fun c_7 => ?_)
      · have hs := sp_t c_7 hs
        refine lv_iconst (v := -1) hx hb dX4_leastAnew_75 (by decide) ?_
        exact wt_i (f := wX g ca) hx hb hr hAe hs hP hD hS dX4_leastAnew_76 hlocks
      · have hs := sp_f c_7 hs
        refine lv_iconst (v := 0) hx hb dX4_leastAnew_19 (by decide) ?_
        refine lv_istore_n (lv' := [(3, .int (0)), (0, .ref (g 0)), (1, .int (p1)), (2, .int (p2))]) hx hb dX4_leastAnew_20 rfl hl (by decide) rfl (fun ls hl => ?_)
        exact b21 (fun zx z_p1 z_p2 => s_X4_leastAnew_b11  F zx z_p1 z_p2) (fun zx z_p1 z_p2 hs => ih11 zx z_p1 z_p2 hs) FU (xx) (p1) (p2) (0) hs H locs hP hD hS ls (lv_sub hl [1, 2, 3, 0] rfl)
  unfold s_X4_leastAnew at hs
  obtain ⟨H, hHe⟩ : ∃ H, H = s.heap := ⟨_, rfl⟩
  obtain ⟨locs, hle⟩ : ∃ z : List Loc, z = [] := ⟨_, rfl⟩
  have hP : va_P D vwCl (wX g ca x) H := by rw [hHe]; exact hP
  have hS : va_S A s.heap H locs := by rw [hHe, hle]; exact hS
  show W p l e (headSpec wsX4_leastAnew ({ frames := 6, cells := 0, slots := 0, locals := 139 })).room s m #[.ref (g 0)] below meth c s.heap [] 0 0 _ _
  have hgo : W p l e (headSpec wsX4_leastAnew ({ frames := 6, cells := 0, slots := 0, locals := 139 })).room s m #[.ref (g 0)] below meth c H locs 0 0 (MQ below (wQi r.1 D (wX g ca x) (wX g ca r.2) s.heap.size) #[.ref (g 0)] s 0 0 A) (F0 m 0 ls []) := by
    refine lv_aload_n hx hb dX4_leastAnew_0 rfl (lv_at hl 0 rfl) ?_
    obtain ⟨v_8, h_8, hs⟩ := sp_b hs
    refine wr_v (va_runV (As := []) (rest := []) ⟨hx, hb, hml, hown, hts⟩ (c_X4_surveyLights l D ca g x h_8 H.size) (cwV 0 hts gX4_leastAnew_X4_surveyLights rfl rfl rfl (by decide +kernel) ⟨Nat.le_of_ble_eq_true rfl, Nat.le_of_ble_eq_true rfl⟩) (wP_V (q := (RX4, TX4, 16)) hP hC hD 0 rfl rfl) rfl rfl hl.1 rfl (lv_room (Nat.le_of_ble_eq_true rfl)) dX4_leastAnew_1 ⟨Nat.zero_le _, Nat.zero_le _⟩) hD hS hA (fun H locs hP hD hS => ?_)
    refine lv_aload_n hx hb dX4_leastAnew_4 rfl (lv_at hl 0 rfl) ?_
    obtain ⟨v_9, h_9, hs⟩ := sp_b hs
    refine rd_i (va_runV (As := []) (rest := []) ⟨hx, hb, hml, hown, hts⟩ (c_X4_unfailedProjectors l D ca g v_8 h_9) (cwV 0 hts gX4_leastAnew_X4_unfailedProjectors rfl rfl rfl (by decide +kernel) ⟨Nat.le_of_ble_eq_true rfl, Nat.le_of_ble_eq_true rfl⟩) (rP_V (q := (RX4, TX4, 16)) hP hC 0 rfl rfl) rfl rfl hl.1 rfl (lv_room (Nat.le_of_ble_eq_true rfl)) dX4_leastAnew_5 ⟨Nat.zero_le _, Nat.zero_le _⟩) ?_
    refine lv_istore_n (lv' := [(1, .int (v_9)), (0, .ref (g 0))]) hx hb dX4_leastAnew_8 rfl hl (by decide) rfl (fun ls hl => ?_)
    refine lv_iconst (v := 0) hx hb dX4_leastAnew_9 (by decide) ?_
    refine lv_istore_n (lv' := [(2, .int (0)), (1, .int (v_9)), (0, .ref (g 0))]) hx hb dX4_leastAnew_10 rfl hl (by decide) rfl (fun ls hl => ?_)
    exact b11  FU (v_8) (v_9) (0) hs H locs hP hD hS ls (lv_sub hl [2, 1, 0] rfl)
  rw [hHe, hle] at hgo
  exact hgo
