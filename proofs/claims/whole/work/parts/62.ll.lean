set_option maxHeartbeats 4000000 in
set_option maxRecDepth 100000 in
theorem law_loop {p : Program} {l : Launch} {e : Env} {s : State} {m : MethodId} {below : List Frame} {meth : Method} {c : Code} {b L : Nat} {xs : Nat → Int32} {D : va_G} {ca : Nat → ClassId} (C : LC p l s m c b L xs D ca) {Q : State → Prop} (kend : ∀ (H : Heap) (locs : List Loc) (ls : Array Slot), va_S (fun q => s.heap.size ≤ q) s.heap H locs → W p l e room_1 s m #[Value.ref b] below meth c H locs 601024 7293034 Q (F0 m 1792 ls [])) :
    ∀ (n k : Nat) (g h : Nat → Nat) (o : Nat) (fo : Nat → Int64) (x y : XS) (H : Heap) (locs : List Loc) (ls : Array Slot) (cells slots : Nat), LI D ca s b (6 * k) g h o fo x y H locs ls → L < 6 * k + n → 6 * k ≤ 3072 → cells ≤ 100 + k → slots ≤ 2000 + 10 * k → W p l e room_1 s m #[Value.ref b] below meth c H locs cells slots Q (F0 m 23 ls []) := by
  have Cc := C
  obtain ⟨hx, hb, hml, hown, hts, hX, hbl, hC, hz, hl9, hL⟩ := C
  have hbA : ¬ (fun q : Nat => s.heap.size ≤ q) b := Nat.not_le.mpr hbl
  have rc : room_1.cells = 601024 := rfl
  have rs : room_1.slots = 7293034 := rfl
  intro n
  induction n with
  | zero =>
    intro k g h o fo x y H locs ls cells slots I h1 h2 h3 h4
    refine lv_iload hx hb dL_law_23 (lv_at I.2.2.2.2 4 rfl) ?_
    refine lv_aload_n hx hb dL_law_25 rfl (lv_at I.2.2.2.2 0 rfl) ?_
    refine va_slen hx hb hX hbl hbA I.2.2.2.1 dL_law_26 ?_
    refine lv_bipush (v := 6) hx hb dL_law_27 (by decide) ?_
    refine lv_isub hx hb dL_law_29 ?_
    refine lv_icmp_gt (tgt := 1792) hx hb dL_law_30 (by decide) (fun _ => W.widen (by omega) (by omega) (kend H locs ls I.2.2.2.1)) (fun c9 => ?_)
    refine absurd (Int32.lt_iff_toInt_lt.mpr ?_) c9
    rw [show Int32.ofNat L - 6 = nI L - nI 6 from rfl, pk_sub_toInt (by omega) (by decide), nI_toInt (by omega)]
    omega
  | succ n ih =>
    intro k g h o fo x y H locs ls cells slots I h1 h2 h3 h4
    have I0 := I
    obtain ⟨hR, hP, hD, hS, hl⟩ := I
    refine lv_iload hx hb dL_law_23 (lv_at hl 4 rfl) ?_
    refine lv_aload_n hx hb dL_law_25 rfl (lv_at hl 0 rfl) ?_
    refine va_slen hx hb hX hbl hbA hS dL_law_26 ?_
    refine lv_bipush (v := 6) hx hb dL_law_27 (by decide) ?_
    refine lv_isub hx hb dL_law_29 ?_
    refine lv_icmp_gt (tgt := 1792) hx hb dL_law_30 (by decide) (fun _ => W.widen (by omega) (by omega) (kend H locs ls hS)) (fun c9 => ?_)
    have hi : 6 * k + 6 ≤ L := by
      refine Nat.not_lt.mp (fun q => c9 (Int32.lt_iff_toInt_lt.mpr ?_))
      rw [show Int32.ofNat L - 6 = nI L - nI 6 from rfl, pk_sub_toInt (by omega) (by decide), nI_toInt (by omega)]
      omega
    refine lv_aload_n hx hb dL_law_33 rfl (lv_at hl 0 rfl) ?_
    refine lv_iload hx hb dL_law_34 (lv_at hl 4 rfl) ?_
    refine va_sld hx hb hX hbl hbA hS (pk_in (6 * k) L (by omega) rfl (by omega)) dL_law_36 ?_
    refine lv_bipush (v := 31) hx hb dL_law_37 (by decide) ?_
    refine lv_iand hx hb dL_law_39 ?_
    have go : ∀ (g' : Nat → Nat) (fo' : Nat → Int64) (x' y' : XS) (H : Heap) (locs : List Loc) (ls : Array Slot), LI D ca s b (6 * k) g' h o fo' x' y' H locs ls → W p l e room_1 s m #[Value.ref b] below meth c H locs (cells + 1) (slots + 10) Q (F0 m 1786 ls []) := by
      intro g' fo' x' y' H locs ls I
      refine lv_iinc (v := nI (6 * (k + 1))) (lv' := [(4, .int (nI (6 * (k + 1)))), (0, .ref b), (1, .ref (g' 0)), (2, .ref (h 0)), (3, .ref o)]) hx hb dL_law_1786 I.2.2.2.2 (k := 4) rfl (nI_add (6 * k) 6) (by decide) rfl (fun ls hl => ?_)
      refine lv_goto (tgt := 23) hx hb dL_law_1789 (by decide) ?_
      exact ih (k + 1) g' h o fo' x' y' H locs ls (cells + 1) (slots + 10) ⟨I.1, I.2.1, I.2.2.1, I.2.2.2.1, lv_sub hl [1, 2, 3, 4, 0] rfl⟩ (by omega) (by omega) (by omega) (by omega)
    obtain ⟨j, hj, ej⟩ := pk_andE (xs (nI (6 * k)).toNatClampNeg) 5 (m := 31) (by decide)
    rw [ej]
    rcases (show j = 0 ∨ j = 1 ∨ j = 2 ∨ j = 3 ∨ j = 4 ∨ j = 5 ∨ j = 6 ∨ j = 7 ∨ j = 8 ∨ j = 9 ∨ j = 10 ∨ j = 11 ∨ j = 12 ∨ j = 13 ∨ j = 14 ∨ j = 15 ∨ j = 16 ∨ j = 17 ∨ j = 18 ∨ j = 19 ∨ j = 20 ∨ j = 21 ∨ j = 22 ∨ j = 23 ∨ j = 24 ∨ j = 25 ∨ 25 < j by omega) with rfl | rfl | rfl | rfl | rfl | rfl | rfl | rfl | rfl | rfl | rfl | rfl | rfl | rfl | rfl | rfl | rfl | rfl | rfl | rfl | rfl | rfl | rfl | rfl | rfl | rfl | hj2
    · exact lv_tableIn (off := 120) (tgt := 160) hx hb dL_law_40 (by decide) (by decide) (by decide) (by decide) (lc_column Cc I0 hi (by omega) (by omega) go)
    · exact lv_tableIn (off := 180) (tgt := 220) hx hb dL_law_40 (by decide) (by decide) (by decide) (by decide) (lc_cell Cc I0 hi (by omega) (by omega) go)
    · exact lv_tableIn (off := 260) (tgt := 300) hx hb dL_law_40 (by decide) (by decide) (by decide) (by decide) (lc_need Cc I0 hi (by omega) (by omega) go)
    · exact lv_tableIn (off := 308) (tgt := 348) hx hb dL_law_40 (by decide) (by decide) (by decide) (by decide) (lc_projector Cc I0 hi (by omega) (by omega) go)
    · exact lv_tableIn (off := 412) (tgt := 452) hx hb dL_law_40 (by decide) (by decide) (by decide) (by decide) (lc_aim Cc I0 hi (by omega) (by omega) go)
    · exact lv_tableIn (off := 472) (tgt := 512) hx hb dL_law_40 (by decide) (by decide) (by decide) (by decide) (lc_turn Cc I0 hi (by omega) (by omega) go)
    · exact lv_tableIn (off := 563) (tgt := 603) hx hb dL_law_40 (by decide) (by decide) (by decide) (by decide) (lc_fail Cc I0 hi (by omega) (by omega) go)
    · exact lv_tableIn (off := 654) (tgt := 694) hx hb dL_law_40 (by decide) (by decide) (by decide) (by decide) (lc_phase Cc I0 hi (by omega) (by omega) go)
    · exact lv_tableIn (off := 722) (tgt := 762) hx hb dL_law_40 (by decide) (by decide) (by decide) (by decide) (lc_wind Cc I0 hi (by omega) (by omega) go)
    · exact lv_tableIn (off := 778) (tgt := 818) hx hb dL_law_40 (by decide) (by decide) (by decide) (by decide) (lc_through Cc I0 hi (by omega) (by omega) go)
    · exact lv_tableIn (off := 858) (tgt := 898) hx hb dL_law_40 (by decide) (by decide) (by decide) (by decide) (lc_gives Cc I0 hi (by omega) (by omega) go)
    · exact lv_tableIn (off := 926) (tgt := 966) hx hb dL_law_40 (by decide) (by decide) (by decide) (by decide) (lc_isSharp Cc I0 hi (by omega) (by omega) go)
    · exact lv_tableIn (off := 1001) (tgt := 1041) hx hb dL_law_40 (by decide) (by decide) (by decide) (by decide) (lc_light Cc I0 hi (by omega) (by omega) go)
    · exact lv_tableIn (off := 1057) (tgt := 1097) hx hb dL_law_40 (by decide) (by decide) (by decide) (by decide) (lc_blended Cc I0 hi (by omega) (by omega) go)
    · exact lv_tableIn (off := 1125) (tgt := 1165) hx hb dL_law_40 (by decide) (by decide) (by decide) (by decide) (lc_covered Cc I0 hi (by omega) (by omega) go)
    · exact lv_tableIn (off := 1181) (tgt := 1221) hx hb dL_law_40 (by decide) (by decide) (by decide) (by decide) (lc_least Cc I0 hi (by omega) (by omega) go)
    · exact lv_tableIn (off := 1194) (tgt := 1234) hx hb dL_law_40 (by decide) (by decide) (by decide) (by decide) (lc_leastAnew Cc I0 hi (by omega) (by omega) go)
    · exact lv_tableIn (off := 1207) (tgt := 1247) hx hb dL_law_40 (by decide) (by decide) (by decide) (by decide) (lc_bears Cc I0 hi (by omega) (by omega) go)
    · exact lv_tableIn (off := 1270) (tgt := 1310) hx hb dL_law_40 (by decide) (by decide) (by decide) (by decide) (lc_breaches Cc I0 hi (by omega) (by omega) go)
    · exact lv_tableIn (off := 1283) (tgt := 1323) hx hb dL_law_40 (by decide) (by decide) (by decide) (by decide) (lc_curfew Cc I0 hi (by omega) (by omega) go)
    · exact lv_tableIn (off := 1331) (tgt := 1371) hx hb dL_law_40 (by decide) (by decide) (by decide) (by decide) (lc_ready Cc I0 hi (by omega) (by omega) go)
    · exact lv_tableIn (off := 1399) (tgt := 1439) hx hb dL_law_40 (by decide) (by decide) (by decide) (by decide) (lc_propose Cc I0 hi (by omega) (by omega) go)
    · exact lv_tableIn (off := 1467) (tgt := 1507) hx hb dL_law_40 (by decide) (by decide) (by decide) (by decide) (lc_answer Cc I0 hi (by omega) (by omega) go)
    · exact lv_tableIn (off := 1551) (tgt := 1591) hx hb dL_law_40 (by decide) (by decide) (by decide) (by decide) (lc_scene Cc I0 hi (by omega) (by omega) go)
    · exact lv_tableIn (off := 1635) (tgt := 1675) hx hb dL_law_40 (by decide) (by decide) (by decide) (by decide) (lc_show Cc I0 hi (by omega) (by omega) go)
    · exact lv_tableIn (off := 1690) (tgt := 1730) hx hb dL_law_40 (by decide) (by decide) (by decide) (by decide) (lc_pass Cc I0 hi (by omega) (by omega) go)
    · refine lv_tableOut (tgt := 1786) hx hb dL_law_40 (Or.inr (by rw [nI_toInt (by omega)]; omega)) (by decide) ?_
      exact W.widen (k := cells + 1) (n := slots + 10) (by omega) (by omega) (go g fo x y H locs ls I0)
