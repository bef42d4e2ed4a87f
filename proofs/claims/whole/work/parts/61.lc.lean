set_option maxHeartbeats 4000000 in
set_option maxRecDepth 100000 in
theorem lc_column {p : Program} {l : Launch} {e : Env} {s : State} {m : MethodId} {below : List Frame} {meth : Method} {c : Code} {b L : Nat} {xs : Nat → Int32} {D : va_G} {ca : Nat → ClassId} (C : LC p l s m c b L xs D ca) {g h : Nat → Nat} {o i : Nat} {fo : Nat → Int64} {x y : XS} {H : Heap} {locs : List Loc} {ls : Array Slot} {cells slots : Nat} {Q : State → Prop} (I : LI D ca s b i g h o fo x y H locs ls) (hi : i + 6 ≤ L) (hrc : cells + 1 ≤ room_1.cells) (hrs : slots + 10 ≤ room_1.slots) (kk : ∀ (g' : Nat → Nat) (fo' : Nat → Int64) (x' y' : XS) (H : Heap) (locs : List Loc) (ls : Array Slot), LI D ca s b i g' h o fo' x' y' H locs ls → W p l e room_1 s m #[Value.ref b] below meth c H locs (cells + 1) (slots + 10) Q (F0 m 1786 ls [])) : W p l e room_1 s m #[Value.ref b] below meth c H locs cells slots Q (F0 m 160 ls []) := by
  obtain ⟨hx, hb, hml, hown, hts, hX, hbl, hC, hz, hl9, hL⟩ := C
  obtain ⟨hR, hP, hD, hS, hl⟩ := I
  have hA : ∀ q : Nat, s.heap.size ≤ q → (fun q => s.heap.size ≤ q) q := fun _ h => h
  have hbA : ¬ (fun q : Nat => s.heap.size ≤ q) b := Nat.not_le.mpr hbl
  have hK := hC.1
  have hr6 : slots + 6 ≤ room_1.slots := by omega
  have in1 : vp_in (nI i + 1) L := pk_in (i + 1) L (by omega) (nI_add i 1) (by omega)
  have in2 : vp_in (nI i + 2) L := pk_in (i + 2) L (by omega) (nI_add i 2) (by omega)
  have in3 : vp_in (nI i + 3) L := pk_in (i + 3) L (by omega) (nI_add i 3) (by omega)
  have in4 : vp_in (nI i + 4) L := pk_in (i + 4) L (by omega) (nI_add i 4) (by omega)
  have in5 : vp_in (nI i + 5) L := pk_in (i + 5) L (by omega) (nI_add i 5) (by omega)
  obtain ⟨r, y', q1, q2, q3⟩ := rel_column hR (xs (nI i + 1).toNatClampNeg) (xs (nI i + 2).toNatClampNeg) (xs (nI i + 3).toNatClampNeg)
  refine lv_aload_n hx hb dL_law_160 rfl (lv_at hl 1 rfl) ?_
  refine lv_aload_n hx hb dL_law_161 rfl (lv_at hl 0 rfl) ?_
  refine lv_iload hx hb dL_law_162 (lv_at hl 4 rfl) ?_
  refine lv_iconst (v := 1) hx hb dL_law_164 (by decide) ?_
  refine lv_iadd hx hb dL_law_165 ?_
  refine va_sld hx hb hX hbl hbA hS in1 dL_law_166 ?_
  refine lv_aload_n hx hb dL_law_167 rfl (lv_at hl 0 rfl) ?_
  refine lv_iload hx hb dL_law_168 (lv_at hl 4 rfl) ?_
  refine lv_iconst (v := 2) hx hb dL_law_170 (by decide) ?_
  refine lv_iadd hx hb dL_law_171 ?_
  refine va_sld hx hb hX hbl hbA hS in2 dL_law_172 ?_
  refine lv_aload_n hx hb dL_law_173 rfl (lv_at hl 0 rfl) ?_
  refine lv_iload hx hb dL_law_174 (lv_at hl 4 rfl) ?_
  refine lv_iconst (v := 3) hx hb dL_law_176 (by decide) ?_
  refine lv_iadd hx hb dL_law_177 ?_
  refine va_sld hx hb hX hbl hbA hS in3 dL_law_178 ?_
  refine lr_i (vx_runSW (As := [.ref (g 0), .int (xs (nI i + 1).toNatClampNeg), .int (xs (nI i + 2).toNatClampNeg), .int (xs (nI i + 3).toNatClampNeg)]) (rest := []) ⟨hx, hb, hml, hown, hts⟩ (c_L_column l hl9 D ca g x (xs (nI i + 1).toNatClampNeg) (xs (nI i + 2).toNatClampNeg) (xs (nI i + 3).toNatClampNeg) o fo q1 q3.1 H.size) (vx_cwSW 4 hts gL_law_L_column rfl rfl rfl (by decide +kernel) ⟨Nat.le_of_ble_eq_true rfl, Nat.le_of_ble_eq_true rfl⟩) (tP_S (app_l hP) hC (appD_l hD) hz hS hA) rfl rfl hl.1 rfl (lv_room (Nat.le_of_ble_eq_true rfl)) dL_law_179 ⟨hrc, hr6⟩) hP hD hS hA (fun g' H locs hg hP hD hS => ?_)
  refine lv_istore (lv' := [(5, .int (wk 1 2 0 r.1)), (0, .ref b), (1, .ref (g 0)), (2, .ref (h 0)), (3, .ref o), (4, .int (nI i))]) hx hb dL_law_182 hl (by decide) rfl (fun ls hl => ?_)
  refine lv_aload_n hx hb dL_law_184 rfl (lv_at hl 3 rfl) ?_
  refine lv_aload_n hx hb dL_law_185 rfl (lv_at hl 1 rfl) ?_
  refine lv_iload hx hb dL_law_186 (lv_at hl 5 rfl) ?_
  refine lv_iconst (v := 1) hx hb dL_law_188 (by decide) ?_
  refine lv_iadd hx hb dL_law_189 ?_
  refine va_sld hx hb hX hbl hbA hS in1 dL_law_190 ?_
  refine lv_aload_n hx hb dL_law_191 rfl (lv_at hl 1 rfl) ?_
  refine lv_iload hx hb dL_law_192 (lv_at hl 5 rfl) ?_
  refine lv_iconst (v := 2) hx hb dL_law_194 (by decide) ?_
  refine lv_iadd hx hb dL_law_195 ?_
  refine va_sld hx hb hX hbl hbA hS in2 dL_law_196 ?_
  refine lv_aload_n hx hb dL_law_197 rfl (lv_at hl 1 rfl) ?_
  refine lv_iload hx hb dL_law_198 (lv_at hl 5 rfl) ?_
  refine lv_iconst (v := 3) hx hb dL_law_200 (by decide) ?_
  refine lv_iadd hx hb dL_law_201 ?_
  refine va_sld hx hb hX hbl hbA hS in3 dL_law_202 ?_
  refine mr_v (va_runV (As := [.int (xs (nI i + 1).toNatClampNeg), .int (xs (nI i + 2).toNatClampNeg), .int (xs (nI i + 3).toNatClampNeg)]) (rest := []) ⟨hx, hb, hml, hown, hts⟩ (c_X5_column l D ca h y (xs (nI i + 1).toNatClampNeg) (xs (nI i + 2).toNatClampNeg) (xs (nI i + 3).toNatClampNeg) q2 H.size) (cwV 3 hts gL_law_X5_column rfl rfl rfl (by decide +kernel) ⟨Nat.le_of_ble_eq_true rfl, Nat.le_of_ble_eq_true rfl⟩) (wP_V (q := (RX5, TX5, 30)) (app_r hP) hC (appD_r hD) 0 rfl rfl) rfl rfl hl.1 rfl (lv_room (Nat.le_of_ble_eq_true rfl)) dL_law_203 ⟨hrc, hr6⟩) hP hD hS hA (fun H locs hP hD hS => ?_)
  refine lv_aload_n hx hb dL_law_206 rfl (lv_at hl 3 rfl) ?_
  refine rd_i (va_runV (As := []) (rest := []) ⟨hx, hb, hml, hown, hts⟩ (c_X5_thrown l D ca h y' rfl) (cwV 0 hts gL_law_X5_thrown rfl rfl rfl (by decide +kernel) ⟨Nat.le_of_ble_eq_true rfl, Nat.le_of_ble_eq_true rfl⟩) (rP_V (q := (RX5, TX5, 30)) (app_r hP) hC 0 rfl rfl) rfl rfl hl.1 rfl (lv_room (Nat.le_of_ble_eq_true rfl)) dL_law_207 ⟨hrc, hr6⟩) ?_
  refine lv_iload hx hb dL_law_210 (lv_at hl 0 rfl) ?_
  refine lv_icmp_eq (tgt := 217) hx hb dL_law_212 (by decide) (fun _ => ?_) (fun c9 => absurd q3.2.1.symm c9)
  rw [← hg] at hl
  refine lv_goto (tgt := 1786) hx hb dL_law_217 (by decide) ?_
  exact W.widen (k := cells + 1) (n := slots + 10) (by omega) (by omega) (kk g' fo r.2.2 y' H locs ls ⟨q3.2.2.2, hP, hD, hS, lv_sub hl [1, 2, 3, 4, 5] rfl⟩)
set_option maxHeartbeats 4000000 in
set_option maxRecDepth 100000 in
theorem lc_cell {p : Program} {l : Launch} {e : Env} {s : State} {m : MethodId} {below : List Frame} {meth : Method} {c : Code} {b L : Nat} {xs : Nat → Int32} {D : va_G} {ca : Nat → ClassId} (C : LC p l s m c b L xs D ca) {g h : Nat → Nat} {o i : Nat} {fo : Nat → Int64} {x y : XS} {H : Heap} {locs : List Loc} {ls : Array Slot} {cells slots : Nat} {Q : State → Prop} (I : LI D ca s b i g h o fo x y H locs ls) (hi : i + 6 ≤ L) (hrc : cells + 1 ≤ room_1.cells) (hrs : slots + 10 ≤ room_1.slots) (kk : ∀ (g' : Nat → Nat) (fo' : Nat → Int64) (x' y' : XS) (H : Heap) (locs : List Loc) (ls : Array Slot), LI D ca s b i g' h o fo' x' y' H locs ls → W p l e room_1 s m #[Value.ref b] below meth c H locs (cells + 1) (slots + 10) Q (F0 m 1786 ls [])) : W p l e room_1 s m #[Value.ref b] below meth c H locs cells slots Q (F0 m 220 ls []) := by
  obtain ⟨hx, hb, hml, hown, hts, hX, hbl, hC, hz, hl9, hL⟩ := C
  obtain ⟨hR, hP, hD, hS, hl⟩ := I
  have hA : ∀ q : Nat, s.heap.size ≤ q → (fun q => s.heap.size ≤ q) q := fun _ h => h
  have hbA : ¬ (fun q : Nat => s.heap.size ≤ q) b := Nat.not_le.mpr hbl
  have hK := hC.1
  have hr6 : slots + 6 ≤ room_1.slots := by omega
  have in1 : vp_in (nI i + 1) L := pk_in (i + 1) L (by omega) (nI_add i 1) (by omega)
  have in2 : vp_in (nI i + 2) L := pk_in (i + 2) L (by omega) (nI_add i 2) (by omega)
  have in3 : vp_in (nI i + 3) L := pk_in (i + 3) L (by omega) (nI_add i 3) (by omega)
  have in4 : vp_in (nI i + 4) L := pk_in (i + 4) L (by omega) (nI_add i 4) (by omega)
  have in5 : vp_in (nI i + 5) L := pk_in (i + 5) L (by omega) (nI_add i 5) (by omega)
  obtain ⟨r, v, y', q1, q2, q3⟩ := rel_cell hR (xs (nI i + 1).toNatClampNeg) (xs (nI i + 2).toNatClampNeg) (xs (nI i + 3).toNatClampNeg)
  refine lv_aload_n hx hb dL_law_220 rfl (lv_at hl 1 rfl) ?_
  refine lv_aload_n hx hb dL_law_221 rfl (lv_at hl 0 rfl) ?_
  refine lv_iload hx hb dL_law_222 (lv_at hl 4 rfl) ?_
  refine lv_iconst (v := 1) hx hb dL_law_224 (by decide) ?_
  refine lv_iadd hx hb dL_law_225 ?_
  refine va_sld hx hb hX hbl hbA hS in1 dL_law_226 ?_
  refine lv_aload_n hx hb dL_law_227 rfl (lv_at hl 0 rfl) ?_
  refine lv_iload hx hb dL_law_228 (lv_at hl 4 rfl) ?_
  refine lv_iconst (v := 2) hx hb dL_law_230 (by decide) ?_
  refine lv_iadd hx hb dL_law_231 ?_
  refine va_sld hx hb hX hbl hbA hS in2 dL_law_232 ?_
  refine lv_aload_n hx hb dL_law_233 rfl (lv_at hl 0 rfl) ?_
  refine lv_iload hx hb dL_law_234 (lv_at hl 4 rfl) ?_
  refine lv_iconst (v := 3) hx hb dL_law_236 (by decide) ?_
  refine lv_iadd hx hb dL_law_237 ?_
  refine va_sld hx hb hX hbl hbA hS in3 dL_law_238 ?_
  refine lv_aload_n hx hb dL_law_239 rfl (lv_at hl 3 rfl) ?_
  refine lr_i (vx_runSW (As := [.ref (g 0), .int (xs (nI i + 1).toNatClampNeg), .int (xs (nI i + 2).toNatClampNeg), .int (xs (nI i + 3).toNatClampNeg), .ref o]) (rest := []) ⟨hx, hb, hml, hown, hts⟩ (c_L_cell l hl9 D ca g x (xs (nI i + 1).toNatClampNeg) (xs (nI i + 2).toNatClampNeg) (xs (nI i + 3).toNatClampNeg) o fo q1 q3.1 H.size) (vx_cwSW 5 hts gL_law_L_cell rfl rfl rfl (by decide +kernel) ⟨Nat.le_of_ble_eq_true rfl, Nat.le_of_ble_eq_true rfl⟩) (tP_S (app_l hP) hC (appD_l hD) hz hS hA) rfl rfl hl.1 rfl (lv_room (Nat.le_of_ble_eq_true rfl)) dL_law_240 ⟨hrc, hr6⟩) hP hD hS hA (fun g' H locs hg hP hD hS => ?_)
  refine lv_istore (lv' := [(5, .int (wk 1 2 3 r.1)), (0, .ref b), (1, .ref (g 0)), (2, .ref (h 0)), (3, .ref o), (4, .int (nI i))]) hx hb dL_law_243 hl (by decide) rfl (fun ls hl => ?_)
  refine lv_aload_n hx hb dL_law_245 rfl (lv_at hl 3 rfl) ?_
  refine lv_aload_n hx hb dL_law_246 rfl (lv_at hl 1 rfl) ?_
  refine lv_iload hx hb dL_law_247 (lv_at hl 5 rfl) ?_
  refine lv_iconst (v := 1) hx hb dL_law_249 (by decide) ?_
  refine lv_iadd hx hb dL_law_250 ?_
  refine va_sld hx hb hX hbl hbA hS in1 dL_law_251 ?_
  refine lv_aload_n hx hb dL_law_252 rfl (lv_at hl 1 rfl) ?_
  refine lv_iload hx hb dL_law_253 (lv_at hl 5 rfl) ?_
  refine lv_iconst (v := 2) hx hb dL_law_255 (by decide) ?_
  refine lv_iadd hx hb dL_law_256 ?_
  refine va_sld hx hb hX hbl hbA hS in2 dL_law_257 ?_
  refine lv_aload_n hx hb dL_law_258 rfl (lv_at hl 1 rfl) ?_
  refine lv_iload hx hb dL_law_259 (lv_at hl 5 rfl) ?_
  refine lv_iconst (v := 3) hx hb dL_law_261 (by decide) ?_
  refine lv_iadd hx hb dL_law_262 ?_
  refine va_sld hx hb hX hbl hbA hS in3 dL_law_263 ?_
  refine mr_i (va_runV (As := [.int (xs (nI i + 1).toNatClampNeg), .int (xs (nI i + 2).toNatClampNeg), .int (xs (nI i + 3).toNatClampNeg)]) (rest := []) ⟨hx, hb, hml, hown, hts⟩ (c_X5_cell l D ca h y (xs (nI i + 1).toNatClampNeg) (xs (nI i + 2).toNatClampNeg) (xs (nI i + 3).toNatClampNeg) q2 H.size) (cwV 3 hts gL_law_X5_cell rfl rfl rfl (by decide +kernel) ⟨Nat.le_of_ble_eq_true rfl, Nat.le_of_ble_eq_true rfl⟩) (wP_V (q := (RX5, TX5, 30)) (app_r hP) hC (appD_r hD) 0 rfl rfl) rfl rfl hl.1 rfl (lv_room (Nat.le_of_ble_eq_true rfl)) dL_law_264 ⟨hrc, hr6⟩) hP hD hS hA (fun H locs hP hD hS => ?_)
  refine lv_istore (lv' := [(6, .int v), (5, .int (wk 1 2 3 r.1)), (0, .ref b), (1, .ref (g 0)), (2, .ref (h 0)), (3, .ref o), (4, .int (nI i))]) hx hb dL_law_267 hl (by decide) rfl (fun ls hl => ?_)
  refine lv_aload_n hx hb dL_law_269 rfl (lv_at hl 4 rfl) ?_
  refine rd_i (va_runV (As := []) (rest := []) ⟨hx, hb, hml, hown, hts⟩ (c_X5_thrown l D ca h y' rfl) (cwV 0 hts gL_law_X5_thrown rfl rfl rfl (by decide +kernel) ⟨Nat.le_of_ble_eq_true rfl, Nat.le_of_ble_eq_true rfl⟩) (rP_V (q := (RX5, TX5, 30)) (app_r hP) hC 0 rfl rfl) rfl rfl hl.1 rfl (lv_room (Nat.le_of_ble_eq_true rfl)) dL_law_270 ⟨hrc, hr6⟩) ?_
  refine lv_iload hx hb dL_law_273 (lv_at hl 1 rfl) ?_
  refine lv_icmp_eq (tgt := 280) hx hb dL_law_275 (by decide) (fun _ => ?_) (fun c9 => absurd q3.2.1.symm c9)
  rw [← hg] at hl
  refine lv_iload hx hb dL_law_280 (lv_at hl 1 rfl) ?_
  have hend : W p l e room_1 s m #[Value.ref b] below meth c H locs (cells + 1) (slots + 6) Q (F0 m 297 ls []) := by
    refine lv_goto (tgt := 1786) hx hb dL_law_297 (by decide) ?_
    exact W.widen (k := cells + 1) (n := slots + 10) (by omega) (by omega) (kk g' (wfo r.1 fo r.2.1.toInt64) r.2.2 y' H locs ls ⟨q3.2.2.2, hP, hD, hS, lv_sub hl [2, 3, 4, 5, 6] rfl⟩)
  refine lv_if_ne (tgt := 297) hx hb dL_law_282 (by decide) (fun _ => hend) (fun c9 => ?_)
  have h0 : r.1 = 0 := by
    rcases q3.1 with h | h | h | h
    · exact h
    · rw [h] at c9; exact absurd c9 (by decide)
    · rw [h] at c9; exact absurd c9 (by decide)
    · rw [h] at c9; exact absurd c9 (by decide)
  refine lv_aload_n hx hb dL_law_285 rfl (lv_at hl 5 rfl) ?_
  refine lv_iconst (v := 0) hx hb dL_law_286 (by decide) ?_
  refine va_lald (D := D) (cA := ca 2) (n := 1) (f := (wfo r.1 fo r.2.1.toInt64)) hx hb hK hP ((wX g' ca r.2.2).length + 0) 2 (by rw [List.append_assoc]; exact la_get (k := 0) rfl) rfl (by unfold vp_in; decide) dL_law_287 ?_
  rw [wfo_0 h0, q3.2.2.1 h0]
  refine lv_iload hx hb dL_law_288 (lv_at hl 0 rfl) ?_
  refine lv_i2l hx hb dL_law_290 rfl ?_
  refine lv_lcmpE hx hb dL_law_291 ?_
  exact lv_if_eq (tgt := 297) hx hb dL_law_292 (by decide) (fun _ => hend) (fun c9 => absurd rfl c9)
set_option maxHeartbeats 4000000 in
set_option maxRecDepth 100000 in
theorem lc_need {p : Program} {l : Launch} {e : Env} {s : State} {m : MethodId} {below : List Frame} {meth : Method} {c : Code} {b L : Nat} {xs : Nat → Int32} {D : va_G} {ca : Nat → ClassId} (C : LC p l s m c b L xs D ca) {g h : Nat → Nat} {o i : Nat} {fo : Nat → Int64} {x y : XS} {H : Heap} {locs : List Loc} {ls : Array Slot} {cells slots : Nat} {Q : State → Prop} (I : LI D ca s b i g h o fo x y H locs ls) (hi : i + 6 ≤ L) (hrc : cells + 1 ≤ room_1.cells) (hrs : slots + 10 ≤ room_1.slots) (kk : ∀ (g' : Nat → Nat) (fo' : Nat → Int64) (x' y' : XS) (H : Heap) (locs : List Loc) (ls : Array Slot), LI D ca s b i g' h o fo' x' y' H locs ls → W p l e room_1 s m #[Value.ref b] below meth c H locs (cells + 1) (slots + 10) Q (F0 m 1786 ls [])) : W p l e room_1 s m #[Value.ref b] below meth c H locs cells slots Q (F0 m 300 ls []) := by
  obtain ⟨hx, hb, hml, hown, hts, hX, hbl, hC, hz, hl9, hL⟩ := C
  obtain ⟨hR, hP, hD, hS, hl⟩ := I
  have hA : ∀ q : Nat, s.heap.size ≤ q → (fun q => s.heap.size ≤ q) q := fun _ h => h
  have hbA : ¬ (fun q : Nat => s.heap.size ≤ q) b := Nat.not_le.mpr hbl
  have hK := hC.1
  have hr6 : slots + 6 ≤ room_1.slots := by omega
  have in1 : vp_in (nI i + 1) L := pk_in (i + 1) L (by omega) (nI_add i 1) (by omega)
  have in2 : vp_in (nI i + 2) L := pk_in (i + 2) L (by omega) (nI_add i 2) (by omega)
  have in3 : vp_in (nI i + 3) L := pk_in (i + 3) L (by omega) (nI_add i 3) (by omega)
  have in4 : vp_in (nI i + 4) L := pk_in (i + 4) L (by omega) (nI_add i 4) (by omega)
  have in5 : vp_in (nI i + 5) L := pk_in (i + 5) L (by omega) (nI_add i 5) (by omega)
  obtain ⟨r, y', q1, q2, q3⟩ := rel_need hR (xs (nI i + 1).toNatClampNeg) (xs (nI i + 2).toNatClampNeg)
  refine lv_aload_n hx hb dL_law_300 rfl (lv_at hl 1 rfl) ?_
  refine lv_aload_n hx hb dL_law_301 rfl (lv_at hl 0 rfl) ?_
  refine lv_iload hx hb dL_law_302 (lv_at hl 4 rfl) ?_
  refine lv_iconst (v := 1) hx hb dL_law_304 (by decide) ?_
  refine lv_iadd hx hb dL_law_305 ?_
  refine va_sld hx hb hX hbl hbA hS in1 dL_law_306 ?_
  refine lv_aload_n hx hb dL_law_307 rfl (lv_at hl 0 rfl) ?_
  refine lv_iload hx hb dL_law_308 (lv_at hl 4 rfl) ?_
  refine lv_iconst (v := 2) hx hb dL_law_310 (by decide) ?_
  refine lv_iadd hx hb dL_law_311 ?_
  refine va_sld hx hb hX hbl hbA hS in2 dL_law_312 ?_
  refine lr_i (vx_runSW (As := [.ref (g 0), .int (xs (nI i + 1).toNatClampNeg), .int (xs (nI i + 2).toNatClampNeg)]) (rest := []) ⟨hx, hb, hml, hown, hts⟩ (c_L_need l hl9 D ca g x (xs (nI i + 1).toNatClampNeg) (xs (nI i + 2).toNatClampNeg) o fo q1 q3.1 H.size) (vx_cwSW 3 hts gL_law_L_need rfl rfl rfl (by decide +kernel) ⟨Nat.le_of_ble_eq_true rfl, Nat.le_of_ble_eq_true rfl⟩) (tP_S (app_l hP) hC (appD_l hD) hz hS hA) rfl rfl hl.1 rfl (lv_room (Nat.le_of_ble_eq_true rfl)) dL_law_313 ⟨hrc, hr6⟩) hP hD hS hA (fun g' H locs hg hP hD hS => ?_)
  refine lv_istore (lv' := [(5, .int (wk 0 1 0 r.1)), (0, .ref b), (1, .ref (g 0)), (2, .ref (h 0)), (3, .ref o), (4, .int (nI i))]) hx hb dL_law_316 hl (by decide) rfl (fun ls hl => ?_)
  refine lv_aload_n hx hb dL_law_318 rfl (lv_at hl 3 rfl) ?_
  refine lv_aload_n hx hb dL_law_319 rfl (lv_at hl 1 rfl) ?_
  refine lv_iload hx hb dL_law_320 (lv_at hl 5 rfl) ?_
  refine lv_iconst (v := 1) hx hb dL_law_322 (by decide) ?_
  refine lv_iadd hx hb dL_law_323 ?_
  refine va_sld hx hb hX hbl hbA hS in1 dL_law_324 ?_
  refine lv_aload_n hx hb dL_law_325 rfl (lv_at hl 1 rfl) ?_
  refine lv_iload hx hb dL_law_326 (lv_at hl 5 rfl) ?_
  refine lv_iconst (v := 2) hx hb dL_law_328 (by decide) ?_
  refine lv_iadd hx hb dL_law_329 ?_
  refine va_sld hx hb hX hbl hbA hS in2 dL_law_330 ?_
  refine mr_v (va_runV (As := [.int (xs (nI i + 1).toNatClampNeg), .int (xs (nI i + 2).toNatClampNeg)]) (rest := []) ⟨hx, hb, hml, hown, hts⟩ (c_X5_need l D ca h y (xs (nI i + 1).toNatClampNeg) (xs (nI i + 2).toNatClampNeg) q2 H.size) (cwV 2 hts gL_law_X5_need rfl rfl rfl (by decide +kernel) ⟨Nat.le_of_ble_eq_true rfl, Nat.le_of_ble_eq_true rfl⟩) (wP_V (q := (RX5, TX5, 30)) (app_r hP) hC (appD_r hD) 0 rfl rfl) rfl rfl hl.1 rfl (lv_room (Nat.le_of_ble_eq_true rfl)) dL_law_331 ⟨hrc, hr6⟩) hP hD hS hA (fun H locs hP hD hS => ?_)
  refine lv_aload_n hx hb dL_law_334 rfl (lv_at hl 3 rfl) ?_
  refine rd_i (va_runV (As := []) (rest := []) ⟨hx, hb, hml, hown, hts⟩ (c_X5_thrown l D ca h y' rfl) (cwV 0 hts gL_law_X5_thrown rfl rfl rfl (by decide +kernel) ⟨Nat.le_of_ble_eq_true rfl, Nat.le_of_ble_eq_true rfl⟩) (rP_V (q := (RX5, TX5, 30)) (app_r hP) hC 0 rfl rfl) rfl rfl hl.1 rfl (lv_room (Nat.le_of_ble_eq_true rfl)) dL_law_335 ⟨hrc, hr6⟩) ?_
  refine lv_iload hx hb dL_law_338 (lv_at hl 0 rfl) ?_
  refine lv_icmp_eq (tgt := 345) hx hb dL_law_340 (by decide) (fun _ => ?_) (fun c9 => absurd q3.2.1.symm c9)
  rw [← hg] at hl
  refine lv_goto (tgt := 1786) hx hb dL_law_345 (by decide) ?_
  exact W.widen (k := cells + 1) (n := slots + 10) (by omega) (by omega) (kk g' fo r.2.2 y' H locs ls ⟨q3.2.2.2, hP, hD, hS, lv_sub hl [1, 2, 3, 4, 5] rfl⟩)
set_option maxHeartbeats 4000000 in
set_option maxRecDepth 100000 in
theorem lc_projector {p : Program} {l : Launch} {e : Env} {s : State} {m : MethodId} {below : List Frame} {meth : Method} {c : Code} {b L : Nat} {xs : Nat → Int32} {D : va_G} {ca : Nat → ClassId} (C : LC p l s m c b L xs D ca) {g h : Nat → Nat} {o i : Nat} {fo : Nat → Int64} {x y : XS} {H : Heap} {locs : List Loc} {ls : Array Slot} {cells slots : Nat} {Q : State → Prop} (I : LI D ca s b i g h o fo x y H locs ls) (hi : i + 6 ≤ L) (hrc : cells + 1 ≤ room_1.cells) (hrs : slots + 10 ≤ room_1.slots) (kk : ∀ (g' : Nat → Nat) (fo' : Nat → Int64) (x' y' : XS) (H : Heap) (locs : List Loc) (ls : Array Slot), LI D ca s b i g' h o fo' x' y' H locs ls → W p l e room_1 s m #[Value.ref b] below meth c H locs (cells + 1) (slots + 10) Q (F0 m 1786 ls [])) : W p l e room_1 s m #[Value.ref b] below meth c H locs cells slots Q (F0 m 348 ls []) := by
  obtain ⟨hx, hb, hml, hown, hts, hX, hbl, hC, hz, hl9, hL⟩ := C
  obtain ⟨hR, hP, hD, hS, hl⟩ := I
  have hA : ∀ q : Nat, s.heap.size ≤ q → (fun q => s.heap.size ≤ q) q := fun _ h => h
  have hbA : ¬ (fun q : Nat => s.heap.size ≤ q) b := Nat.not_le.mpr hbl
  have hK := hC.1
  have hr6 : slots + 6 ≤ room_1.slots := by omega
  have in1 : vp_in (nI i + 1) L := pk_in (i + 1) L (by omega) (nI_add i 1) (by omega)
  have in2 : vp_in (nI i + 2) L := pk_in (i + 2) L (by omega) (nI_add i 2) (by omega)
  have in3 : vp_in (nI i + 3) L := pk_in (i + 3) L (by omega) (nI_add i 3) (by omega)
  have in4 : vp_in (nI i + 4) L := pk_in (i + 4) L (by omega) (nI_add i 4) (by omega)
  have in5 : vp_in (nI i + 5) L := pk_in (i + 5) L (by omega) (nI_add i 5) (by omega)
  obtain ⟨r, v, y', q1, q2, q3⟩ := rel_projector hR (xs (nI i + 1).toNatClampNeg) (xs (nI i + 2).toNatClampNeg) (xs (nI i + 3).toNatClampNeg) (xs (nI i + 4).toNatClampNeg) (xs (nI i + 5).toNatClampNeg)
  refine lv_aload_n hx hb dL_law_348 rfl (lv_at hl 1 rfl) ?_
  refine lv_aload_n hx hb dL_law_349 rfl (lv_at hl 0 rfl) ?_
  refine lv_iload hx hb dL_law_350 (lv_at hl 4 rfl) ?_
  refine lv_iconst (v := 1) hx hb dL_law_352 (by decide) ?_
  refine lv_iadd hx hb dL_law_353 ?_
  refine va_sld hx hb hX hbl hbA hS in1 dL_law_354 ?_
  refine lv_aload_n hx hb dL_law_355 rfl (lv_at hl 0 rfl) ?_
  refine lv_iload hx hb dL_law_356 (lv_at hl 4 rfl) ?_
  refine lv_iconst (v := 2) hx hb dL_law_358 (by decide) ?_
  refine lv_iadd hx hb dL_law_359 ?_
  refine va_sld hx hb hX hbl hbA hS in2 dL_law_360 ?_
  refine lv_aload_n hx hb dL_law_361 rfl (lv_at hl 0 rfl) ?_
  refine lv_iload hx hb dL_law_362 (lv_at hl 4 rfl) ?_
  refine lv_iconst (v := 3) hx hb dL_law_364 (by decide) ?_
  refine lv_iadd hx hb dL_law_365 ?_
  refine va_sld hx hb hX hbl hbA hS in3 dL_law_366 ?_
  refine lv_aload_n hx hb dL_law_367 rfl (lv_at hl 0 rfl) ?_
  refine lv_iload hx hb dL_law_368 (lv_at hl 4 rfl) ?_
  refine lv_iconst (v := 4) hx hb dL_law_370 (by decide) ?_
  refine lv_iadd hx hb dL_law_371 ?_
  refine va_sld hx hb hX hbl hbA hS in4 dL_law_372 ?_
  refine lv_aload_n hx hb dL_law_373 rfl (lv_at hl 0 rfl) ?_
  refine lv_iload hx hb dL_law_374 (lv_at hl 4 rfl) ?_
  refine lv_iconst (v := 5) hx hb dL_law_376 (by decide) ?_
  refine lv_iadd hx hb dL_law_377 ?_
  refine va_sld hx hb hX hbl hbA hS in5 dL_law_378 ?_
  refine lv_aload_n hx hb dL_law_379 rfl (lv_at hl 3 rfl) ?_
  refine lr_i (vx_runSW (As := [.ref (g 0), .int (xs (nI i + 1).toNatClampNeg), .int (xs (nI i + 2).toNatClampNeg), .int (xs (nI i + 3).toNatClampNeg), .int (xs (nI i + 4).toNatClampNeg), .int (xs (nI i + 5).toNatClampNeg), .ref o]) (rest := []) ⟨hx, hb, hml, hown, hts⟩ (c_L_projector l hl9 D ca g x (xs (nI i + 1).toNatClampNeg) (xs (nI i + 2).toNatClampNeg) (xs (nI i + 3).toNatClampNeg) (xs (nI i + 4).toNatClampNeg) (xs (nI i + 5).toNatClampNeg) o fo q1 q3.1 H.size) (vx_cwSW 7 hts gL_law_L_projector rfl rfl rfl (by decide +kernel) ⟨Nat.le_of_ble_eq_true rfl, Nat.le_of_ble_eq_true rfl⟩) (tP_S (app_l hP) hC (appD_l hD) hz hS hA) rfl rfl hl.1 rfl (lv_room (Nat.le_of_ble_eq_true rfl)) dL_law_380 ⟨hrc, hrs⟩) hP hD hS hA (fun g' H locs hg hP hD hS => ?_)
  refine lv_istore (lv' := [(5, .int (wk 1 2 3 r.1)), (0, .ref b), (1, .ref (g 0)), (2, .ref (h 0)), (3, .ref o), (4, .int (nI i))]) hx hb dL_law_383 hl (by decide) rfl (fun ls hl => ?_)
  refine lv_aload_n hx hb dL_law_385 rfl (lv_at hl 3 rfl) ?_
  refine lv_aload_n hx hb dL_law_386 rfl (lv_at hl 1 rfl) ?_
  refine lv_iload hx hb dL_law_387 (lv_at hl 5 rfl) ?_
  refine lv_iconst (v := 1) hx hb dL_law_389 (by decide) ?_
  refine lv_iadd hx hb dL_law_390 ?_
  refine va_sld hx hb hX hbl hbA hS in1 dL_law_391 ?_
  refine lv_aload_n hx hb dL_law_392 rfl (lv_at hl 1 rfl) ?_
  refine lv_iload hx hb dL_law_393 (lv_at hl 5 rfl) ?_
  refine lv_iconst (v := 2) hx hb dL_law_395 (by decide) ?_
  refine lv_iadd hx hb dL_law_396 ?_
  refine va_sld hx hb hX hbl hbA hS in2 dL_law_397 ?_
  refine lv_aload_n hx hb dL_law_398 rfl (lv_at hl 1 rfl) ?_
  refine lv_iload hx hb dL_law_399 (lv_at hl 5 rfl) ?_
  refine lv_iconst (v := 3) hx hb dL_law_401 (by decide) ?_
  refine lv_iadd hx hb dL_law_402 ?_
  refine va_sld hx hb hX hbl hbA hS in3 dL_law_403 ?_
  refine lv_aload_n hx hb dL_law_404 rfl (lv_at hl 1 rfl) ?_
  refine lv_iload hx hb dL_law_405 (lv_at hl 5 rfl) ?_
  refine lv_iconst (v := 4) hx hb dL_law_407 (by decide) ?_
  refine lv_iadd hx hb dL_law_408 ?_
  refine va_sld hx hb hX hbl hbA hS in4 dL_law_409 ?_
  refine lv_aload_n hx hb dL_law_410 rfl (lv_at hl 1 rfl) ?_
  refine lv_iload hx hb dL_law_411 (lv_at hl 5 rfl) ?_
  refine lv_iconst (v := 5) hx hb dL_law_413 (by decide) ?_
  refine lv_iadd hx hb dL_law_414 ?_
  refine va_sld hx hb hX hbl hbA hS in5 dL_law_415 ?_
  refine mr_i (va_runV (As := [.int (xs (nI i + 1).toNatClampNeg), .int (xs (nI i + 2).toNatClampNeg), .int (xs (nI i + 3).toNatClampNeg), .int (xs (nI i + 4).toNatClampNeg), .int (xs (nI i + 5).toNatClampNeg)]) (rest := []) ⟨hx, hb, hml, hown, hts⟩ (c_X5_projector l D ca h y (xs (nI i + 1).toNatClampNeg) (xs (nI i + 2).toNatClampNeg) (xs (nI i + 3).toNatClampNeg) (xs (nI i + 4).toNatClampNeg) (xs (nI i + 5).toNatClampNeg) q2 H.size) (cwV 5 hts gL_law_X5_projector rfl rfl rfl (by decide +kernel) ⟨Nat.le_of_ble_eq_true rfl, Nat.le_of_ble_eq_true rfl⟩) (wP_V (q := (RX5, TX5, 30)) (app_r hP) hC (appD_r hD) 0 rfl rfl) rfl rfl hl.1 rfl (lv_room (Nat.le_of_ble_eq_true rfl)) dL_law_416 ⟨hrc, hrs⟩) hP hD hS hA (fun H locs hP hD hS => ?_)
  refine lv_istore (lv' := [(6, .int v), (5, .int (wk 1 2 3 r.1)), (0, .ref b), (1, .ref (g 0)), (2, .ref (h 0)), (3, .ref o), (4, .int (nI i))]) hx hb dL_law_419 hl (by decide) rfl (fun ls hl => ?_)
  refine lv_aload_n hx hb dL_law_421 rfl (lv_at hl 4 rfl) ?_
  refine rd_i (va_runV (As := []) (rest := []) ⟨hx, hb, hml, hown, hts⟩ (c_X5_thrown l D ca h y' rfl) (cwV 0 hts gL_law_X5_thrown rfl rfl rfl (by decide +kernel) ⟨Nat.le_of_ble_eq_true rfl, Nat.le_of_ble_eq_true rfl⟩) (rP_V (q := (RX5, TX5, 30)) (app_r hP) hC 0 rfl rfl) rfl rfl hl.1 rfl (lv_room (Nat.le_of_ble_eq_true rfl)) dL_law_422 ⟨hrc, hrs⟩) ?_
  refine lv_iload hx hb dL_law_425 (lv_at hl 1 rfl) ?_
  refine lv_icmp_eq (tgt := 432) hx hb dL_law_427 (by decide) (fun _ => ?_) (fun c9 => absurd q3.2.1.symm c9)
  rw [← hg] at hl
  refine lv_iload hx hb dL_law_432 (lv_at hl 1 rfl) ?_
  have hend : W p l e room_1 s m #[Value.ref b] below meth c H locs (cells + 1) (slots + 10) Q (F0 m 449 ls []) := by
    refine lv_goto (tgt := 1786) hx hb dL_law_449 (by decide) ?_
    exact W.widen (k := cells + 1) (n := slots + 10) (by omega) (by omega) (kk g' (wfo r.1 fo r.2.1.toInt64) r.2.2 y' H locs ls ⟨q3.2.2.2, hP, hD, hS, lv_sub hl [2, 3, 4, 5, 6] rfl⟩)
  refine lv_if_ne (tgt := 449) hx hb dL_law_434 (by decide) (fun _ => hend) (fun c9 => ?_)
  have h0 : r.1 = 0 := by
    rcases q3.1 with h | h | h | h
    · exact h
    · rw [h] at c9; exact absurd c9 (by decide)
    · rw [h] at c9; exact absurd c9 (by decide)
    · rw [h] at c9; exact absurd c9 (by decide)
  refine lv_aload_n hx hb dL_law_437 rfl (lv_at hl 5 rfl) ?_
  refine lv_iconst (v := 0) hx hb dL_law_438 (by decide) ?_
  refine va_lald (D := D) (cA := ca 2) (n := 1) (f := (wfo r.1 fo r.2.1.toInt64)) hx hb hK hP ((wX g' ca r.2.2).length + 0) 2 (by rw [List.append_assoc]; exact la_get (k := 0) rfl) rfl (by unfold vp_in; decide) dL_law_439 ?_
  rw [wfo_0 h0, q3.2.2.1 h0]
  refine lv_iload hx hb dL_law_440 (lv_at hl 0 rfl) ?_
  refine lv_i2l hx hb dL_law_442 rfl ?_
  refine lv_lcmpE hx hb dL_law_443 ?_
  exact lv_if_eq (tgt := 449) hx hb dL_law_444 (by decide) (fun _ => hend) (fun c9 => absurd rfl c9)
set_option maxHeartbeats 4000000 in
set_option maxRecDepth 100000 in
theorem lc_aim {p : Program} {l : Launch} {e : Env} {s : State} {m : MethodId} {below : List Frame} {meth : Method} {c : Code} {b L : Nat} {xs : Nat → Int32} {D : va_G} {ca : Nat → ClassId} (C : LC p l s m c b L xs D ca) {g h : Nat → Nat} {o i : Nat} {fo : Nat → Int64} {x y : XS} {H : Heap} {locs : List Loc} {ls : Array Slot} {cells slots : Nat} {Q : State → Prop} (I : LI D ca s b i g h o fo x y H locs ls) (hi : i + 6 ≤ L) (hrc : cells + 1 ≤ room_1.cells) (hrs : slots + 10 ≤ room_1.slots) (kk : ∀ (g' : Nat → Nat) (fo' : Nat → Int64) (x' y' : XS) (H : Heap) (locs : List Loc) (ls : Array Slot), LI D ca s b i g' h o fo' x' y' H locs ls → W p l e room_1 s m #[Value.ref b] below meth c H locs (cells + 1) (slots + 10) Q (F0 m 1786 ls [])) : W p l e room_1 s m #[Value.ref b] below meth c H locs cells slots Q (F0 m 452 ls []) := by
  obtain ⟨hx, hb, hml, hown, hts, hX, hbl, hC, hz, hl9, hL⟩ := C
  obtain ⟨hR, hP, hD, hS, hl⟩ := I
  have hA : ∀ q : Nat, s.heap.size ≤ q → (fun q => s.heap.size ≤ q) q := fun _ h => h
  have hbA : ¬ (fun q : Nat => s.heap.size ≤ q) b := Nat.not_le.mpr hbl
  have hK := hC.1
  have hr6 : slots + 6 ≤ room_1.slots := by omega
  have in1 : vp_in (nI i + 1) L := pk_in (i + 1) L (by omega) (nI_add i 1) (by omega)
  have in2 : vp_in (nI i + 2) L := pk_in (i + 2) L (by omega) (nI_add i 2) (by omega)
  have in3 : vp_in (nI i + 3) L := pk_in (i + 3) L (by omega) (nI_add i 3) (by omega)
  have in4 : vp_in (nI i + 4) L := pk_in (i + 4) L (by omega) (nI_add i 4) (by omega)
  have in5 : vp_in (nI i + 5) L := pk_in (i + 5) L (by omega) (nI_add i 5) (by omega)
  obtain ⟨r, y', q1, q2, q3⟩ := rel_aim hR (xs (nI i + 1).toNatClampNeg) (xs (nI i + 2).toNatClampNeg) (xs (nI i + 3).toNatClampNeg)
  refine lv_aload_n hx hb dL_law_452 rfl (lv_at hl 1 rfl) ?_
  refine lv_aload_n hx hb dL_law_453 rfl (lv_at hl 0 rfl) ?_
  refine lv_iload hx hb dL_law_454 (lv_at hl 4 rfl) ?_
  refine lv_iconst (v := 1) hx hb dL_law_456 (by decide) ?_
  refine lv_iadd hx hb dL_law_457 ?_
  refine va_sld hx hb hX hbl hbA hS in1 dL_law_458 ?_
  refine lv_aload_n hx hb dL_law_459 rfl (lv_at hl 0 rfl) ?_
  refine lv_iload hx hb dL_law_460 (lv_at hl 4 rfl) ?_
  refine lv_iconst (v := 2) hx hb dL_law_462 (by decide) ?_
  refine lv_iadd hx hb dL_law_463 ?_
  refine va_sld hx hb hX hbl hbA hS in2 dL_law_464 ?_
  refine lv_aload_n hx hb dL_law_465 rfl (lv_at hl 0 rfl) ?_
  refine lv_iload hx hb dL_law_466 (lv_at hl 4 rfl) ?_
  refine lv_iconst (v := 3) hx hb dL_law_468 (by decide) ?_
  refine lv_iadd hx hb dL_law_469 ?_
  refine va_sld hx hb hX hbl hbA hS in3 dL_law_470 ?_
  refine lr_i (vx_runSW (As := [.ref (g 0), .int (xs (nI i + 1).toNatClampNeg), .int (xs (nI i + 2).toNatClampNeg), .int (xs (nI i + 3).toNatClampNeg)]) (rest := []) ⟨hx, hb, hml, hown, hts⟩ (c_L_aim l hl9 D ca g x (xs (nI i + 1).toNatClampNeg) (xs (nI i + 2).toNatClampNeg) (xs (nI i + 3).toNatClampNeg) o fo q1 q3.1 H.size) (vx_cwSW 4 hts gL_law_L_aim rfl rfl rfl (by decide +kernel) ⟨Nat.le_of_ble_eq_true rfl, Nat.le_of_ble_eq_true rfl⟩) (tP_S (app_l hP) hC (appD_l hD) hz hS hA) rfl rfl hl.1 rfl (lv_room (Nat.le_of_ble_eq_true rfl)) dL_law_471 ⟨hrc, hr6⟩) hP hD hS hA (fun g' H locs hg hP hD hS => ?_)
  refine lv_istore (lv' := [(5, .int (wk 1 2 0 r.1)), (0, .ref b), (1, .ref (g 0)), (2, .ref (h 0)), (3, .ref o), (4, .int (nI i))]) hx hb dL_law_474 hl (by decide) rfl (fun ls hl => ?_)
  refine lv_aload_n hx hb dL_law_476 rfl (lv_at hl 3 rfl) ?_
  refine lv_aload_n hx hb dL_law_477 rfl (lv_at hl 1 rfl) ?_
  refine lv_iload hx hb dL_law_478 (lv_at hl 5 rfl) ?_
  refine lv_iconst (v := 1) hx hb dL_law_480 (by decide) ?_
  refine lv_iadd hx hb dL_law_481 ?_
  refine va_sld hx hb hX hbl hbA hS in1 dL_law_482 ?_
  refine lv_aload_n hx hb dL_law_483 rfl (lv_at hl 1 rfl) ?_
  refine lv_iload hx hb dL_law_484 (lv_at hl 5 rfl) ?_
  refine lv_iconst (v := 2) hx hb dL_law_486 (by decide) ?_
  refine lv_iadd hx hb dL_law_487 ?_
  refine va_sld hx hb hX hbl hbA hS in2 dL_law_488 ?_
  refine lv_aload_n hx hb dL_law_489 rfl (lv_at hl 1 rfl) ?_
  refine lv_iload hx hb dL_law_490 (lv_at hl 5 rfl) ?_
  refine lv_iconst (v := 3) hx hb dL_law_492 (by decide) ?_
  refine lv_iadd hx hb dL_law_493 ?_
  refine va_sld hx hb hX hbl hbA hS in3 dL_law_494 ?_
  refine mr_v (va_runV (As := [.int (xs (nI i + 1).toNatClampNeg), .int (xs (nI i + 2).toNatClampNeg), .int (xs (nI i + 3).toNatClampNeg)]) (rest := []) ⟨hx, hb, hml, hown, hts⟩ (c_X5_aim l D ca h y (xs (nI i + 1).toNatClampNeg) (xs (nI i + 2).toNatClampNeg) (xs (nI i + 3).toNatClampNeg) q2 H.size) (cwV 3 hts gL_law_X5_aim rfl rfl rfl (by decide +kernel) ⟨Nat.le_of_ble_eq_true rfl, Nat.le_of_ble_eq_true rfl⟩) (wP_V (q := (RX5, TX5, 30)) (app_r hP) hC (appD_r hD) 0 rfl rfl) rfl rfl hl.1 rfl (lv_room (Nat.le_of_ble_eq_true rfl)) dL_law_495 ⟨hrc, hr6⟩) hP hD hS hA (fun H locs hP hD hS => ?_)
  refine lv_aload_n hx hb dL_law_498 rfl (lv_at hl 3 rfl) ?_
  refine rd_i (va_runV (As := []) (rest := []) ⟨hx, hb, hml, hown, hts⟩ (c_X5_thrown l D ca h y' rfl) (cwV 0 hts gL_law_X5_thrown rfl rfl rfl (by decide +kernel) ⟨Nat.le_of_ble_eq_true rfl, Nat.le_of_ble_eq_true rfl⟩) (rP_V (q := (RX5, TX5, 30)) (app_r hP) hC 0 rfl rfl) rfl rfl hl.1 rfl (lv_room (Nat.le_of_ble_eq_true rfl)) dL_law_499 ⟨hrc, hr6⟩) ?_
  refine lv_iload hx hb dL_law_502 (lv_at hl 0 rfl) ?_
  refine lv_icmp_eq (tgt := 509) hx hb dL_law_504 (by decide) (fun _ => ?_) (fun c9 => absurd q3.2.1.symm c9)
  rw [← hg] at hl
  refine lv_goto (tgt := 1786) hx hb dL_law_509 (by decide) ?_
  exact W.widen (k := cells + 1) (n := slots + 10) (by omega) (by omega) (kk g' fo r.2.2 y' H locs ls ⟨q3.2.2.2, hP, hD, hS, lv_sub hl [1, 2, 3, 4, 5] rfl⟩)
set_option maxHeartbeats 4000000 in
set_option maxRecDepth 100000 in
theorem lc_turn {p : Program} {l : Launch} {e : Env} {s : State} {m : MethodId} {below : List Frame} {meth : Method} {c : Code} {b L : Nat} {xs : Nat → Int32} {D : va_G} {ca : Nat → ClassId} (C : LC p l s m c b L xs D ca) {g h : Nat → Nat} {o i : Nat} {fo : Nat → Int64} {x y : XS} {H : Heap} {locs : List Loc} {ls : Array Slot} {cells slots : Nat} {Q : State → Prop} (I : LI D ca s b i g h o fo x y H locs ls) (hi : i + 6 ≤ L) (hrc : cells + 1 ≤ room_1.cells) (hrs : slots + 10 ≤ room_1.slots) (kk : ∀ (g' : Nat → Nat) (fo' : Nat → Int64) (x' y' : XS) (H : Heap) (locs : List Loc) (ls : Array Slot), LI D ca s b i g' h o fo' x' y' H locs ls → W p l e room_1 s m #[Value.ref b] below meth c H locs (cells + 1) (slots + 10) Q (F0 m 1786 ls [])) : W p l e room_1 s m #[Value.ref b] below meth c H locs cells slots Q (F0 m 512 ls []) := by
  obtain ⟨hx, hb, hml, hown, hts, hX, hbl, hC, hz, hl9, hL⟩ := C
  obtain ⟨hR, hP, hD, hS, hl⟩ := I
  have hA : ∀ q : Nat, s.heap.size ≤ q → (fun q => s.heap.size ≤ q) q := fun _ h => h
  have hbA : ¬ (fun q : Nat => s.heap.size ≤ q) b := Nat.not_le.mpr hbl
  have hK := hC.1
  have hr6 : slots + 6 ≤ room_1.slots := by omega
  have in1 : vp_in (nI i + 1) L := pk_in (i + 1) L (by omega) (nI_add i 1) (by omega)
  have in2 : vp_in (nI i + 2) L := pk_in (i + 2) L (by omega) (nI_add i 2) (by omega)
  have in3 : vp_in (nI i + 3) L := pk_in (i + 3) L (by omega) (nI_add i 3) (by omega)
  have in4 : vp_in (nI i + 4) L := pk_in (i + 4) L (by omega) (nI_add i 4) (by omega)
  have in5 : vp_in (nI i + 5) L := pk_in (i + 5) L (by omega) (nI_add i 5) (by omega)
  obtain ⟨r, v, y', q1, q2, q3⟩ := rel_turn hR (xs (nI i + 1).toNatClampNeg) (decide (¬ (xs (nI i + 2).toNatClampNeg) = 0))
  refine lv_aload_n hx hb dL_law_512 rfl (lv_at hl 1 rfl) ?_
  refine lv_aload_n hx hb dL_law_513 rfl (lv_at hl 0 rfl) ?_
  refine lv_iload hx hb dL_law_514 (lv_at hl 4 rfl) ?_
  refine lv_iconst (v := 1) hx hb dL_law_516 (by decide) ?_
  refine lv_iadd hx hb dL_law_517 ?_
  refine va_sld hx hb hX hbl hbA hS in1 dL_law_518 ?_
  refine lv_aload_n hx hb dL_law_519 rfl (lv_at hl 0 rfl) ?_
  refine lv_iload hx hb dL_law_520 (lv_at hl 4 rfl) ?_
  refine lv_iconst (v := 2) hx hb dL_law_522 (by decide) ?_
  refine lv_iadd hx hb dL_law_523 ?_
  refine va_sld hx hb hX hbl hbA hS in2 dL_law_524 ?_
  refine lv_bool hx hb dL_law_525 dL_law_528 dL_law_529 dL_law_532 ?_
  refine lv_aload_n hx hb dL_law_533 rfl (lv_at hl 3 rfl) ?_
  refine lr_i (vx_runSW (As := [.ref (g 0), .int (xs (nI i + 1).toNatClampNeg), .int (b2i (decide (¬ (xs (nI i + 2).toNatClampNeg) = 0))), .ref o]) (rest := []) ⟨hx, hb, hml, hown, hts⟩ (c_L_turn l hl9 D ca g x (xs (nI i + 1).toNatClampNeg) (b2i (decide (¬ (xs (nI i + 2).toNatClampNeg) = 0))) o fo q1 q3.1 H.size) (vx_cwSW 4 hts gL_law_L_turn rfl rfl rfl (by decide +kernel) ⟨Nat.le_of_ble_eq_true rfl, Nat.le_of_ble_eq_true rfl⟩) (tP_S (app_l hP) hC (appD_l hD) hz hS hA) rfl rfl hl.1 rfl (lv_room (Nat.le_of_ble_eq_true rfl)) dL_law_534 ⟨hrc, hr6⟩) hP hD hS hA (fun g' H locs hg hP hD hS => ?_)
  refine lv_istore (lv' := [(5, .int (wk 1 0 2 r.1)), (0, .ref b), (1, .ref (g 0)), (2, .ref (h 0)), (3, .ref o), (4, .int (nI i))]) hx hb dL_law_537 hl (by decide) rfl (fun ls hl => ?_)
  refine lv_aload_n hx hb dL_law_539 rfl (lv_at hl 3 rfl) ?_
  refine lv_aload_n hx hb dL_law_540 rfl (lv_at hl 1 rfl) ?_
  refine lv_iload hx hb dL_law_541 (lv_at hl 5 rfl) ?_
  refine lv_iconst (v := 1) hx hb dL_law_543 (by decide) ?_
  refine lv_iadd hx hb dL_law_544 ?_
  refine va_sld hx hb hX hbl hbA hS in1 dL_law_545 ?_
  refine lv_aload_n hx hb dL_law_546 rfl (lv_at hl 1 rfl) ?_
  refine lv_iload hx hb dL_law_547 (lv_at hl 5 rfl) ?_
  refine lv_iconst (v := 2) hx hb dL_law_549 (by decide) ?_
  refine lv_iadd hx hb dL_law_550 ?_
  refine va_sld hx hb hX hbl hbA hS in2 dL_law_551 ?_
  refine lv_bool hx hb dL_law_552 dL_law_555 dL_law_556 dL_law_559 ?_
  refine mr_i (va_runV (As := [.int (xs (nI i + 1).toNatClampNeg), .int (b2i (decide (¬ (xs (nI i + 2).toNatClampNeg) = 0)))]) (rest := []) ⟨hx, hb, hml, hown, hts⟩ (c_X5_turn l D ca h y (xs (nI i + 1).toNatClampNeg) (b2i (decide (¬ (xs (nI i + 2).toNatClampNeg) = 0))) q2 H.size) (cwV 2 hts gL_law_X5_turn rfl rfl rfl (by decide +kernel) ⟨Nat.le_of_ble_eq_true rfl, Nat.le_of_ble_eq_true rfl⟩) (wP_V (q := (RX5, TX5, 30)) (app_r hP) hC (appD_r hD) 0 rfl rfl) rfl rfl hl.1 rfl (lv_room (Nat.le_of_ble_eq_true rfl)) dL_law_560 ⟨hrc, hr6⟩) hP hD hS hA (fun H locs hP hD hS => ?_)
  refine lv_istore (lv' := [(6, .int v), (5, .int (wk 1 0 2 r.1)), (0, .ref b), (1, .ref (g 0)), (2, .ref (h 0)), (3, .ref o), (4, .int (nI i))]) hx hb dL_law_563 hl (by decide) rfl (fun ls hl => ?_)
  refine lv_aload_n hx hb dL_law_565 rfl (lv_at hl 4 rfl) ?_
  refine rd_i (va_runV (As := []) (rest := []) ⟨hx, hb, hml, hown, hts⟩ (c_X5_thrown l D ca h y' rfl) (cwV 0 hts gL_law_X5_thrown rfl rfl rfl (by decide +kernel) ⟨Nat.le_of_ble_eq_true rfl, Nat.le_of_ble_eq_true rfl⟩) (rP_V (q := (RX5, TX5, 30)) (app_r hP) hC 0 rfl rfl) rfl rfl hl.1 rfl (lv_room (Nat.le_of_ble_eq_true rfl)) dL_law_566 ⟨hrc, hr6⟩) ?_
  refine lv_iload hx hb dL_law_569 (lv_at hl 1 rfl) ?_
  refine lv_icmp_eq (tgt := 576) hx hb dL_law_571 (by decide) (fun _ => ?_) (fun c9 => absurd q3.2.1.symm c9)
  rw [← hg] at hl
  refine lv_iload hx hb dL_law_576 (lv_at hl 1 rfl) ?_
  have hend : W p l e room_1 s m #[Value.ref b] below meth c H locs (cells + 1) (slots + 6) Q (F0 m 600 ls []) := by
    refine lv_goto (tgt := 1786) hx hb dL_law_600 (by decide) ?_
    exact W.widen (k := cells + 1) (n := slots + 10) (by omega) (by omega) (kk g' (wfo r.1 fo (if r.2.1 = 0 then 0 else 1)) r.2.2 y' H locs ls ⟨q3.2.2.2, hP, hD, hS, lv_sub hl [2, 3, 4, 5, 6] rfl⟩)
  refine lv_if_ne (tgt := 600) hx hb dL_law_578 (by decide) (fun _ => hend) (fun c9 => ?_)
  have h0 : r.1 = 0 := by
    rcases q3.1 with h | h | h
    · exact h
    · rw [h] at c9; exact absurd c9 (by decide)
    · rw [h] at c9; exact absurd c9 (by decide)
  refine lv_aload_n hx hb dL_law_581 rfl (lv_at hl 5 rfl) ?_
  refine lv_iconst (v := 0) hx hb dL_law_582 (by decide) ?_
  refine va_lald (D := D) (cA := ca 2) (n := 1) (f := (wfo r.1 fo (if r.2.1 = 0 then 0 else 1))) hx hb hK hP ((wX g' ca r.2.2).length + 0) 2 (by rw [List.append_assoc]; exact la_get (k := 0) rfl) rfl (by unfold vp_in; decide) dL_law_583 ?_
  rw [wfo_0 h0, q3.2.2.1 h0]
  refine lv_iload hx hb dL_law_584 (lv_at hl 0 rfl) ?_
  refine lv_boolL hx hb dL_law_586 dL_law_589 dL_law_590 dL_law_593 ?_
  refine lv_lcmpE hx hb dL_law_594 ?_
  exact lv_if_eq (tgt := 600) hx hb dL_law_595 (by decide) (fun _ => hend) (fun c9 => absurd rfl c9)
set_option maxHeartbeats 4000000 in
set_option maxRecDepth 100000 in
theorem lc_fail {p : Program} {l : Launch} {e : Env} {s : State} {m : MethodId} {below : List Frame} {meth : Method} {c : Code} {b L : Nat} {xs : Nat → Int32} {D : va_G} {ca : Nat → ClassId} (C : LC p l s m c b L xs D ca) {g h : Nat → Nat} {o i : Nat} {fo : Nat → Int64} {x y : XS} {H : Heap} {locs : List Loc} {ls : Array Slot} {cells slots : Nat} {Q : State → Prop} (I : LI D ca s b i g h o fo x y H locs ls) (hi : i + 6 ≤ L) (hrc : cells + 1 ≤ room_1.cells) (hrs : slots + 10 ≤ room_1.slots) (kk : ∀ (g' : Nat → Nat) (fo' : Nat → Int64) (x' y' : XS) (H : Heap) (locs : List Loc) (ls : Array Slot), LI D ca s b i g' h o fo' x' y' H locs ls → W p l e room_1 s m #[Value.ref b] below meth c H locs (cells + 1) (slots + 10) Q (F0 m 1786 ls [])) : W p l e room_1 s m #[Value.ref b] below meth c H locs cells slots Q (F0 m 603 ls []) := by
  obtain ⟨hx, hb, hml, hown, hts, hX, hbl, hC, hz, hl9, hL⟩ := C
  obtain ⟨hR, hP, hD, hS, hl⟩ := I
  have hA : ∀ q : Nat, s.heap.size ≤ q → (fun q => s.heap.size ≤ q) q := fun _ h => h
  have hbA : ¬ (fun q : Nat => s.heap.size ≤ q) b := Nat.not_le.mpr hbl
  have hK := hC.1
  have hr6 : slots + 6 ≤ room_1.slots := by omega
  have in1 : vp_in (nI i + 1) L := pk_in (i + 1) L (by omega) (nI_add i 1) (by omega)
  have in2 : vp_in (nI i + 2) L := pk_in (i + 2) L (by omega) (nI_add i 2) (by omega)
  have in3 : vp_in (nI i + 3) L := pk_in (i + 3) L (by omega) (nI_add i 3) (by omega)
  have in4 : vp_in (nI i + 4) L := pk_in (i + 4) L (by omega) (nI_add i 4) (by omega)
  have in5 : vp_in (nI i + 5) L := pk_in (i + 5) L (by omega) (nI_add i 5) (by omega)
  obtain ⟨r, v, y', q1, q2, q3⟩ := rel_fail hR (xs (nI i + 1).toNatClampNeg) (decide (¬ (xs (nI i + 2).toNatClampNeg) = 0))
  refine lv_aload_n hx hb dL_law_603 rfl (lv_at hl 1 rfl) ?_
  refine lv_aload_n hx hb dL_law_604 rfl (lv_at hl 0 rfl) ?_
  refine lv_iload hx hb dL_law_605 (lv_at hl 4 rfl) ?_
  refine lv_iconst (v := 1) hx hb dL_law_607 (by decide) ?_
  refine lv_iadd hx hb dL_law_608 ?_
  refine va_sld hx hb hX hbl hbA hS in1 dL_law_609 ?_
  refine lv_aload_n hx hb dL_law_610 rfl (lv_at hl 0 rfl) ?_
  refine lv_iload hx hb dL_law_611 (lv_at hl 4 rfl) ?_
  refine lv_iconst (v := 2) hx hb dL_law_613 (by decide) ?_
  refine lv_iadd hx hb dL_law_614 ?_
  refine va_sld hx hb hX hbl hbA hS in2 dL_law_615 ?_
  refine lv_bool hx hb dL_law_616 dL_law_619 dL_law_620 dL_law_623 ?_
  refine lv_aload_n hx hb dL_law_624 rfl (lv_at hl 3 rfl) ?_
  refine lr_i (vx_runSW (As := [.ref (g 0), .int (xs (nI i + 1).toNatClampNeg), .int (b2i (decide (¬ (xs (nI i + 2).toNatClampNeg) = 0))), .ref o]) (rest := []) ⟨hx, hb, hml, hown, hts⟩ (c_L_fail l hl9 D ca g x (xs (nI i + 1).toNatClampNeg) (b2i (decide (¬ (xs (nI i + 2).toNatClampNeg) = 0))) o fo q1 q3.1 H.size) (vx_cwSW 4 hts gL_law_L_fail rfl rfl rfl (by decide +kernel) ⟨Nat.le_of_ble_eq_true rfl, Nat.le_of_ble_eq_true rfl⟩) (tP_S (app_l hP) hC (appD_l hD) hz hS hA) rfl rfl hl.1 rfl (lv_room (Nat.le_of_ble_eq_true rfl)) dL_law_625 ⟨hrc, hr6⟩) hP hD hS hA (fun g' H locs hg hP hD hS => ?_)
  refine lv_istore (lv' := [(5, .int (wk 1 0 0 r.1)), (0, .ref b), (1, .ref (g 0)), (2, .ref (h 0)), (3, .ref o), (4, .int (nI i))]) hx hb dL_law_628 hl (by decide) rfl (fun ls hl => ?_)
  refine lv_aload_n hx hb dL_law_630 rfl (lv_at hl 3 rfl) ?_
  refine lv_aload_n hx hb dL_law_631 rfl (lv_at hl 1 rfl) ?_
  refine lv_iload hx hb dL_law_632 (lv_at hl 5 rfl) ?_
  refine lv_iconst (v := 1) hx hb dL_law_634 (by decide) ?_
  refine lv_iadd hx hb dL_law_635 ?_
  refine va_sld hx hb hX hbl hbA hS in1 dL_law_636 ?_
  refine lv_aload_n hx hb dL_law_637 rfl (lv_at hl 1 rfl) ?_
  refine lv_iload hx hb dL_law_638 (lv_at hl 5 rfl) ?_
  refine lv_iconst (v := 2) hx hb dL_law_640 (by decide) ?_
  refine lv_iadd hx hb dL_law_641 ?_
  refine va_sld hx hb hX hbl hbA hS in2 dL_law_642 ?_
  refine lv_bool hx hb dL_law_643 dL_law_646 dL_law_647 dL_law_650 ?_
  refine mr_i (va_runV (As := [.int (xs (nI i + 1).toNatClampNeg), .int (b2i (decide (¬ (xs (nI i + 2).toNatClampNeg) = 0)))]) (rest := []) ⟨hx, hb, hml, hown, hts⟩ (c_X5_fail l D ca h y (xs (nI i + 1).toNatClampNeg) (b2i (decide (¬ (xs (nI i + 2).toNatClampNeg) = 0))) q2 H.size) (cwV 2 hts gL_law_X5_fail rfl rfl rfl (by decide +kernel) ⟨Nat.le_of_ble_eq_true rfl, Nat.le_of_ble_eq_true rfl⟩) (wP_V (q := (RX5, TX5, 30)) (app_r hP) hC (appD_r hD) 0 rfl rfl) rfl rfl hl.1 rfl (lv_room (Nat.le_of_ble_eq_true rfl)) dL_law_651 ⟨hrc, hr6⟩) hP hD hS hA (fun H locs hP hD hS => ?_)
  refine lv_istore (lv' := [(6, .int v), (5, .int (wk 1 0 0 r.1)), (0, .ref b), (1, .ref (g 0)), (2, .ref (h 0)), (3, .ref o), (4, .int (nI i))]) hx hb dL_law_654 hl (by decide) rfl (fun ls hl => ?_)
  refine lv_aload_n hx hb dL_law_656 rfl (lv_at hl 4 rfl) ?_
  refine rd_i (va_runV (As := []) (rest := []) ⟨hx, hb, hml, hown, hts⟩ (c_X5_thrown l D ca h y' rfl) (cwV 0 hts gL_law_X5_thrown rfl rfl rfl (by decide +kernel) ⟨Nat.le_of_ble_eq_true rfl, Nat.le_of_ble_eq_true rfl⟩) (rP_V (q := (RX5, TX5, 30)) (app_r hP) hC 0 rfl rfl) rfl rfl hl.1 rfl (lv_room (Nat.le_of_ble_eq_true rfl)) dL_law_657 ⟨hrc, hr6⟩) ?_
  refine lv_iload hx hb dL_law_660 (lv_at hl 1 rfl) ?_
  refine lv_icmp_eq (tgt := 667) hx hb dL_law_662 (by decide) (fun _ => ?_) (fun c9 => absurd q3.2.1.symm c9)
  rw [← hg] at hl
  refine lv_iload hx hb dL_law_667 (lv_at hl 1 rfl) ?_
  have hend : W p l e room_1 s m #[Value.ref b] below meth c H locs (cells + 1) (slots + 6) Q (F0 m 691 ls []) := by
    refine lv_goto (tgt := 1786) hx hb dL_law_691 (by decide) ?_
    exact W.widen (k := cells + 1) (n := slots + 10) (by omega) (by omega) (kk g' (wfo r.1 fo (if r.2.1 = 0 then 0 else 1)) r.2.2 y' H locs ls ⟨q3.2.2.2, hP, hD, hS, lv_sub hl [2, 3, 4, 5, 6] rfl⟩)
  refine lv_if_ne (tgt := 691) hx hb dL_law_669 (by decide) (fun _ => hend) (fun c9 => ?_)
  have h0 : r.1 = 0 := by
    rcases q3.1 with h | h
    · exact h
    · rw [h] at c9; exact absurd c9 (by decide)
  refine lv_aload_n hx hb dL_law_672 rfl (lv_at hl 5 rfl) ?_
  refine lv_iconst (v := 0) hx hb dL_law_673 (by decide) ?_
  refine va_lald (D := D) (cA := ca 2) (n := 1) (f := (wfo r.1 fo (if r.2.1 = 0 then 0 else 1))) hx hb hK hP ((wX g' ca r.2.2).length + 0) 2 (by rw [List.append_assoc]; exact la_get (k := 0) rfl) rfl (by unfold vp_in; decide) dL_law_674 ?_
  rw [wfo_0 h0, q3.2.2.1 h0]
  refine lv_iload hx hb dL_law_675 (lv_at hl 0 rfl) ?_
  refine lv_boolL hx hb dL_law_677 dL_law_680 dL_law_681 dL_law_684 ?_
  refine lv_lcmpE hx hb dL_law_685 ?_
  exact lv_if_eq (tgt := 691) hx hb dL_law_686 (by decide) (fun _ => hend) (fun c9 => absurd rfl c9)
set_option maxHeartbeats 4000000 in
set_option maxRecDepth 100000 in
theorem lc_phase {p : Program} {l : Launch} {e : Env} {s : State} {m : MethodId} {below : List Frame} {meth : Method} {c : Code} {b L : Nat} {xs : Nat → Int32} {D : va_G} {ca : Nat → ClassId} (C : LC p l s m c b L xs D ca) {g h : Nat → Nat} {o i : Nat} {fo : Nat → Int64} {x y : XS} {H : Heap} {locs : List Loc} {ls : Array Slot} {cells slots : Nat} {Q : State → Prop} (I : LI D ca s b i g h o fo x y H locs ls) (hi : i + 6 ≤ L) (hrc : cells + 1 ≤ room_1.cells) (hrs : slots + 10 ≤ room_1.slots) (kk : ∀ (g' : Nat → Nat) (fo' : Nat → Int64) (x' y' : XS) (H : Heap) (locs : List Loc) (ls : Array Slot), LI D ca s b i g' h o fo' x' y' H locs ls → W p l e room_1 s m #[Value.ref b] below meth c H locs (cells + 1) (slots + 10) Q (F0 m 1786 ls [])) : W p l e room_1 s m #[Value.ref b] below meth c H locs cells slots Q (F0 m 694 ls []) := by
  obtain ⟨hx, hb, hml, hown, hts, hX, hbl, hC, hz, hl9, hL⟩ := C
  obtain ⟨hR, hP, hD, hS, hl⟩ := I
  have hA : ∀ q : Nat, s.heap.size ≤ q → (fun q => s.heap.size ≤ q) q := fun _ h => h
  have hbA : ¬ (fun q : Nat => s.heap.size ≤ q) b := Nat.not_le.mpr hbl
  have hK := hC.1
  have hr6 : slots + 6 ≤ room_1.slots := by omega
  have in1 : vp_in (nI i + 1) L := pk_in (i + 1) L (by omega) (nI_add i 1) (by omega)
  have in2 : vp_in (nI i + 2) L := pk_in (i + 2) L (by omega) (nI_add i 2) (by omega)
  have in3 : vp_in (nI i + 3) L := pk_in (i + 3) L (by omega) (nI_add i 3) (by omega)
  have in4 : vp_in (nI i + 4) L := pk_in (i + 4) L (by omega) (nI_add i 4) (by omega)
  have in5 : vp_in (nI i + 5) L := pk_in (i + 5) L (by omega) (nI_add i 5) (by omega)
  obtain ⟨r, v, y', q1, q2, q3⟩ := rel_phase hR (xs (nI i + 1).toNatClampNeg) (xs (nI i + 2).toNatClampNeg)
  refine lv_aload_n hx hb dL_law_694 rfl (lv_at hl 1 rfl) ?_
  refine lv_aload_n hx hb dL_law_695 rfl (lv_at hl 0 rfl) ?_
  refine lv_iload hx hb dL_law_696 (lv_at hl 4 rfl) ?_
  refine lv_iconst (v := 1) hx hb dL_law_698 (by decide) ?_
  refine lv_iadd hx hb dL_law_699 ?_
  refine va_sld hx hb hX hbl hbA hS in1 dL_law_700 ?_
  refine lv_aload_n hx hb dL_law_701 rfl (lv_at hl 0 rfl) ?_
  refine lv_iload hx hb dL_law_702 (lv_at hl 4 rfl) ?_
  refine lv_iconst (v := 2) hx hb dL_law_704 (by decide) ?_
  refine lv_iadd hx hb dL_law_705 ?_
  refine va_sld hx hb hX hbl hbA hS in2 dL_law_706 ?_
  refine lv_aload_n hx hb dL_law_707 rfl (lv_at hl 3 rfl) ?_
  refine lr_i (vx_runSW (As := [.ref (g 0), .int (xs (nI i + 1).toNatClampNeg), .int (xs (nI i + 2).toNatClampNeg), .ref o]) (rest := []) ⟨hx, hb, hml, hown, hts⟩ (c_L_phase l hl9 D ca g x (xs (nI i + 1).toNatClampNeg) (xs (nI i + 2).toNatClampNeg) o fo q1 q3.1 H.size) (vx_cwSW 4 hts gL_law_L_phase rfl rfl rfl (by decide +kernel) ⟨Nat.le_of_ble_eq_true rfl, Nat.le_of_ble_eq_true rfl⟩) (tP_S (app_l hP) hC (appD_l hD) hz hS hA) rfl rfl hl.1 rfl (lv_room (Nat.le_of_ble_eq_true rfl)) dL_law_708 ⟨hrc, hr6⟩) hP hD hS hA (fun g' H locs hg hP hD hS => ?_)
  refine lv_istore (lv' := [(5, .int (wk 0 1 0 r.1)), (0, .ref b), (1, .ref (g 0)), (2, .ref (h 0)), (3, .ref o), (4, .int (nI i))]) hx hb dL_law_711 hl (by decide) rfl (fun ls hl => ?_)
  refine lv_aload_n hx hb dL_law_713 rfl (lv_at hl 3 rfl) ?_
  refine lv_aload_n hx hb dL_law_714 rfl (lv_at hl 1 rfl) ?_
  refine lv_iload hx hb dL_law_715 (lv_at hl 5 rfl) ?_
  refine lv_iconst (v := 1) hx hb dL_law_717 (by decide) ?_
  refine lv_iadd hx hb dL_law_718 ?_
  refine va_sld hx hb hX hbl hbA hS in1 dL_law_719 ?_
  refine lv_aload_n hx hb dL_law_720 rfl (lv_at hl 1 rfl) ?_
  refine lv_iload hx hb dL_law_721 (lv_at hl 5 rfl) ?_
  refine lv_iconst (v := 2) hx hb dL_law_723 (by decide) ?_
  refine lv_iadd hx hb dL_law_724 ?_
  refine va_sld hx hb hX hbl hbA hS in2 dL_law_725 ?_
  refine mr_i (va_runV (As := [.int (xs (nI i + 1).toNatClampNeg), .int (xs (nI i + 2).toNatClampNeg)]) (rest := []) ⟨hx, hb, hml, hown, hts⟩ (c_X5_phase l D ca h y (xs (nI i + 1).toNatClampNeg) (xs (nI i + 2).toNatClampNeg) q2 H.size) (cwV 2 hts gL_law_X5_phase rfl rfl rfl (by decide +kernel) ⟨Nat.le_of_ble_eq_true rfl, Nat.le_of_ble_eq_true rfl⟩) (wP_V (q := (RX5, TX5, 30)) (app_r hP) hC (appD_r hD) 0 rfl rfl) rfl rfl hl.1 rfl (lv_room (Nat.le_of_ble_eq_true rfl)) dL_law_726 ⟨hrc, hr6⟩) hP hD hS hA (fun H locs hP hD hS => ?_)
  refine lv_istore (lv' := [(6, .int v), (5, .int (wk 0 1 0 r.1)), (0, .ref b), (1, .ref (g 0)), (2, .ref (h 0)), (3, .ref o), (4, .int (nI i))]) hx hb dL_law_729 hl (by decide) rfl (fun ls hl => ?_)
  refine lv_aload_n hx hb dL_law_731 rfl (lv_at hl 4 rfl) ?_
  refine rd_i (va_runV (As := []) (rest := []) ⟨hx, hb, hml, hown, hts⟩ (c_X5_thrown l D ca h y' rfl) (cwV 0 hts gL_law_X5_thrown rfl rfl rfl (by decide +kernel) ⟨Nat.le_of_ble_eq_true rfl, Nat.le_of_ble_eq_true rfl⟩) (rP_V (q := (RX5, TX5, 30)) (app_r hP) hC 0 rfl rfl) rfl rfl hl.1 rfl (lv_room (Nat.le_of_ble_eq_true rfl)) dL_law_732 ⟨hrc, hr6⟩) ?_
  refine lv_iload hx hb dL_law_735 (lv_at hl 1 rfl) ?_
  refine lv_icmp_eq (tgt := 742) hx hb dL_law_737 (by decide) (fun _ => ?_) (fun c9 => absurd q3.2.1.symm c9)
  rw [← hg] at hl
  refine lv_iload hx hb dL_law_742 (lv_at hl 1 rfl) ?_
  have hend : W p l e room_1 s m #[Value.ref b] below meth c H locs (cells + 1) (slots + 6) Q (F0 m 759 ls []) := by
    refine lv_goto (tgt := 1786) hx hb dL_law_759 (by decide) ?_
    exact W.widen (k := cells + 1) (n := slots + 10) (by omega) (by omega) (kk g' (wfo r.1 fo r.2.1.toInt64) r.2.2 y' H locs ls ⟨q3.2.2.2, hP, hD, hS, lv_sub hl [2, 3, 4, 5, 6] rfl⟩)
  refine lv_if_ne (tgt := 759) hx hb dL_law_744 (by decide) (fun _ => hend) (fun c9 => ?_)
  have h0 : r.1 = 0 := by
    rcases q3.1 with h | h
    · exact h
    · rw [h] at c9; exact absurd c9 (by decide)
  refine lv_aload_n hx hb dL_law_747 rfl (lv_at hl 5 rfl) ?_
  refine lv_iconst (v := 0) hx hb dL_law_748 (by decide) ?_
  refine va_lald (D := D) (cA := ca 2) (n := 1) (f := (wfo r.1 fo r.2.1.toInt64)) hx hb hK hP ((wX g' ca r.2.2).length + 0) 2 (by rw [List.append_assoc]; exact la_get (k := 0) rfl) rfl (by unfold vp_in; decide) dL_law_749 ?_
  rw [wfo_0 h0, q3.2.2.1 h0]
  refine lv_iload hx hb dL_law_750 (lv_at hl 0 rfl) ?_
  refine lv_i2l hx hb dL_law_752 rfl ?_
  refine lv_lcmpE hx hb dL_law_753 ?_
  exact lv_if_eq (tgt := 759) hx hb dL_law_754 (by decide) (fun _ => hend) (fun c9 => absurd rfl c9)
set_option maxHeartbeats 4000000 in
set_option maxRecDepth 100000 in
theorem lc_wind {p : Program} {l : Launch} {e : Env} {s : State} {m : MethodId} {below : List Frame} {meth : Method} {c : Code} {b L : Nat} {xs : Nat → Int32} {D : va_G} {ca : Nat → ClassId} (C : LC p l s m c b L xs D ca) {g h : Nat → Nat} {o i : Nat} {fo : Nat → Int64} {x y : XS} {H : Heap} {locs : List Loc} {ls : Array Slot} {cells slots : Nat} {Q : State → Prop} (I : LI D ca s b i g h o fo x y H locs ls) (hi : i + 6 ≤ L) (hrc : cells + 1 ≤ room_1.cells) (hrs : slots + 10 ≤ room_1.slots) (kk : ∀ (g' : Nat → Nat) (fo' : Nat → Int64) (x' y' : XS) (H : Heap) (locs : List Loc) (ls : Array Slot), LI D ca s b i g' h o fo' x' y' H locs ls → W p l e room_1 s m #[Value.ref b] below meth c H locs (cells + 1) (slots + 10) Q (F0 m 1786 ls [])) : W p l e room_1 s m #[Value.ref b] below meth c H locs cells slots Q (F0 m 762 ls []) := by
  obtain ⟨hx, hb, hml, hown, hts, hX, hbl, hC, hz, hl9, hL⟩ := C
  obtain ⟨hR, hP, hD, hS, hl⟩ := I
  have hA : ∀ q : Nat, s.heap.size ≤ q → (fun q => s.heap.size ≤ q) q := fun _ h => h
  have hbA : ¬ (fun q : Nat => s.heap.size ≤ q) b := Nat.not_le.mpr hbl
  have hK := hC.1
  have hr6 : slots + 6 ≤ room_1.slots := by omega
  have in1 : vp_in (nI i + 1) L := pk_in (i + 1) L (by omega) (nI_add i 1) (by omega)
  have in2 : vp_in (nI i + 2) L := pk_in (i + 2) L (by omega) (nI_add i 2) (by omega)
  have in3 : vp_in (nI i + 3) L := pk_in (i + 3) L (by omega) (nI_add i 3) (by omega)
  have in4 : vp_in (nI i + 4) L := pk_in (i + 4) L (by omega) (nI_add i 4) (by omega)
  have in5 : vp_in (nI i + 5) L := pk_in (i + 5) L (by omega) (nI_add i 5) (by omega)
  obtain ⟨r, v, y', q1, q2, q3⟩ := rel_wind hR (xs (nI i + 1).toNatClampNeg)
  refine lv_aload_n hx hb dL_law_762 rfl (lv_at hl 1 rfl) ?_
  refine lv_aload_n hx hb dL_law_763 rfl (lv_at hl 0 rfl) ?_
  refine lv_iload hx hb dL_law_764 (lv_at hl 4 rfl) ?_
  refine lv_iconst (v := 1) hx hb dL_law_766 (by decide) ?_
  refine lv_iadd hx hb dL_law_767 ?_
  refine va_sld hx hb hX hbl hbA hS in1 dL_law_768 ?_
  refine lv_aload_n hx hb dL_law_769 rfl (lv_at hl 3 rfl) ?_
  refine lr_i (vx_runSW (As := [.ref (g 0), .int (xs (nI i + 1).toNatClampNeg), .ref o]) (rest := []) ⟨hx, hb, hml, hown, hts⟩ (c_L_wind l hl9 D ca g x (xs (nI i + 1).toNatClampNeg) o fo q1 q3.1 H.size) (vx_cwSW 3 hts gL_law_L_wind rfl rfl rfl (by decide +kernel) ⟨Nat.le_of_ble_eq_true rfl, Nat.le_of_ble_eq_true rfl⟩) (tP_S (app_l hP) hC (appD_l hD) hz hS hA) rfl rfl hl.1 rfl (lv_room (Nat.le_of_ble_eq_true rfl)) dL_law_770 ⟨hrc, hr6⟩) hP hD hS hA (fun g' H locs hg hP hD hS => ?_)
  refine lv_istore (lv' := [(5, .int (wk 0 1 0 r.1)), (0, .ref b), (1, .ref (g 0)), (2, .ref (h 0)), (3, .ref o), (4, .int (nI i))]) hx hb dL_law_773 hl (by decide) rfl (fun ls hl => ?_)
  refine lv_aload_n hx hb dL_law_775 rfl (lv_at hl 3 rfl) ?_
  refine lv_aload_n hx hb dL_law_776 rfl (lv_at hl 1 rfl) ?_
  refine lv_iload hx hb dL_law_777 (lv_at hl 5 rfl) ?_
  refine lv_iconst (v := 1) hx hb dL_law_779 (by decide) ?_
  refine lv_iadd hx hb dL_law_780 ?_
  refine va_sld hx hb hX hbl hbA hS in1 dL_law_781 ?_
  refine mr_i (va_runV (As := [.int (xs (nI i + 1).toNatClampNeg)]) (rest := []) ⟨hx, hb, hml, hown, hts⟩ (c_X5_wind l D ca h y (xs (nI i + 1).toNatClampNeg) q2 H.size) (cwV 1 hts gL_law_X5_wind rfl rfl rfl (by decide +kernel) ⟨Nat.le_of_ble_eq_true rfl, Nat.le_of_ble_eq_true rfl⟩) (wP_V (q := (RX5, TX5, 30)) (app_r hP) hC (appD_r hD) 0 rfl rfl) rfl rfl hl.1 rfl (lv_room (Nat.le_of_ble_eq_true rfl)) dL_law_782 ⟨hrc, hr6⟩) hP hD hS hA (fun H locs hP hD hS => ?_)
  refine lv_istore (lv' := [(6, .int v), (5, .int (wk 0 1 0 r.1)), (0, .ref b), (1, .ref (g 0)), (2, .ref (h 0)), (3, .ref o), (4, .int (nI i))]) hx hb dL_law_785 hl (by decide) rfl (fun ls hl => ?_)
  refine lv_aload_n hx hb dL_law_787 rfl (lv_at hl 4 rfl) ?_
  refine rd_i (va_runV (As := []) (rest := []) ⟨hx, hb, hml, hown, hts⟩ (c_X5_thrown l D ca h y' rfl) (cwV 0 hts gL_law_X5_thrown rfl rfl rfl (by decide +kernel) ⟨Nat.le_of_ble_eq_true rfl, Nat.le_of_ble_eq_true rfl⟩) (rP_V (q := (RX5, TX5, 30)) (app_r hP) hC 0 rfl rfl) rfl rfl hl.1 rfl (lv_room (Nat.le_of_ble_eq_true rfl)) dL_law_788 ⟨hrc, hr6⟩) ?_
  refine lv_iload hx hb dL_law_791 (lv_at hl 1 rfl) ?_
  refine lv_icmp_eq (tgt := 798) hx hb dL_law_793 (by decide) (fun _ => ?_) (fun c9 => absurd q3.2.1.symm c9)
  rw [← hg] at hl
  refine lv_iload hx hb dL_law_798 (lv_at hl 1 rfl) ?_
  have hend : W p l e room_1 s m #[Value.ref b] below meth c H locs (cells + 1) (slots + 6) Q (F0 m 815 ls []) := by
    refine lv_goto (tgt := 1786) hx hb dL_law_815 (by decide) ?_
    exact W.widen (k := cells + 1) (n := slots + 10) (by omega) (by omega) (kk g' (wfo r.1 fo r.2.1.toInt64) r.2.2 y' H locs ls ⟨q3.2.2.2, hP, hD, hS, lv_sub hl [2, 3, 4, 5, 6] rfl⟩)
  refine lv_if_ne (tgt := 815) hx hb dL_law_800 (by decide) (fun _ => hend) (fun c9 => ?_)
  have h0 : r.1 = 0 := by
    rcases q3.1 with h | h
    · exact h
    · rw [h] at c9; exact absurd c9 (by decide)
  refine lv_aload_n hx hb dL_law_803 rfl (lv_at hl 5 rfl) ?_
  refine lv_iconst (v := 0) hx hb dL_law_804 (by decide) ?_
  refine va_lald (D := D) (cA := ca 2) (n := 1) (f := (wfo r.1 fo r.2.1.toInt64)) hx hb hK hP ((wX g' ca r.2.2).length + 0) 2 (by rw [List.append_assoc]; exact la_get (k := 0) rfl) rfl (by unfold vp_in; decide) dL_law_805 ?_
  rw [wfo_0 h0, q3.2.2.1 h0]
  refine lv_iload hx hb dL_law_806 (lv_at hl 0 rfl) ?_
  refine lv_i2l hx hb dL_law_808 rfl ?_
  refine lv_lcmpE hx hb dL_law_809 ?_
  exact lv_if_eq (tgt := 815) hx hb dL_law_810 (by decide) (fun _ => hend) (fun c9 => absurd rfl c9)
set_option maxHeartbeats 4000000 in
set_option maxRecDepth 100000 in
theorem lc_through {p : Program} {l : Launch} {e : Env} {s : State} {m : MethodId} {below : List Frame} {meth : Method} {c : Code} {b L : Nat} {xs : Nat → Int32} {D : va_G} {ca : Nat → ClassId} (C : LC p l s m c b L xs D ca) {g h : Nat → Nat} {o i : Nat} {fo : Nat → Int64} {x y : XS} {H : Heap} {locs : List Loc} {ls : Array Slot} {cells slots : Nat} {Q : State → Prop} (I : LI D ca s b i g h o fo x y H locs ls) (hi : i + 6 ≤ L) (hrc : cells + 1 ≤ room_1.cells) (hrs : slots + 10 ≤ room_1.slots) (kk : ∀ (g' : Nat → Nat) (fo' : Nat → Int64) (x' y' : XS) (H : Heap) (locs : List Loc) (ls : Array Slot), LI D ca s b i g' h o fo' x' y' H locs ls → W p l e room_1 s m #[Value.ref b] below meth c H locs (cells + 1) (slots + 10) Q (F0 m 1786 ls [])) : W p l e room_1 s m #[Value.ref b] below meth c H locs cells slots Q (F0 m 818 ls []) := by
  obtain ⟨hx, hb, hml, hown, hts, hX, hbl, hC, hz, hl9, hL⟩ := C
  obtain ⟨hR, hP, hD, hS, hl⟩ := I
  have hA : ∀ q : Nat, s.heap.size ≤ q → (fun q => s.heap.size ≤ q) q := fun _ h => h
  have hbA : ¬ (fun q : Nat => s.heap.size ≤ q) b := Nat.not_le.mpr hbl
  have hK := hC.1
  have hr6 : slots + 6 ≤ room_1.slots := by omega
  have in1 : vp_in (nI i + 1) L := pk_in (i + 1) L (by omega) (nI_add i 1) (by omega)
  have in2 : vp_in (nI i + 2) L := pk_in (i + 2) L (by omega) (nI_add i 2) (by omega)
  have in3 : vp_in (nI i + 3) L := pk_in (i + 3) L (by omega) (nI_add i 3) (by omega)
  have in4 : vp_in (nI i + 4) L := pk_in (i + 4) L (by omega) (nI_add i 4) (by omega)
  have in5 : vp_in (nI i + 5) L := pk_in (i + 5) L (by omega) (nI_add i 5) (by omega)
  obtain ⟨r, v, y', q1, q2, q3⟩ := rel_through hR (xs (nI i + 1).toNatClampNeg) (xs (nI i + 2).toNatClampNeg) (xs (nI i + 3).toNatClampNeg)
  refine lv_aload_n hx hb dL_law_818 rfl (lv_at hl 1 rfl) ?_
  refine lv_aload_n hx hb dL_law_819 rfl (lv_at hl 0 rfl) ?_
  refine lv_iload hx hb dL_law_820 (lv_at hl 4 rfl) ?_
  refine lv_iconst (v := 1) hx hb dL_law_822 (by decide) ?_
  refine lv_iadd hx hb dL_law_823 ?_
  refine va_sld hx hb hX hbl hbA hS in1 dL_law_824 ?_
  refine lv_aload_n hx hb dL_law_825 rfl (lv_at hl 0 rfl) ?_
  refine lv_iload hx hb dL_law_826 (lv_at hl 4 rfl) ?_
  refine lv_iconst (v := 2) hx hb dL_law_828 (by decide) ?_
  refine lv_iadd hx hb dL_law_829 ?_
  refine va_sld hx hb hX hbl hbA hS in2 dL_law_830 ?_
  refine lv_aload_n hx hb dL_law_831 rfl (lv_at hl 0 rfl) ?_
  refine lv_iload hx hb dL_law_832 (lv_at hl 4 rfl) ?_
  refine lv_iconst (v := 3) hx hb dL_law_834 (by decide) ?_
  refine lv_iadd hx hb dL_law_835 ?_
  refine va_sld hx hb hX hbl hbA hS in3 dL_law_836 ?_
  refine lv_aload_n hx hb dL_law_837 rfl (lv_at hl 3 rfl) ?_
  refine lr_i (vx_runSW (As := [.ref (g 0), .int (xs (nI i + 1).toNatClampNeg), .int (xs (nI i + 2).toNatClampNeg), .int (xs (nI i + 3).toNatClampNeg), .ref o]) (rest := []) ⟨hx, hb, hml, hown, hts⟩ (c_L_through l hl9 D ca g x (xs (nI i + 1).toNatClampNeg) (xs (nI i + 2).toNatClampNeg) (xs (nI i + 3).toNatClampNeg) o fo q1 q3.1 H.size) (vx_cwSW 5 hts gL_law_L_through rfl rfl rfl (by decide +kernel) ⟨Nat.le_of_ble_eq_true rfl, Nat.le_of_ble_eq_true rfl⟩) (tP_S (app_l hP) hC (appD_l hD) hz hS hA) rfl rfl hl.1 rfl (lv_room (Nat.le_of_ble_eq_true rfl)) dL_law_838 ⟨hrc, hr6⟩) hP hD hS hA (fun g' H locs hg hP hD hS => ?_)
  refine lv_istore (lv' := [(5, .int (wk 1 0 0 r.1)), (0, .ref b), (1, .ref (g 0)), (2, .ref (h 0)), (3, .ref o), (4, .int (nI i))]) hx hb dL_law_841 hl (by decide) rfl (fun ls hl => ?_)
  refine lv_aload_n hx hb dL_law_843 rfl (lv_at hl 3 rfl) ?_
  refine lv_aload_n hx hb dL_law_844 rfl (lv_at hl 1 rfl) ?_
  refine lv_iload hx hb dL_law_845 (lv_at hl 5 rfl) ?_
  refine lv_iconst (v := 1) hx hb dL_law_847 (by decide) ?_
  refine lv_iadd hx hb dL_law_848 ?_
  refine va_sld hx hb hX hbl hbA hS in1 dL_law_849 ?_
  refine lv_aload_n hx hb dL_law_850 rfl (lv_at hl 1 rfl) ?_
  refine lv_iload hx hb dL_law_851 (lv_at hl 5 rfl) ?_
  refine lv_iconst (v := 2) hx hb dL_law_853 (by decide) ?_
  refine lv_iadd hx hb dL_law_854 ?_
  refine va_sld hx hb hX hbl hbA hS in2 dL_law_855 ?_
  refine lv_aload_n hx hb dL_law_856 rfl (lv_at hl 1 rfl) ?_
  refine lv_iload hx hb dL_law_857 (lv_at hl 5 rfl) ?_
  refine lv_iconst (v := 3) hx hb dL_law_859 (by decide) ?_
  refine lv_iadd hx hb dL_law_860 ?_
  refine va_sld hx hb hX hbl hbA hS in3 dL_law_861 ?_
  refine mr_i (va_runV (As := [.int (xs (nI i + 1).toNatClampNeg), .int (xs (nI i + 2).toNatClampNeg), .int (xs (nI i + 3).toNatClampNeg)]) (rest := []) ⟨hx, hb, hml, hown, hts⟩ (c_X5_through l D ca h y (xs (nI i + 1).toNatClampNeg) (xs (nI i + 2).toNatClampNeg) (xs (nI i + 3).toNatClampNeg) q2 H.size) (cwV 3 hts gL_law_X5_through rfl rfl rfl (by decide +kernel) ⟨Nat.le_of_ble_eq_true rfl, Nat.le_of_ble_eq_true rfl⟩) (wP_V (q := (RX5, TX5, 30)) (app_r hP) hC (appD_r hD) 0 rfl rfl) rfl rfl hl.1 rfl (lv_room (Nat.le_of_ble_eq_true rfl)) dL_law_862 ⟨hrc, hr6⟩) hP hD hS hA (fun H locs hP hD hS => ?_)
  refine lv_istore (lv' := [(6, .int v), (5, .int (wk 1 0 0 r.1)), (0, .ref b), (1, .ref (g 0)), (2, .ref (h 0)), (3, .ref o), (4, .int (nI i))]) hx hb dL_law_865 hl (by decide) rfl (fun ls hl => ?_)
  refine lv_aload_n hx hb dL_law_867 rfl (lv_at hl 4 rfl) ?_
  refine rd_i (va_runV (As := []) (rest := []) ⟨hx, hb, hml, hown, hts⟩ (c_X5_thrown l D ca h y' rfl) (cwV 0 hts gL_law_X5_thrown rfl rfl rfl (by decide +kernel) ⟨Nat.le_of_ble_eq_true rfl, Nat.le_of_ble_eq_true rfl⟩) (rP_V (q := (RX5, TX5, 30)) (app_r hP) hC 0 rfl rfl) rfl rfl hl.1 rfl (lv_room (Nat.le_of_ble_eq_true rfl)) dL_law_868 ⟨hrc, hr6⟩) ?_
  refine lv_iload hx hb dL_law_871 (lv_at hl 1 rfl) ?_
  refine lv_icmp_eq (tgt := 878) hx hb dL_law_873 (by decide) (fun _ => ?_) (fun c9 => absurd q3.2.1.symm c9)
  rw [← hg] at hl
  refine lv_iload hx hb dL_law_878 (lv_at hl 1 rfl) ?_
  have hend : W p l e room_1 s m #[Value.ref b] below meth c H locs (cells + 1) (slots + 6) Q (F0 m 895 ls []) := by
    refine lv_goto (tgt := 1786) hx hb dL_law_895 (by decide) ?_
    exact W.widen (k := cells + 1) (n := slots + 10) (by omega) (by omega) (kk g' (wfo r.1 fo r.2.1.toInt64) r.2.2 y' H locs ls ⟨q3.2.2.2, hP, hD, hS, lv_sub hl [2, 3, 4, 5, 6] rfl⟩)
  refine lv_if_ne (tgt := 895) hx hb dL_law_880 (by decide) (fun _ => hend) (fun c9 => ?_)
  have h0 : r.1 = 0 := by
    rcases q3.1 with h | h
    · exact h
    · rw [h] at c9; exact absurd c9 (by decide)
  refine lv_aload_n hx hb dL_law_883 rfl (lv_at hl 5 rfl) ?_
  refine lv_iconst (v := 0) hx hb dL_law_884 (by decide) ?_
  refine va_lald (D := D) (cA := ca 2) (n := 1) (f := (wfo r.1 fo r.2.1.toInt64)) hx hb hK hP ((wX g' ca r.2.2).length + 0) 2 (by rw [List.append_assoc]; exact la_get (k := 0) rfl) rfl (by unfold vp_in; decide) dL_law_885 ?_
  rw [wfo_0 h0, q3.2.2.1 h0]
  refine lv_iload hx hb dL_law_886 (lv_at hl 0 rfl) ?_
  refine lv_i2l hx hb dL_law_888 rfl ?_
  refine lv_lcmpE hx hb dL_law_889 ?_
  exact lv_if_eq (tgt := 895) hx hb dL_law_890 (by decide) (fun _ => hend) (fun c9 => absurd rfl c9)
set_option maxHeartbeats 4000000 in
set_option maxRecDepth 100000 in
theorem lc_gives {p : Program} {l : Launch} {e : Env} {s : State} {m : MethodId} {below : List Frame} {meth : Method} {c : Code} {b L : Nat} {xs : Nat → Int32} {D : va_G} {ca : Nat → ClassId} (C : LC p l s m c b L xs D ca) {g h : Nat → Nat} {o i : Nat} {fo : Nat → Int64} {x y : XS} {H : Heap} {locs : List Loc} {ls : Array Slot} {cells slots : Nat} {Q : State → Prop} (I : LI D ca s b i g h o fo x y H locs ls) (hi : i + 6 ≤ L) (hrc : cells + 1 ≤ room_1.cells) (hrs : slots + 10 ≤ room_1.slots) (kk : ∀ (g' : Nat → Nat) (fo' : Nat → Int64) (x' y' : XS) (H : Heap) (locs : List Loc) (ls : Array Slot), LI D ca s b i g' h o fo' x' y' H locs ls → W p l e room_1 s m #[Value.ref b] below meth c H locs (cells + 1) (slots + 10) Q (F0 m 1786 ls [])) : W p l e room_1 s m #[Value.ref b] below meth c H locs cells slots Q (F0 m 898 ls []) := by
  obtain ⟨hx, hb, hml, hown, hts, hX, hbl, hC, hz, hl9, hL⟩ := C
  obtain ⟨hR, hP, hD, hS, hl⟩ := I
  have hA : ∀ q : Nat, s.heap.size ≤ q → (fun q => s.heap.size ≤ q) q := fun _ h => h
  have hbA : ¬ (fun q : Nat => s.heap.size ≤ q) b := Nat.not_le.mpr hbl
  have hK := hC.1
  have hr6 : slots + 6 ≤ room_1.slots := by omega
  have in1 : vp_in (nI i + 1) L := pk_in (i + 1) L (by omega) (nI_add i 1) (by omega)
  have in2 : vp_in (nI i + 2) L := pk_in (i + 2) L (by omega) (nI_add i 2) (by omega)
  have in3 : vp_in (nI i + 3) L := pk_in (i + 3) L (by omega) (nI_add i 3) (by omega)
  have in4 : vp_in (nI i + 4) L := pk_in (i + 4) L (by omega) (nI_add i 4) (by omega)
  have in5 : vp_in (nI i + 5) L := pk_in (i + 5) L (by omega) (nI_add i 5) (by omega)
  obtain ⟨r, v, y', q1, q2, q3⟩ := rel_gives hR (xs (nI i + 1).toNatClampNeg) (xs (nI i + 2).toNatClampNeg)
  refine lv_aload_n hx hb dL_law_898 rfl (lv_at hl 1 rfl) ?_
  refine lv_aload_n hx hb dL_law_899 rfl (lv_at hl 0 rfl) ?_
  refine lv_iload hx hb dL_law_900 (lv_at hl 4 rfl) ?_
  refine lv_iconst (v := 1) hx hb dL_law_902 (by decide) ?_
  refine lv_iadd hx hb dL_law_903 ?_
  refine va_sld hx hb hX hbl hbA hS in1 dL_law_904 ?_
  refine lv_aload_n hx hb dL_law_905 rfl (lv_at hl 0 rfl) ?_
  refine lv_iload hx hb dL_law_906 (lv_at hl 4 rfl) ?_
  refine lv_iconst (v := 2) hx hb dL_law_908 (by decide) ?_
  refine lv_iadd hx hb dL_law_909 ?_
  refine va_sld hx hb hX hbl hbA hS in2 dL_law_910 ?_
  refine lv_aload_n hx hb dL_law_911 rfl (lv_at hl 3 rfl) ?_
  refine lr_i (vx_runSW (As := [.ref (g 0), .int (xs (nI i + 1).toNatClampNeg), .int (xs (nI i + 2).toNatClampNeg), .ref o]) (rest := []) ⟨hx, hb, hml, hown, hts⟩ (c_L_gives l hl9 D ca g x (xs (nI i + 1).toNatClampNeg) (xs (nI i + 2).toNatClampNeg) o fo q1 q3.1 H.size) (vx_cwSW 4 hts gL_law_L_gives rfl rfl rfl (by decide +kernel) ⟨Nat.le_of_ble_eq_true rfl, Nat.le_of_ble_eq_true rfl⟩) (tP_S (app_l hP) hC (appD_l hD) hz hS hA) rfl rfl hl.1 rfl (lv_room (Nat.le_of_ble_eq_true rfl)) dL_law_912 ⟨hrc, hr6⟩) hP hD hS hA (fun g' H locs hg hP hD hS => ?_)
  refine lv_istore (lv' := [(5, .int (wk 1 0 0 r.1)), (0, .ref b), (1, .ref (g 0)), (2, .ref (h 0)), (3, .ref o), (4, .int (nI i))]) hx hb dL_law_915 hl (by decide) rfl (fun ls hl => ?_)
  refine lv_aload_n hx hb dL_law_917 rfl (lv_at hl 3 rfl) ?_
  refine lv_aload_n hx hb dL_law_918 rfl (lv_at hl 1 rfl) ?_
  refine lv_iload hx hb dL_law_919 (lv_at hl 5 rfl) ?_
  refine lv_iconst (v := 1) hx hb dL_law_921 (by decide) ?_
  refine lv_iadd hx hb dL_law_922 ?_
  refine va_sld hx hb hX hbl hbA hS in1 dL_law_923 ?_
  refine lv_aload_n hx hb dL_law_924 rfl (lv_at hl 1 rfl) ?_
  refine lv_iload hx hb dL_law_925 (lv_at hl 5 rfl) ?_
  refine lv_iconst (v := 2) hx hb dL_law_927 (by decide) ?_
  refine lv_iadd hx hb dL_law_928 ?_
  refine va_sld hx hb hX hbl hbA hS in2 dL_law_929 ?_
  refine mr_i (va_runV (As := [.int (xs (nI i + 1).toNatClampNeg), .int (xs (nI i + 2).toNatClampNeg)]) (rest := []) ⟨hx, hb, hml, hown, hts⟩ (c_X5_gives l D ca h y (xs (nI i + 1).toNatClampNeg) (xs (nI i + 2).toNatClampNeg) q2 H.size) (cwV 2 hts gL_law_X5_gives rfl rfl rfl (by decide +kernel) ⟨Nat.le_of_ble_eq_true rfl, Nat.le_of_ble_eq_true rfl⟩) (wP_V (q := (RX5, TX5, 30)) (app_r hP) hC (appD_r hD) 0 rfl rfl) rfl rfl hl.1 rfl (lv_room (Nat.le_of_ble_eq_true rfl)) dL_law_930 ⟨hrc, hr6⟩) hP hD hS hA (fun H locs hP hD hS => ?_)
  refine lv_istore (lv' := [(6, .int v), (5, .int (wk 1 0 0 r.1)), (0, .ref b), (1, .ref (g 0)), (2, .ref (h 0)), (3, .ref o), (4, .int (nI i))]) hx hb dL_law_933 hl (by decide) rfl (fun ls hl => ?_)
  refine lv_aload_n hx hb dL_law_935 rfl (lv_at hl 4 rfl) ?_
  refine rd_i (va_runV (As := []) (rest := []) ⟨hx, hb, hml, hown, hts⟩ (c_X5_thrown l D ca h y' rfl) (cwV 0 hts gL_law_X5_thrown rfl rfl rfl (by decide +kernel) ⟨Nat.le_of_ble_eq_true rfl, Nat.le_of_ble_eq_true rfl⟩) (rP_V (q := (RX5, TX5, 30)) (app_r hP) hC 0 rfl rfl) rfl rfl hl.1 rfl (lv_room (Nat.le_of_ble_eq_true rfl)) dL_law_936 ⟨hrc, hr6⟩) ?_
  refine lv_iload hx hb dL_law_939 (lv_at hl 1 rfl) ?_
  refine lv_icmp_eq (tgt := 946) hx hb dL_law_941 (by decide) (fun _ => ?_) (fun c9 => absurd q3.2.1.symm c9)
  rw [← hg] at hl
  refine lv_iload hx hb dL_law_946 (lv_at hl 1 rfl) ?_
  have hend : W p l e room_1 s m #[Value.ref b] below meth c H locs (cells + 1) (slots + 6) Q (F0 m 963 ls []) := by
    refine lv_goto (tgt := 1786) hx hb dL_law_963 (by decide) ?_
    exact W.widen (k := cells + 1) (n := slots + 10) (by omega) (by omega) (kk g' (wfo r.1 fo r.2.1.toInt64) r.2.2 y' H locs ls ⟨q3.2.2.2, hP, hD, hS, lv_sub hl [2, 3, 4, 5, 6] rfl⟩)
  refine lv_if_ne (tgt := 963) hx hb dL_law_948 (by decide) (fun _ => hend) (fun c9 => ?_)
  have h0 : r.1 = 0 := by
    rcases q3.1 with h | h
    · exact h
    · rw [h] at c9; exact absurd c9 (by decide)
  refine lv_aload_n hx hb dL_law_951 rfl (lv_at hl 5 rfl) ?_
  refine lv_iconst (v := 0) hx hb dL_law_952 (by decide) ?_
  refine va_lald (D := D) (cA := ca 2) (n := 1) (f := (wfo r.1 fo r.2.1.toInt64)) hx hb hK hP ((wX g' ca r.2.2).length + 0) 2 (by rw [List.append_assoc]; exact la_get (k := 0) rfl) rfl (by unfold vp_in; decide) dL_law_953 ?_
  rw [wfo_0 h0, q3.2.2.1 h0]
  refine lv_iload hx hb dL_law_954 (lv_at hl 0 rfl) ?_
  refine lv_i2l hx hb dL_law_956 rfl ?_
  refine lv_lcmpE hx hb dL_law_957 ?_
  exact lv_if_eq (tgt := 963) hx hb dL_law_958 (by decide) (fun _ => hend) (fun c9 => absurd rfl c9)
set_option maxHeartbeats 4000000 in
set_option maxRecDepth 100000 in
theorem lc_isSharp {p : Program} {l : Launch} {e : Env} {s : State} {m : MethodId} {below : List Frame} {meth : Method} {c : Code} {b L : Nat} {xs : Nat → Int32} {D : va_G} {ca : Nat → ClassId} (C : LC p l s m c b L xs D ca) {g h : Nat → Nat} {o i : Nat} {fo : Nat → Int64} {x y : XS} {H : Heap} {locs : List Loc} {ls : Array Slot} {cells slots : Nat} {Q : State → Prop} (I : LI D ca s b i g h o fo x y H locs ls) (hi : i + 6 ≤ L) (hrc : cells + 1 ≤ room_1.cells) (hrs : slots + 10 ≤ room_1.slots) (kk : ∀ (g' : Nat → Nat) (fo' : Nat → Int64) (x' y' : XS) (H : Heap) (locs : List Loc) (ls : Array Slot), LI D ca s b i g' h o fo' x' y' H locs ls → W p l e room_1 s m #[Value.ref b] below meth c H locs (cells + 1) (slots + 10) Q (F0 m 1786 ls [])) : W p l e room_1 s m #[Value.ref b] below meth c H locs cells slots Q (F0 m 966 ls []) := by
  obtain ⟨hx, hb, hml, hown, hts, hX, hbl, hC, hz, hl9, hL⟩ := C
  obtain ⟨hR, hP, hD, hS, hl⟩ := I
  have hA : ∀ q : Nat, s.heap.size ≤ q → (fun q => s.heap.size ≤ q) q := fun _ h => h
  have hbA : ¬ (fun q : Nat => s.heap.size ≤ q) b := Nat.not_le.mpr hbl
  have hK := hC.1
  have hr6 : slots + 6 ≤ room_1.slots := by omega
  have in1 : vp_in (nI i + 1) L := pk_in (i + 1) L (by omega) (nI_add i 1) (by omega)
  have in2 : vp_in (nI i + 2) L := pk_in (i + 2) L (by omega) (nI_add i 2) (by omega)
  have in3 : vp_in (nI i + 3) L := pk_in (i + 3) L (by omega) (nI_add i 3) (by omega)
  have in4 : vp_in (nI i + 4) L := pk_in (i + 4) L (by omega) (nI_add i 4) (by omega)
  have in5 : vp_in (nI i + 5) L := pk_in (i + 5) L (by omega) (nI_add i 5) (by omega)
  obtain ⟨r, v, y', q1, q2, q3⟩ := rel_isSharp hR (xs (nI i + 1).toNatClampNeg) (xs (nI i + 2).toNatClampNeg)
  refine lv_aload_n hx hb dL_law_966 rfl (lv_at hl 1 rfl) ?_
  refine lv_aload_n hx hb dL_law_967 rfl (lv_at hl 0 rfl) ?_
  refine lv_iload hx hb dL_law_968 (lv_at hl 4 rfl) ?_
  refine lv_iconst (v := 1) hx hb dL_law_970 (by decide) ?_
  refine lv_iadd hx hb dL_law_971 ?_
  refine va_sld hx hb hX hbl hbA hS in1 dL_law_972 ?_
  refine lv_aload_n hx hb dL_law_973 rfl (lv_at hl 0 rfl) ?_
  refine lv_iload hx hb dL_law_974 (lv_at hl 4 rfl) ?_
  refine lv_iconst (v := 2) hx hb dL_law_976 (by decide) ?_
  refine lv_iadd hx hb dL_law_977 ?_
  refine va_sld hx hb hX hbl hbA hS in2 dL_law_978 ?_
  refine lv_aload_n hx hb dL_law_979 rfl (lv_at hl 3 rfl) ?_
  refine lr_i (vx_runSW (As := [.ref (g 0), .int (xs (nI i + 1).toNatClampNeg), .int (xs (nI i + 2).toNatClampNeg), .ref o]) (rest := []) ⟨hx, hb, hml, hown, hts⟩ (c_L_isSharp l hl9 D ca g x (xs (nI i + 1).toNatClampNeg) (xs (nI i + 2).toNatClampNeg) o fo q1 q3.1 H.size) (vx_cwSW 4 hts gL_law_L_isSharp rfl rfl rfl (by decide +kernel) ⟨Nat.le_of_ble_eq_true rfl, Nat.le_of_ble_eq_true rfl⟩) (tP_S (app_l hP) hC (appD_l hD) hz hS hA) rfl rfl hl.1 rfl (lv_room (Nat.le_of_ble_eq_true rfl)) dL_law_980 ⟨hrc, hr6⟩) hP hD hS hA (fun g' H locs hg hP hD hS => ?_)
  refine lv_istore (lv' := [(5, .int (wk 1 0 0 r.1)), (0, .ref b), (1, .ref (g 0)), (2, .ref (h 0)), (3, .ref o), (4, .int (nI i))]) hx hb dL_law_983 hl (by decide) rfl (fun ls hl => ?_)
  refine lv_aload_n hx hb dL_law_985 rfl (lv_at hl 3 rfl) ?_
  refine lv_aload_n hx hb dL_law_986 rfl (lv_at hl 1 rfl) ?_
  refine lv_iload hx hb dL_law_987 (lv_at hl 5 rfl) ?_
  refine lv_iconst (v := 1) hx hb dL_law_989 (by decide) ?_
  refine lv_iadd hx hb dL_law_990 ?_
  refine va_sld hx hb hX hbl hbA hS in1 dL_law_991 ?_
  refine lv_aload_n hx hb dL_law_992 rfl (lv_at hl 1 rfl) ?_
  refine lv_iload hx hb dL_law_993 (lv_at hl 5 rfl) ?_
  refine lv_iconst (v := 2) hx hb dL_law_995 (by decide) ?_
  refine lv_iadd hx hb dL_law_996 ?_
  refine va_sld hx hb hX hbl hbA hS in2 dL_law_997 ?_
  refine mr_i (va_runV (As := [.int (xs (nI i + 1).toNatClampNeg), .int (xs (nI i + 2).toNatClampNeg)]) (rest := []) ⟨hx, hb, hml, hown, hts⟩ (c_X5_isSharp l D ca h y (xs (nI i + 1).toNatClampNeg) (xs (nI i + 2).toNatClampNeg) q2 H.size) (cwV 2 hts gL_law_X5_isSharp rfl rfl rfl (by decide +kernel) ⟨Nat.le_of_ble_eq_true rfl, Nat.le_of_ble_eq_true rfl⟩) (wP_V (q := (RX5, TX5, 30)) (app_r hP) hC (appD_r hD) 0 rfl rfl) rfl rfl hl.1 rfl (lv_room (Nat.le_of_ble_eq_true rfl)) dL_law_998 ⟨hrc, hr6⟩) hP hD hS hA (fun H locs hP hD hS => ?_)
  refine lv_istore (lv' := [(6, .int v), (5, .int (wk 1 0 0 r.1)), (0, .ref b), (1, .ref (g 0)), (2, .ref (h 0)), (3, .ref o), (4, .int (nI i))]) hx hb dL_law_1001 hl (by decide) rfl (fun ls hl => ?_)
  refine lv_aload_n hx hb dL_law_1003 rfl (lv_at hl 4 rfl) ?_
  refine rd_i (va_runV (As := []) (rest := []) ⟨hx, hb, hml, hown, hts⟩ (c_X5_thrown l D ca h y' rfl) (cwV 0 hts gL_law_X5_thrown rfl rfl rfl (by decide +kernel) ⟨Nat.le_of_ble_eq_true rfl, Nat.le_of_ble_eq_true rfl⟩) (rP_V (q := (RX5, TX5, 30)) (app_r hP) hC 0 rfl rfl) rfl rfl hl.1 rfl (lv_room (Nat.le_of_ble_eq_true rfl)) dL_law_1004 ⟨hrc, hr6⟩) ?_
  refine lv_iload hx hb dL_law_1007 (lv_at hl 1 rfl) ?_
  refine lv_icmp_eq (tgt := 1014) hx hb dL_law_1009 (by decide) (fun _ => ?_) (fun c9 => absurd q3.2.1.symm c9)
  rw [← hg] at hl
  refine lv_iload hx hb dL_law_1014 (lv_at hl 1 rfl) ?_
  have hend : W p l e room_1 s m #[Value.ref b] below meth c H locs (cells + 1) (slots + 6) Q (F0 m 1038 ls []) := by
    refine lv_goto (tgt := 1786) hx hb dL_law_1038 (by decide) ?_
    exact W.widen (k := cells + 1) (n := slots + 10) (by omega) (by omega) (kk g' (wfo r.1 fo (if r.2.1 = 0 then 0 else 1)) r.2.2 y' H locs ls ⟨q3.2.2.2, hP, hD, hS, lv_sub hl [2, 3, 4, 5, 6] rfl⟩)
  refine lv_if_ne (tgt := 1038) hx hb dL_law_1016 (by decide) (fun _ => hend) (fun c9 => ?_)
  have h0 : r.1 = 0 := by
    rcases q3.1 with h | h
    · exact h
    · rw [h] at c9; exact absurd c9 (by decide)
  refine lv_aload_n hx hb dL_law_1019 rfl (lv_at hl 5 rfl) ?_
  refine lv_iconst (v := 0) hx hb dL_law_1020 (by decide) ?_
  refine va_lald (D := D) (cA := ca 2) (n := 1) (f := (wfo r.1 fo (if r.2.1 = 0 then 0 else 1))) hx hb hK hP ((wX g' ca r.2.2).length + 0) 2 (by rw [List.append_assoc]; exact la_get (k := 0) rfl) rfl (by unfold vp_in; decide) dL_law_1021 ?_
  rw [wfo_0 h0, q3.2.2.1 h0]
  refine lv_iload hx hb dL_law_1022 (lv_at hl 0 rfl) ?_
  refine lv_boolL hx hb dL_law_1024 dL_law_1027 dL_law_1028 dL_law_1031 ?_
  refine lv_lcmpE hx hb dL_law_1032 ?_
  exact lv_if_eq (tgt := 1038) hx hb dL_law_1033 (by decide) (fun _ => hend) (fun c9 => absurd rfl c9)
set_option maxHeartbeats 4000000 in
set_option maxRecDepth 100000 in
theorem lc_light {p : Program} {l : Launch} {e : Env} {s : State} {m : MethodId} {below : List Frame} {meth : Method} {c : Code} {b L : Nat} {xs : Nat → Int32} {D : va_G} {ca : Nat → ClassId} (C : LC p l s m c b L xs D ca) {g h : Nat → Nat} {o i : Nat} {fo : Nat → Int64} {x y : XS} {H : Heap} {locs : List Loc} {ls : Array Slot} {cells slots : Nat} {Q : State → Prop} (I : LI D ca s b i g h o fo x y H locs ls) (hi : i + 6 ≤ L) (hrc : cells + 1 ≤ room_1.cells) (hrs : slots + 10 ≤ room_1.slots) (kk : ∀ (g' : Nat → Nat) (fo' : Nat → Int64) (x' y' : XS) (H : Heap) (locs : List Loc) (ls : Array Slot), LI D ca s b i g' h o fo' x' y' H locs ls → W p l e room_1 s m #[Value.ref b] below meth c H locs (cells + 1) (slots + 10) Q (F0 m 1786 ls [])) : W p l e room_1 s m #[Value.ref b] below meth c H locs cells slots Q (F0 m 1041 ls []) := by
  obtain ⟨hx, hb, hml, hown, hts, hX, hbl, hC, hz, hl9, hL⟩ := C
  obtain ⟨hR, hP, hD, hS, hl⟩ := I
  have hA : ∀ q : Nat, s.heap.size ≤ q → (fun q => s.heap.size ≤ q) q := fun _ h => h
  have hbA : ¬ (fun q : Nat => s.heap.size ≤ q) b := Nat.not_le.mpr hbl
  have hK := hC.1
  have hr6 : slots + 6 ≤ room_1.slots := by omega
  have in1 : vp_in (nI i + 1) L := pk_in (i + 1) L (by omega) (nI_add i 1) (by omega)
  have in2 : vp_in (nI i + 2) L := pk_in (i + 2) L (by omega) (nI_add i 2) (by omega)
  have in3 : vp_in (nI i + 3) L := pk_in (i + 3) L (by omega) (nI_add i 3) (by omega)
  have in4 : vp_in (nI i + 4) L := pk_in (i + 4) L (by omega) (nI_add i 4) (by omega)
  have in5 : vp_in (nI i + 5) L := pk_in (i + 5) L (by omega) (nI_add i 5) (by omega)
  obtain ⟨r, v, y', q1, q2, q3⟩ := rel_light hR (xs (nI i + 1).toNatClampNeg)
  refine lv_aload_n hx hb dL_law_1041 rfl (lv_at hl 1 rfl) ?_
  refine lv_aload_n hx hb dL_law_1042 rfl (lv_at hl 0 rfl) ?_
  refine lv_iload hx hb dL_law_1043 (lv_at hl 4 rfl) ?_
  refine lv_iconst (v := 1) hx hb dL_law_1045 (by decide) ?_
  refine lv_iadd hx hb dL_law_1046 ?_
  refine va_sld hx hb hX hbl hbA hS in1 dL_law_1047 ?_
  refine lv_aload_n hx hb dL_law_1048 rfl (lv_at hl 3 rfl) ?_
  refine lr_i (vx_runSW (As := [.ref (g 0), .int (xs (nI i + 1).toNatClampNeg), .ref o]) (rest := []) ⟨hx, hb, hml, hown, hts⟩ (c_L_light l hl9 D ca g x (xs (nI i + 1).toNatClampNeg) o fo q1 q3.1 H.size) (vx_cwSW 3 hts gL_law_L_light rfl rfl rfl (by decide +kernel) ⟨Nat.le_of_ble_eq_true rfl, Nat.le_of_ble_eq_true rfl⟩) (tP_S (app_l hP) hC (appD_l hD) hz hS hA) rfl rfl hl.1 rfl (lv_room (Nat.le_of_ble_eq_true rfl)) dL_law_1049 ⟨hrc, hr6⟩) hP hD hS hA (fun g' H locs hg hP hD hS => ?_)
  refine lv_istore (lv' := [(5, .int (wk 1 0 0 r.1)), (0, .ref b), (1, .ref (g 0)), (2, .ref (h 0)), (3, .ref o), (4, .int (nI i))]) hx hb dL_law_1052 hl (by decide) rfl (fun ls hl => ?_)
  refine lv_aload_n hx hb dL_law_1054 rfl (lv_at hl 3 rfl) ?_
  refine lv_aload_n hx hb dL_law_1055 rfl (lv_at hl 1 rfl) ?_
  refine lv_iload hx hb dL_law_1056 (lv_at hl 5 rfl) ?_
  refine lv_iconst (v := 1) hx hb dL_law_1058 (by decide) ?_
  refine lv_iadd hx hb dL_law_1059 ?_
  refine va_sld hx hb hX hbl hbA hS in1 dL_law_1060 ?_
  refine mr_i (va_runV (As := [.int (xs (nI i + 1).toNatClampNeg)]) (rest := []) ⟨hx, hb, hml, hown, hts⟩ (c_X5_light l D ca h y (xs (nI i + 1).toNatClampNeg) q2 H.size) (cwV 1 hts gL_law_X5_light rfl rfl rfl (by decide +kernel) ⟨Nat.le_of_ble_eq_true rfl, Nat.le_of_ble_eq_true rfl⟩) (wP_V (q := (RX5, TX5, 30)) (app_r hP) hC (appD_r hD) 0 rfl rfl) rfl rfl hl.1 rfl (lv_room (Nat.le_of_ble_eq_true rfl)) dL_law_1061 ⟨hrc, hr6⟩) hP hD hS hA (fun H locs hP hD hS => ?_)
  refine lv_istore (lv' := [(6, .int v), (5, .int (wk 1 0 0 r.1)), (0, .ref b), (1, .ref (g 0)), (2, .ref (h 0)), (3, .ref o), (4, .int (nI i))]) hx hb dL_law_1064 hl (by decide) rfl (fun ls hl => ?_)
  refine lv_aload_n hx hb dL_law_1066 rfl (lv_at hl 4 rfl) ?_
  refine rd_i (va_runV (As := []) (rest := []) ⟨hx, hb, hml, hown, hts⟩ (c_X5_thrown l D ca h y' rfl) (cwV 0 hts gL_law_X5_thrown rfl rfl rfl (by decide +kernel) ⟨Nat.le_of_ble_eq_true rfl, Nat.le_of_ble_eq_true rfl⟩) (rP_V (q := (RX5, TX5, 30)) (app_r hP) hC 0 rfl rfl) rfl rfl hl.1 rfl (lv_room (Nat.le_of_ble_eq_true rfl)) dL_law_1067 ⟨hrc, hr6⟩) ?_
  refine lv_iload hx hb dL_law_1070 (lv_at hl 1 rfl) ?_
  refine lv_icmp_eq (tgt := 1077) hx hb dL_law_1072 (by decide) (fun _ => ?_) (fun c9 => absurd q3.2.1.symm c9)
  rw [← hg] at hl
  refine lv_iload hx hb dL_law_1077 (lv_at hl 1 rfl) ?_
  have hend : W p l e room_1 s m #[Value.ref b] below meth c H locs (cells + 1) (slots + 6) Q (F0 m 1094 ls []) := by
    refine lv_goto (tgt := 1786) hx hb dL_law_1094 (by decide) ?_
    exact W.widen (k := cells + 1) (n := slots + 10) (by omega) (by omega) (kk g' (wfo r.1 fo r.2.1.toInt64) r.2.2 y' H locs ls ⟨q3.2.2.2, hP, hD, hS, lv_sub hl [2, 3, 4, 5, 6] rfl⟩)
  refine lv_if_ne (tgt := 1094) hx hb dL_law_1079 (by decide) (fun _ => hend) (fun c9 => ?_)
  have h0 : r.1 = 0 := by
    rcases q3.1 with h | h
    · exact h
    · rw [h] at c9; exact absurd c9 (by decide)
  refine lv_aload_n hx hb dL_law_1082 rfl (lv_at hl 5 rfl) ?_
  refine lv_iconst (v := 0) hx hb dL_law_1083 (by decide) ?_
  refine va_lald (D := D) (cA := ca 2) (n := 1) (f := (wfo r.1 fo r.2.1.toInt64)) hx hb hK hP ((wX g' ca r.2.2).length + 0) 2 (by rw [List.append_assoc]; exact la_get (k := 0) rfl) rfl (by unfold vp_in; decide) dL_law_1084 ?_
  rw [wfo_0 h0, q3.2.2.1 h0]
  refine lv_iload hx hb dL_law_1085 (lv_at hl 0 rfl) ?_
  refine lv_i2l hx hb dL_law_1087 rfl ?_
  refine lv_lcmpE hx hb dL_law_1088 ?_
  exact lv_if_eq (tgt := 1094) hx hb dL_law_1089 (by decide) (fun _ => hend) (fun c9 => absurd rfl c9)
set_option maxHeartbeats 4000000 in
set_option maxRecDepth 100000 in
theorem lc_blended {p : Program} {l : Launch} {e : Env} {s : State} {m : MethodId} {below : List Frame} {meth : Method} {c : Code} {b L : Nat} {xs : Nat → Int32} {D : va_G} {ca : Nat → ClassId} (C : LC p l s m c b L xs D ca) {g h : Nat → Nat} {o i : Nat} {fo : Nat → Int64} {x y : XS} {H : Heap} {locs : List Loc} {ls : Array Slot} {cells slots : Nat} {Q : State → Prop} (I : LI D ca s b i g h o fo x y H locs ls) (hi : i + 6 ≤ L) (hrc : cells + 1 ≤ room_1.cells) (hrs : slots + 10 ≤ room_1.slots) (kk : ∀ (g' : Nat → Nat) (fo' : Nat → Int64) (x' y' : XS) (H : Heap) (locs : List Loc) (ls : Array Slot), LI D ca s b i g' h o fo' x' y' H locs ls → W p l e room_1 s m #[Value.ref b] below meth c H locs (cells + 1) (slots + 10) Q (F0 m 1786 ls [])) : W p l e room_1 s m #[Value.ref b] below meth c H locs cells slots Q (F0 m 1097 ls []) := by
  obtain ⟨hx, hb, hml, hown, hts, hX, hbl, hC, hz, hl9, hL⟩ := C
  obtain ⟨hR, hP, hD, hS, hl⟩ := I
  have hA : ∀ q : Nat, s.heap.size ≤ q → (fun q => s.heap.size ≤ q) q := fun _ h => h
  have hbA : ¬ (fun q : Nat => s.heap.size ≤ q) b := Nat.not_le.mpr hbl
  have hK := hC.1
  have hr6 : slots + 6 ≤ room_1.slots := by omega
  have in1 : vp_in (nI i + 1) L := pk_in (i + 1) L (by omega) (nI_add i 1) (by omega)
  have in2 : vp_in (nI i + 2) L := pk_in (i + 2) L (by omega) (nI_add i 2) (by omega)
  have in3 : vp_in (nI i + 3) L := pk_in (i + 3) L (by omega) (nI_add i 3) (by omega)
  have in4 : vp_in (nI i + 4) L := pk_in (i + 4) L (by omega) (nI_add i 4) (by omega)
  have in5 : vp_in (nI i + 5) L := pk_in (i + 5) L (by omega) (nI_add i 5) (by omega)
  obtain ⟨r, v, y', q1, q2, q3⟩ := rel_blended hR (xs (nI i + 1).toNatClampNeg) (xs (nI i + 2).toNatClampNeg)
  refine lv_aload_n hx hb dL_law_1097 rfl (lv_at hl 1 rfl) ?_
  refine lv_aload_n hx hb dL_law_1098 rfl (lv_at hl 0 rfl) ?_
  refine lv_iload hx hb dL_law_1099 (lv_at hl 4 rfl) ?_
  refine lv_iconst (v := 1) hx hb dL_law_1101 (by decide) ?_
  refine lv_iadd hx hb dL_law_1102 ?_
  refine va_sld hx hb hX hbl hbA hS in1 dL_law_1103 ?_
  refine lv_aload_n hx hb dL_law_1104 rfl (lv_at hl 0 rfl) ?_
  refine lv_iload hx hb dL_law_1105 (lv_at hl 4 rfl) ?_
  refine lv_iconst (v := 2) hx hb dL_law_1107 (by decide) ?_
  refine lv_iadd hx hb dL_law_1108 ?_
  refine va_sld hx hb hX hbl hbA hS in2 dL_law_1109 ?_
  refine lv_aload_n hx hb dL_law_1110 rfl (lv_at hl 3 rfl) ?_
  refine lr_i (vx_runSW (As := [.ref (g 0), .int (xs (nI i + 1).toNatClampNeg), .int (xs (nI i + 2).toNatClampNeg), .ref o]) (rest := []) ⟨hx, hb, hml, hown, hts⟩ (c_L_blended l hl9 D ca g x (xs (nI i + 1).toNatClampNeg) (xs (nI i + 2).toNatClampNeg) o fo q1 q3.1 H.size) (vx_cwSW 4 hts gL_law_L_blended rfl rfl rfl (by decide +kernel) ⟨Nat.le_of_ble_eq_true rfl, Nat.le_of_ble_eq_true rfl⟩) (tP_S (app_l hP) hC (appD_l hD) hz hS hA) rfl rfl hl.1 rfl (lv_room (Nat.le_of_ble_eq_true rfl)) dL_law_1111 ⟨hrc, hr6⟩) hP hD hS hA (fun g' H locs hg hP hD hS => ?_)
  refine lv_istore (lv' := [(5, .int (wk 1 0 0 r.1)), (0, .ref b), (1, .ref (g 0)), (2, .ref (h 0)), (3, .ref o), (4, .int (nI i))]) hx hb dL_law_1114 hl (by decide) rfl (fun ls hl => ?_)
  refine lv_aload_n hx hb dL_law_1116 rfl (lv_at hl 3 rfl) ?_
  refine lv_aload_n hx hb dL_law_1117 rfl (lv_at hl 1 rfl) ?_
  refine lv_iload hx hb dL_law_1118 (lv_at hl 5 rfl) ?_
  refine lv_iconst (v := 1) hx hb dL_law_1120 (by decide) ?_
  refine lv_iadd hx hb dL_law_1121 ?_
  refine va_sld hx hb hX hbl hbA hS in1 dL_law_1122 ?_
  refine lv_aload_n hx hb dL_law_1123 rfl (lv_at hl 1 rfl) ?_
  refine lv_iload hx hb dL_law_1124 (lv_at hl 5 rfl) ?_
  refine lv_iconst (v := 2) hx hb dL_law_1126 (by decide) ?_
  refine lv_iadd hx hb dL_law_1127 ?_
  refine va_sld hx hb hX hbl hbA hS in2 dL_law_1128 ?_
  refine mr_i (va_runV (As := [.int (xs (nI i + 1).toNatClampNeg), .int (xs (nI i + 2).toNatClampNeg)]) (rest := []) ⟨hx, hb, hml, hown, hts⟩ (c_X5_blended l D ca h y (xs (nI i + 1).toNatClampNeg) (xs (nI i + 2).toNatClampNeg) q2 H.size) (cwV 2 hts gL_law_X5_blended rfl rfl rfl (by decide +kernel) ⟨Nat.le_of_ble_eq_true rfl, Nat.le_of_ble_eq_true rfl⟩) (wP_V (q := (RX5, TX5, 30)) (app_r hP) hC (appD_r hD) 0 rfl rfl) rfl rfl hl.1 rfl (lv_room (Nat.le_of_ble_eq_true rfl)) dL_law_1129 ⟨hrc, hr6⟩) hP hD hS hA (fun H locs hP hD hS => ?_)
  refine lv_istore (lv' := [(6, .int v), (5, .int (wk 1 0 0 r.1)), (0, .ref b), (1, .ref (g 0)), (2, .ref (h 0)), (3, .ref o), (4, .int (nI i))]) hx hb dL_law_1132 hl (by decide) rfl (fun ls hl => ?_)
  refine lv_aload_n hx hb dL_law_1134 rfl (lv_at hl 4 rfl) ?_
  refine rd_i (va_runV (As := []) (rest := []) ⟨hx, hb, hml, hown, hts⟩ (c_X5_thrown l D ca h y' rfl) (cwV 0 hts gL_law_X5_thrown rfl rfl rfl (by decide +kernel) ⟨Nat.le_of_ble_eq_true rfl, Nat.le_of_ble_eq_true rfl⟩) (rP_V (q := (RX5, TX5, 30)) (app_r hP) hC 0 rfl rfl) rfl rfl hl.1 rfl (lv_room (Nat.le_of_ble_eq_true rfl)) dL_law_1135 ⟨hrc, hr6⟩) ?_
  refine lv_iload hx hb dL_law_1138 (lv_at hl 1 rfl) ?_
  refine lv_icmp_eq (tgt := 1145) hx hb dL_law_1140 (by decide) (fun _ => ?_) (fun c9 => absurd q3.2.1.symm c9)
  rw [← hg] at hl
  refine lv_iload hx hb dL_law_1145 (lv_at hl 1 rfl) ?_
  have hend : W p l e room_1 s m #[Value.ref b] below meth c H locs (cells + 1) (slots + 6) Q (F0 m 1162 ls []) := by
    refine lv_goto (tgt := 1786) hx hb dL_law_1162 (by decide) ?_
    exact W.widen (k := cells + 1) (n := slots + 10) (by omega) (by omega) (kk g' (wfo r.1 fo r.2.1.toInt64) r.2.2 y' H locs ls ⟨q3.2.2.2, hP, hD, hS, lv_sub hl [2, 3, 4, 5, 6] rfl⟩)
  refine lv_if_ne (tgt := 1162) hx hb dL_law_1147 (by decide) (fun _ => hend) (fun c9 => ?_)
  have h0 : r.1 = 0 := by
    rcases q3.1 with h | h
    · exact h
    · rw [h] at c9; exact absurd c9 (by decide)
  refine lv_aload_n hx hb dL_law_1150 rfl (lv_at hl 5 rfl) ?_
  refine lv_iconst (v := 0) hx hb dL_law_1151 (by decide) ?_
  refine va_lald (D := D) (cA := ca 2) (n := 1) (f := (wfo r.1 fo r.2.1.toInt64)) hx hb hK hP ((wX g' ca r.2.2).length + 0) 2 (by rw [List.append_assoc]; exact la_get (k := 0) rfl) rfl (by unfold vp_in; decide) dL_law_1152 ?_
  rw [wfo_0 h0, q3.2.2.1 h0]
  refine lv_iload hx hb dL_law_1153 (lv_at hl 0 rfl) ?_
  refine lv_i2l hx hb dL_law_1155 rfl ?_
  refine lv_lcmpE hx hb dL_law_1156 ?_
  exact lv_if_eq (tgt := 1162) hx hb dL_law_1157 (by decide) (fun _ => hend) (fun c9 => absurd rfl c9)
set_option maxHeartbeats 4000000 in
set_option maxRecDepth 100000 in
theorem lc_covered {p : Program} {l : Launch} {e : Env} {s : State} {m : MethodId} {below : List Frame} {meth : Method} {c : Code} {b L : Nat} {xs : Nat → Int32} {D : va_G} {ca : Nat → ClassId} (C : LC p l s m c b L xs D ca) {g h : Nat → Nat} {o i : Nat} {fo : Nat → Int64} {x y : XS} {H : Heap} {locs : List Loc} {ls : Array Slot} {cells slots : Nat} {Q : State → Prop} (I : LI D ca s b i g h o fo x y H locs ls) (hi : i + 6 ≤ L) (hrc : cells + 1 ≤ room_1.cells) (hrs : slots + 10 ≤ room_1.slots) (kk : ∀ (g' : Nat → Nat) (fo' : Nat → Int64) (x' y' : XS) (H : Heap) (locs : List Loc) (ls : Array Slot), LI D ca s b i g' h o fo' x' y' H locs ls → W p l e room_1 s m #[Value.ref b] below meth c H locs (cells + 1) (slots + 10) Q (F0 m 1786 ls [])) : W p l e room_1 s m #[Value.ref b] below meth c H locs cells slots Q (F0 m 1165 ls []) := by
  obtain ⟨hx, hb, hml, hown, hts, hX, hbl, hC, hz, hl9, hL⟩ := C
  obtain ⟨hR, hP, hD, hS, hl⟩ := I
  have hA : ∀ q : Nat, s.heap.size ≤ q → (fun q => s.heap.size ≤ q) q := fun _ h => h
  have hbA : ¬ (fun q : Nat => s.heap.size ≤ q) b := Nat.not_le.mpr hbl
  have hK := hC.1
  have hr6 : slots + 6 ≤ room_1.slots := by omega
  have in1 : vp_in (nI i + 1) L := pk_in (i + 1) L (by omega) (nI_add i 1) (by omega)
  have in2 : vp_in (nI i + 2) L := pk_in (i + 2) L (by omega) (nI_add i 2) (by omega)
  have in3 : vp_in (nI i + 3) L := pk_in (i + 3) L (by omega) (nI_add i 3) (by omega)
  have in4 : vp_in (nI i + 4) L := pk_in (i + 4) L (by omega) (nI_add i 4) (by omega)
  have in5 : vp_in (nI i + 5) L := pk_in (i + 5) L (by omega) (nI_add i 5) (by omega)
  obtain ⟨r, v, y', q1, q2, q3⟩ := rel_covered hR (xs (nI i + 1).toNatClampNeg)
  refine lv_aload_n hx hb dL_law_1165 rfl (lv_at hl 1 rfl) ?_
  refine lv_aload_n hx hb dL_law_1166 rfl (lv_at hl 0 rfl) ?_
  refine lv_iload hx hb dL_law_1167 (lv_at hl 4 rfl) ?_
  refine lv_iconst (v := 1) hx hb dL_law_1169 (by decide) ?_
  refine lv_iadd hx hb dL_law_1170 ?_
  refine va_sld hx hb hX hbl hbA hS in1 dL_law_1171 ?_
  refine lv_aload_n hx hb dL_law_1172 rfl (lv_at hl 3 rfl) ?_
  refine lr_i (vx_runSW (As := [.ref (g 0), .int (xs (nI i + 1).toNatClampNeg), .ref o]) (rest := []) ⟨hx, hb, hml, hown, hts⟩ (c_L_covered l hl9 D ca g x (xs (nI i + 1).toNatClampNeg) o fo q1 q3.1 H.size) (vx_cwSW 3 hts gL_law_L_covered rfl rfl rfl (by decide +kernel) ⟨Nat.le_of_ble_eq_true rfl, Nat.le_of_ble_eq_true rfl⟩) (tP_S (app_l hP) hC (appD_l hD) hz hS hA) rfl rfl hl.1 rfl (lv_room (Nat.le_of_ble_eq_true rfl)) dL_law_1173 ⟨hrc, hr6⟩) hP hD hS hA (fun g' H locs hg hP hD hS => ?_)
  refine lv_istore (lv' := [(5, .int (wk 0 1 0 r.1)), (0, .ref b), (1, .ref (g 0)), (2, .ref (h 0)), (3, .ref o), (4, .int (nI i))]) hx hb dL_law_1176 hl (by decide) rfl (fun ls hl => ?_)
  refine lv_aload_n hx hb dL_law_1178 rfl (lv_at hl 3 rfl) ?_
  refine lv_aload_n hx hb dL_law_1179 rfl (lv_at hl 1 rfl) ?_
  refine lv_iload hx hb dL_law_1180 (lv_at hl 5 rfl) ?_
  refine lv_iconst (v := 1) hx hb dL_law_1182 (by decide) ?_
  refine lv_iadd hx hb dL_law_1183 ?_
  refine va_sld hx hb hX hbl hbA hS in1 dL_law_1184 ?_
  refine mr_i (va_runV (As := [.int (xs (nI i + 1).toNatClampNeg)]) (rest := []) ⟨hx, hb, hml, hown, hts⟩ (c_X5_covered l D ca h y (xs (nI i + 1).toNatClampNeg) q2 H.size) (cwV 1 hts gL_law_X5_covered rfl rfl rfl (by decide +kernel) ⟨Nat.le_of_ble_eq_true rfl, Nat.le_of_ble_eq_true rfl⟩) (wP_V (q := (RX5, TX5, 30)) (app_r hP) hC (appD_r hD) 0 rfl rfl) rfl rfl hl.1 rfl (lv_room (Nat.le_of_ble_eq_true rfl)) dL_law_1185 ⟨hrc, hr6⟩) hP hD hS hA (fun H locs hP hD hS => ?_)
  refine lv_istore (lv' := [(6, .int v), (5, .int (wk 0 1 0 r.1)), (0, .ref b), (1, .ref (g 0)), (2, .ref (h 0)), (3, .ref o), (4, .int (nI i))]) hx hb dL_law_1188 hl (by decide) rfl (fun ls hl => ?_)
  refine lv_aload_n hx hb dL_law_1190 rfl (lv_at hl 4 rfl) ?_
  refine rd_i (va_runV (As := []) (rest := []) ⟨hx, hb, hml, hown, hts⟩ (c_X5_thrown l D ca h y' rfl) (cwV 0 hts gL_law_X5_thrown rfl rfl rfl (by decide +kernel) ⟨Nat.le_of_ble_eq_true rfl, Nat.le_of_ble_eq_true rfl⟩) (rP_V (q := (RX5, TX5, 30)) (app_r hP) hC 0 rfl rfl) rfl rfl hl.1 rfl (lv_room (Nat.le_of_ble_eq_true rfl)) dL_law_1191 ⟨hrc, hr6⟩) ?_
  refine lv_iload hx hb dL_law_1194 (lv_at hl 1 rfl) ?_
  refine lv_icmp_eq (tgt := 1201) hx hb dL_law_1196 (by decide) (fun _ => ?_) (fun c9 => absurd q3.2.1.symm c9)
  rw [← hg] at hl
  refine lv_iload hx hb dL_law_1201 (lv_at hl 1 rfl) ?_
  have hend : W p l e room_1 s m #[Value.ref b] below meth c H locs (cells + 1) (slots + 6) Q (F0 m 1218 ls []) := by
    refine lv_goto (tgt := 1786) hx hb dL_law_1218 (by decide) ?_
    exact W.widen (k := cells + 1) (n := slots + 10) (by omega) (by omega) (kk g' (wfo r.1 fo r.2.1.toInt64) r.2.2 y' H locs ls ⟨q3.2.2.2, hP, hD, hS, lv_sub hl [2, 3, 4, 5, 6] rfl⟩)
  refine lv_if_ne (tgt := 1218) hx hb dL_law_1203 (by decide) (fun _ => hend) (fun c9 => ?_)
  have h0 : r.1 = 0 := by
    rcases q3.1 with h | h
    · exact h
    · rw [h] at c9; exact absurd c9 (by decide)
  refine lv_aload_n hx hb dL_law_1206 rfl (lv_at hl 5 rfl) ?_
  refine lv_iconst (v := 0) hx hb dL_law_1207 (by decide) ?_
  refine va_lald (D := D) (cA := ca 2) (n := 1) (f := (wfo r.1 fo r.2.1.toInt64)) hx hb hK hP ((wX g' ca r.2.2).length + 0) 2 (by rw [List.append_assoc]; exact la_get (k := 0) rfl) rfl (by unfold vp_in; decide) dL_law_1208 ?_
  rw [wfo_0 h0, q3.2.2.1 h0]
  refine lv_iload hx hb dL_law_1209 (lv_at hl 0 rfl) ?_
  refine lv_i2l hx hb dL_law_1211 rfl ?_
  refine lv_lcmpE hx hb dL_law_1212 ?_
  exact lv_if_eq (tgt := 1218) hx hb dL_law_1213 (by decide) (fun _ => hend) (fun c9 => absurd rfl c9)
set_option maxHeartbeats 4000000 in
set_option maxRecDepth 100000 in
theorem lc_least {p : Program} {l : Launch} {e : Env} {s : State} {m : MethodId} {below : List Frame} {meth : Method} {c : Code} {b L : Nat} {xs : Nat → Int32} {D : va_G} {ca : Nat → ClassId} (C : LC p l s m c b L xs D ca) {g h : Nat → Nat} {o i : Nat} {fo : Nat → Int64} {x y : XS} {H : Heap} {locs : List Loc} {ls : Array Slot} {cells slots : Nat} {Q : State → Prop} (I : LI D ca s b i g h o fo x y H locs ls) (hi : i + 6 ≤ L) (hrc : cells + 1 ≤ room_1.cells) (hrs : slots + 10 ≤ room_1.slots) (kk : ∀ (g' : Nat → Nat) (fo' : Nat → Int64) (x' y' : XS) (H : Heap) (locs : List Loc) (ls : Array Slot), LI D ca s b i g' h o fo' x' y' H locs ls → W p l e room_1 s m #[Value.ref b] below meth c H locs (cells + 1) (slots + 10) Q (F0 m 1786 ls [])) : W p l e room_1 s m #[Value.ref b] below meth c H locs cells slots Q (F0 m 1221 ls []) := by
  obtain ⟨hx, hb, hml, hown, hts, hX, hbl, hC, hz, hl9, hL⟩ := C
  obtain ⟨hR, hP, hD, hS, hl⟩ := I
  have hA : ∀ q : Nat, s.heap.size ≤ q → (fun q => s.heap.size ≤ q) q := fun _ h => h
  have hbA : ¬ (fun q : Nat => s.heap.size ≤ q) b := Nat.not_le.mpr hbl
  have hK := hC.1
  have hr6 : slots + 6 ≤ room_1.slots := by omega
  have in1 : vp_in (nI i + 1) L := pk_in (i + 1) L (by omega) (nI_add i 1) (by omega)
  have in2 : vp_in (nI i + 2) L := pk_in (i + 2) L (by omega) (nI_add i 2) (by omega)
  have in3 : vp_in (nI i + 3) L := pk_in (i + 3) L (by omega) (nI_add i 3) (by omega)
  have in4 : vp_in (nI i + 4) L := pk_in (i + 4) L (by omega) (nI_add i 4) (by omega)
  have in5 : vp_in (nI i + 5) L := pk_in (i + 5) L (by omega) (nI_add i 5) (by omega)
  obtain ⟨v, x', y', q1, q2, q3⟩ := rel_least hR
  refine lv_aload_n hx hb dL_law_1221 rfl (lv_at hl 1 rfl) ?_
  rw [List.append_assoc] at hP hD
  refine xr_i (va_runV (As := []) (rest := []) ⟨hx, hb, hml, hown, hts⟩ (c_X4_least l D ca g x q1 H.size) (cwV 0 hts gL_law_X4_least rfl rfl rfl (by decide +kernel) ⟨Nat.le_of_ble_eq_true rfl, Nat.le_of_ble_eq_true rfl⟩) (wP_V (q := (RX4, TX4, 16)) (app_l hP) hC (appD_l hD) 0 rfl rfl) rfl rfl hl.1 rfl (lv_room (Nat.le_of_ble_eq_true rfl)) dL_law_1222 ⟨Nat.le_trans (Nat.le_add_right _ _) hrc, Nat.le_trans (Nat.le_add_right _ _) hrs⟩) hP hD hS hA (fun H locs hP hD hS => ?_)
  rw [← List.append_assoc] at hP hD
  refine lv_aload_n hx hb dL_law_1225 rfl (lv_at hl 2 rfl) ?_
  refine mr_i (va_runV (As := []) (rest := [.int v]) ⟨hx, hb, hml, hown, hts⟩ (c_X5_least l D ca h y q2 H.size) (cwV 0 hts gL_law_X5_least rfl rfl rfl (by decide +kernel) ⟨Nat.le_of_ble_eq_true rfl, Nat.le_of_ble_eq_true rfl⟩) (wP_V (q := (RX5, TX5, 30)) (app_r hP) hC (appD_r hD) 0 rfl rfl) rfl rfl hl.1 rfl (lv_room (Nat.le_of_ble_eq_true rfl)) dL_law_1226 ⟨Nat.le_trans (Nat.le_add_right _ _) hrc, Nat.le_trans (Nat.le_add_right _ _) hrs⟩) hP hD hS hA (fun H locs hP hD hS => ?_)
  refine lv_icmp_eq (tgt := 1786) hx hb dL_law_1229 (by decide) (fun _ => ?_) (fun c9 => absurd rfl c9)
  exact W.widen (Nat.le_add_right _ _) (Nat.le_add_right _ _) (kk g fo x' y' H locs ls ⟨q3, hP, hD, hS, hl⟩)
set_option maxHeartbeats 4000000 in
set_option maxRecDepth 100000 in
theorem lc_leastAnew {p : Program} {l : Launch} {e : Env} {s : State} {m : MethodId} {below : List Frame} {meth : Method} {c : Code} {b L : Nat} {xs : Nat → Int32} {D : va_G} {ca : Nat → ClassId} (C : LC p l s m c b L xs D ca) {g h : Nat → Nat} {o i : Nat} {fo : Nat → Int64} {x y : XS} {H : Heap} {locs : List Loc} {ls : Array Slot} {cells slots : Nat} {Q : State → Prop} (I : LI D ca s b i g h o fo x y H locs ls) (hi : i + 6 ≤ L) (hrc : cells + 1 ≤ room_1.cells) (hrs : slots + 10 ≤ room_1.slots) (kk : ∀ (g' : Nat → Nat) (fo' : Nat → Int64) (x' y' : XS) (H : Heap) (locs : List Loc) (ls : Array Slot), LI D ca s b i g' h o fo' x' y' H locs ls → W p l e room_1 s m #[Value.ref b] below meth c H locs (cells + 1) (slots + 10) Q (F0 m 1786 ls [])) : W p l e room_1 s m #[Value.ref b] below meth c H locs cells slots Q (F0 m 1234 ls []) := by
  obtain ⟨hx, hb, hml, hown, hts, hX, hbl, hC, hz, hl9, hL⟩ := C
  obtain ⟨hR, hP, hD, hS, hl⟩ := I
  have hA : ∀ q : Nat, s.heap.size ≤ q → (fun q => s.heap.size ≤ q) q := fun _ h => h
  have hbA : ¬ (fun q : Nat => s.heap.size ≤ q) b := Nat.not_le.mpr hbl
  have hK := hC.1
  have hr6 : slots + 6 ≤ room_1.slots := by omega
  have in1 : vp_in (nI i + 1) L := pk_in (i + 1) L (by omega) (nI_add i 1) (by omega)
  have in2 : vp_in (nI i + 2) L := pk_in (i + 2) L (by omega) (nI_add i 2) (by omega)
  have in3 : vp_in (nI i + 3) L := pk_in (i + 3) L (by omega) (nI_add i 3) (by omega)
  have in4 : vp_in (nI i + 4) L := pk_in (i + 4) L (by omega) (nI_add i 4) (by omega)
  have in5 : vp_in (nI i + 5) L := pk_in (i + 5) L (by omega) (nI_add i 5) (by omega)
  obtain ⟨v, x', y', q1, q2, q3⟩ := rel_leastAnew hR
  refine lv_aload_n hx hb dL_law_1234 rfl (lv_at hl 1 rfl) ?_
  rw [List.append_assoc] at hP hD
  refine xr_i (va_runV (As := []) (rest := []) ⟨hx, hb, hml, hown, hts⟩ (c_X4_leastAnew l D ca g x q1 H.size) (cwV 0 hts gL_law_X4_leastAnew rfl rfl rfl (by decide +kernel) ⟨Nat.le_of_ble_eq_true rfl, Nat.le_of_ble_eq_true rfl⟩) (wP_V (q := (RX4, TX4, 16)) (app_l hP) hC (appD_l hD) 0 rfl rfl) rfl rfl hl.1 rfl (lv_room (Nat.le_of_ble_eq_true rfl)) dL_law_1235 ⟨Nat.le_trans (Nat.le_add_right _ _) hrc, Nat.le_trans (Nat.le_add_right _ _) hrs⟩) hP hD hS hA (fun H locs hP hD hS => ?_)
  rw [← List.append_assoc] at hP hD
  refine lv_aload_n hx hb dL_law_1238 rfl (lv_at hl 2 rfl) ?_
  refine mr_i (va_runV (As := []) (rest := [.int v]) ⟨hx, hb, hml, hown, hts⟩ (c_X5_leastAnew l D ca h y q2 H.size) (cwV 0 hts gL_law_X5_leastAnew rfl rfl rfl (by decide +kernel) ⟨Nat.le_of_ble_eq_true rfl, Nat.le_of_ble_eq_true rfl⟩) (wP_V (q := (RX5, TX5, 30)) (app_r hP) hC (appD_r hD) 0 rfl rfl) rfl rfl hl.1 rfl (lv_room (Nat.le_of_ble_eq_true rfl)) dL_law_1239 ⟨Nat.le_trans (Nat.le_add_right _ _) hrc, Nat.le_trans (Nat.le_add_right _ _) hrs⟩) hP hD hS hA (fun H locs hP hD hS => ?_)
  refine lv_icmp_eq (tgt := 1786) hx hb dL_law_1242 (by decide) (fun _ => ?_) (fun c9 => absurd rfl c9)
  exact W.widen (Nat.le_add_right _ _) (Nat.le_add_right _ _) (kk g fo x' y' H locs ls ⟨q3, hP, hD, hS, hl⟩)
set_option maxHeartbeats 4000000 in
set_option maxRecDepth 100000 in
theorem lc_bears {p : Program} {l : Launch} {e : Env} {s : State} {m : MethodId} {below : List Frame} {meth : Method} {c : Code} {b L : Nat} {xs : Nat → Int32} {D : va_G} {ca : Nat → ClassId} (C : LC p l s m c b L xs D ca) {g h : Nat → Nat} {o i : Nat} {fo : Nat → Int64} {x y : XS} {H : Heap} {locs : List Loc} {ls : Array Slot} {cells slots : Nat} {Q : State → Prop} (I : LI D ca s b i g h o fo x y H locs ls) (hi : i + 6 ≤ L) (hrc : cells + 1 ≤ room_1.cells) (hrs : slots + 10 ≤ room_1.slots) (kk : ∀ (g' : Nat → Nat) (fo' : Nat → Int64) (x' y' : XS) (H : Heap) (locs : List Loc) (ls : Array Slot), LI D ca s b i g' h o fo' x' y' H locs ls → W p l e room_1 s m #[Value.ref b] below meth c H locs (cells + 1) (slots + 10) Q (F0 m 1786 ls [])) : W p l e room_1 s m #[Value.ref b] below meth c H locs cells slots Q (F0 m 1247 ls []) := by
  obtain ⟨hx, hb, hml, hown, hts, hX, hbl, hC, hz, hl9, hL⟩ := C
  obtain ⟨hR, hP, hD, hS, hl⟩ := I
  have hA : ∀ q : Nat, s.heap.size ≤ q → (fun q => s.heap.size ≤ q) q := fun _ h => h
  have hbA : ¬ (fun q : Nat => s.heap.size ≤ q) b := Nat.not_le.mpr hbl
  have hK := hC.1
  have hr6 : slots + 6 ≤ room_1.slots := by omega
  have in1 : vp_in (nI i + 1) L := pk_in (i + 1) L (by omega) (nI_add i 1) (by omega)
  have in2 : vp_in (nI i + 2) L := pk_in (i + 2) L (by omega) (nI_add i 2) (by omega)
  have in3 : vp_in (nI i + 3) L := pk_in (i + 3) L (by omega) (nI_add i 3) (by omega)
  have in4 : vp_in (nI i + 4) L := pk_in (i + 4) L (by omega) (nI_add i 4) (by omega)
  have in5 : vp_in (nI i + 5) L := pk_in (i + 5) L (by omega) (nI_add i 5) (by omega)
  obtain ⟨r, v, y', q1, q2, q3⟩ := rel_bears hR (xs (nI i + 1).toNatClampNeg)
  refine lv_aload_n hx hb dL_law_1247 rfl (lv_at hl 1 rfl) ?_
  refine lv_aload_n hx hb dL_law_1248 rfl (lv_at hl 0 rfl) ?_
  refine lv_iload hx hb dL_law_1249 (lv_at hl 4 rfl) ?_
  refine lv_iconst (v := 1) hx hb dL_law_1251 (by decide) ?_
  refine lv_iadd hx hb dL_law_1252 ?_
  refine va_sld hx hb hX hbl hbA hS in1 dL_law_1253 ?_
  refine lv_aload_n hx hb dL_law_1254 rfl (lv_at hl 3 rfl) ?_
  refine lr_i (vx_runSW (As := [.ref (g 0), .int (xs (nI i + 1).toNatClampNeg), .ref o]) (rest := []) ⟨hx, hb, hml, hown, hts⟩ (c_L_bears l hl9 D ca g x (xs (nI i + 1).toNatClampNeg) o fo q1 q3.1 H.size) (vx_cwSW 3 hts gL_law_L_bears rfl rfl rfl (by decide +kernel) ⟨Nat.le_of_ble_eq_true rfl, Nat.le_of_ble_eq_true rfl⟩) (tP_S (app_l hP) hC (appD_l hD) hz hS hA) rfl rfl hl.1 rfl (lv_room (Nat.le_of_ble_eq_true rfl)) dL_law_1255 ⟨hrc, hr6⟩) hP hD hS hA (fun g' H locs hg hP hD hS => ?_)
  refine lv_istore (lv' := [(5, .int (wk 0 1 0 r.1)), (0, .ref b), (1, .ref (g 0)), (2, .ref (h 0)), (3, .ref o), (4, .int (nI i))]) hx hb dL_law_1258 hl (by decide) rfl (fun ls hl => ?_)
  refine lv_aload_n hx hb dL_law_1260 rfl (lv_at hl 3 rfl) ?_
  refine lv_aload_n hx hb dL_law_1261 rfl (lv_at hl 1 rfl) ?_
  refine lv_iload hx hb dL_law_1262 (lv_at hl 5 rfl) ?_
  refine lv_iconst (v := 1) hx hb dL_law_1264 (by decide) ?_
  refine lv_iadd hx hb dL_law_1265 ?_
  refine va_sld hx hb hX hbl hbA hS in1 dL_law_1266 ?_
  refine mr_i (va_runV (As := [.int (xs (nI i + 1).toNatClampNeg)]) (rest := []) ⟨hx, hb, hml, hown, hts⟩ (c_X5_bears l D ca h y (xs (nI i + 1).toNatClampNeg) q2 H.size) (cwV 1 hts gL_law_X5_bears rfl rfl rfl (by decide +kernel) ⟨Nat.le_of_ble_eq_true rfl, Nat.le_of_ble_eq_true rfl⟩) (wP_V (q := (RX5, TX5, 30)) (app_r hP) hC (appD_r hD) 0 rfl rfl) rfl rfl hl.1 rfl (lv_room (Nat.le_of_ble_eq_true rfl)) dL_law_1267 ⟨hrc, hr6⟩) hP hD hS hA (fun H locs hP hD hS => ?_)
  refine lv_istore (lv' := [(6, .int v), (5, .int (wk 0 1 0 r.1)), (0, .ref b), (1, .ref (g 0)), (2, .ref (h 0)), (3, .ref o), (4, .int (nI i))]) hx hb dL_law_1270 hl (by decide) rfl (fun ls hl => ?_)
  refine lv_aload_n hx hb dL_law_1272 rfl (lv_at hl 4 rfl) ?_
  refine rd_i (va_runV (As := []) (rest := []) ⟨hx, hb, hml, hown, hts⟩ (c_X5_thrown l D ca h y' rfl) (cwV 0 hts gL_law_X5_thrown rfl rfl rfl (by decide +kernel) ⟨Nat.le_of_ble_eq_true rfl, Nat.le_of_ble_eq_true rfl⟩) (rP_V (q := (RX5, TX5, 30)) (app_r hP) hC 0 rfl rfl) rfl rfl hl.1 rfl (lv_room (Nat.le_of_ble_eq_true rfl)) dL_law_1273 ⟨hrc, hr6⟩) ?_
  refine lv_iload hx hb dL_law_1276 (lv_at hl 1 rfl) ?_
  refine lv_icmp_eq (tgt := 1283) hx hb dL_law_1278 (by decide) (fun _ => ?_) (fun c9 => absurd q3.2.1.symm c9)
  rw [← hg] at hl
  refine lv_iload hx hb dL_law_1283 (lv_at hl 1 rfl) ?_
  have hend : W p l e room_1 s m #[Value.ref b] below meth c H locs (cells + 1) (slots + 6) Q (F0 m 1307 ls []) := by
    refine lv_goto (tgt := 1786) hx hb dL_law_1307 (by decide) ?_
    exact W.widen (k := cells + 1) (n := slots + 10) (by omega) (by omega) (kk g' (wfo r.1 fo (if r.2.1 = 0 then 0 else 1)) r.2.2 y' H locs ls ⟨q3.2.2.2, hP, hD, hS, lv_sub hl [2, 3, 4, 5, 6] rfl⟩)
  refine lv_if_ne (tgt := 1307) hx hb dL_law_1285 (by decide) (fun _ => hend) (fun c9 => ?_)
  have h0 : r.1 = 0 := by
    rcases q3.1 with h | h
    · exact h
    · rw [h] at c9; exact absurd c9 (by decide)
  refine lv_aload_n hx hb dL_law_1288 rfl (lv_at hl 5 rfl) ?_
  refine lv_iconst (v := 0) hx hb dL_law_1289 (by decide) ?_
  refine va_lald (D := D) (cA := ca 2) (n := 1) (f := (wfo r.1 fo (if r.2.1 = 0 then 0 else 1))) hx hb hK hP ((wX g' ca r.2.2).length + 0) 2 (by rw [List.append_assoc]; exact la_get (k := 0) rfl) rfl (by unfold vp_in; decide) dL_law_1290 ?_
  rw [wfo_0 h0, q3.2.2.1 h0]
  refine lv_iload hx hb dL_law_1291 (lv_at hl 0 rfl) ?_
  refine lv_boolL hx hb dL_law_1293 dL_law_1296 dL_law_1297 dL_law_1300 ?_
  refine lv_lcmpE hx hb dL_law_1301 ?_
  exact lv_if_eq (tgt := 1307) hx hb dL_law_1302 (by decide) (fun _ => hend) (fun c9 => absurd rfl c9)
set_option maxHeartbeats 4000000 in
set_option maxRecDepth 100000 in
theorem lc_breaches {p : Program} {l : Launch} {e : Env} {s : State} {m : MethodId} {below : List Frame} {meth : Method} {c : Code} {b L : Nat} {xs : Nat → Int32} {D : va_G} {ca : Nat → ClassId} (C : LC p l s m c b L xs D ca) {g h : Nat → Nat} {o i : Nat} {fo : Nat → Int64} {x y : XS} {H : Heap} {locs : List Loc} {ls : Array Slot} {cells slots : Nat} {Q : State → Prop} (I : LI D ca s b i g h o fo x y H locs ls) (hi : i + 6 ≤ L) (hrc : cells + 1 ≤ room_1.cells) (hrs : slots + 10 ≤ room_1.slots) (kk : ∀ (g' : Nat → Nat) (fo' : Nat → Int64) (x' y' : XS) (H : Heap) (locs : List Loc) (ls : Array Slot), LI D ca s b i g' h o fo' x' y' H locs ls → W p l e room_1 s m #[Value.ref b] below meth c H locs (cells + 1) (slots + 10) Q (F0 m 1786 ls [])) : W p l e room_1 s m #[Value.ref b] below meth c H locs cells slots Q (F0 m 1310 ls []) := by
  obtain ⟨hx, hb, hml, hown, hts, hX, hbl, hC, hz, hl9, hL⟩ := C
  obtain ⟨hR, hP, hD, hS, hl⟩ := I
  have hA : ∀ q : Nat, s.heap.size ≤ q → (fun q => s.heap.size ≤ q) q := fun _ h => h
  have hbA : ¬ (fun q : Nat => s.heap.size ≤ q) b := Nat.not_le.mpr hbl
  have hK := hC.1
  have hr6 : slots + 6 ≤ room_1.slots := by omega
  have in1 : vp_in (nI i + 1) L := pk_in (i + 1) L (by omega) (nI_add i 1) (by omega)
  have in2 : vp_in (nI i + 2) L := pk_in (i + 2) L (by omega) (nI_add i 2) (by omega)
  have in3 : vp_in (nI i + 3) L := pk_in (i + 3) L (by omega) (nI_add i 3) (by omega)
  have in4 : vp_in (nI i + 4) L := pk_in (i + 4) L (by omega) (nI_add i 4) (by omega)
  have in5 : vp_in (nI i + 5) L := pk_in (i + 5) L (by omega) (nI_add i 5) (by omega)
  obtain ⟨v, y', q1, q2, q3⟩ := rel_breaches hR
  refine lv_aload_n hx hb dL_law_1310 rfl (lv_at hl 1 rfl) ?_
  refine rd_i (va_runV (As := []) (rest := []) ⟨hx, hb, hml, hown, hts⟩ (c_X4_breaches l D ca g x q1) (cwV 0 hts gL_law_X4_breaches rfl rfl rfl (by decide +kernel) ⟨Nat.le_of_ble_eq_true rfl, Nat.le_of_ble_eq_true rfl⟩) (rP_V (q := (RX4, TX4, 16)) (app_l (app_l hP)) hC 0 rfl rfl) rfl rfl hl.1 rfl (lv_room (Nat.le_of_ble_eq_true rfl)) dL_law_1311 ⟨Nat.le_trans (Nat.le_add_right _ _) hrc, Nat.le_trans (Nat.le_add_right _ _) hrs⟩) ?_
  refine lv_aload_n hx hb dL_law_1314 rfl (lv_at hl 2 rfl) ?_
  refine mr_i (va_runV (As := []) (rest := [.int v]) ⟨hx, hb, hml, hown, hts⟩ (c_X5_breaches l D ca h y q2 H.size) (cwV 0 hts gL_law_X5_breaches rfl rfl rfl (by decide +kernel) ⟨Nat.le_of_ble_eq_true rfl, Nat.le_of_ble_eq_true rfl⟩) (wP_V (q := (RX5, TX5, 30)) (app_r hP) hC (appD_r hD) 0 rfl rfl) rfl rfl hl.1 rfl (lv_room (Nat.le_of_ble_eq_true rfl)) dL_law_1315 ⟨Nat.le_trans (Nat.le_add_right _ _) hrc, Nat.le_trans (Nat.le_add_right _ _) hrs⟩) hP hD hS hA (fun H locs hP hD hS => ?_)
  refine lv_icmp_eq (tgt := 1786) hx hb dL_law_1318 (by decide) (fun _ => ?_) (fun c9 => absurd rfl c9)
  exact W.widen (Nat.le_add_right _ _) (Nat.le_add_right _ _) (kk g fo x y' H locs ls ⟨q3, hP, hD, hS, hl⟩)
set_option maxHeartbeats 4000000 in
set_option maxRecDepth 100000 in
theorem lc_curfew {p : Program} {l : Launch} {e : Env} {s : State} {m : MethodId} {below : List Frame} {meth : Method} {c : Code} {b L : Nat} {xs : Nat → Int32} {D : va_G} {ca : Nat → ClassId} (C : LC p l s m c b L xs D ca) {g h : Nat → Nat} {o i : Nat} {fo : Nat → Int64} {x y : XS} {H : Heap} {locs : List Loc} {ls : Array Slot} {cells slots : Nat} {Q : State → Prop} (I : LI D ca s b i g h o fo x y H locs ls) (hi : i + 6 ≤ L) (hrc : cells + 1 ≤ room_1.cells) (hrs : slots + 10 ≤ room_1.slots) (kk : ∀ (g' : Nat → Nat) (fo' : Nat → Int64) (x' y' : XS) (H : Heap) (locs : List Loc) (ls : Array Slot), LI D ca s b i g' h o fo' x' y' H locs ls → W p l e room_1 s m #[Value.ref b] below meth c H locs (cells + 1) (slots + 10) Q (F0 m 1786 ls [])) : W p l e room_1 s m #[Value.ref b] below meth c H locs cells slots Q (F0 m 1323 ls []) := by
  obtain ⟨hx, hb, hml, hown, hts, hX, hbl, hC, hz, hl9, hL⟩ := C
  obtain ⟨hR, hP, hD, hS, hl⟩ := I
  have hA : ∀ q : Nat, s.heap.size ≤ q → (fun q => s.heap.size ≤ q) q := fun _ h => h
  have hbA : ¬ (fun q : Nat => s.heap.size ≤ q) b := Nat.not_le.mpr hbl
  have hK := hC.1
  have hr6 : slots + 6 ≤ room_1.slots := by omega
  have in1 : vp_in (nI i + 1) L := pk_in (i + 1) L (by omega) (nI_add i 1) (by omega)
  have in2 : vp_in (nI i + 2) L := pk_in (i + 2) L (by omega) (nI_add i 2) (by omega)
  have in3 : vp_in (nI i + 3) L := pk_in (i + 3) L (by omega) (nI_add i 3) (by omega)
  have in4 : vp_in (nI i + 4) L := pk_in (i + 4) L (by omega) (nI_add i 4) (by omega)
  have in5 : vp_in (nI i + 5) L := pk_in (i + 5) L (by omega) (nI_add i 5) (by omega)
  obtain ⟨r, y', q1, q2, q3⟩ := rel_curfew hR (xs (nI i + 1).toNatClampNeg) (xs (nI i + 2).toNatClampNeg)
  refine lv_aload_n hx hb dL_law_1323 rfl (lv_at hl 1 rfl) ?_
  refine lv_aload_n hx hb dL_law_1324 rfl (lv_at hl 0 rfl) ?_
  refine lv_iload hx hb dL_law_1325 (lv_at hl 4 rfl) ?_
  refine lv_iconst (v := 1) hx hb dL_law_1327 (by decide) ?_
  refine lv_iadd hx hb dL_law_1328 ?_
  refine va_sld hx hb hX hbl hbA hS in1 dL_law_1329 ?_
  refine lv_aload_n hx hb dL_law_1330 rfl (lv_at hl 0 rfl) ?_
  refine lv_iload hx hb dL_law_1331 (lv_at hl 4 rfl) ?_
  refine lv_iconst (v := 2) hx hb dL_law_1333 (by decide) ?_
  refine lv_iadd hx hb dL_law_1334 ?_
  refine va_sld hx hb hX hbl hbA hS in2 dL_law_1335 ?_
  refine lr_i (vx_runSW (As := [.ref (g 0), .int (xs (nI i + 1).toNatClampNeg), .int (xs (nI i + 2).toNatClampNeg)]) (rest := []) ⟨hx, hb, hml, hown, hts⟩ (c_L_curfew l hl9 D ca g x (xs (nI i + 1).toNatClampNeg) (xs (nI i + 2).toNatClampNeg) o fo q1 q3.1 H.size) (vx_cwSW 3 hts gL_law_L_curfew rfl rfl rfl (by decide +kernel) ⟨Nat.le_of_ble_eq_true rfl, Nat.le_of_ble_eq_true rfl⟩) (tP_S (app_l hP) hC (appD_l hD) hz hS hA) rfl rfl hl.1 rfl (lv_room (Nat.le_of_ble_eq_true rfl)) dL_law_1336 ⟨hrc, hr6⟩) hP hD hS hA (fun g' H locs hg hP hD hS => ?_)
  refine lv_istore (lv' := [(5, .int (wk 0 1 0 r.1)), (0, .ref b), (1, .ref (g 0)), (2, .ref (h 0)), (3, .ref o), (4, .int (nI i))]) hx hb dL_law_1339 hl (by decide) rfl (fun ls hl => ?_)
  refine lv_aload_n hx hb dL_law_1341 rfl (lv_at hl 3 rfl) ?_
  refine lv_aload_n hx hb dL_law_1342 rfl (lv_at hl 1 rfl) ?_
  refine lv_iload hx hb dL_law_1343 (lv_at hl 5 rfl) ?_
  refine lv_iconst (v := 1) hx hb dL_law_1345 (by decide) ?_
  refine lv_iadd hx hb dL_law_1346 ?_
  refine va_sld hx hb hX hbl hbA hS in1 dL_law_1347 ?_
  refine lv_aload_n hx hb dL_law_1348 rfl (lv_at hl 1 rfl) ?_
  refine lv_iload hx hb dL_law_1349 (lv_at hl 5 rfl) ?_
  refine lv_iconst (v := 2) hx hb dL_law_1351 (by decide) ?_
  refine lv_iadd hx hb dL_law_1352 ?_
  refine va_sld hx hb hX hbl hbA hS in2 dL_law_1353 ?_
  refine mr_v (va_runV (As := [.int (xs (nI i + 1).toNatClampNeg), .int (xs (nI i + 2).toNatClampNeg)]) (rest := []) ⟨hx, hb, hml, hown, hts⟩ (c_X5_curfew l D ca h y (xs (nI i + 1).toNatClampNeg) (xs (nI i + 2).toNatClampNeg) q2 H.size) (cwV 2 hts gL_law_X5_curfew rfl rfl rfl (by decide +kernel) ⟨Nat.le_of_ble_eq_true rfl, Nat.le_of_ble_eq_true rfl⟩) (wP_V (q := (RX5, TX5, 30)) (app_r hP) hC (appD_r hD) 0 rfl rfl) rfl rfl hl.1 rfl (lv_room (Nat.le_of_ble_eq_true rfl)) dL_law_1354 ⟨hrc, hr6⟩) hP hD hS hA (fun H locs hP hD hS => ?_)
  refine lv_aload_n hx hb dL_law_1357 rfl (lv_at hl 3 rfl) ?_
  refine rd_i (va_runV (As := []) (rest := []) ⟨hx, hb, hml, hown, hts⟩ (c_X5_thrown l D ca h y' rfl) (cwV 0 hts gL_law_X5_thrown rfl rfl rfl (by decide +kernel) ⟨Nat.le_of_ble_eq_true rfl, Nat.le_of_ble_eq_true rfl⟩) (rP_V (q := (RX5, TX5, 30)) (app_r hP) hC 0 rfl rfl) rfl rfl hl.1 rfl (lv_room (Nat.le_of_ble_eq_true rfl)) dL_law_1358 ⟨hrc, hr6⟩) ?_
  refine lv_iload hx hb dL_law_1361 (lv_at hl 0 rfl) ?_
  refine lv_icmp_eq (tgt := 1368) hx hb dL_law_1363 (by decide) (fun _ => ?_) (fun c9 => absurd q3.2.1.symm c9)
  rw [← hg] at hl
  refine lv_goto (tgt := 1786) hx hb dL_law_1368 (by decide) ?_
  exact W.widen (k := cells + 1) (n := slots + 10) (by omega) (by omega) (kk g' fo r.2.2 y' H locs ls ⟨q3.2.2.2, hP, hD, hS, lv_sub hl [1, 2, 3, 4, 5] rfl⟩)
set_option maxHeartbeats 4000000 in
set_option maxRecDepth 100000 in
theorem lc_ready {p : Program} {l : Launch} {e : Env} {s : State} {m : MethodId} {below : List Frame} {meth : Method} {c : Code} {b L : Nat} {xs : Nat → Int32} {D : va_G} {ca : Nat → ClassId} (C : LC p l s m c b L xs D ca) {g h : Nat → Nat} {o i : Nat} {fo : Nat → Int64} {x y : XS} {H : Heap} {locs : List Loc} {ls : Array Slot} {cells slots : Nat} {Q : State → Prop} (I : LI D ca s b i g h o fo x y H locs ls) (hi : i + 6 ≤ L) (hrc : cells + 1 ≤ room_1.cells) (hrs : slots + 10 ≤ room_1.slots) (kk : ∀ (g' : Nat → Nat) (fo' : Nat → Int64) (x' y' : XS) (H : Heap) (locs : List Loc) (ls : Array Slot), LI D ca s b i g' h o fo' x' y' H locs ls → W p l e room_1 s m #[Value.ref b] below meth c H locs (cells + 1) (slots + 10) Q (F0 m 1786 ls [])) : W p l e room_1 s m #[Value.ref b] below meth c H locs cells slots Q (F0 m 1371 ls []) := by
  obtain ⟨hx, hb, hml, hown, hts, hX, hbl, hC, hz, hl9, hL⟩ := C
  obtain ⟨hR, hP, hD, hS, hl⟩ := I
  have hA : ∀ q : Nat, s.heap.size ≤ q → (fun q => s.heap.size ≤ q) q := fun _ h => h
  have hbA : ¬ (fun q : Nat => s.heap.size ≤ q) b := Nat.not_le.mpr hbl
  have hK := hC.1
  have hr6 : slots + 6 ≤ room_1.slots := by omega
  have in1 : vp_in (nI i + 1) L := pk_in (i + 1) L (by omega) (nI_add i 1) (by omega)
  have in2 : vp_in (nI i + 2) L := pk_in (i + 2) L (by omega) (nI_add i 2) (by omega)
  have in3 : vp_in (nI i + 3) L := pk_in (i + 3) L (by omega) (nI_add i 3) (by omega)
  have in4 : vp_in (nI i + 4) L := pk_in (i + 4) L (by omega) (nI_add i 4) (by omega)
  have in5 : vp_in (nI i + 5) L := pk_in (i + 5) L (by omega) (nI_add i 5) (by omega)
  obtain ⟨r, v, y', q1, q2, q3⟩ := rel_ready hR (xs (nI i + 1).toNatClampNeg) (xs (nI i + 2).toNatClampNeg)
  refine lv_aload_n hx hb dL_law_1371 rfl (lv_at hl 1 rfl) ?_
  refine lv_aload_n hx hb dL_law_1372 rfl (lv_at hl 0 rfl) ?_
  refine lv_iload hx hb dL_law_1373 (lv_at hl 4 rfl) ?_
  refine lv_iconst (v := 1) hx hb dL_law_1375 (by decide) ?_
  refine lv_iadd hx hb dL_law_1376 ?_
  refine va_sld hx hb hX hbl hbA hS in1 dL_law_1377 ?_
  refine lv_aload_n hx hb dL_law_1378 rfl (lv_at hl 0 rfl) ?_
  refine lv_iload hx hb dL_law_1379 (lv_at hl 4 rfl) ?_
  refine lv_iconst (v := 2) hx hb dL_law_1381 (by decide) ?_
  refine lv_iadd hx hb dL_law_1382 ?_
  refine va_sld hx hb hX hbl hbA hS in2 dL_law_1383 ?_
  refine lv_aload_n hx hb dL_law_1384 rfl (lv_at hl 3 rfl) ?_
  refine lr_i (vx_runSW (As := [.ref (g 0), .int (xs (nI i + 1).toNatClampNeg), .int (xs (nI i + 2).toNatClampNeg), .ref o]) (rest := []) ⟨hx, hb, hml, hown, hts⟩ (c_L_ready l hl9 D ca g x (xs (nI i + 1).toNatClampNeg) (xs (nI i + 2).toNatClampNeg) o fo q1 q3.1 H.size) (vx_cwSW 4 hts gL_law_L_ready rfl rfl rfl (by decide +kernel) ⟨Nat.le_of_ble_eq_true rfl, Nat.le_of_ble_eq_true rfl⟩) (tP_S (app_l hP) hC (appD_l hD) hz hS hA) rfl rfl hl.1 rfl (lv_room (Nat.le_of_ble_eq_true rfl)) dL_law_1385 ⟨hrc, hr6⟩) hP hD hS hA (fun g' H locs hg hP hD hS => ?_)
  refine lv_istore (lv' := [(5, .int (wk 1 2 0 r.1)), (0, .ref b), (1, .ref (g 0)), (2, .ref (h 0)), (3, .ref o), (4, .int (nI i))]) hx hb dL_law_1388 hl (by decide) rfl (fun ls hl => ?_)
  refine lv_aload_n hx hb dL_law_1390 rfl (lv_at hl 3 rfl) ?_
  refine lv_aload_n hx hb dL_law_1391 rfl (lv_at hl 1 rfl) ?_
  refine lv_iload hx hb dL_law_1392 (lv_at hl 5 rfl) ?_
  refine lv_iconst (v := 1) hx hb dL_law_1394 (by decide) ?_
  refine lv_iadd hx hb dL_law_1395 ?_
  refine va_sld hx hb hX hbl hbA hS in1 dL_law_1396 ?_
  refine lv_aload_n hx hb dL_law_1397 rfl (lv_at hl 1 rfl) ?_
  refine lv_iload hx hb dL_law_1398 (lv_at hl 5 rfl) ?_
  refine lv_iconst (v := 2) hx hb dL_law_1400 (by decide) ?_
  refine lv_iadd hx hb dL_law_1401 ?_
  refine va_sld hx hb hX hbl hbA hS in2 dL_law_1402 ?_
  refine mr_i (va_runV (As := [.int (xs (nI i + 1).toNatClampNeg), .int (xs (nI i + 2).toNatClampNeg)]) (rest := []) ⟨hx, hb, hml, hown, hts⟩ (c_X5_ready l D ca h y (xs (nI i + 1).toNatClampNeg) (xs (nI i + 2).toNatClampNeg) q2 H.size) (cwV 2 hts gL_law_X5_ready rfl rfl rfl (by decide +kernel) ⟨Nat.le_of_ble_eq_true rfl, Nat.le_of_ble_eq_true rfl⟩) (wP_V (q := (RX5, TX5, 30)) (app_r hP) hC (appD_r hD) 0 rfl rfl) rfl rfl hl.1 rfl (lv_room (Nat.le_of_ble_eq_true rfl)) dL_law_1403 ⟨hrc, hr6⟩) hP hD hS hA (fun H locs hP hD hS => ?_)
  refine lv_istore (lv' := [(6, .int v), (5, .int (wk 1 2 0 r.1)), (0, .ref b), (1, .ref (g 0)), (2, .ref (h 0)), (3, .ref o), (4, .int (nI i))]) hx hb dL_law_1406 hl (by decide) rfl (fun ls hl => ?_)
  refine lv_aload_n hx hb dL_law_1408 rfl (lv_at hl 4 rfl) ?_
  refine rd_i (va_runV (As := []) (rest := []) ⟨hx, hb, hml, hown, hts⟩ (c_X5_thrown l D ca h y' rfl) (cwV 0 hts gL_law_X5_thrown rfl rfl rfl (by decide +kernel) ⟨Nat.le_of_ble_eq_true rfl, Nat.le_of_ble_eq_true rfl⟩) (rP_V (q := (RX5, TX5, 30)) (app_r hP) hC 0 rfl rfl) rfl rfl hl.1 rfl (lv_room (Nat.le_of_ble_eq_true rfl)) dL_law_1409 ⟨hrc, hr6⟩) ?_
  refine lv_iload hx hb dL_law_1412 (lv_at hl 1 rfl) ?_
  refine lv_icmp_eq (tgt := 1419) hx hb dL_law_1414 (by decide) (fun _ => ?_) (fun c9 => absurd q3.2.1.symm c9)
  rw [← hg] at hl
  refine lv_iload hx hb dL_law_1419 (lv_at hl 1 rfl) ?_
  have hend : W p l e room_1 s m #[Value.ref b] below meth c H locs (cells + 1) (slots + 6) Q (F0 m 1436 ls []) := by
    refine lv_goto (tgt := 1786) hx hb dL_law_1436 (by decide) ?_
    exact W.widen (k := cells + 1) (n := slots + 10) (by omega) (by omega) (kk g' (wfo r.1 fo r.2.1.toInt64) r.2.2 y' H locs ls ⟨q3.2.2.2, hP, hD, hS, lv_sub hl [2, 3, 4, 5, 6] rfl⟩)
  refine lv_if_ne (tgt := 1436) hx hb dL_law_1421 (by decide) (fun _ => hend) (fun c9 => ?_)
  have h0 : r.1 = 0 := by
    rcases q3.1 with h | h | h
    · exact h
    · rw [h] at c9; exact absurd c9 (by decide)
    · rw [h] at c9; exact absurd c9 (by decide)
  refine lv_aload_n hx hb dL_law_1424 rfl (lv_at hl 5 rfl) ?_
  refine lv_iconst (v := 0) hx hb dL_law_1425 (by decide) ?_
  refine va_lald (D := D) (cA := ca 2) (n := 1) (f := (wfo r.1 fo r.2.1.toInt64)) hx hb hK hP ((wX g' ca r.2.2).length + 0) 2 (by rw [List.append_assoc]; exact la_get (k := 0) rfl) rfl (by unfold vp_in; decide) dL_law_1426 ?_
  rw [wfo_0 h0, q3.2.2.1 h0]
  refine lv_iload hx hb dL_law_1427 (lv_at hl 0 rfl) ?_
  refine lv_i2l hx hb dL_law_1429 rfl ?_
  refine lv_lcmpE hx hb dL_law_1430 ?_
  exact lv_if_eq (tgt := 1436) hx hb dL_law_1431 (by decide) (fun _ => hend) (fun c9 => absurd rfl c9)
set_option maxHeartbeats 4000000 in
set_option maxRecDepth 100000 in
theorem lc_propose {p : Program} {l : Launch} {e : Env} {s : State} {m : MethodId} {below : List Frame} {meth : Method} {c : Code} {b L : Nat} {xs : Nat → Int32} {D : va_G} {ca : Nat → ClassId} (C : LC p l s m c b L xs D ca) {g h : Nat → Nat} {o i : Nat} {fo : Nat → Int64} {x y : XS} {H : Heap} {locs : List Loc} {ls : Array Slot} {cells slots : Nat} {Q : State → Prop} (I : LI D ca s b i g h o fo x y H locs ls) (hi : i + 6 ≤ L) (hrc : cells + 1 ≤ room_1.cells) (hrs : slots + 10 ≤ room_1.slots) (kk : ∀ (g' : Nat → Nat) (fo' : Nat → Int64) (x' y' : XS) (H : Heap) (locs : List Loc) (ls : Array Slot), LI D ca s b i g' h o fo' x' y' H locs ls → W p l e room_1 s m #[Value.ref b] below meth c H locs (cells + 1) (slots + 10) Q (F0 m 1786 ls [])) : W p l e room_1 s m #[Value.ref b] below meth c H locs cells slots Q (F0 m 1439 ls []) := by
  obtain ⟨hx, hb, hml, hown, hts, hX, hbl, hC, hz, hl9, hL⟩ := C
  obtain ⟨hR, hP, hD, hS, hl⟩ := I
  have hA : ∀ q : Nat, s.heap.size ≤ q → (fun q => s.heap.size ≤ q) q := fun _ h => h
  have hbA : ¬ (fun q : Nat => s.heap.size ≤ q) b := Nat.not_le.mpr hbl
  have hK := hC.1
  have hr6 : slots + 6 ≤ room_1.slots := by omega
  have in1 : vp_in (nI i + 1) L := pk_in (i + 1) L (by omega) (nI_add i 1) (by omega)
  have in2 : vp_in (nI i + 2) L := pk_in (i + 2) L (by omega) (nI_add i 2) (by omega)
  have in3 : vp_in (nI i + 3) L := pk_in (i + 3) L (by omega) (nI_add i 3) (by omega)
  have in4 : vp_in (nI i + 4) L := pk_in (i + 4) L (by omega) (nI_add i 4) (by omega)
  have in5 : vp_in (nI i + 5) L := pk_in (i + 5) L (by omega) (nI_add i 5) (by omega)
  obtain ⟨r, v, y', q1, q2, q3⟩ := rel_propose hR (xs (nI i + 1).toNatClampNeg) (xs (nI i + 2).toNatClampNeg)
  refine lv_aload_n hx hb dL_law_1439 rfl (lv_at hl 1 rfl) ?_
  refine lv_aload_n hx hb dL_law_1440 rfl (lv_at hl 0 rfl) ?_
  refine lv_iload hx hb dL_law_1441 (lv_at hl 4 rfl) ?_
  refine lv_iconst (v := 1) hx hb dL_law_1443 (by decide) ?_
  refine lv_iadd hx hb dL_law_1444 ?_
  refine va_sld hx hb hX hbl hbA hS in1 dL_law_1445 ?_
  refine lv_aload_n hx hb dL_law_1446 rfl (lv_at hl 0 rfl) ?_
  refine lv_iload hx hb dL_law_1447 (lv_at hl 4 rfl) ?_
  refine lv_iconst (v := 2) hx hb dL_law_1449 (by decide) ?_
  refine lv_iadd hx hb dL_law_1450 ?_
  refine va_sld hx hb hX hbl hbA hS in2 dL_law_1451 ?_
  refine lv_aload_n hx hb dL_law_1452 rfl (lv_at hl 3 rfl) ?_
  refine lr_i (vx_runSW (As := [.ref (g 0), .int (xs (nI i + 1).toNatClampNeg), .int (xs (nI i + 2).toNatClampNeg), .ref o]) (rest := []) ⟨hx, hb, hml, hown, hts⟩ (c_L_propose l hl9 D ca g x (xs (nI i + 1).toNatClampNeg) (xs (nI i + 2).toNatClampNeg) o fo q1 q3.1 H.size) (vx_cwSW 4 hts gL_law_L_propose rfl rfl rfl (by decide +kernel) ⟨Nat.le_of_ble_eq_true rfl, Nat.le_of_ble_eq_true rfl⟩) (tP_S (app_l hP) hC (appD_l hD) hz hS hA) rfl rfl hl.1 rfl (lv_room (Nat.le_of_ble_eq_true rfl)) dL_law_1453 ⟨hrc, hr6⟩) hP hD hS hA (fun g' H locs hg hP hD hS => ?_)
  refine lv_istore (lv' := [(5, .int (wk 1 2 0 r.1)), (0, .ref b), (1, .ref (g 0)), (2, .ref (h 0)), (3, .ref o), (4, .int (nI i))]) hx hb dL_law_1456 hl (by decide) rfl (fun ls hl => ?_)
  refine lv_aload_n hx hb dL_law_1458 rfl (lv_at hl 3 rfl) ?_
  refine lv_aload_n hx hb dL_law_1459 rfl (lv_at hl 1 rfl) ?_
  refine lv_iload hx hb dL_law_1460 (lv_at hl 5 rfl) ?_
  refine lv_iconst (v := 1) hx hb dL_law_1462 (by decide) ?_
  refine lv_iadd hx hb dL_law_1463 ?_
  refine va_sld hx hb hX hbl hbA hS in1 dL_law_1464 ?_
  refine lv_aload_n hx hb dL_law_1465 rfl (lv_at hl 1 rfl) ?_
  refine lv_iload hx hb dL_law_1466 (lv_at hl 5 rfl) ?_
  refine lv_iconst (v := 2) hx hb dL_law_1468 (by decide) ?_
  refine lv_iadd hx hb dL_law_1469 ?_
  refine va_sld hx hb hX hbl hbA hS in2 dL_law_1470 ?_
  refine mr_i (va_runV (As := [.int (xs (nI i + 1).toNatClampNeg), .int (xs (nI i + 2).toNatClampNeg)]) (rest := []) ⟨hx, hb, hml, hown, hts⟩ (c_X5_propose l D ca h y (xs (nI i + 1).toNatClampNeg) (xs (nI i + 2).toNatClampNeg) q2 H.size) (cwV 2 hts gL_law_X5_propose rfl rfl rfl (by decide +kernel) ⟨Nat.le_of_ble_eq_true rfl, Nat.le_of_ble_eq_true rfl⟩) (wP_V (q := (RX5, TX5, 30)) (app_r hP) hC (appD_r hD) 0 rfl rfl) rfl rfl hl.1 rfl (lv_room (Nat.le_of_ble_eq_true rfl)) dL_law_1471 ⟨hrc, hr6⟩) hP hD hS hA (fun H locs hP hD hS => ?_)
  refine lv_istore (lv' := [(6, .int v), (5, .int (wk 1 2 0 r.1)), (0, .ref b), (1, .ref (g 0)), (2, .ref (h 0)), (3, .ref o), (4, .int (nI i))]) hx hb dL_law_1474 hl (by decide) rfl (fun ls hl => ?_)
  refine lv_aload_n hx hb dL_law_1476 rfl (lv_at hl 4 rfl) ?_
  refine rd_i (va_runV (As := []) (rest := []) ⟨hx, hb, hml, hown, hts⟩ (c_X5_thrown l D ca h y' rfl) (cwV 0 hts gL_law_X5_thrown rfl rfl rfl (by decide +kernel) ⟨Nat.le_of_ble_eq_true rfl, Nat.le_of_ble_eq_true rfl⟩) (rP_V (q := (RX5, TX5, 30)) (app_r hP) hC 0 rfl rfl) rfl rfl hl.1 rfl (lv_room (Nat.le_of_ble_eq_true rfl)) dL_law_1477 ⟨hrc, hr6⟩) ?_
  refine lv_iload hx hb dL_law_1480 (lv_at hl 1 rfl) ?_
  refine lv_icmp_eq (tgt := 1487) hx hb dL_law_1482 (by decide) (fun _ => ?_) (fun c9 => absurd q3.2.1.symm c9)
  rw [← hg] at hl
  refine lv_iload hx hb dL_law_1487 (lv_at hl 1 rfl) ?_
  have hend : W p l e room_1 s m #[Value.ref b] below meth c H locs (cells + 1) (slots + 6) Q (F0 m 1504 ls []) := by
    refine lv_goto (tgt := 1786) hx hb dL_law_1504 (by decide) ?_
    exact W.widen (k := cells + 1) (n := slots + 10) (by omega) (by omega) (kk g' (wfo r.1 fo r.2.1.toInt64) r.2.2 y' H locs ls ⟨q3.2.2.2, hP, hD, hS, lv_sub hl [2, 3, 4, 5, 6] rfl⟩)
  refine lv_if_ne (tgt := 1504) hx hb dL_law_1489 (by decide) (fun _ => hend) (fun c9 => ?_)
  have h0 : r.1 = 0 := by
    rcases q3.1 with h | h | h
    · exact h
    · rw [h] at c9; exact absurd c9 (by decide)
    · rw [h] at c9; exact absurd c9 (by decide)
  refine lv_aload_n hx hb dL_law_1492 rfl (lv_at hl 5 rfl) ?_
  refine lv_iconst (v := 0) hx hb dL_law_1493 (by decide) ?_
  refine va_lald (D := D) (cA := ca 2) (n := 1) (f := (wfo r.1 fo r.2.1.toInt64)) hx hb hK hP ((wX g' ca r.2.2).length + 0) 2 (by rw [List.append_assoc]; exact la_get (k := 0) rfl) rfl (by unfold vp_in; decide) dL_law_1494 ?_
  rw [wfo_0 h0, q3.2.2.1 h0]
  refine lv_iload hx hb dL_law_1495 (lv_at hl 0 rfl) ?_
  refine lv_i2l hx hb dL_law_1497 rfl ?_
  refine lv_lcmpE hx hb dL_law_1498 ?_
  exact lv_if_eq (tgt := 1504) hx hb dL_law_1499 (by decide) (fun _ => hend) (fun c9 => absurd rfl c9)
set_option maxHeartbeats 4000000 in
set_option maxRecDepth 100000 in
theorem lc_answer {p : Program} {l : Launch} {e : Env} {s : State} {m : MethodId} {below : List Frame} {meth : Method} {c : Code} {b L : Nat} {xs : Nat → Int32} {D : va_G} {ca : Nat → ClassId} (C : LC p l s m c b L xs D ca) {g h : Nat → Nat} {o i : Nat} {fo : Nat → Int64} {x y : XS} {H : Heap} {locs : List Loc} {ls : Array Slot} {cells slots : Nat} {Q : State → Prop} (I : LI D ca s b i g h o fo x y H locs ls) (hi : i + 6 ≤ L) (hrc : cells + 1 ≤ room_1.cells) (hrs : slots + 10 ≤ room_1.slots) (kk : ∀ (g' : Nat → Nat) (fo' : Nat → Int64) (x' y' : XS) (H : Heap) (locs : List Loc) (ls : Array Slot), LI D ca s b i g' h o fo' x' y' H locs ls → W p l e room_1 s m #[Value.ref b] below meth c H locs (cells + 1) (slots + 10) Q (F0 m 1786 ls [])) : W p l e room_1 s m #[Value.ref b] below meth c H locs cells slots Q (F0 m 1507 ls []) := by
  obtain ⟨hx, hb, hml, hown, hts, hX, hbl, hC, hz, hl9, hL⟩ := C
  obtain ⟨hR, hP, hD, hS, hl⟩ := I
  have hA : ∀ q : Nat, s.heap.size ≤ q → (fun q => s.heap.size ≤ q) q := fun _ h => h
  have hbA : ¬ (fun q : Nat => s.heap.size ≤ q) b := Nat.not_le.mpr hbl
  have hK := hC.1
  have hr6 : slots + 6 ≤ room_1.slots := by omega
  have in1 : vp_in (nI i + 1) L := pk_in (i + 1) L (by omega) (nI_add i 1) (by omega)
  have in2 : vp_in (nI i + 2) L := pk_in (i + 2) L (by omega) (nI_add i 2) (by omega)
  have in3 : vp_in (nI i + 3) L := pk_in (i + 3) L (by omega) (nI_add i 3) (by omega)
  have in4 : vp_in (nI i + 4) L := pk_in (i + 4) L (by omega) (nI_add i 4) (by omega)
  have in5 : vp_in (nI i + 5) L := pk_in (i + 5) L (by omega) (nI_add i 5) (by omega)
  obtain ⟨r, v, y', q1, q2, q3⟩ := rel_answer hR (xs (nI i + 1).toNatClampNeg) (decide (¬ (xs (nI i + 2).toNatClampNeg) = 0))
  refine lv_aload_n hx hb dL_law_1507 rfl (lv_at hl 1 rfl) ?_
  refine lv_aload_n hx hb dL_law_1508 rfl (lv_at hl 0 rfl) ?_
  refine lv_iload hx hb dL_law_1509 (lv_at hl 4 rfl) ?_
  refine lv_iconst (v := 1) hx hb dL_law_1511 (by decide) ?_
  refine lv_iadd hx hb dL_law_1512 ?_
  refine va_sld hx hb hX hbl hbA hS in1 dL_law_1513 ?_
  refine lv_aload_n hx hb dL_law_1514 rfl (lv_at hl 0 rfl) ?_
  refine lv_iload hx hb dL_law_1515 (lv_at hl 4 rfl) ?_
  refine lv_iconst (v := 2) hx hb dL_law_1517 (by decide) ?_
  refine lv_iadd hx hb dL_law_1518 ?_
  refine va_sld hx hb hX hbl hbA hS in2 dL_law_1519 ?_
  refine lv_bool hx hb dL_law_1520 dL_law_1523 dL_law_1524 dL_law_1527 ?_
  refine lv_aload_n hx hb dL_law_1528 rfl (lv_at hl 3 rfl) ?_
  refine lr_i (vx_runSW (As := [.ref (g 0), .int (xs (nI i + 1).toNatClampNeg), .int (b2i (decide (¬ (xs (nI i + 2).toNatClampNeg) = 0))), .ref o]) (rest := []) ⟨hx, hb, hml, hown, hts⟩ (c_L_answer l hl9 D ca g x (xs (nI i + 1).toNatClampNeg) (b2i (decide (¬ (xs (nI i + 2).toNatClampNeg) = 0))) o fo q1 q3.1 H.size) (vx_cwSW 4 hts gL_law_L_answer rfl rfl rfl (by decide +kernel) ⟨Nat.le_of_ble_eq_true rfl, Nat.le_of_ble_eq_true rfl⟩) (tP_S (app_l hP) hC (appD_l hD) hz hS hA) rfl rfl hl.1 rfl (lv_room (Nat.le_of_ble_eq_true rfl)) dL_law_1529 ⟨hrc, hr6⟩) hP hD hS hA (fun g' H locs hg hP hD hS => ?_)
  refine lv_istore (lv' := [(5, .int (wk 1 0 2 r.1)), (0, .ref b), (1, .ref (g 0)), (2, .ref (h 0)), (3, .ref o), (4, .int (nI i))]) hx hb dL_law_1532 hl (by decide) rfl (fun ls hl => ?_)
  refine lv_aload_n hx hb dL_law_1534 rfl (lv_at hl 3 rfl) ?_
  refine lv_aload_n hx hb dL_law_1535 rfl (lv_at hl 1 rfl) ?_
  refine lv_iload hx hb dL_law_1536 (lv_at hl 5 rfl) ?_
  refine lv_iconst (v := 1) hx hb dL_law_1538 (by decide) ?_
  refine lv_iadd hx hb dL_law_1539 ?_
  refine va_sld hx hb hX hbl hbA hS in1 dL_law_1540 ?_
  refine lv_aload_n hx hb dL_law_1541 rfl (lv_at hl 1 rfl) ?_
  refine lv_iload hx hb dL_law_1542 (lv_at hl 5 rfl) ?_
  refine lv_iconst (v := 2) hx hb dL_law_1544 (by decide) ?_
  refine lv_iadd hx hb dL_law_1545 ?_
  refine va_sld hx hb hX hbl hbA hS in2 dL_law_1546 ?_
  refine lv_bool hx hb dL_law_1547 dL_law_1550 dL_law_1551 dL_law_1554 ?_
  refine mr_i (va_runV (As := [.int (xs (nI i + 1).toNatClampNeg), .int (b2i (decide (¬ (xs (nI i + 2).toNatClampNeg) = 0)))]) (rest := []) ⟨hx, hb, hml, hown, hts⟩ (c_X5_answer l D ca h y (xs (nI i + 1).toNatClampNeg) (b2i (decide (¬ (xs (nI i + 2).toNatClampNeg) = 0))) q2 H.size) (cwV 2 hts gL_law_X5_answer rfl rfl rfl (by decide +kernel) ⟨Nat.le_of_ble_eq_true rfl, Nat.le_of_ble_eq_true rfl⟩) (wP_V (q := (RX5, TX5, 30)) (app_r hP) hC (appD_r hD) 0 rfl rfl) rfl rfl hl.1 rfl (lv_room (Nat.le_of_ble_eq_true rfl)) dL_law_1555 ⟨hrc, hr6⟩) hP hD hS hA (fun H locs hP hD hS => ?_)
  refine lv_istore (lv' := [(6, .int v), (5, .int (wk 1 0 2 r.1)), (0, .ref b), (1, .ref (g 0)), (2, .ref (h 0)), (3, .ref o), (4, .int (nI i))]) hx hb dL_law_1558 hl (by decide) rfl (fun ls hl => ?_)
  refine lv_aload_n hx hb dL_law_1560 rfl (lv_at hl 4 rfl) ?_
  refine rd_i (va_runV (As := []) (rest := []) ⟨hx, hb, hml, hown, hts⟩ (c_X5_thrown l D ca h y' rfl) (cwV 0 hts gL_law_X5_thrown rfl rfl rfl (by decide +kernel) ⟨Nat.le_of_ble_eq_true rfl, Nat.le_of_ble_eq_true rfl⟩) (rP_V (q := (RX5, TX5, 30)) (app_r hP) hC 0 rfl rfl) rfl rfl hl.1 rfl (lv_room (Nat.le_of_ble_eq_true rfl)) dL_law_1561 ⟨hrc, hr6⟩) ?_
  refine lv_iload hx hb dL_law_1564 (lv_at hl 1 rfl) ?_
  refine lv_icmp_eq (tgt := 1571) hx hb dL_law_1566 (by decide) (fun _ => ?_) (fun c9 => absurd q3.2.1.symm c9)
  rw [← hg] at hl
  refine lv_iload hx hb dL_law_1571 (lv_at hl 1 rfl) ?_
  have hend : W p l e room_1 s m #[Value.ref b] below meth c H locs (cells + 1) (slots + 6) Q (F0 m 1588 ls []) := by
    refine lv_goto (tgt := 1786) hx hb dL_law_1588 (by decide) ?_
    exact W.widen (k := cells + 1) (n := slots + 10) (by omega) (by omega) (kk g' (wfo r.1 fo r.2.1.toInt64) r.2.2 y' H locs ls ⟨q3.2.2.2, hP, hD, hS, lv_sub hl [2, 3, 4, 5, 6] rfl⟩)
  refine lv_if_ne (tgt := 1588) hx hb dL_law_1573 (by decide) (fun _ => hend) (fun c9 => ?_)
  have h0 : r.1 = 0 := by
    rcases q3.1 with h | h | h
    · exact h
    · rw [h] at c9; exact absurd c9 (by decide)
    · rw [h] at c9; exact absurd c9 (by decide)
  refine lv_aload_n hx hb dL_law_1576 rfl (lv_at hl 5 rfl) ?_
  refine lv_iconst (v := 0) hx hb dL_law_1577 (by decide) ?_
  refine va_lald (D := D) (cA := ca 2) (n := 1) (f := (wfo r.1 fo r.2.1.toInt64)) hx hb hK hP ((wX g' ca r.2.2).length + 0) 2 (by rw [List.append_assoc]; exact la_get (k := 0) rfl) rfl (by unfold vp_in; decide) dL_law_1578 ?_
  rw [wfo_0 h0, q3.2.2.1 h0]
  refine lv_iload hx hb dL_law_1579 (lv_at hl 0 rfl) ?_
  refine lv_i2l hx hb dL_law_1581 rfl ?_
  refine lv_lcmpE hx hb dL_law_1582 ?_
  exact lv_if_eq (tgt := 1588) hx hb dL_law_1583 (by decide) (fun _ => hend) (fun c9 => absurd rfl c9)
set_option maxHeartbeats 4000000 in
set_option maxRecDepth 100000 in
theorem lc_scene {p : Program} {l : Launch} {e : Env} {s : State} {m : MethodId} {below : List Frame} {meth : Method} {c : Code} {b L : Nat} {xs : Nat → Int32} {D : va_G} {ca : Nat → ClassId} (C : LC p l s m c b L xs D ca) {g h : Nat → Nat} {o i : Nat} {fo : Nat → Int64} {x y : XS} {H : Heap} {locs : List Loc} {ls : Array Slot} {cells slots : Nat} {Q : State → Prop} (I : LI D ca s b i g h o fo x y H locs ls) (hi : i + 6 ≤ L) (hrc : cells + 1 ≤ room_1.cells) (hrs : slots + 10 ≤ room_1.slots) (kk : ∀ (g' : Nat → Nat) (fo' : Nat → Int64) (x' y' : XS) (H : Heap) (locs : List Loc) (ls : Array Slot), LI D ca s b i g' h o fo' x' y' H locs ls → W p l e room_1 s m #[Value.ref b] below meth c H locs (cells + 1) (slots + 10) Q (F0 m 1786 ls [])) : W p l e room_1 s m #[Value.ref b] below meth c H locs cells slots Q (F0 m 1591 ls []) := by
  obtain ⟨hx, hb, hml, hown, hts, hX, hbl, hC, hz, hl9, hL⟩ := C
  obtain ⟨hR, hP, hD, hS, hl⟩ := I
  have hA : ∀ q : Nat, s.heap.size ≤ q → (fun q => s.heap.size ≤ q) q := fun _ h => h
  have hbA : ¬ (fun q : Nat => s.heap.size ≤ q) b := Nat.not_le.mpr hbl
  have hK := hC.1
  have hr6 : slots + 6 ≤ room_1.slots := by omega
  have in1 : vp_in (nI i + 1) L := pk_in (i + 1) L (by omega) (nI_add i 1) (by omega)
  have in2 : vp_in (nI i + 2) L := pk_in (i + 2) L (by omega) (nI_add i 2) (by omega)
  have in3 : vp_in (nI i + 3) L := pk_in (i + 3) L (by omega) (nI_add i 3) (by omega)
  have in4 : vp_in (nI i + 4) L := pk_in (i + 4) L (by omega) (nI_add i 4) (by omega)
  have in5 : vp_in (nI i + 5) L := pk_in (i + 5) L (by omega) (nI_add i 5) (by omega)
  obtain ⟨r, v, y', q1, q2, q3⟩ := rel_scene hR (xs (nI i + 1).toNatClampNeg) (decide (¬ (xs (nI i + 2).toNatClampNeg) = 0))
  refine lv_aload_n hx hb dL_law_1591 rfl (lv_at hl 1 rfl) ?_
  refine lv_aload_n hx hb dL_law_1592 rfl (lv_at hl 0 rfl) ?_
  refine lv_iload hx hb dL_law_1593 (lv_at hl 4 rfl) ?_
  refine lv_iconst (v := 1) hx hb dL_law_1595 (by decide) ?_
  refine lv_iadd hx hb dL_law_1596 ?_
  refine va_sld hx hb hX hbl hbA hS in1 dL_law_1597 ?_
  refine lv_aload_n hx hb dL_law_1598 rfl (lv_at hl 0 rfl) ?_
  refine lv_iload hx hb dL_law_1599 (lv_at hl 4 rfl) ?_
  refine lv_iconst (v := 2) hx hb dL_law_1601 (by decide) ?_
  refine lv_iadd hx hb dL_law_1602 ?_
  refine va_sld hx hb hX hbl hbA hS in2 dL_law_1603 ?_
  refine lv_bool hx hb dL_law_1604 dL_law_1607 dL_law_1608 dL_law_1611 ?_
  refine lv_aload_n hx hb dL_law_1612 rfl (lv_at hl 3 rfl) ?_
  refine lr_i (vx_runSW (As := [.ref (g 0), .int (xs (nI i + 1).toNatClampNeg), .int (b2i (decide (¬ (xs (nI i + 2).toNatClampNeg) = 0))), .ref o]) (rest := []) ⟨hx, hb, hml, hown, hts⟩ (c_L_scene l hl9 D ca g x (xs (nI i + 1).toNatClampNeg) (b2i (decide (¬ (xs (nI i + 2).toNatClampNeg) = 0))) o fo q1 q3.1 H.size) (vx_cwSW 4 hts gL_law_L_scene rfl rfl rfl (by decide +kernel) ⟨Nat.le_of_ble_eq_true rfl, Nat.le_of_ble_eq_true rfl⟩) (tP_S (app_l hP) hC (appD_l hD) hz hS hA) rfl rfl hl.1 rfl (lv_room (Nat.le_of_ble_eq_true rfl)) dL_law_1613 ⟨hrc, hr6⟩) hP hD hS hA (fun g' H locs hg hP hD hS => ?_)
  refine lv_istore (lv' := [(5, .int (wk 1 0 0 r.1)), (0, .ref b), (1, .ref (g 0)), (2, .ref (h 0)), (3, .ref o), (4, .int (nI i))]) hx hb dL_law_1616 hl (by decide) rfl (fun ls hl => ?_)
  refine lv_aload_n hx hb dL_law_1618 rfl (lv_at hl 3 rfl) ?_
  refine lv_aload_n hx hb dL_law_1619 rfl (lv_at hl 1 rfl) ?_
  refine lv_iload hx hb dL_law_1620 (lv_at hl 5 rfl) ?_
  refine lv_iconst (v := 1) hx hb dL_law_1622 (by decide) ?_
  refine lv_iadd hx hb dL_law_1623 ?_
  refine va_sld hx hb hX hbl hbA hS in1 dL_law_1624 ?_
  refine lv_aload_n hx hb dL_law_1625 rfl (lv_at hl 1 rfl) ?_
  refine lv_iload hx hb dL_law_1626 (lv_at hl 5 rfl) ?_
  refine lv_iconst (v := 2) hx hb dL_law_1628 (by decide) ?_
  refine lv_iadd hx hb dL_law_1629 ?_
  refine va_sld hx hb hX hbl hbA hS in2 dL_law_1630 ?_
  refine lv_bool hx hb dL_law_1631 dL_law_1634 dL_law_1635 dL_law_1638 ?_
  refine mr_i (va_runV (As := [.int (xs (nI i + 1).toNatClampNeg), .int (b2i (decide (¬ (xs (nI i + 2).toNatClampNeg) = 0)))]) (rest := []) ⟨hx, hb, hml, hown, hts⟩ (c_X5_scene l D ca h y (xs (nI i + 1).toNatClampNeg) (b2i (decide (¬ (xs (nI i + 2).toNatClampNeg) = 0))) q2 H.size) (cwV 2 hts gL_law_X5_scene rfl rfl rfl (by decide +kernel) ⟨Nat.le_of_ble_eq_true rfl, Nat.le_of_ble_eq_true rfl⟩) (wP_V (q := (RX5, TX5, 30)) (app_r hP) hC (appD_r hD) 0 rfl rfl) rfl rfl hl.1 rfl (lv_room (Nat.le_of_ble_eq_true rfl)) dL_law_1639 ⟨hrc, hr6⟩) hP hD hS hA (fun H locs hP hD hS => ?_)
  refine lv_istore (lv' := [(6, .int v), (5, .int (wk 1 0 0 r.1)), (0, .ref b), (1, .ref (g 0)), (2, .ref (h 0)), (3, .ref o), (4, .int (nI i))]) hx hb dL_law_1642 hl (by decide) rfl (fun ls hl => ?_)
  refine lv_aload_n hx hb dL_law_1644 rfl (lv_at hl 4 rfl) ?_
  refine rd_i (va_runV (As := []) (rest := []) ⟨hx, hb, hml, hown, hts⟩ (c_X5_thrown l D ca h y' rfl) (cwV 0 hts gL_law_X5_thrown rfl rfl rfl (by decide +kernel) ⟨Nat.le_of_ble_eq_true rfl, Nat.le_of_ble_eq_true rfl⟩) (rP_V (q := (RX5, TX5, 30)) (app_r hP) hC 0 rfl rfl) rfl rfl hl.1 rfl (lv_room (Nat.le_of_ble_eq_true rfl)) dL_law_1645 ⟨hrc, hr6⟩) ?_
  refine lv_iload hx hb dL_law_1648 (lv_at hl 1 rfl) ?_
  refine lv_icmp_eq (tgt := 1655) hx hb dL_law_1650 (by decide) (fun _ => ?_) (fun c9 => absurd q3.2.1.symm c9)
  rw [← hg] at hl
  refine lv_iload hx hb dL_law_1655 (lv_at hl 1 rfl) ?_
  have hend : W p l e room_1 s m #[Value.ref b] below meth c H locs (cells + 1) (slots + 6) Q (F0 m 1672 ls []) := by
    refine lv_goto (tgt := 1786) hx hb dL_law_1672 (by decide) ?_
    exact W.widen (k := cells + 1) (n := slots + 10) (by omega) (by omega) (kk g' (wfo r.1 fo r.2.1.toInt64) r.2.2 y' H locs ls ⟨q3.2.2.2, hP, hD, hS, lv_sub hl [2, 3, 4, 5, 6] rfl⟩)
  refine lv_if_ne (tgt := 1672) hx hb dL_law_1657 (by decide) (fun _ => hend) (fun c9 => ?_)
  have h0 : r.1 = 0 := by
    rcases q3.1 with h | h
    · exact h
    · rw [h] at c9; exact absurd c9 (by decide)
  refine lv_aload_n hx hb dL_law_1660 rfl (lv_at hl 5 rfl) ?_
  refine lv_iconst (v := 0) hx hb dL_law_1661 (by decide) ?_
  refine va_lald (D := D) (cA := ca 2) (n := 1) (f := (wfo r.1 fo r.2.1.toInt64)) hx hb hK hP ((wX g' ca r.2.2).length + 0) 2 (by rw [List.append_assoc]; exact la_get (k := 0) rfl) rfl (by unfold vp_in; decide) dL_law_1662 ?_
  rw [wfo_0 h0, q3.2.2.1 h0]
  refine lv_iload hx hb dL_law_1663 (lv_at hl 0 rfl) ?_
  refine lv_i2l hx hb dL_law_1665 rfl ?_
  refine lv_lcmpE hx hb dL_law_1666 ?_
  exact lv_if_eq (tgt := 1672) hx hb dL_law_1667 (by decide) (fun _ => hend) (fun c9 => absurd rfl c9)
set_option maxHeartbeats 4000000 in
set_option maxRecDepth 100000 in
theorem lc_show {p : Program} {l : Launch} {e : Env} {s : State} {m : MethodId} {below : List Frame} {meth : Method} {c : Code} {b L : Nat} {xs : Nat → Int32} {D : va_G} {ca : Nat → ClassId} (C : LC p l s m c b L xs D ca) {g h : Nat → Nat} {o i : Nat} {fo : Nat → Int64} {x y : XS} {H : Heap} {locs : List Loc} {ls : Array Slot} {cells slots : Nat} {Q : State → Prop} (I : LI D ca s b i g h o fo x y H locs ls) (hi : i + 6 ≤ L) (hrc : cells + 1 ≤ room_1.cells) (hrs : slots + 10 ≤ room_1.slots) (kk : ∀ (g' : Nat → Nat) (fo' : Nat → Int64) (x' y' : XS) (H : Heap) (locs : List Loc) (ls : Array Slot), LI D ca s b i g' h o fo' x' y' H locs ls → W p l e room_1 s m #[Value.ref b] below meth c H locs (cells + 1) (slots + 10) Q (F0 m 1786 ls [])) : W p l e room_1 s m #[Value.ref b] below meth c H locs cells slots Q (F0 m 1675 ls []) := by
  obtain ⟨hx, hb, hml, hown, hts, hX, hbl, hC, hz, hl9, hL⟩ := C
  obtain ⟨hR, hP, hD, hS, hl⟩ := I
  have hA : ∀ q : Nat, s.heap.size ≤ q → (fun q => s.heap.size ≤ q) q := fun _ h => h
  have hbA : ¬ (fun q : Nat => s.heap.size ≤ q) b := Nat.not_le.mpr hbl
  have hK := hC.1
  have hr6 : slots + 6 ≤ room_1.slots := by omega
  have in1 : vp_in (nI i + 1) L := pk_in (i + 1) L (by omega) (nI_add i 1) (by omega)
  have in2 : vp_in (nI i + 2) L := pk_in (i + 2) L (by omega) (nI_add i 2) (by omega)
  have in3 : vp_in (nI i + 3) L := pk_in (i + 3) L (by omega) (nI_add i 3) (by omega)
  have in4 : vp_in (nI i + 4) L := pk_in (i + 4) L (by omega) (nI_add i 4) (by omega)
  have in5 : vp_in (nI i + 5) L := pk_in (i + 5) L (by omega) (nI_add i 5) (by omega)
  obtain ⟨r, v, y', q1, q2, q3⟩ := rel_show hR (xs (nI i + 1).toNatClampNeg)
  refine lv_aload_n hx hb dL_law_1675 rfl (lv_at hl 1 rfl) ?_
  refine lv_aload_n hx hb dL_law_1676 rfl (lv_at hl 0 rfl) ?_
  refine lv_iload hx hb dL_law_1677 (lv_at hl 4 rfl) ?_
  refine lv_iconst (v := 1) hx hb dL_law_1679 (by decide) ?_
  refine lv_iadd hx hb dL_law_1680 ?_
  refine va_sld hx hb hX hbl hbA hS in1 dL_law_1681 ?_
  refine lv_aload_n hx hb dL_law_1682 rfl (lv_at hl 3 rfl) ?_
  refine lr_i (vx_runSW (As := [.ref (g 0), .int (xs (nI i + 1).toNatClampNeg), .ref o]) (rest := []) ⟨hx, hb, hml, hown, hts⟩ (c_L_show l hl9 D ca g x (xs (nI i + 1).toNatClampNeg) o fo q1 q3.1 H.size) (vx_cwSW 3 hts gL_law_L_show rfl rfl rfl (by decide +kernel) ⟨Nat.le_of_ble_eq_true rfl, Nat.le_of_ble_eq_true rfl⟩) (tP_S (app_l hP) hC (appD_l hD) hz hS hA) rfl rfl hl.1 rfl (lv_room (Nat.le_of_ble_eq_true rfl)) dL_law_1683 ⟨hrc, hr6⟩) hP hD hS hA (fun g' H locs hg hP hD hS => ?_)
  refine lv_istore (lv' := [(5, .int (wk 0 1 0 r.1)), (0, .ref b), (1, .ref (g 0)), (2, .ref (h 0)), (3, .ref o), (4, .int (nI i))]) hx hb dL_law_1686 hl (by decide) rfl (fun ls hl => ?_)
  refine lv_aload_n hx hb dL_law_1688 rfl (lv_at hl 3 rfl) ?_
  refine lv_aload_n hx hb dL_law_1689 rfl (lv_at hl 1 rfl) ?_
  refine lv_iload hx hb dL_law_1690 (lv_at hl 5 rfl) ?_
  refine lv_iconst (v := 1) hx hb dL_law_1692 (by decide) ?_
  refine lv_iadd hx hb dL_law_1693 ?_
  refine va_sld hx hb hX hbl hbA hS in1 dL_law_1694 ?_
  refine mr_l (va_runV (As := [.int (xs (nI i + 1).toNatClampNeg)]) (rest := []) ⟨hx, hb, hml, hown, hts⟩ (c_X5_show l D ca h y (xs (nI i + 1).toNatClampNeg) q2 H.size) (cwV 1 hts gL_law_X5_show rfl rfl rfl (by decide +kernel) ⟨Nat.le_of_ble_eq_true rfl, Nat.le_of_ble_eq_true rfl⟩) (wP_V (q := (RX5, TX5, 30)) (app_r hP) hC (appD_r hD) 0 rfl rfl) rfl rfl hl.1 rfl (lv_room (Nat.le_of_ble_eq_true rfl)) dL_law_1695 ⟨hrc, hr6⟩) hP hD hS hA (fun H locs hP hD hS => ?_)
  refine lv_lstore (lv' := [(6, .long v), (5, .int (wk 0 1 0 r.1)), (0, .ref b), (1, .ref (g 0)), (2, .ref (h 0)), (3, .ref o), (4, .int (nI i))]) hx hb dL_law_1698 hl (by decide) rfl (fun ls hl => ?_)
  refine lv_aload_n hx hb dL_law_1700 rfl (lv_at hl 4 rfl) ?_
  refine rd_i (va_runV (As := []) (rest := []) ⟨hx, hb, hml, hown, hts⟩ (c_X5_thrown l D ca h y' rfl) (cwV 0 hts gL_law_X5_thrown rfl rfl rfl (by decide +kernel) ⟨Nat.le_of_ble_eq_true rfl, Nat.le_of_ble_eq_true rfl⟩) (rP_V (q := (RX5, TX5, 30)) (app_r hP) hC 0 rfl rfl) rfl rfl hl.1 rfl (lv_room (Nat.le_of_ble_eq_true rfl)) dL_law_1701 ⟨hrc, hr6⟩) ?_
  refine lv_iload hx hb dL_law_1704 (lv_at hl 1 rfl) ?_
  refine lv_icmp_eq (tgt := 1711) hx hb dL_law_1706 (by decide) (fun _ => ?_) (fun c9 => absurd q3.2.1.symm c9)
  rw [← hg] at hl
  refine lv_iload hx hb dL_law_1711 (lv_at hl 1 rfl) ?_
  have hend : W p l e room_1 s m #[Value.ref b] below meth c H locs (cells + 1) (slots + 6) Q (F0 m 1727 ls []) := by
    refine lv_goto (tgt := 1786) hx hb dL_law_1727 (by decide) ?_
    exact W.widen (k := cells + 1) (n := slots + 10) (by omega) (by omega) (kk g' (wfo r.1 fo r.2.1) r.2.2 y' H locs ls ⟨q3.2.2.2, hP, hD, hS, lv_sub hl [2, 3, 4, 5, 6] rfl⟩)
  refine lv_if_ne (tgt := 1727) hx hb dL_law_1713 (by decide) (fun _ => hend) (fun c9 => ?_)
  have h0 : r.1 = 0 := by
    rcases q3.1 with h | h
    · exact h
    · rw [h] at c9; exact absurd c9 (by decide)
  refine lv_aload_n hx hb dL_law_1716 rfl (lv_at hl 5 rfl) ?_
  refine lv_iconst (v := 0) hx hb dL_law_1717 (by decide) ?_
  refine va_lald (D := D) (cA := ca 2) (n := 1) (f := (wfo r.1 fo r.2.1)) hx hb hK hP ((wX g' ca r.2.2).length + 0) 2 (by rw [List.append_assoc]; exact la_get (k := 0) rfl) rfl (by unfold vp_in; decide) dL_law_1718 ?_
  rw [wfo_0 h0, q3.2.2.1 h0]
  refine lv_lload hx hb dL_law_1719 (lv_at hl 0 rfl) ?_
  refine lv_lcmpE hx hb dL_law_1721 ?_
  exact lv_if_eq (tgt := 1727) hx hb dL_law_1722 (by decide) (fun _ => hend) (fun c9 => absurd rfl c9)
set_option maxHeartbeats 4000000 in
set_option maxRecDepth 100000 in
theorem lc_pass {p : Program} {l : Launch} {e : Env} {s : State} {m : MethodId} {below : List Frame} {meth : Method} {c : Code} {b L : Nat} {xs : Nat → Int32} {D : va_G} {ca : Nat → ClassId} (C : LC p l s m c b L xs D ca) {g h : Nat → Nat} {o i : Nat} {fo : Nat → Int64} {x y : XS} {H : Heap} {locs : List Loc} {ls : Array Slot} {cells slots : Nat} {Q : State → Prop} (I : LI D ca s b i g h o fo x y H locs ls) (hi : i + 6 ≤ L) (hrc : cells + 1 ≤ room_1.cells) (hrs : slots + 10 ≤ room_1.slots) (kk : ∀ (g' : Nat → Nat) (fo' : Nat → Int64) (x' y' : XS) (H : Heap) (locs : List Loc) (ls : Array Slot), LI D ca s b i g' h o fo' x' y' H locs ls → W p l e room_1 s m #[Value.ref b] below meth c H locs (cells + 1) (slots + 10) Q (F0 m 1786 ls [])) : W p l e room_1 s m #[Value.ref b] below meth c H locs cells slots Q (F0 m 1730 ls []) := by
  obtain ⟨hx, hb, hml, hown, hts, hX, hbl, hC, hz, hl9, hL⟩ := C
  obtain ⟨hR, hP, hD, hS, hl⟩ := I
  have hA : ∀ q : Nat, s.heap.size ≤ q → (fun q => s.heap.size ≤ q) q := fun _ h => h
  have hbA : ¬ (fun q : Nat => s.heap.size ≤ q) b := Nat.not_le.mpr hbl
  have hK := hC.1
  have hr6 : slots + 6 ≤ room_1.slots := by omega
  have in1 : vp_in (nI i + 1) L := pk_in (i + 1) L (by omega) (nI_add i 1) (by omega)
  have in2 : vp_in (nI i + 2) L := pk_in (i + 2) L (by omega) (nI_add i 2) (by omega)
  have in3 : vp_in (nI i + 3) L := pk_in (i + 3) L (by omega) (nI_add i 3) (by omega)
  have in4 : vp_in (nI i + 4) L := pk_in (i + 4) L (by omega) (nI_add i 4) (by omega)
  have in5 : vp_in (nI i + 5) L := pk_in (i + 5) L (by omega) (nI_add i 5) (by omega)
  obtain ⟨r, v, y', q1, q2, q3⟩ := rel_pass hR (xs (nI i + 1).toNatClampNeg)
  refine lv_aload_n hx hb dL_law_1730 rfl (lv_at hl 1 rfl) ?_
  refine lv_aload_n hx hb dL_law_1731 rfl (lv_at hl 0 rfl) ?_
  refine lv_iload hx hb dL_law_1732 (lv_at hl 4 rfl) ?_
  refine lv_iconst (v := 1) hx hb dL_law_1734 (by decide) ?_
  refine lv_iadd hx hb dL_law_1735 ?_
  refine va_sld hx hb hX hbl hbA hS in1 dL_law_1736 ?_
  refine lv_aload_n hx hb dL_law_1737 rfl (lv_at hl 3 rfl) ?_
  refine lr_i (vx_runSW (As := [.ref (g 0), .int (xs (nI i + 1).toNatClampNeg), .ref o]) (rest := []) ⟨hx, hb, hml, hown, hts⟩ (c_L_pass l hl9 D ca g x (xs (nI i + 1).toNatClampNeg) o fo q1 q3.1 H.size) (vx_cwSW 3 hts gL_law_L_pass rfl rfl rfl (by decide +kernel) ⟨Nat.le_of_ble_eq_true rfl, Nat.le_of_ble_eq_true rfl⟩) (tP_S (app_l hP) hC (appD_l hD) hz hS hA) rfl rfl hl.1 rfl (lv_room (Nat.le_of_ble_eq_true rfl)) dL_law_1738 ⟨hrc, hr6⟩) hP hD hS hA (fun g' H locs hg hP hD hS => ?_)
  refine lv_istore (lv' := [(5, .int (wk 0 1 2 r.1)), (0, .ref b), (1, .ref (g 0)), (2, .ref (h 0)), (3, .ref o), (4, .int (nI i))]) hx hb dL_law_1741 hl (by decide) rfl (fun ls hl => ?_)
  refine lv_aload_n hx hb dL_law_1743 rfl (lv_at hl 3 rfl) ?_
  refine lv_aload_n hx hb dL_law_1744 rfl (lv_at hl 1 rfl) ?_
  refine lv_iload hx hb dL_law_1745 (lv_at hl 5 rfl) ?_
  refine lv_iconst (v := 1) hx hb dL_law_1747 (by decide) ?_
  refine lv_iadd hx hb dL_law_1748 ?_
  refine va_sld hx hb hX hbl hbA hS in1 dL_law_1749 ?_
  refine mr_i (va_runV (As := [.int (xs (nI i + 1).toNatClampNeg)]) (rest := []) ⟨hx, hb, hml, hown, hts⟩ (c_X5_pass l D ca h y (xs (nI i + 1).toNatClampNeg) q2 H.size) (cwV 1 hts gL_law_X5_pass rfl rfl rfl (by decide +kernel) ⟨Nat.le_of_ble_eq_true rfl, Nat.le_of_ble_eq_true rfl⟩) (wP_V (q := (RX5, TX5, 30)) (app_r hP) hC (appD_r hD) 0 rfl rfl) rfl rfl hl.1 rfl (lv_room (Nat.le_of_ble_eq_true rfl)) dL_law_1750 ⟨hrc, hr6⟩) hP hD hS hA (fun H locs hP hD hS => ?_)
  refine lv_istore (lv' := [(6, .int v), (5, .int (wk 0 1 2 r.1)), (0, .ref b), (1, .ref (g 0)), (2, .ref (h 0)), (3, .ref o), (4, .int (nI i))]) hx hb dL_law_1753 hl (by decide) rfl (fun ls hl => ?_)
  refine lv_aload_n hx hb dL_law_1755 rfl (lv_at hl 4 rfl) ?_
  refine rd_i (va_runV (As := []) (rest := []) ⟨hx, hb, hml, hown, hts⟩ (c_X5_thrown l D ca h y' rfl) (cwV 0 hts gL_law_X5_thrown rfl rfl rfl (by decide +kernel) ⟨Nat.le_of_ble_eq_true rfl, Nat.le_of_ble_eq_true rfl⟩) (rP_V (q := (RX5, TX5, 30)) (app_r hP) hC 0 rfl rfl) rfl rfl hl.1 rfl (lv_room (Nat.le_of_ble_eq_true rfl)) dL_law_1756 ⟨hrc, hr6⟩) ?_
  refine lv_iload hx hb dL_law_1759 (lv_at hl 1 rfl) ?_
  refine lv_icmp_eq (tgt := 1766) hx hb dL_law_1761 (by decide) (fun _ => ?_) (fun c9 => absurd q3.2.1.symm c9)
  rw [← hg] at hl
  refine lv_iload hx hb dL_law_1766 (lv_at hl 1 rfl) ?_
  have hend : W p l e room_1 s m #[Value.ref b] below meth c H locs (cells + 1) (slots + 6) Q (F0 m 1783 ls []) := by
    refine lv_goto (tgt := 1786) hx hb dL_law_1783 (by decide) ?_
    exact W.widen (k := cells + 1) (n := slots + 10) (by omega) (by omega) (kk g' (wfo r.1 fo r.2.1.toInt64) r.2.2 y' H locs ls ⟨q3.2.2.2, hP, hD, hS, lv_sub hl [2, 3, 4, 5, 6] rfl⟩)
  refine lv_if_ne (tgt := 1783) hx hb dL_law_1768 (by decide) (fun _ => hend) (fun c9 => ?_)
  have h0 : r.1 = 0 := by
    rcases q3.1 with h | h | h
    · exact h
    · rw [h] at c9; exact absurd c9 (by decide)
    · rw [h] at c9; exact absurd c9 (by decide)
  refine lv_aload_n hx hb dL_law_1771 rfl (lv_at hl 5 rfl) ?_
  refine lv_iconst (v := 0) hx hb dL_law_1772 (by decide) ?_
  refine va_lald (D := D) (cA := ca 2) (n := 1) (f := (wfo r.1 fo r.2.1.toInt64)) hx hb hK hP ((wX g' ca r.2.2).length + 0) 2 (by rw [List.append_assoc]; exact la_get (k := 0) rfl) rfl (by unfold vp_in; decide) dL_law_1773 ?_
  rw [wfo_0 h0, q3.2.2.1 h0]
  refine lv_iload hx hb dL_law_1774 (lv_at hl 0 rfl) ?_
  refine lv_i2l hx hb dL_law_1776 rfl ?_
  refine lv_lcmpE hx hb dL_law_1777 ?_
  exact lv_if_eq (tgt := 1783) hx hb dL_law_1778 (by decide) (fun _ => hend) (fun c9 => absurd rfl c9)
