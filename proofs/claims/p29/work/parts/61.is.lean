set_option maxHeartbeats 16000000 in
set_option maxRecDepth 100000 in
theorem c_L_isSo (l : Launch) (hl9 : l.stackTraces = false) (D : va_G) (ca : Nat → ClassId) (g : Nat → Nat) (x y : XS) (n d L : Nat) (hSo : So y n d L x) (sz : Nat) : Met l yL_isSo wsL_isSo ({ frames := 8, cells := 500, slots := 3000, locals := 188 }) (tP [.ref (g 0), .int (nI d), .int (nI L)] D ca (wX g ca x) sz) (oQ (wX g ca x) sz) 500 3000 (va_A (wX g ca x) sz) := by
  refine Met.ofW (cc := cL_isSo) (maxL := 14) (ret := (some .boolean)) (by decide) rfl ?_
  intro p e s m args below meth c s₁ B hml hv
  obtain ⟨rfl, hsz, hP, hC, hD0, hz⟩ := hv
  have hx := B.exec
  have hb := B.bytes
  have hr := B.returns
  have hts := atoms_spec (ws := wsL_isSo) B.pre
  have hown : s.vm.findClass RL = some m.cls := findClass_of_methodNamed B.named
  have hlocks := B.notSynchronized
  subst hsz
  have hD := hD0.self (sz := s.heap.size)
  generalize hAe : va_A (wX g ca x) s.heap.size = A at hD hz ⊢
  have hA : ∀ q : Nat, s.heap.size ≤ q → A q := fun q h => by rw [← hAe]; exact Or.inr h
  have hS : va_S A s.heap s.heap [] := va_S.rf
  have hl := lv_entry ([.ref (g 0), .int (nI d), .int (nI L)]) (n := 14) (Nat.le_of_ble_eq_true rfl)
  rw [lg_entry_eq]
  generalize (lg_sl ([.ref (g 0), .int (nI d), .int (nI L)]) ++ List.replicate (14 - (lg_sl ([.ref (g 0), .int (nI d), .int (nI L)])).length) Slot.unset).toArray = ls at hl ⊢
  have hl : lv_has ls 14 [(0, .ref (g 0)), (1, .int (nI d)), (2, .int (nI L))] := hl
  have rmc : ∀ k : Nat, k ≤ 500 → k ≤ (headSpec wsL_isSo ({ frames := 8, cells := 500, slots := 3000, locals := 188 })).room.cells := fun _ h => h
  have rms : ∀ k : Nat, k ≤ 3000 → k ≤ (headSpec wsL_isSo ({ frames := 8, cells := 500, slots := 3000, locals := 188 })).room.slots := fun _ h => h
  obtain ⟨-, -, n10, d16, -, L1, L2, -⟩ := id hSo
  have p2n := p2_le n10
  have fin : ∀ (xx : XS) (H : Heap) (locs : List Loc) (ls : Array Slot) (cells slots : Nat), So y n d L xx → va_P D vwCl (wX g ca xx) H → va_D A (wX g ca xx) → va_S A s.heap H locs → lv_has ls 14 [(0, .ref (g 0)), (1, .int (nI d)), (2, .int (nI L)), (3, .int (1))] → cells + 2 ≤ 500 → slots + 12 ≤ 3000 → W p l e (headSpec wsL_isSo ({ frames := 8, cells := 500, slots := 3000, locals := 188 })).room s m #[.ref (g 0), .int (nI d), .int (nI L)] below meth c H locs cells slots (MQ below (oQ (wX g ca x) s.heap.size) #[.ref (g 0), .int (nI d), .int (nI L)] s 500 3000 A) (F0 m 340 ls []) := by
    intro xx H locs ls cells slots hs hP hD hS hl h1 h2
    refine lv_iload_n hx hb dL_isSo_340 rfl (lv_at hl 3 rfl) ?_
    refine lv_if_eq (tgt := 374) hx hb dL_isSo_341 (by decide) (fun c9 => absurd c9 (by decide)) (fun _ => ?_)
    refine lv_aload_n hx hb dL_isSo_344 rfl (lv_at hl 0 rfl) ?_
    refine lv_bipush (v := 16) hx hb dL_isSo_345 (by decide) ?_
    refine wr_l (vx_runSW (As := [.ref (g 0), .int (16)]) (rest := []) ⟨hx, hb, hml, hown, hts⟩ (c_L_light l hl9 D ca g xx 16 (so_16 xx) H.size) (vx_cwSW 2 hts gL_isSo_L_light rfl rfl rfl (by decide +kernel) ⟨Nat.le_of_ble_eq_true rfl, Nat.le_of_ble_eq_true rfl⟩) (tP_S hP hC hD hz hS hA) rfl rfl hl.1 rfl (lv_room (Nat.le_of_ble_eq_true rfl)) dL_isSo_347 ⟨rmc _ (by omega), rms _ (by omega)⟩) hD hS hA (fun H locs hP hD hS => ?_)
    refine lv_ldc2 (v := -9000000000000000) hx hb hown (hts (.constantLong RL 16 (-9000000000000000)) (by decide +kernel)) dL_isSo_350 ?_
    refine lv_lc_ne (tgt := 374) hx hb dL_isSo_353 dL_isSo_354 (by decide) (fun c9 => absurd rfl c9) (fun _ => ?_)
    refine lv_aload_n hx hb dL_isSo_357 rfl (lv_at hl 0 rfl) ?_
    refine lv_bipush (v := 6) hx hb dL_isSo_358 (by decide) ?_
    refine wr_l (vx_runSW (As := [.ref (g 0), .int (6)]) (rest := []) ⟨hx, hb, hml, hown, hts⟩ (c_L_show l hl9 D ca g xx 6 (so_6 xx) H.size) (vx_cwSW 2 hts gL_isSo_L_show rfl rfl rfl (by decide +kernel) ⟨Nat.le_of_ble_eq_true rfl, Nat.le_of_ble_eq_true rfl⟩) (tP_S hP hC hD hz hS hA) rfl rfl hl.1 rfl (lv_room (Nat.le_of_ble_eq_true rfl)) dL_isSo_360 ⟨rmc _ (by omega), rms _ (by omega)⟩) hD hS hA (fun H locs hP hD hS => ?_)
    refine lv_ldc2 (v := -9000000000000000) hx hb hown (hts (.constantLong RL 16 (-9000000000000000)) (by decide +kernel)) dL_isSo_363 ?_
    refine lv_lc_ne (tgt := 374) hx hb dL_isSo_366 dL_isSo_367 (by decide) (fun c9 => absurd rfl c9) (fun _ => ?_)
    refine lv_iconst (v := 1) hx hb dL_isSo_370 (by decide) ?_
    refine lv_goto (tgt := 375) hx hb dL_isSo_371 (by decide) ?_
    exact ri_w hx hb hr hAe rfl hS (by omega) (by omega) dL_isSo_375 hlocks
  have cols : ∀ (k co : Nat), co + k = 16 → ∀ (xx : XS) (H : Heap) (locs : List Loc) (ls : Array Slot) (cells slots : Nat), So y n d L xx → va_P D vwCl (wX g ca xx) H → va_D A (wX g ca xx) → va_S A s.heap H locs → lv_has ls 14 [(0, .ref (g 0)), (1, .int (nI d)), (2, .int (nI L)), (3, .int (1)), (6, .int (nI co))] → cells + 25 * k + 2 ≤ 500 → slots + 150 * k + 12 ≤ 3000 → W p l e (headSpec wsL_isSo ({ frames := 8, cells := 500, slots := 3000, locals := 188 })).room s m #[.ref (g 0), .int (nI d), .int (nI L)] below meth c H locs cells slots (MQ below (oQ (wX g ca x) s.heap.size) #[.ref (g 0), .int (nI d), .int (nI L)] s 500 3000 A) (F0 m 161 ls []) := by
    intro k
    induction k with
    | zero =>
      intro co hk xx H locs ls cells slots hs hP hD hS hl h1 h2
      have hk : co = 16 := hk
      subst hk
      refine lv_iload hx hb dL_isSo_161 (lv_at hl 4 rfl) ?_
      refine lv_bipush (v := 16) hx hb dL_isSo_163 (by decide) ?_
      refine lv_icmp_ge (tgt := 340) hx hb dL_isSo_165 (by decide) (fun _ => ?_) (fun c9 => absurd (show (16 : Int32) ≤ nI 16 by decide) c9)
      exact fin xx H locs ls cells slots hs hP hD hS (lv_sub hl [0, 1, 2, 3] rfl) (by omega) (by omega)
    | succ k ih =>
      intro co hk xx H locs ls cells slots hs hP hD hS hl h1 h2
      have hc : co < 16 := by omega
      have tT := TT_le hs.1 hc
      rw [hs.2.1] at tT
      have last : ∀ (H : Heap) (locs : List Loc) (ls : Array Slot) (cells slots : Nat), va_P D vwCl (wX g ca xx) H → va_D A (wX g ca xx) → va_S A s.heap H locs → lv_has ls 14 [(0, .ref (g 0)), (1, .int (nI d)), (2, .int (nI L)), (3, .int (1)), (6, .int (nI co)), (7, .long (lN (sm (gx y n L co) (10)))), (9, .long (lN (sm (bl y n L co) (10)))), (11, .int (nI (10)))] → cells + 25 * k + 2 + 5 ≤ 500 → slots + 150 * k + 12 + 30 ≤ 3000 → W p l e (headSpec wsL_isSo ({ frames := 8, cells := 500, slots := 3000, locals := 188 })).room s m #[.ref (g 0), .int (nI d), .int (nI L)] below meth c H locs cells slots (MQ below (oQ (wX g ca x) s.heap.size) #[.ref (g 0), .int (nI d), .int (nI L)] s 500 3000 A) (F0 m 247 ls []) := by
        intro H locs ls cells slots hP hD hS hl h1 h2
        have on : ∀ (H : Heap) (locs : List Loc) (ls : Array Slot) (cells slots : Nat), va_P D vwCl (wX g ca xx) H → va_D A (wX g ca xx) → va_S A s.heap H locs → lv_has ls 14 [(0, .ref (g 0)), (1, .int (nI d)), (2, .int (nI L)), (3, .int (1)), (6, .int (nI co)), (7, .long (lN (sm (gx y n L co) (10)))), (9, .long (lN (sm (bl y n L co) (10)))), (11, .int (nI (10)))] → cells + 25 * k + 2 ≤ 500 → slots + 150 * k + 12 ≤ 3000 → W p l e (headSpec wsL_isSo ({ frames := 8, cells := 500, slots := 3000, locals := 188 })).room s m #[.ref (g 0), .int (nI d), .int (nI L)] below meth c H locs cells slots (MQ below (oQ (wX g ca x) s.heap.size) #[.ref (g 0), .int (nI d), .int (nI L)] s 500 3000 A) (F0 m 328 ls []) := by
          intro H locs ls cells slots hP hD hS hl h1 h2
          refine lv_iconst (v := 1) hx hb dL_isSo_328 (by decide) ?_
          refine lv_goto (tgt := 333) hx hb dL_isSo_329 (by decide) ?_
          refine lv_istore_n (lv' := [(3, .int (1)), (0, .ref (g 0)), (1, .int (nI d)), (2, .int (nI L)), (6, .int (nI co)), (7, .long (lN (sm (gx y n L co) (10)))), (9, .long (lN (sm (bl y n L co) (10)))), (11, .int (nI (10)))]) hx hb dL_isSo_333 rfl hl (by decide) rfl (fun ls hl => ?_)
          refine lv_iinc (v := nI (co + 1)) (lv' := [(6, .int (nI (co + 1))), (3, .int (1)), (0, .ref (g 0)), (1, .int (nI d)), (2, .int (nI L)), (7, .long (lN (sm (gx y n L co) (10)))), (9, .long (lN (sm (bl y n L co) (10)))), (11, .int (nI (10)))]) hx hb dL_isSo_334 hl (k := 4) rfl (nI_1 co) (by decide) rfl (fun ls hl => ?_)
          refine lv_goto (tgt := 161) hx hb dL_isSo_337 (by decide) ?_
          exact ih (co + 1) (by omega) xx H locs ls cells slots hs hP hD hS (lv_sub hl [2, 3, 4, 1, 0] rfl) (by omega) (by omega)
        by_cases hT : TT y n co ≤ L
        · obtain ⟨s1, s2⟩ := sum_le hT
          refine lv_lload hx hb dL_isSo_247 (lv_at hl 6 rfl) ?_
          refine lv_aload_n hx hb dL_isSo_249 rfl (lv_at hl 0 rfl) ?_
          refine lv_iload hx hb dL_isSo_250 (lv_at hl 4 rfl) ?_
          refine wd_i (vx_runV (As := [.int (nI co)]) (rest := [.long (lN (sm (bl y n L co) (10)))]) ⟨hx, hb, hml, hown, hts⟩ (c_X4_light l hl9 D ca g xx (nI co) (so_light hs hc) H.size) (cwV 1 hts gL_isSo_X4_light rfl rfl rfl (by decide +kernel) ⟨Nat.le_of_ble_eq_true rfl, Nat.le_of_ble_eq_true rfl⟩) (tP_V (H0 := H) (q := (RX4, TX4, 16)) hP hC hD hz hS hA 0 rfl rfl) rfl rfl hl.1 rfl (lv_room (Nat.le_of_ble_eq_true rfl)) dL_isSo_252 ⟨rmc _ (by omega), rms _ (by omega)⟩) hD hS hA (fun H locs hP hD hS => ?_)
          refine lv_i2l hx hb dL_isSo_255 rfl ?_
          refine lv_lc_gt (tgt := 332) hx hb dL_isSo_256 dL_isSo_257 (by decide) (fun c9 => absurd c9 (by rw [nI_l (show TT y n co < 2 ^ 31 by omega), s1]; exact Int64.lt_irrefl)) (fun _ => ?_)
          refine lv_aload_n hx hb dL_isSo_260 rfl (lv_at hl 0 rfl) ?_
          refine lv_iload hx hb dL_isSo_261 (lv_at hl 4 rfl) ?_
          refine wd_i (vx_runV (As := [.int (nI co)]) (rest := []) ⟨hx, hb, hml, hown, hts⟩ (c_X4_light l hl9 D ca g xx (nI co) (so_light hs hc) H.size) (cwV 1 hts gL_isSo_X4_light rfl rfl rfl (by decide +kernel) ⟨Nat.le_of_ble_eq_true rfl, Nat.le_of_ble_eq_true rfl⟩) (tP_V (H0 := H) (q := (RX4, TX4, 16)) hP hC hD hz hS hA 0 rfl rfl) rfl rfl hl.1 rfl (lv_room (Nat.le_of_ble_eq_true rfl)) dL_isSo_263 ⟨rmc _ (by omega), rms _ (by omega)⟩) hD hS hA (fun H locs hP hD hS => ?_)
          refine lv_iload_n hx hb dL_isSo_266 rfl (lv_at hl 2 rfl) ?_
          refine lv_icmp_gt (tgt := 286) hx hb dL_isSo_267 (by decide) (fun c9 => absurd c9 (nI_nlt hT (by omega))) (fun _ => ?_)
          refine lv_lload hx hb dL_isSo_270 (lv_at hl 6 rfl) ?_
          refine lv_aload_n hx hb dL_isSo_272 rfl (lv_at hl 0 rfl) ?_
          refine lv_iload hx hb dL_isSo_273 (lv_at hl 4 rfl) ?_
          refine wd_i (vx_runV (As := [.int (nI co)]) (rest := [.long (lN (sm (bl y n L co) (10)))]) ⟨hx, hb, hml, hown, hts⟩ (c_X4_light l hl9 D ca g xx (nI co) (so_light hs hc) H.size) (cwV 1 hts gL_isSo_X4_light rfl rfl rfl (by decide +kernel) ⟨Nat.le_of_ble_eq_true rfl, Nat.le_of_ble_eq_true rfl⟩) (tP_V (H0 := H) (q := (RX4, TX4, 16)) hP hC hD hz hS hA 0 rfl rfl) rfl rfl hl.1 rfl (lv_room (Nat.le_of_ble_eq_true rfl)) dL_isSo_275 ⟨rmc _ (by omega), rms _ (by omega)⟩) hD hS hA (fun H locs hP hD hS => ?_)
          refine lv_i2l hx hb dL_isSo_278 rfl ?_
          refine lv_lc_ne (tgt := 332) hx hb dL_isSo_279 dL_isSo_280 (by decide) (fun c9 => absurd (by rw [nI_l (show TT y n co < 2 ^ 31 by omega), s1]) c9) (fun _ => ?_)
          refine lv_goto (tgt := 305) hx hb dL_isSo_283 (by decide) ?_
          refine lv_aload_n hx hb dL_isSo_305 rfl (lv_at hl 0 rfl) ?_
          refine lv_iload hx hb dL_isSo_306 (lv_at hl 4 rfl) ?_
          refine wd_i (vx_runV (As := [.int (nI co)]) (rest := []) ⟨hx, hb, hml, hown, hts⟩ (c_X4_light l hl9 D ca g xx (nI co) (so_light hs hc) H.size) (cwV 1 hts gL_isSo_X4_light rfl rfl rfl (by decide +kernel) ⟨Nat.le_of_ble_eq_true rfl, Nat.le_of_ble_eq_true rfl⟩) (tP_V (H0 := H) (q := (RX4, TX4, 16)) hP hC hD hz hS hA 0 rfl rfl) rfl rfl hl.1 rfl (lv_room (Nat.le_of_ble_eq_true rfl)) dL_isSo_308 ⟨rmc _ (by omega), rms _ (by omega)⟩) hD hS hA (fun H locs hP hD hS => ?_)
          refine lv_iload_n hx hb dL_isSo_311 rfl (lv_at hl 2 rfl) ?_
          refine lv_icmp_gt (tgt := 328) hx hb dL_isSo_312 (by decide) (fun c9 => absurd c9 (nI_nlt hT (by omega))) (fun _ => ?_)
          refine lv_lload hx hb dL_isSo_315 (lv_at hl 5 rfl) ?_
          refine lv_aload_n hx hb dL_isSo_317 rfl (lv_at hl 0 rfl) ?_
          refine lv_iload hx hb dL_isSo_318 (lv_at hl 4 rfl) ?_
          refine wd_i (vx_runV (As := [.int (nI co)]) (rest := [.long (lN (sm (gx y n L co) (10)))]) ⟨hx, hb, hml, hown, hts⟩ (c_X4_light l hl9 D ca g xx (nI co) (so_light hs hc) H.size) (cwV 1 hts gL_isSo_X4_light rfl rfl rfl (by decide +kernel) ⟨Nat.le_of_ble_eq_true rfl, Nat.le_of_ble_eq_true rfl⟩) (tP_V (H0 := H) (q := (RX4, TX4, 16)) hP hC hD hz hS hA 0 rfl rfl) rfl rfl hl.1 rfl (lv_room (Nat.le_of_ble_eq_true rfl)) dL_isSo_320 ⟨rmc _ (by omega), rms _ (by omega)⟩) hD hS hA (fun H locs hP hD hS => ?_)
          refine lv_i2l hx hb dL_isSo_323 rfl ?_
          refine lv_lc_ne (tgt := 332) hx hb dL_isSo_324 dL_isSo_325 (by decide) (fun c9 => absurd (by rw [nI_l (show TT y n co < 2 ^ 31 by omega), s2]) c9) (fun _ => ?_)
          exact on H locs ls _ _ hP hD hS hl (by omega) (by omega)
        · obtain ⟨s1, s2⟩ := sum_gt (Nat.not_le.mp hT)
          refine lv_lload hx hb dL_isSo_247 (lv_at hl 6 rfl) ?_
          refine lv_aload_n hx hb dL_isSo_249 rfl (lv_at hl 0 rfl) ?_
          refine lv_iload hx hb dL_isSo_250 (lv_at hl 4 rfl) ?_
          refine wd_i (vx_runV (As := [.int (nI co)]) (rest := [.long (lN (sm (bl y n L co) (10)))]) ⟨hx, hb, hml, hown, hts⟩ (c_X4_light l hl9 D ca g xx (nI co) (so_light hs hc) H.size) (cwV 1 hts gL_isSo_X4_light rfl rfl rfl (by decide +kernel) ⟨Nat.le_of_ble_eq_true rfl, Nat.le_of_ble_eq_true rfl⟩) (tP_V (H0 := H) (q := (RX4, TX4, 16)) hP hC hD hz hS hA 0 rfl rfl) rfl rfl hl.1 rfl (lv_room (Nat.le_of_ble_eq_true rfl)) dL_isSo_252 ⟨rmc _ (by omega), rms _ (by omega)⟩) hD hS hA (fun H locs hP hD hS => ?_)
          refine lv_i2l hx hb dL_isSo_255 rfl ?_
          refine lv_lc_gt (tgt := 332) hx hb dL_isSo_256 dL_isSo_257 (by decide) (fun c9 => absurd c9 (by rw [nI_l (show TT y n co < 2 ^ 31 by omega)]; exact fun q9 => absurd ((lN_lt (by omega) (by omega)).mp q9) (by omega))) (fun _ => ?_)
          refine lv_aload_n hx hb dL_isSo_260 rfl (lv_at hl 0 rfl) ?_
          refine lv_iload hx hb dL_isSo_261 (lv_at hl 4 rfl) ?_
          refine wd_i (vx_runV (As := [.int (nI co)]) (rest := []) ⟨hx, hb, hml, hown, hts⟩ (c_X4_light l hl9 D ca g xx (nI co) (so_light hs hc) H.size) (cwV 1 hts gL_isSo_X4_light rfl rfl rfl (by decide +kernel) ⟨Nat.le_of_ble_eq_true rfl, Nat.le_of_ble_eq_true rfl⟩) (tP_V (H0 := H) (q := (RX4, TX4, 16)) hP hC hD hz hS hA 0 rfl rfl) rfl rfl hl.1 rfl (lv_room (Nat.le_of_ble_eq_true rfl)) dL_isSo_263 ⟨rmc _ (by omega), rms _ (by omega)⟩) hD hS hA (fun H locs hP hD hS => ?_)
          refine lv_iload_n hx hb dL_isSo_266 rfl (lv_at hl 2 rfl) ?_
          refine lv_icmp_gt (tgt := 286) hx hb dL_isSo_267 (by decide) (fun _ => ?_) (fun c9 => absurd (nI_lt (Nat.not_le.mp hT) (by omega)) c9)
          refine lv_lload hx hb dL_isSo_286 (lv_at hl 6 rfl) ?_
          refine lv_iload_n hx hb dL_isSo_288 rfl (lv_at hl 2 rfl) ?_
          refine lv_i2l hx hb dL_isSo_289 rfl ?_
          refine lv_lc_gt (tgt := 332) hx hb dL_isSo_290 dL_isSo_291 (by decide) (fun c9 => absurd c9 (by rw [nI_l (show L < 2 ^ 31 by omega)]; exact fun q9 => absurd ((lN_lt (by omega) (by omega)).mp q9) (by omega))) (fun _ => ?_)
          refine lv_lload hx hb dL_isSo_294 (lv_at hl 6 rfl) ?_
          refine lv_iload_n hx hb dL_isSo_296 rfl (lv_at hl 2 rfl) ?_
          refine lv_bipush (v := 10) hx hb dL_isSo_297 (by decide) ?_
          refine lv_isub hx hb dL_isSo_299 ?_
          refine lv_i2l hx hb dL_isSo_300 rfl ?_
          refine lv_lc_le (tgt := 332) hx hb dL_isSo_301 dL_isSo_302 (by decide) (fun c9 => absurd (lv_10 L1 L2 s1 s2) c9) (fun _ => ?_)
          refine lv_aload_n hx hb dL_isSo_305 rfl (lv_at hl 0 rfl) ?_
          refine lv_iload hx hb dL_isSo_306 (lv_at hl 4 rfl) ?_
          refine wd_i (vx_runV (As := [.int (nI co)]) (rest := []) ⟨hx, hb, hml, hown, hts⟩ (c_X4_light l hl9 D ca g xx (nI co) (so_light hs hc) H.size) (cwV 1 hts gL_isSo_X4_light rfl rfl rfl (by decide +kernel) ⟨Nat.le_of_ble_eq_true rfl, Nat.le_of_ble_eq_true rfl⟩) (tP_V (H0 := H) (q := (RX4, TX4, 16)) hP hC hD hz hS hA 0 rfl rfl) rfl rfl hl.1 rfl (lv_room (Nat.le_of_ble_eq_true rfl)) dL_isSo_308 ⟨rmc _ (by omega), rms _ (by omega)⟩) hD hS hA (fun H locs hP hD hS => ?_)
          refine lv_iload_n hx hb dL_isSo_311 rfl (lv_at hl 2 rfl) ?_
          refine lv_icmp_gt (tgt := 328) hx hb dL_isSo_312 (by decide) (fun _ => ?_) (fun c9 => absurd (nI_lt (Nat.not_le.mp hT) (by omega)) c9)
          exact on H locs ls _ _ hP hD hS hl (by omega) (by omega)
      have inner : ∀ (j po : Nat), po + j = 10 → ∀ (H : Heap) (locs : List Loc) (ls : Array Slot) (cells slots : Nat), va_P D vwCl (wX g ca xx) H → va_D A (wX g ca xx) → va_S A s.heap H locs → lv_has ls 14 [(0, .ref (g 0)), (1, .int (nI d)), (2, .int (nI L)), (3, .int (1)), (6, .int (nI co)), (7, .long (lN (sm (gx y n L co) (po)))), (9, .long (lN (sm (bl y n L co) (po)))), (11, .int (nI (po)))] → cells + 2 * j + 25 * k + 2 + 5 ≤ 500 → slots + 12 * j + 150 * k + 12 + 30 ≤ 3000 → W p l e (headSpec wsL_isSo ({ frames := 8, cells := 500, slots := 3000, locals := 188 })).room s m #[.ref (g 0), .int (nI d), .int (nI L)] below meth c H locs cells slots (MQ below (oQ (wX g ca x) s.heap.size) #[.ref (g 0), .int (nI d), .int (nI L)] s 500 3000 A) (F0 m 181 ls []) := by
        intro j
        induction j with
        | zero =>
          intro po hp H locs ls cells slots hP hD hS hl h1 h2
          have hp : po = 10 := hp
          subst hp
          refine lv_iload hx hb dL_isSo_181 (lv_at hl 7 rfl) ?_
          refine lv_bipush (v := 10) hx hb dL_isSo_183 (by decide) ?_
          refine lv_icmp_ge (tgt := 247) hx hb dL_isSo_185 (by decide) (fun _ => ?_) (fun c9 => absurd (show (10 : Int32) ≤ nI 10 by decide) c9)
          exact last H locs ls cells slots hP hD hS hl (by omega) (by omega)
        | succ j ihj =>
          intro po hp H locs ls cells slots hP hD hS hl h1 h2
          have hp10 : po < 10 := by omega
          refine lv_iload hx hb dL_isSo_181 (lv_at hl 7 rfl) ?_
          refine lv_bipush (v := 10) hx hb dL_isSo_183 (by decide) ?_
          refine lv_icmp_ge (tgt := 247) hx hb dL_isSo_185 (by decide) (fun c9 => absurd c9 (geL 10 hp10 (by decide))) (fun _ => ?_)
          refine lv_aload_n hx hb dL_isSo_188 rfl (lv_at hl 0 rfl) ?_
          refine lv_iload hx hb dL_isSo_189 (lv_at hl 7 rfl) ?_
          refine lv_iload hx hb dL_isSo_191 (lv_at hl 4 rfl) ?_
          refine wr_l (vx_runSW (As := [.ref (g 0), .int (nI (po)), .int (nI co)]) (rest := []) ⟨hx, hb, hml, hown, hts⟩ (c_L_blended l hl9 D ca g xx (nI (po)) (nI co) (so_bl hs hp10 hc) H.size) (vx_cwSW 3 hts gL_isSo_L_blended rfl rfl rfl (by decide +kernel) ⟨Nat.le_of_ble_eq_true rfl, Nat.le_of_ble_eq_true rfl⟩) (tP_S hP hC hD hz hS hA) rfl rfl hl.1 rfl (lv_room (Nat.le_of_ble_eq_true rfl)) dL_isSo_193 ⟨rmc _ (by omega), rms _ (by omega)⟩) hD hS hA (fun H locs hP hD hS => ?_)
          refine lv_lstore (lv' := [(12, .long ((if po < n then lN (bl y n L co po) else N9))), (0, .ref (g 0)), (1, .int (nI d)), (2, .int (nI L)), (3, .int (1)), (6, .int (nI co)), (7, .long (lN (sm (gx y n L co) (po)))), (9, .long (lN (sm (bl y n L co) (po)))), (11, .int (nI (po)))]) hx hb dL_isSo_196 hl (by decide) rfl (fun ls hl => ?_)
          refine lv_lload hx hb dL_isSo_198 (lv_at hl 7 rfl) ?_
          refine lv_lload hx hb dL_isSo_200 (lv_at hl 0 rfl) ?_
          refine lv_lconst (v := 0) hx hb dL_isSo_202 (by decide) ?_
          by_cases hpos : po < n ∧ 0 < bl y n L co po
          · have eits : (if po < n then lN (bl y n L co po) else N9) = lN (bl y n L co po) := if_pos hpos.1
            have blt : bl y n L co po ≤ 600000 := Nat.le_trans bl_le (by have := tl_le hs.1 hc po; rw [hs.2.1] at this; exact this)
            have its0 : (0 : Int64) < lN (bl y n L co po) := (lN_lt (a := 0) (by decide) (by omega)).mpr hpos.2
            have egx : gx y n L co po = Lm y po co := if_pos hpos.2
            have lmt : Lm y po co ≤ 600000 := (light_m hs.1 (by rw [hs.2.1]; exact hpos.1) hc).1
            rw [eits] at hl ⊢
            refine lv_lc_le (tgt := 212) hx hb dL_isSo_203 dL_isSo_204 (by decide) (fun c9 => absurd its0 c9) (fun _ => ?_)
            refine lv_lload hx hb dL_isSo_207 (lv_at hl 0 rfl) ?_
            refine lv_goto (tgt := 213) hx hb dL_isSo_209 (by decide) ?_
            refine lv_ladd hx hb dL_isSo_213 ?_
            rw [lN_add]
            rw [show sm (bl y n L co) po + bl y n L co po = sm (bl y n L co) (po + 1) from rfl]
            refine lv_lstore (lv' := [(9, .long (lN (sm (bl y n L co) (po + 1)))), (12, .long (lN (bl y n L co po))), (0, .ref (g 0)), (1, .int (nI d)), (2, .int (nI L)), (3, .int (1)), (6, .int (nI co)), (7, .long (lN (sm (gx y n L co) (po)))), (11, .int (nI (po)))]) hx hb dL_isSo_214 hl (by decide) rfl (fun ls hl => ?_)
            refine lv_lload hx hb dL_isSo_216 (lv_at hl 7 rfl) ?_
            refine lv_lload hx hb dL_isSo_218 (lv_at hl 1 rfl) ?_
            refine lv_lconst (v := 0) hx hb dL_isSo_220 (by decide) ?_
            refine lv_lc_le (tgt := 237) hx hb dL_isSo_221 dL_isSo_222 (by decide) (fun c9 => absurd its0 c9) (fun _ => ?_)
            refine lv_aload_n hx hb dL_isSo_225 rfl (lv_at hl 2 rfl) ?_
            refine lv_iload hx hb dL_isSo_226 (lv_at hl 8 rfl) ?_
            refine lv_iload hx hb dL_isSo_228 (lv_at hl 6 rfl) ?_
            refine wd_i (vx_runV (As := [.int (nI (po)), .int (nI co)]) (rest := [.long (lN (sm (gx y n L co) (po)))]) ⟨hx, hb, hml, hown, hts⟩ (c_X4_gives l hl9 D ca g xx (nI (po)) (nI co) (so_gives hs hpos.1 hc) H.size) (cwV 2 hts gL_isSo_X4_gives rfl rfl rfl (by decide +kernel) ⟨Nat.le_of_ble_eq_true rfl, Nat.le_of_ble_eq_true rfl⟩) (tP_V (H0 := H) (q := (RX4, TX4, 16)) hP hC hD hz hS hA 0 rfl rfl) rfl rfl hl.1 rfl (lv_room (Nat.le_of_ble_eq_true rfl)) dL_isSo_230 ⟨rmc _ (by omega), rms _ (by omega)⟩) hD hS hA (fun H locs hP hD hS => ?_)
            refine lv_i2l hx hb dL_isSo_233 rfl ?_
            refine lv_goto (tgt := 238) hx hb dL_isSo_234 (by decide) ?_
            refine lv_ladd hx hb dL_isSo_238 ?_
            rw [nI_l (show Lm y po co < 2 ^ 31 by omega), lN_add, ← egx, show sm (gx y n L co) po + gx y n L co po = sm (gx y n L co) (po + 1) from rfl]
            refine lv_lstore (lv' := [(7, .long (lN (sm (gx y n L co) (po + 1)))), (9, .long (lN (sm (bl y n L co) (po + 1)))), (12, .long (lN (bl y n L co po))), (0, .ref (g 0)), (1, .int (nI d)), (2, .int (nI L)), (3, .int (1)), (6, .int (nI co)), (11, .int (nI (po)))]) hx hb dL_isSo_239 hl (by decide) rfl (fun ls hl => ?_)
            refine lv_iinc (v := nI (po + 1)) (lv' := [(11, .int (nI (po + 1))), (7, .long (lN (sm (gx y n L co) (po + 1)))), (9, .long (lN (sm (bl y n L co) (po + 1)))), (12, .long (lN (bl y n L co po))), (0, .ref (g 0)), (1, .int (nI d)), (2, .int (nI L)), (3, .int (1)), (6, .int (nI co))]) hx hb dL_isSo_241 hl (k := 8) rfl (nI_1 po) (by decide) rfl (fun ls hl => ?_)
            refine lv_goto (tgt := 181) hx hb dL_isSo_244 (by decide) ?_
            exact ihj (po + 1) (by omega) H locs ls _ _ hP hD hS (lv_sub hl [4, 5, 6, 7, 8, 1, 2, 0] rfl) (by omega) (by omega)
          · obtain ⟨z1, z2⟩ := bl_zz hpos
            have nits := its_no (y := y) (n := n) (L := L) (c := co) (p := po) hpos
            refine lv_lc_le (tgt := 212) hx hb dL_isSo_203 dL_isSo_204 (by decide) (fun _ => ?_) (fun c9 => absurd c9 nits)
            refine lv_lconst (v := 0) hx hb dL_isSo_212 (by decide) ?_
            refine lv_ladd hx hb dL_isSo_213 ?_
            rw [show (0 : Int64) = lN (bl y n L co po) by rw [z1]; rfl, lN_add, show sm (bl y n L co) po + bl y n L co po = sm (bl y n L co) (po + 1) from rfl]
            refine lv_lstore (lv' := [(9, .long (lN (sm (bl y n L co) (po + 1)))), (12, .long ((if po < n then lN (bl y n L co po) else N9))), (0, .ref (g 0)), (1, .int (nI d)), (2, .int (nI L)), (3, .int (1)), (6, .int (nI co)), (7, .long (lN (sm (gx y n L co) (po)))), (11, .int (nI (po)))]) hx hb dL_isSo_214 hl (by decide) rfl (fun ls hl => ?_)
            refine lv_lload hx hb dL_isSo_216 (lv_at hl 7 rfl) ?_
            refine lv_lload hx hb dL_isSo_218 (lv_at hl 1 rfl) ?_
            refine lv_lconst (v := 0) hx hb dL_isSo_220 (by decide) ?_
            refine lv_lc_le (tgt := 237) hx hb dL_isSo_221 dL_isSo_222 (by decide) (fun _ => ?_) (fun c9 => absurd c9 nits)
            refine lv_lconst (v := 0) hx hb dL_isSo_237 (by decide) ?_
            refine lv_ladd hx hb dL_isSo_238 ?_
            rw [show (0 : Int64) = lN (gx y n L co po) by rw [z2]; rfl, lN_add, show sm (gx y n L co) po + gx y n L co po = sm (gx y n L co) (po + 1) from rfl]
            refine lv_lstore (lv' := [(7, .long (lN (sm (gx y n L co) (po + 1)))), (9, .long (lN (sm (bl y n L co) (po + 1)))), (12, .long ((if po < n then lN (bl y n L co po) else N9))), (0, .ref (g 0)), (1, .int (nI d)), (2, .int (nI L)), (3, .int (1)), (6, .int (nI co)), (11, .int (nI (po)))]) hx hb dL_isSo_239 hl (by decide) rfl (fun ls hl => ?_)
            refine lv_iinc (v := nI (po + 1)) (lv' := [(11, .int (nI (po + 1))), (7, .long (lN (sm (gx y n L co) (po + 1)))), (9, .long (lN (sm (bl y n L co) (po + 1)))), (12, .long ((if po < n then lN (bl y n L co po) else N9))), (0, .ref (g 0)), (1, .int (nI d)), (2, .int (nI L)), (3, .int (1)), (6, .int (nI co))]) hx hb dL_isSo_241 hl (k := 8) rfl (nI_1 po) (by decide) rfl (fun ls hl => ?_)
            refine lv_goto (tgt := 181) hx hb dL_isSo_244 (by decide) ?_
            exact ihj (po + 1) (by omega) H locs ls _ _ hP hD hS (lv_sub hl [4, 5, 6, 7, 8, 1, 2, 0] rfl) (by omega) (by omega)
      refine lv_iload hx hb dL_isSo_161 (lv_at hl 4 rfl) ?_
      refine lv_bipush (v := 16) hx hb dL_isSo_163 (by decide) ?_
      refine lv_icmp_ge (tgt := 340) hx hb dL_isSo_165 (by decide) (fun c9 => absurd c9 (geL 16 hc (by decide))) (fun _ => ?_)
      refine lv_iload_n hx hb dL_isSo_168 rfl (lv_at hl 3 rfl) ?_
      refine lv_if_eq (tgt := 340) hx hb dL_isSo_169 (by decide) (fun c9 => absurd c9 (by decide)) (fun _ => ?_)
      refine lv_lconst (v := 0) hx hb dL_isSo_172 (by decide) ?_
      refine lv_lstore (lv' := [(7, .long (0)), (0, .ref (g 0)), (1, .int (nI d)), (2, .int (nI L)), (3, .int (1)), (6, .int (nI co))]) hx hb dL_isSo_173 hl (by decide) rfl (fun ls hl => ?_)
      refine lv_lconst (v := 0) hx hb dL_isSo_175 (by decide) ?_
      refine lv_lstore (lv' := [(9, .long (0)), (7, .long (0)), (0, .ref (g 0)), (1, .int (nI d)), (2, .int (nI L)), (3, .int (1)), (6, .int (nI co))]) hx hb dL_isSo_176 hl (by decide) rfl (fun ls hl => ?_)
      refine lv_iconst (v := 0) hx hb dL_isSo_178 (by decide) ?_
      refine lv_istore (lv' := [(11, .int (0)), (9, .long (0)), (7, .long (0)), (0, .ref (g 0)), (1, .int (nI d)), (2, .int (nI L)), (3, .int (1)), (6, .int (nI co))]) hx hb dL_isSo_179 hl (by decide) rfl (fun ls hl => ?_)
      exact inner 10 0 rfl H locs ls cells slots hP hD hS (lv_sub hl [3, 4, 5, 6, 7, 2, 1, 0] rfl) (by omega) (by omega)
  have rest : ∀ (xx : XS) (H : Heap) (locs : List Loc) (ls : Array Slot) (cells slots : Nat), So y n d L xx → va_P D vwCl (wX g ca xx) H → va_D A (wX g ca xx) → va_S A s.heap H locs → lv_has ls 14 [(0, .ref (g 0)), (1, .int (nI d)), (2, .int (nI L)), (3, .int (1))] → cells + 402 ≤ 500 → slots + 2412 ≤ 3000 → W p l e (headSpec wsL_isSo ({ frames := 8, cells := 500, slots := 3000, locals := 188 })).room s m #[.ref (g 0), .int (nI d), .int (nI L)] below meth c H locs cells slots (MQ below (oQ (wX g ca x) s.heap.size) #[.ref (g 0), .int (nI d), .int (nI L)] s 500 3000 A) (F0 m 158 ls []) := by
    intro xx H locs ls cells slots hs hP hD hS hl h1 h2
    refine lv_iconst (v := 0) hx hb dL_isSo_158 (by decide) ?_
    refine lv_istore (lv' := [(6, .int (0)), (0, .ref (g 0)), (1, .int (nI d)), (2, .int (nI L)), (3, .int (1))]) hx hb dL_isSo_159 hl (by decide) rfl (fun ls hl => ?_)
    exact cols 16 0 rfl xx H locs ls cells slots hs hP hD hS (lv_sub hl [1, 2, 3, 4, 0] rfl) (by omega) (by omega)
  have bitsN : rn (vd y n d) (2 ^ n) = none → ∀ (k po : Nat), po + k = 10 → ∀ (xx : XS) (H : Heap) (locs : List Loc) (ls : Array Slot) (cells slots : Nat), So y n d L xx → va_P D vwCl (wX g ca xx) H → va_D A (wX g ca xx) → va_S A s.heap H locs → lv_has ls 14 [(0, .ref (g 0)), (1, .int (nI d)), (2, .int (nI L)), (3, .int (1)), (4, .int ((-1))), (5, .int (0)), (6, .int (nI po))] → cells + 402 ≤ 500 → slots + 2412 ≤ 3000 → W p l e (headSpec wsL_isSo ({ frames := 8, cells := 500, slots := 3000, locals := 188 })).room s m #[.ref (g 0), .int (nI d), .int (nI L)] below meth c H locs cells slots (MQ below (oQ (wX g ca x) s.heap.size) #[.ref (g 0), .int (nI d), .int (nI L)] s 500 3000 A) (F0 m 14 ls []) := by
    intro hR k
    induction k with
    | zero =>
      intro po hp xx H locs ls cells slots hs hP hD hS hl h1 h2
      have hp : po = 10 := hp
      subst hp
      refine lv_iload hx hb dL_isSo_14 (lv_at hl 6 rfl) ?_
      refine lv_bipush (v := 10) hx hb dL_isSo_16 (by decide) ?_
      refine lv_icmp_ge (tgt := 48) hx hb dL_isSo_18 (by decide) (fun _ => ?_) (fun c9 => absurd (show (10 : Int32) ≤ nI 10 by decide) c9)
      refine lv_aload_n hx hb dL_isSo_48 rfl (lv_at hl 0 rfl) ?_
      obtain ⟨x1, e1, g1⟩ := so_anew hs
      rw [hR] at e1
      refine wr_i (va_runV (As := []) (rest := []) ⟨hx, hb, hml, hown, hts⟩ (c_X4_leastAnew l D ca g xx e1 H.size) (cwV 0 hts gL_isSo_X4_leastAnew rfl rfl rfl (by decide +kernel) ⟨Nat.le_of_ble_eq_true rfl, Nat.le_of_ble_eq_true rfl⟩) (wP_V (q := (RX4, TX4, 16)) hP hC hD 0 rfl rfl) rfl rfl hl.1 rfl (lv_room (Nat.le_of_ble_eq_true rfl)) dL_isSo_49 ⟨rmc _ (by omega), rms _ (by omega)⟩) hD hS hA (fun H locs hP hD hS => ?_)
      refine lv_iload hx hb dL_isSo_52 (lv_at hl 4 rfl) ?_
      refine lv_if_ge (tgt := 61) hx hb dL_isSo_54 (by decide) (fun c9 => absurd c9 (by decide)) (fun _ => ?_)
      refine lv_iconst (v := -1) hx hb dL_isSo_57 (by decide) ?_
      refine lv_goto (tgt := 63) hx hb dL_isSo_58 (by decide) ?_
      refine lv_icmp_ne (tgt := 88) hx hb dL_isSo_63 (by decide) (fun c9 => absurd rfl c9) (fun _ => ?_)
      refine lv_iload hx hb dL_isSo_66 (lv_at hl 4 rfl) ?_
      refine lv_if_lt (tgt := 84) hx hb dL_isSo_68 (by decide) (fun _ => ?_) (fun c9 => absurd (show (-1 : Int32) < 0 by decide) c9)
      refine lv_iconst (v := 1) hx hb dL_isSo_84 (by decide) ?_
      refine lv_goto (tgt := 89) hx hb dL_isSo_85 (by decide) ?_
      refine lv_istore_n (lv' := [(3, .int (1)), (0, .ref (g 0)), (1, .int (nI d)), (2, .int (nI L)), (4, .int ((-1))), (5, .int (0)), (6, .int (nI 10))]) hx hb dL_isSo_89 rfl hl (by decide) rfl (fun ls hl => ?_)
      refine lv_iconst (v := 0) hx hb dL_isSo_90 (by decide) ?_
      refine lv_istore (lv' := [(6, .int (0)), (3, .int (1)), (0, .ref (g 0)), (1, .int (nI d)), (2, .int (nI L)), (4, .int ((-1))), (5, .int (0))]) hx hb dL_isSo_91 hl (by decide) rfl (fun ls hl => ?_)
      refine lv_iload hx hb dL_isSo_93 (lv_at hl 0 rfl) ?_
      refine lv_bipush (v := 10) hx hb dL_isSo_95 (by decide) ?_
      refine lv_icmp_ge (tgt := 158) hx hb dL_isSo_97 (by decide) (fun c9 => absurd c9 (by decide)) (fun _ => ?_)
      refine lv_iload_n hx hb dL_isSo_100 rfl (lv_at hl 1 rfl) ?_
      refine lv_if_eq (tgt := 158) hx hb dL_isSo_101 (by decide) (fun c9 => absurd c9 (by decide)) (fun _ => ?_)
      refine lv_iload hx hb dL_isSo_104 (lv_at hl 5 rfl) ?_
      refine lv_if_le (tgt := 158) hx hb dL_isSo_106 (by decide) (fun _ => ?_) (fun c9 => absurd (show (-1 : Int32) ≤ 0 by decide) c9)
      exact rest x1 H locs ls _ _ g1 hP hD hS (lv_sub hl [2, 3, 4, 1] rfl) (by omega) (by omega)
    | succ k ih =>
      intro po hp xx H locs ls cells slots hs hP hD hS hl h1 h2
      refine lv_iload hx hb dL_isSo_14 (lv_at hl 6 rfl) ?_
      refine lv_bipush (v := 10) hx hb dL_isSo_16 (by decide) ?_
      refine lv_icmp_ge (tgt := 48) hx hb dL_isSo_18 (by decide) (fun c9 => absurd c9 (geL 10 (by omega) (by decide))) (fun _ => ?_)
      refine lv_iload hx hb dL_isSo_21 (lv_at hl 5 rfl) ?_
      refine lv_iload hx hb dL_isSo_23 (lv_at hl 4 rfl) ?_
      refine lv_if_lt (tgt := 38) hx hb dL_isSo_25 (by decide) (fun _ => ?_) (fun c9 => absurd (show (-1 : Int32) < 0 by decide) c9)
      refine lv_iconst (v := 0) hx hb dL_isSo_38 (by decide) ?_
      refine lv_iadd hx hb dL_isSo_39 ?_
      rw [show (0 : Int32) + 0 = 0 from rfl]
      refine lv_istore (lv' := [(5, .int (0)), (0, .ref (g 0)), (1, .int (nI d)), (2, .int (nI L)), (3, .int (1)), (4, .int ((-1))), (6, .int (nI po))]) hx hb dL_isSo_40 hl (by decide) rfl (fun ls hl => ?_)
      refine lv_iinc (v := nI (po + 1)) (lv' := [(6, .int (nI (po + 1))), (5, .int (0)), (0, .ref (g 0)), (1, .int (nI d)), (2, .int (nI L)), (3, .int (1)), (4, .int ((-1)))]) hx hb dL_isSo_42 hl (k := 6) rfl (nI_1 po) (by decide) rfl (fun ls hl => ?_)
      refine lv_goto (tgt := 14) hx hb dL_isSo_45 (by decide) ?_
      exact ih (po + 1) (by omega) xx H locs ls cells slots hs hP hD hS (lv_sub hl [2, 3, 4, 5, 6, 1, 0] rfl) (by omega) (by omega)
  have drop : ∀ j : Nat, Lst y n d j → ∀ (k po : Nat), po + k = 10 → ∀ (xx : XS) (H : Heap) (locs : List Loc) (ls : Array Slot) (cells slots : Nat), So y n d L xx → va_P D vwCl (wX g ca xx) H → va_D A (wX g ca xx) → va_S A s.heap H locs → lv_has ls 14 [(0, .ref (g 0)), (1, .int (nI d)), (2, .int (nI L)), (3, .int (1)), (4, .int (nI j)), (6, .int (nI po))] → cells + 2 * k + 402 ≤ 500 → slots + 12 * k + 2412 ≤ 3000 → W p l e (headSpec wsL_isSo ({ frames := 8, cells := 500, slots := 3000, locals := 188 })).room s m #[.ref (g 0), .int (nI d), .int (nI L)] below meth c H locs cells slots (MQ below (oQ (wX g ca x) s.heap.size) #[.ref (g 0), .int (nI d), .int (nI L)] s 500 3000 A) (F0 m 93 ls []) := by
    intro j hj k
    obtain ⟨j1, j2, j3, j4⟩ := lst_f n10 hj
    induction k with
    | zero =>
      intro po hp xx H locs ls cells slots hs hP hD hS hl h1 h2
      have hp : po = 10 := hp
      subst hp
      refine lv_iload hx hb dL_isSo_93 (lv_at hl 5 rfl) ?_
      refine lv_bipush (v := 10) hx hb dL_isSo_95 (by decide) ?_
      refine lv_icmp_ge (tgt := 158) hx hb dL_isSo_97 (by decide) (fun _ => ?_) (fun c9 => absurd (show (10 : Int32) ≤ nI 10 by decide) c9)
      exact rest xx H locs ls cells slots hs hP hD hS (lv_sub hl [0, 1, 2, 3] rfl) (by omega) (by omega)
    | succ k ih =>
      intro po hp xx H locs ls cells slots hs hP hD hS hl h1 h2
      have hp10 : po < 10 := by omega
      have on : ∀ (xx : XS) (H : Heap) (locs : List Loc) (ls : Array Slot) (cells slots : Nat), So y n d L xx → va_P D vwCl (wX g ca xx) H → va_D A (wX g ca xx) → va_S A s.heap H locs → lv_has ls 14 [(0, .ref (g 0)), (1, .int (nI d)), (2, .int (nI L)), (3, .int (1)), (4, .int (nI j)), (6, .int (nI po))] → cells + 2 * k + 402 ≤ 500 → slots + 12 * k + 2412 ≤ 3000 → W p l e (headSpec wsL_isSo ({ frames := 8, cells := 500, slots := 3000, locals := 188 })).room s m #[.ref (g 0), .int (nI d), .int (nI L)] below meth c H locs cells slots (MQ below (oQ (wX g ca x) s.heap.size) #[.ref (g 0), .int (nI d), .int (nI L)] s 500 3000 A) (F0 m 146 ls []) := by
        intro xx H locs ls cells slots hs hP hD hS hl h1 h2
        refine lv_iconst (v := 1) hx hb dL_isSo_146 (by decide) ?_
        refine lv_goto (tgt := 151) hx hb dL_isSo_147 (by decide) ?_
        refine lv_istore_n (lv' := [(3, .int (1)), (0, .ref (g 0)), (1, .int (nI d)), (2, .int (nI L)), (4, .int (nI j)), (6, .int (nI po))]) hx hb dL_isSo_151 rfl hl (by decide) rfl (fun ls hl => ?_)
        refine lv_iinc (v := nI (po + 1)) (lv' := [(6, .int (nI (po + 1))), (3, .int (1)), (0, .ref (g 0)), (1, .int (nI d)), (2, .int (nI L)), (4, .int (nI j))]) hx hb dL_isSo_152 hl (k := 5) rfl (nI_1 po) (by decide) rfl (fun ls hl => ?_)
        refine lv_goto (tgt := 93) hx hb dL_isSo_155 (by decide) ?_
        exact ih (po + 1) (by omega) xx H locs ls cells slots hs hP hD hS (lv_sub hl [2, 3, 4, 1, 5, 0] rfl) (by omega) (by omega)
      refine lv_iload hx hb dL_isSo_93 (lv_at hl 5 rfl) ?_
      refine lv_bipush (v := 10) hx hb dL_isSo_95 (by decide) ?_
      refine lv_icmp_ge (tgt := 158) hx hb dL_isSo_97 (by decide) (fun c9 => absurd c9 (geL 10 hp10 (by decide))) (fun _ => ?_)
      refine lv_iload_n hx hb dL_isSo_100 rfl (lv_at hl 3 rfl) ?_
      refine lv_if_eq (tgt := 158) hx hb dL_isSo_101 (by decide) (fun c9 => absurd c9 (by decide)) (fun _ => ?_)
      refine lv_iload hx hb dL_isSo_104 (lv_at hl 4 rfl) ?_
      by_cases hj0 : j = 0
      · subst hj0
        refine lv_if_le (tgt := 158) hx hb dL_isSo_106 (by decide) (fun _ => ?_) (fun c9 => absurd (show nI 0 ≤ 0 by decide) c9)
        exact rest xx H locs ls cells slots hs hP hD hS (lv_sub hl [0, 1, 2, 3] rfl) (by omega) (by omega)
      · skip
        refine lv_if_le (tgt := 158) hx hb dL_isSo_106 (by decide) (fun c9 => absurd c9 (nI_nle (by omega) (by omega))) (fun _ => ?_)
        refine lv_iload hx hb dL_isSo_109 (lv_at hl 4 rfl) ?_
        refine lv_iload hx hb dL_isSo_111 (lv_at hl 5 rfl) ?_
        refine lv_ishr hx hb dL_isSo_113 ?_
        refine lv_iconst (v := 1) hx hb dL_isSo_114 (by decide) ?_
        refine lv_iand hx hb dL_isSo_115 ?_
        rw [bit_n j2 hp10]
        cases hb9 : j.testBit po with
        | false =>
          refine lv_if_eq (tgt := 146) hx hb dL_isSo_116 (by decide) (fun _ => ?_) (fun c9 => absurd (bit_0.mpr hb9) c9)
          exact on xx H locs ls cells slots hs hP hD hS hl (by omega) (by omega)
        | true =>
          refine lv_if_eq (tgt := 146) hx hb dL_isSo_116 (by decide) (fun c9 => absurd (bit_0.mp c9) (by rw [hb9]; decide)) (fun _ => ?_)
          obtain ⟨m1, m2, m3, m4, m5⟩ := j4 po hp10 hb9
          refine lv_iload_n hx hb dL_isSo_119 rfl (lv_at hl 1 rfl) ?_
          refine lv_aload_n hx hb dL_isSo_120 rfl (lv_at hl 0 rfl) ?_
          refine lv_iload hx hb dL_isSo_121 (lv_at hl 4 rfl) ?_
          refine lv_iconst (v := 1) hx hb dL_isSo_123 (by decide) ?_
          refine lv_iload hx hb dL_isSo_124 (lv_at hl 5 rfl) ?_
          refine lv_ishl hx hb dL_isSo_126 ?_
          refine lv_isub hx hb dL_isSo_127 ?_
          rw [rm_sub j2 hp10 hb9]
          obtain ⟨M, x1, e1, g1, f1⟩ := so_cov hs m4
          refine wd_i (vx_runV (As := [.int (nI (rm j po))]) (rest := [.int (nI d)]) ⟨hx, hb, hml, hown, hts⟩ (c_X4_covered l hl9 D ca g xx (nI (rm j po)) e1 H.size) (cwV 1 hts gL_isSo_X4_covered rfl rfl rfl (by decide +kernel) ⟨Nat.le_of_ble_eq_true rfl, Nat.le_of_ble_eq_true rfl⟩) (tP_V (H0 := H) (q := (RX4, TX4, 16)) hP hC hD hz hS hA 0 rfl rfl) rfl rfl hl.1 rfl (lv_room (Nat.le_of_ble_eq_true rfl)) dL_isSo_128 ⟨rmc _ (by omega), rms _ (by omega)⟩) hD hS hA (fun H locs hP hD hS => ?_)
          refine lv_iconst (v := -1) hx hb dL_isSo_131 (by decide) ?_
          refine lv_ixor hx hb dL_isSo_132 ?_
          refine lv_iand hx hb dL_isSo_133 ?_
          refine lv_if_eq (tgt := 150) hx hb dL_isSo_134 (by decide) (fun c9 => absurd (f1.mp c9) (by rw [m5]; decide)) (fun _ => ?_)
          refine lv_aload_n hx hb dL_isSo_137 rfl (lv_at hl 0 rfl) ?_
          refine lv_iload hx hb dL_isSo_138 (lv_at hl 4 rfl) ?_
          obtain ⟨x2, e2, g2⟩ := so_bears g1 hj hp10 hb9
          refine wd_i (vx_runV (As := [.int (nI j)]) (rest := []) ⟨hx, hb, hml, hown, hts⟩ (c_X4_bears l hl9 D ca g x1 (nI j) e2 H.size) (cwV 1 hts gL_isSo_X4_bears rfl rfl rfl (by decide +kernel) ⟨Nat.le_of_ble_eq_true rfl, Nat.le_of_ble_eq_true rfl⟩) (tP_V (H0 := H) (q := (RX4, TX4, 16)) hP hC hD hz hS hA 0 rfl rfl) rfl rfl hl.1 rfl (lv_room (Nat.le_of_ble_eq_true rfl)) dL_isSo_140 ⟨rmc _ (by omega), rms _ (by omega)⟩) hD hS hA (fun H locs hP hD hS => ?_)
          refine lv_if_ne (tgt := 150) hx hb dL_isSo_143 (by decide) (fun c9 => absurd rfl c9) (fun _ => ?_)
          exact on x2 H locs ls _ _ g2 hP hD hS hl (by omega) (by omega)
  have bitsJ : ∀ j : Nat, Lst y n d j → ∀ (k po : Nat), po + k = 10 → ∀ (xx : XS) (H : Heap) (locs : List Loc) (ls : Array Slot) (cells slots : Nat), So y n d L xx → va_P D vwCl (wX g ca xx) H → va_D A (wX g ca xx) → va_S A s.heap H locs → lv_has ls 14 [(0, .ref (g 0)), (1, .int (nI d)), (2, .int (nI L)), (3, .int (1)), (4, .int (nI j)), (5, .int (nI (sm (fun q => j / 2 ^ q % 2) (po)))), (6, .int (nI (po)))] → cells + 425 ≤ 500 → slots + 2550 ≤ 3000 → W p l e (headSpec wsL_isSo ({ frames := 8, cells := 500, slots := 3000, locals := 188 })).room s m #[.ref (g 0), .int (nI d), .int (nI L)] below meth c H locs cells slots (MQ below (oQ (wX g ca x) s.heap.size) #[.ref (g 0), .int (nI d), .int (nI L)] s 500 3000 A) (F0 m 14 ls []) := by
    intro j hj k
    obtain ⟨j1, j2, j3, j4⟩ := lst_f n10 hj
    induction k with
    | zero =>
      intro po hp xx H locs ls cells slots hs hP hD hS hl h1 h2
      have hp : po = 10 := hp
      subst hp
      refine lv_iload hx hb dL_isSo_14 (lv_at hl 6 rfl) ?_
      refine lv_bipush (v := 10) hx hb dL_isSo_16 (by decide) ?_
      refine lv_icmp_ge (tgt := 48) hx hb dL_isSo_18 (by decide) (fun _ => ?_) (fun c9 => absurd (show (10 : Int32) ≤ nI 10 by decide) c9)
      refine lv_aload_n hx hb dL_isSo_48 rfl (lv_at hl 0 rfl) ?_
      obtain ⟨x1, e1, g1⟩ := so_anew hs
      rw [show rn (vd y n d) (2 ^ n) = some j from hj] at e1
      refine wr_i (va_runV (As := []) (rest := []) ⟨hx, hb, hml, hown, hts⟩ (c_X4_leastAnew l D ca g xx e1 H.size) (cwV 0 hts gL_isSo_X4_leastAnew rfl rfl rfl (by decide +kernel) ⟨Nat.le_of_ble_eq_true rfl, Nat.le_of_ble_eq_true rfl⟩) (wP_V (q := (RX4, TX4, 16)) hP hC hD 0 rfl rfl) rfl rfl hl.1 rfl (lv_room (Nat.le_of_ble_eq_true rfl)) dL_isSo_49 ⟨rmc _ (by omega), rms _ (by omega)⟩) hD hS hA (fun H locs hP hD hS => ?_)
      refine lv_iload hx hb dL_isSo_52 (lv_at hl 4 rfl) ?_
      refine lv_if_ge (tgt := 61) hx hb dL_isSo_54 (by decide) (fun _ => ?_) (fun c9 => absurd (nI_pos' (show j < 2 ^ 31 by omega)) c9)
      refine lv_iload hx hb dL_isSo_61 (lv_at hl 5 rfl) ?_
      refine lv_icmp_ne (tgt := 88) hx hb dL_isSo_63 (by decide) (fun c9 => absurd (congrArg nI (bc_sm j).symm) c9) (fun _ => ?_)
      refine lv_iload hx hb dL_isSo_66 (lv_at hl 4 rfl) ?_
      refine lv_if_lt (tgt := 84) hx hb dL_isSo_68 (by decide) (fun c9 => absurd c9 (nI_pos (by omega))) (fun _ => ?_)
      refine lv_iload_n hx hb dL_isSo_71 rfl (lv_at hl 1 rfl) ?_
      refine lv_aload_n hx hb dL_isSo_72 rfl (lv_at hl 0 rfl) ?_
      refine lv_iload hx hb dL_isSo_73 (lv_at hl 4 rfl) ?_
      obtain ⟨M, x2, e2, g2, f2⟩ := so_cov g1 j1
      refine wd_i (vx_runV (As := [.int (nI j)]) (rest := [.int (nI d)]) ⟨hx, hb, hml, hown, hts⟩ (c_X4_covered l hl9 D ca g x1 (nI j) e2 H.size) (cwV 1 hts gL_isSo_X4_covered rfl rfl rfl (by decide +kernel) ⟨Nat.le_of_ble_eq_true rfl, Nat.le_of_ble_eq_true rfl⟩) (tP_V (H0 := H) (q := (RX4, TX4, 16)) hP hC hD hz hS hA 0 rfl rfl) rfl rfl hl.1 rfl (lv_room (Nat.le_of_ble_eq_true rfl)) dL_isSo_75 ⟨rmc _ (by omega), rms _ (by omega)⟩) hD hS hA (fun H locs hP hD hS => ?_)
      refine lv_iconst (v := -1) hx hb dL_isSo_78 (by decide) ?_
      refine lv_ixor hx hb dL_isSo_79 ?_
      refine lv_iand hx hb dL_isSo_80 ?_
      refine lv_if_ne (tgt := 88) hx hb dL_isSo_81 (by decide) (fun c9 => absurd (f2.mpr j3) c9) (fun _ => ?_)
      refine lv_iconst (v := 1) hx hb dL_isSo_84 (by decide) ?_
      refine lv_goto (tgt := 89) hx hb dL_isSo_85 (by decide) ?_
      refine lv_istore_n (lv' := [(3, .int (1)), (0, .ref (g 0)), (1, .int (nI d)), (2, .int (nI L)), (4, .int (nI j)), (5, .int (nI (sm (fun q => j / 2 ^ q % 2) (10)))), (6, .int (nI (10)))]) hx hb dL_isSo_89 rfl hl (by decide) rfl (fun ls hl => ?_)
      refine lv_iconst (v := 0) hx hb dL_isSo_90 (by decide) ?_
      refine lv_istore (lv' := [(6, .int (0)), (3, .int (1)), (0, .ref (g 0)), (1, .int (nI d)), (2, .int (nI L)), (4, .int (nI j)), (5, .int (nI (sm (fun q => j / 2 ^ q % 2) (10))))]) hx hb dL_isSo_91 hl (by decide) rfl (fun ls hl => ?_)
      exact drop j hj 10 0 rfl x2 H locs ls _ _ g2 hP hD hS (lv_sub hl [2, 3, 4, 1, 5, 0] rfl) (by omega) (by omega)
    | succ k ih =>
      intro po hp xx H locs ls cells slots hs hP hD hS hl h1 h2
      have hp10 : po < 10 := by omega
      refine lv_iload hx hb dL_isSo_14 (lv_at hl 6 rfl) ?_
      refine lv_bipush (v := 10) hx hb dL_isSo_16 (by decide) ?_
      refine lv_icmp_ge (tgt := 48) hx hb dL_isSo_18 (by decide) (fun c9 => absurd c9 (geL 10 hp10 (by decide))) (fun _ => ?_)
      refine lv_iload hx hb dL_isSo_21 (lv_at hl 5 rfl) ?_
      refine lv_iload hx hb dL_isSo_23 (lv_at hl 4 rfl) ?_
      refine lv_if_lt (tgt := 38) hx hb dL_isSo_25 (by decide) (fun c9 => absurd c9 (nI_pos (by omega))) (fun _ => ?_)
      refine lv_iload hx hb dL_isSo_28 (lv_at hl 4 rfl) ?_
      refine lv_iload hx hb dL_isSo_30 (lv_at hl 6 rfl) ?_
      refine lv_ishr hx hb dL_isSo_32 ?_
      refine lv_iconst (v := 1) hx hb dL_isSo_33 (by decide) ?_
      refine lv_iand hx hb dL_isSo_34 ?_
      rw [bit_n j2 hp10]
      refine lv_goto (tgt := 39) hx hb dL_isSo_35 (by decide) ?_
      refine lv_iadd hx hb dL_isSo_39 ?_
      rw [nI_add, show sm (fun q => j / 2 ^ q % 2) po + j / 2 ^ po % 2 = sm (fun q => j / 2 ^ q % 2) (po + 1) from rfl]
      refine lv_istore (lv' := [(5, .int (nI (sm (fun q => j / 2 ^ q % 2) (po + 1)))), (0, .ref (g 0)), (1, .int (nI d)), (2, .int (nI L)), (3, .int (1)), (4, .int (nI j)), (6, .int (nI (po)))]) hx hb dL_isSo_40 hl (by decide) rfl (fun ls hl => ?_)
      refine lv_iinc (v := nI (po + 1)) (lv' := [(6, .int (nI (po + 1))), (5, .int (nI (sm (fun q => j / 2 ^ q % 2) (po + 1)))), (0, .ref (g 0)), (1, .int (nI d)), (2, .int (nI L)), (3, .int (1)), (4, .int (nI j))]) hx hb dL_isSo_42 hl (k := 6) rfl (nI_1 po) (by decide) rfl (fun ls hl => ?_)
      refine lv_goto (tgt := 14) hx hb dL_isSo_45 (by decide) ?_
      exact ih (po + 1) (by omega) xx H locs ls cells slots hs hP hD hS (lv_sub hl [2, 3, 4, 5, 6, 1, 0] rfl) (by omega) (by omega)
  obtain ⟨x1, e1, g1⟩ := so_least hSo
  obtain ⟨H, hHe⟩ : ∃ H, H = s.heap := ⟨_, rfl⟩
  obtain ⟨locs, hle9⟩ : ∃ z : List Loc, z = [] := ⟨_, rfl⟩
  have hP : va_P D vwCl (wX g ca x) H := by rw [hHe]; exact hP
  have hS : va_S A s.heap H locs := by rw [hHe, hle9]; exact hS
  have hgo : W p l e (headSpec wsL_isSo ({ frames := 8, cells := 500, slots := 3000, locals := 188 })).room s m #[.ref (g 0), .int (nI d), .int (nI L)] below meth c H locs 0 0 (MQ below (oQ (wX g ca x) s.heap.size) #[.ref (g 0), .int (nI d), .int (nI L)] s 500 3000 A) (F0 m 0 ls []) := by
    refine lv_iconst (v := 1) hx hb dL_isSo_0 (by decide) ?_
    refine lv_istore_n (lv' := [(3, .int (1)), (0, .ref (g 0)), (1, .int (nI d)), (2, .int (nI L))]) hx hb dL_isSo_1 rfl hl (by decide) rfl (fun ls hl => ?_)
    refine lv_aload_n hx hb dL_isSo_2 rfl (lv_at hl 1 rfl) ?_
    refine wr_i (va_runV (As := []) (rest := []) ⟨hx, hb, hml, hown, hts⟩ (c_X4_least l D ca g x e1 H.size) (cwV 0 hts gL_isSo_X4_least rfl rfl rfl (by decide +kernel) ⟨Nat.le_of_ble_eq_true rfl, Nat.le_of_ble_eq_true rfl⟩) (wP_V (q := (RX4, TX4, 16)) hP hC hD 0 rfl rfl) rfl rfl hl.1 rfl (lv_room (Nat.le_of_ble_eq_true rfl)) dL_isSo_3 ⟨rmc _ (by omega), rms _ (by omega)⟩) hD hS hA (fun H locs hP hD hS => ?_)
    refine lv_istore (lv' := [(4, .int (ov (rn (vd y n d) (2 ^ n)))), (3, .int (1)), (0, .ref (g 0)), (1, .int (nI d)), (2, .int (nI L))]) hx hb dL_isSo_6 hl (by decide) rfl (fun ls hl => ?_)
    refine lv_iconst (v := 0) hx hb dL_isSo_8 (by decide) ?_
    refine lv_istore (lv' := [(5, .int (0)), (4, .int (ov (rn (vd y n d) (2 ^ n)))), (3, .int (1)), (0, .ref (g 0)), (1, .int (nI d)), (2, .int (nI L))]) hx hb dL_isSo_9 hl (by decide) rfl (fun ls hl => ?_)
    refine lv_iconst (v := 0) hx hb dL_isSo_11 (by decide) ?_
    refine lv_istore (lv' := [(6, .int (0)), (5, .int (0)), (4, .int (ov (rn (vd y n d) (2 ^ n)))), (3, .int (1)), (0, .ref (g 0)), (1, .int (nI d)), (2, .int (nI L))]) hx hb dL_isSo_12 hl (by decide) rfl (fun ls hl => ?_)
    cases hRn : rn (vd y n d) (2 ^ n) with
    | none =>
      rw [hRn] at hl
      exact bitsN hRn 10 0 rfl x1 H locs ls _ _ g1 hP hD hS (lv_sub hl [4, 5, 6, 3, 2, 1, 0] rfl) (by omega) (by omega)
    | some j =>
      rw [hRn] at hl
      exact bitsJ j hRn 10 0 rfl x1 H locs ls _ _ g1 hP hD hS (lv_sub hl [4, 5, 6, 3, 2, 1, 0] rfl) (by omega) (by omega)
  rw [hHe, hle9] at hgo
  exact hgo
