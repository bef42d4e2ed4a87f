set_option maxHeartbeats 8000000 in
set_option maxRecDepth 100000 in
theorem c_L_areAlike (l : Launch) (hl9 : l.stackTraces = false) (D : va_G) (ca : Nat → ClassId) (g h : Nat → Nat) (x x' : XS) (v : Int32) {vb lv : Int32} {vs : Int64} (hbr : s_X4_breaches x = some vb) (hsh : s_L_show x (lw v 6) = some (vs, x)) (hle : s_X4_least x = some (lv, x')) (hli : ∀ k, k < 16 → ∃ r, s_L_light x' (nI k) = some (r, x')) (hgi : ∀ k, k < 16 → ∃ r, s_L_gives x' (nI k) (lw v 16) = some (r, x')) (hbl : ∀ k, k < 16 → ∃ r, s_L_blended x' (lw v 4) (nI k) = some (r, x')) (hsc : ∀ k, k < 16 → ∃ r, s_L_scene x' (nI k) 1 = some (r, x')) (sz : Nat) : Met l yL_areAlike wsL_areAlike ({ frames := 8, cells := 130, slots := 780, locals := 188 }) (tP [.ref (g 0), .ref (h 0), .int v] D ca (wX g ca x ++ wX h ca x) sz) (wQi 1 D (wX g ca x ++ wX h ca x) (wX g ca x' ++ wX h ca x') sz) 130 780 (va_A (wX g ca x ++ wX h ca x) sz) := by
  refine Met.ofW (cc := cL_areAlike) (maxL := 5) (ret := (some .boolean)) (by decide) rfl ?_
  intro p e s m args below meth c s₁ B hml hv
  obtain ⟨rfl, hsz, hP, hC, hD0, hz⟩ := hv
  have hx := B.exec
  have hb := B.bytes
  have hr := B.returns
  have hts := atoms_spec (ws := wsL_areAlike) B.pre
  have hown : s.vm.findClass RL = some m.cls := findClass_of_methodNamed B.named
  have hlocks := B.notSynchronized
  subst hsz
  have hD := hD0.self (sz := s.heap.size)
  generalize hAe : va_A (wX g ca x ++ wX h ca x) s.heap.size = A at hD hz ⊢
  have hA : ∀ q : Nat, s.heap.size ≤ q → A q := fun q h => by rw [← hAe]; exact Or.inr h
  have hS : va_S A s.heap s.heap [] := va_S.rf
  have hl := lv_entry ([.ref (g 0), .ref (h 0), .int v]) (n := 5) (Nat.le_of_ble_eq_true rfl)
  rw [lg_entry_eq]
  generalize (lg_sl ([.ref (g 0), .ref (h 0), .int v]) ++ List.replicate (5 - (lg_sl ([.ref (g 0), .ref (h 0), .int v])).length) Slot.unset).toArray = ls at hl ⊢
  have hl : lv_has ls 5 [(0, .ref (g 0)), (1, .ref (h 0)), (2, .int (v))] := hl
  have rmc : ∀ k : Nat, k ≤ 130 → k ≤ (headSpec wsL_areAlike ({ frames := 8, cells := 130, slots := 780, locals := 188 })).room.cells := fun _ h => h
  have rms : ∀ k : Nat, k ≤ 780 → k ≤ (headSpec wsL_areAlike ({ frames := 8, cells := 130, slots := 780, locals := 188 })).room.slots := fun _ h => h
  have fin : ∀ (H : Heap) (locs : List Loc) (ls : Array Slot) (cells slots : Nat), va_P D vwCl (wX g ca x' ++ wX h ca x') H → va_D A (wX g ca x' ++ wX h ca x') → va_S A s.heap H locs → lv_has ls 5 [(0, .ref (g 0)), (1, .ref (h 0)), (2, .int (v)), (3, .int (1))] → cells ≤ 130 → slots ≤ 780 → W p l e (headSpec wsL_areAlike ({ frames := 8, cells := 130, slots := 780, locals := 188 })).room s m #[.ref (g 0), .ref (h 0), .int v] below meth c H locs cells slots (MQ below (wQi 1 D (wX g ca x ++ wX h ca x) (wX g ca x' ++ wX h ca x') s.heap.size) #[.ref (g 0), .ref (h 0), .int v] s 130 780 A) (F0 m 166 ls []) := by
    intro H locs ls cells slots hP hD hS hl h1 h2
    refine lv_iload_n hx hb dL_areAlike_166 rfl (lv_at hl 3 rfl) ?_
    exact W.widen h1 h2 (wt_z (r := ((1 : Int32), x')) (f := fun z => wX g ca z ++ wX h ca z) hx hb hr hAe (Or.inr rfl) rfl hP hD hS dL_areAlike_167 hlocks)
  have loop : ∀ (n k : Nat), k + n = 16 → ∀ (H : Heap) (locs : List Loc) (ls : Array Slot) (cells slots : Nat), va_P D vwCl (wX g ca x' ++ wX h ca x') H → va_D A (wX g ca x' ++ wX h ca x') → va_S A s.heap H locs → lv_has ls 5 [(0, .ref (g 0)), (1, .ref (h 0)), (2, .int (v)), (3, .int (1)), (4, .int (nI k))] → cells + 8 * n ≤ 130 → slots + 48 * n ≤ 780 → W p l e (headSpec wsL_areAlike ({ frames := 8, cells := 130, slots := 780, locals := 188 })).room s m #[.ref (g 0), .ref (h 0), .int v] below meth c H locs cells slots (MQ below (wQi 1 D (wX g ca x ++ wX h ca x) (wX g ca x' ++ wX h ca x') s.heap.size) #[.ref (g 0), .ref (h 0), .int v] s 130 780 A) (F0 m 55 ls []) := by
    intro n
    induction n with
    | zero =>
      intro k hk H locs ls cells slots hP hD hS hl h1 h2
      have hk : k = 16 := hk
      subst hk
      refine lv_iload hx hb dL_areAlike_55 (lv_at hl 4 rfl) ?_
      refine lv_bipush (v := 16) hx hb dL_areAlike_57 (by decide) ?_
      refine lv_icmp_ge (tgt := 166) hx hb dL_areAlike_59 (by decide) (fun _ => ?_) (fun c9 => absurd (show (16 : Int32) ≤ nI 16 by decide) c9)
      exact fin H locs ls cells slots hP hD hS (lv_sub hl [0, 1, 2, 3] rfl) (by omega) (by omega)
    | succ n ih =>
      intro k hk H locs ls cells slots hP hD hS hl h1 h2
      obtain ⟨ri, hli⟩ := hli k (by omega)
      obtain ⟨rg, hgi⟩ := hgi k (by omega)
      obtain ⟨rb, hbl⟩ := hbl k (by omega)
      obtain ⟨rs, hsc⟩ := hsc k (by omega)
      refine lv_iload hx hb dL_areAlike_55 (lv_at hl 4 rfl) ?_
      refine lv_bipush (v := 16) hx hb dL_areAlike_57 (by decide) ?_
      refine lv_icmp_ge (tgt := 166) hx hb dL_areAlike_59 (by decide) (fun c9 => absurd c9 (geL 16 (by omega) (by decide))) (fun _ => ?_)
      refine lv_iload_n hx hb dL_areAlike_62 rfl (lv_at hl 3 rfl) ?_
      refine lv_if_eq (tgt := 166) hx hb dL_areAlike_63 (by decide) (fun c9 => absurd c9 (by decide)) (fun _ => ?_)
      refine lv_aload_n hx hb dL_areAlike_66 rfl (lv_at hl 0 rfl) ?_
      refine lv_iload hx hb dL_areAlike_67 (lv_at hl 4 rfl) ?_
      refine xr_l (vx_runSW (As := [.ref (g 0), .int (nI k)]) (rest := []) ⟨hx, hb, hml, hown, hts⟩ (c_L_light l hl9 D ca g x' (nI k) hli H.size) (vx_cwSW 2 hts gL_areAlike_L_light rfl rfl rfl (by decide +kernel) ⟨Nat.le_of_ble_eq_true rfl, Nat.le_of_ble_eq_true rfl⟩) (tP_S (app_l hP) hC (appD_l hD) hz hS hA) rfl rfl hl.1 rfl (lv_room (Nat.le_of_ble_eq_true rfl)) dL_areAlike_69 ⟨rmc _ (by omega), rms _ (by omega)⟩) hP hD hS hA (fun H locs hP hD hS => ?_)
      refine lv_aload_n hx hb dL_areAlike_72 rfl (lv_at hl 1 rfl) ?_
      refine lv_iload hx hb dL_areAlike_73 (lv_at hl 4 rfl) ?_
      refine mr_l (vx_runSW (As := [.ref (h 0), .int (nI k)]) (rest := [.long (ri)]) ⟨hx, hb, hml, hown, hts⟩ (c_L_light l hl9 D ca h x' (nI k) hli H.size) (vx_cwSW 2 hts gL_areAlike_L_light rfl rfl rfl (by decide +kernel) ⟨Nat.le_of_ble_eq_true rfl, Nat.le_of_ble_eq_true rfl⟩) (tP_S (app_r hP) hC (appD_r hD) hz hS hA) rfl rfl hl.1 rfl (lv_room (Nat.le_of_ble_eq_true rfl)) dL_areAlike_75 ⟨rmc _ (by omega), rms _ (by omega)⟩) hP hD hS hA (fun H locs hP hD hS => ?_)
      refine lv_lc_ne (tgt := 158) hx hb dL_areAlike_78 dL_areAlike_79 (by decide) (fun c9 => absurd rfl c9) (fun _ => ?_)
      refine lv_aload_n hx hb dL_areAlike_82 rfl (lv_at hl 0 rfl) ?_
      refine lv_iload hx hb dL_areAlike_83 (lv_at hl 4 rfl) ?_
      refine lv_iload_n hx hb dL_areAlike_85 rfl (lv_at hl 2 rfl) ?_
      refine lv_bipush (v := 16) hx hb dL_areAlike_86 (by decide) ?_
      refine rd_i (va_runS (As := [.int (v), .int (16)]) (rest := [.int (nI k), .ref (g 0)]) ⟨hx, hb, hml, hown, hts⟩ (c_L_low l D ca v 16 (low_e (by decide))) (va_cwS 2 hts gL_areAlike_L_low rfl rfl rfl (by decide +kernel) ⟨Nat.le_of_ble_eq_true rfl, Nat.le_of_ble_eq_true rfl⟩) (rP_S va_P_nil hC) rfl rfl hl.1 rfl (lv_room (Nat.le_of_ble_eq_true rfl)) dL_areAlike_88 ⟨rmc _ (by omega), rms _ (by omega)⟩) ?_
      refine xr_l (vx_runSW (As := [.ref (g 0), .int (nI k), .int (lw v 16)]) (rest := []) ⟨hx, hb, hml, hown, hts⟩ (c_L_gives l hl9 D ca g x' (nI k) (lw v 16) hgi H.size) (vx_cwSW 3 hts gL_areAlike_L_gives rfl rfl rfl (by decide +kernel) ⟨Nat.le_of_ble_eq_true rfl, Nat.le_of_ble_eq_true rfl⟩) (tP_S (app_l hP) hC (appD_l hD) hz hS hA) rfl rfl hl.1 rfl (lv_room (Nat.le_of_ble_eq_true rfl)) dL_areAlike_91 ⟨rmc _ (by omega), rms _ (by omega)⟩) hP hD hS hA (fun H locs hP hD hS => ?_)
      refine lv_aload_n hx hb dL_areAlike_94 rfl (lv_at hl 1 rfl) ?_
      refine lv_iload hx hb dL_areAlike_95 (lv_at hl 4 rfl) ?_
      refine lv_iload_n hx hb dL_areAlike_97 rfl (lv_at hl 2 rfl) ?_
      refine lv_bipush (v := 16) hx hb dL_areAlike_98 (by decide) ?_
      refine rd_i (va_runS (As := [.int (v), .int (16)]) (rest := [.int (nI k), .ref (h 0), .long (rg)]) ⟨hx, hb, hml, hown, hts⟩ (c_L_low l D ca v 16 (low_e (by decide))) (va_cwS 2 hts gL_areAlike_L_low rfl rfl rfl (by decide +kernel) ⟨Nat.le_of_ble_eq_true rfl, Nat.le_of_ble_eq_true rfl⟩) (rP_S va_P_nil hC) rfl rfl hl.1 rfl (lv_room (Nat.le_of_ble_eq_true rfl)) dL_areAlike_100 ⟨rmc _ (by omega), rms _ (by omega)⟩) ?_
      refine mr_l (vx_runSW (As := [.ref (h 0), .int (nI k), .int (lw v 16)]) (rest := [.long (rg)]) ⟨hx, hb, hml, hown, hts⟩ (c_L_gives l hl9 D ca h x' (nI k) (lw v 16) hgi H.size) (vx_cwSW 3 hts gL_areAlike_L_gives rfl rfl rfl (by decide +kernel) ⟨Nat.le_of_ble_eq_true rfl, Nat.le_of_ble_eq_true rfl⟩) (tP_S (app_r hP) hC (appD_r hD) hz hS hA) rfl rfl hl.1 rfl (lv_room (Nat.le_of_ble_eq_true rfl)) dL_areAlike_103 ⟨rmc _ (by omega), rms _ (by omega)⟩) hP hD hS hA (fun H locs hP hD hS => ?_)
      refine lv_lc_ne (tgt := 158) hx hb dL_areAlike_106 dL_areAlike_107 (by decide) (fun c9 => absurd rfl c9) (fun _ => ?_)
      refine lv_aload_n hx hb dL_areAlike_110 rfl (lv_at hl 0 rfl) ?_
      refine lv_iload_n hx hb dL_areAlike_111 rfl (lv_at hl 2 rfl) ?_
      refine lv_iconst (v := 4) hx hb dL_areAlike_112 (by decide) ?_
      refine rd_i (va_runS (As := [.int (v), .int (4)]) (rest := [.ref (g 0)]) ⟨hx, hb, hml, hown, hts⟩ (c_L_low l D ca v 4 (low_e (by decide))) (va_cwS 2 hts gL_areAlike_L_low rfl rfl rfl (by decide +kernel) ⟨Nat.le_of_ble_eq_true rfl, Nat.le_of_ble_eq_true rfl⟩) (rP_S va_P_nil hC) rfl rfl hl.1 rfl (lv_room (Nat.le_of_ble_eq_true rfl)) dL_areAlike_113 ⟨rmc _ (by omega), rms _ (by omega)⟩) ?_
      refine lv_iload hx hb dL_areAlike_116 (lv_at hl 4 rfl) ?_
      refine xr_l (vx_runSW (As := [.ref (g 0), .int (lw v 4), .int (nI k)]) (rest := []) ⟨hx, hb, hml, hown, hts⟩ (c_L_blended l hl9 D ca g x' (lw v 4) (nI k) hbl H.size) (vx_cwSW 3 hts gL_areAlike_L_blended rfl rfl rfl (by decide +kernel) ⟨Nat.le_of_ble_eq_true rfl, Nat.le_of_ble_eq_true rfl⟩) (tP_S (app_l hP) hC (appD_l hD) hz hS hA) rfl rfl hl.1 rfl (lv_room (Nat.le_of_ble_eq_true rfl)) dL_areAlike_118 ⟨rmc _ (by omega), rms _ (by omega)⟩) hP hD hS hA (fun H locs hP hD hS => ?_)
      refine lv_aload_n hx hb dL_areAlike_121 rfl (lv_at hl 1 rfl) ?_
      refine lv_iload_n hx hb dL_areAlike_122 rfl (lv_at hl 2 rfl) ?_
      refine lv_iconst (v := 4) hx hb dL_areAlike_123 (by decide) ?_
      refine rd_i (va_runS (As := [.int (v), .int (4)]) (rest := [.ref (h 0), .long (rb)]) ⟨hx, hb, hml, hown, hts⟩ (c_L_low l D ca v 4 (low_e (by decide))) (va_cwS 2 hts gL_areAlike_L_low rfl rfl rfl (by decide +kernel) ⟨Nat.le_of_ble_eq_true rfl, Nat.le_of_ble_eq_true rfl⟩) (rP_S va_P_nil hC) rfl rfl hl.1 rfl (lv_room (Nat.le_of_ble_eq_true rfl)) dL_areAlike_124 ⟨rmc _ (by omega), rms _ (by omega)⟩) ?_
      refine lv_iload hx hb dL_areAlike_127 (lv_at hl 4 rfl) ?_
      refine mr_l (vx_runSW (As := [.ref (h 0), .int (lw v 4), .int (nI k)]) (rest := [.long (rb)]) ⟨hx, hb, hml, hown, hts⟩ (c_L_blended l hl9 D ca h x' (lw v 4) (nI k) hbl H.size) (vx_cwSW 3 hts gL_areAlike_L_blended rfl rfl rfl (by decide +kernel) ⟨Nat.le_of_ble_eq_true rfl, Nat.le_of_ble_eq_true rfl⟩) (tP_S (app_r hP) hC (appD_r hD) hz hS hA) rfl rfl hl.1 rfl (lv_room (Nat.le_of_ble_eq_true rfl)) dL_areAlike_129 ⟨rmc _ (by omega), rms _ (by omega)⟩) hP hD hS hA (fun H locs hP hD hS => ?_)
      refine lv_lc_ne (tgt := 158) hx hb dL_areAlike_132 dL_areAlike_133 (by decide) (fun c9 => absurd rfl c9) (fun _ => ?_)
      refine lv_aload_n hx hb dL_areAlike_136 rfl (lv_at hl 0 rfl) ?_
      refine lv_iload hx hb dL_areAlike_137 (lv_at hl 4 rfl) ?_
      refine lv_iconst (v := 1) hx hb dL_areAlike_139 (by decide) ?_
      refine xr_l (vx_runSW (As := [.ref (g 0), .int (nI k), .int (1)]) (rest := []) ⟨hx, hb, hml, hown, hts⟩ (c_L_scene l hl9 D ca g x' (nI k) 1 hsc H.size) (vx_cwSW 3 hts gL_areAlike_L_scene rfl rfl rfl (by decide +kernel) ⟨Nat.le_of_ble_eq_true rfl, Nat.le_of_ble_eq_true rfl⟩) (tP_S (app_l hP) hC (appD_l hD) hz hS hA) rfl rfl hl.1 rfl (lv_room (Nat.le_of_ble_eq_true rfl)) dL_areAlike_140 ⟨rmc _ (by omega), rms _ (by omega)⟩) hP hD hS hA (fun H locs hP hD hS => ?_)
      refine lv_aload_n hx hb dL_areAlike_143 rfl (lv_at hl 1 rfl) ?_
      refine lv_iload hx hb dL_areAlike_144 (lv_at hl 4 rfl) ?_
      refine lv_iconst (v := 1) hx hb dL_areAlike_146 (by decide) ?_
      refine mr_l (vx_runSW (As := [.ref (h 0), .int (nI k), .int (1)]) (rest := [.long (rs)]) ⟨hx, hb, hml, hown, hts⟩ (c_L_scene l hl9 D ca h x' (nI k) 1 hsc H.size) (vx_cwSW 3 hts gL_areAlike_L_scene rfl rfl rfl (by decide +kernel) ⟨Nat.le_of_ble_eq_true rfl, Nat.le_of_ble_eq_true rfl⟩) (tP_S (app_r hP) hC (appD_r hD) hz hS hA) rfl rfl hl.1 rfl (lv_room (Nat.le_of_ble_eq_true rfl)) dL_areAlike_147 ⟨rmc _ (by omega), rms _ (by omega)⟩) hP hD hS hA (fun H locs hP hD hS => ?_)
      refine lv_lc_ne (tgt := 158) hx hb dL_areAlike_150 dL_areAlike_151 (by decide) (fun c9 => absurd rfl c9) (fun _ => ?_)
      refine lv_iconst (v := 1) hx hb dL_areAlike_154 (by decide) ?_
      refine lv_goto (tgt := 159) hx hb dL_areAlike_155 (by decide) ?_
      refine lv_istore_n (lv' := [(3, .int (1)), (0, .ref (g 0)), (1, .ref (h 0)), (2, .int (v)), (4, .int (nI k))]) hx hb dL_areAlike_159 rfl hl (by decide) rfl (fun ls hl => ?_)
      refine lv_iinc (v := nI (k + 1)) (lv' := [(4, .int (nI (k + 1))), (3, .int (1)), (0, .ref (g 0)), (1, .ref (h 0)), (2, .int (v))]) hx hb dL_areAlike_160 hl (k := 4) rfl (nI_1 k) (by decide) rfl (fun ls hl => ?_)
      refine lv_goto (tgt := 55) hx hb dL_areAlike_163 (by decide) ?_
      exact ih (k + 1) (by omega) H locs ls _ _ hP hD hS (lv_sub hl [2, 3, 4, 1, 0] rfl) (by omega) (by omega)
  obtain ⟨H, hHe⟩ : ∃ H, H = s.heap := ⟨_, rfl⟩
  obtain ⟨locs, hle9⟩ : ∃ z : List Loc, z = [] := ⟨_, rfl⟩
  have hP : va_P D vwCl (wX g ca x ++ wX h ca x) H := by rw [hHe]; exact hP
  have hS : va_S A s.heap H locs := by rw [hHe, hle9]; exact hS
  have hgo : W p l e (headSpec wsL_areAlike ({ frames := 8, cells := 130, slots := 780, locals := 188 })).room s m #[.ref (g 0), .ref (h 0), .int v] below meth c H locs 0 0 (MQ below (wQi 1 D (wX g ca x ++ wX h ca x) (wX g ca x' ++ wX h ca x') s.heap.size) #[.ref (g 0), .ref (h 0), .int v] s 130 780 A) (F0 m 0 ls []) := by
    refine lv_aload_n hx hb dL_areAlike_0 rfl (lv_at hl 0 rfl) ?_
    refine rd_i (va_runV (As := []) (rest := []) ⟨hx, hb, hml, hown, hts⟩ (c_X4_breaches l D ca g x hbr) (cwV 0 hts gL_areAlike_X4_breaches rfl rfl rfl (by decide +kernel) ⟨Nat.le_of_ble_eq_true rfl, Nat.le_of_ble_eq_true rfl⟩) (rP_V (q := (RX4, TX4, 16)) (app_l hP) hC 0 rfl rfl) rfl rfl hl.1 rfl (lv_room (Nat.le_of_ble_eq_true rfl)) dL_areAlike_1 ⟨rmc _ (by omega), rms _ (by omega)⟩) ?_
    refine lv_aload_n hx hb dL_areAlike_4 rfl (lv_at hl 1 rfl) ?_
    refine rd_i (va_runV (As := []) (rest := [.int (vb)]) ⟨hx, hb, hml, hown, hts⟩ (c_X4_breaches l D ca h x hbr) (cwV 0 hts gL_areAlike_X4_breaches rfl rfl rfl (by decide +kernel) ⟨Nat.le_of_ble_eq_true rfl, Nat.le_of_ble_eq_true rfl⟩) (rP_V (q := (RX4, TX4, 16)) (app_r hP) hC 0 rfl rfl) rfl rfl hl.1 rfl (lv_room (Nat.le_of_ble_eq_true rfl)) dL_areAlike_5 ⟨rmc _ (by omega), rms _ (by omega)⟩) ?_
    refine lv_icmp_ne (tgt := 50) hx hb dL_areAlike_8 (by decide) (fun c9 => absurd rfl c9) (fun _ => ?_)
    refine lv_aload_n hx hb dL_areAlike_11 rfl (lv_at hl 0 rfl) ?_
    refine lv_iload_n hx hb dL_areAlike_12 rfl (lv_at hl 2 rfl) ?_
    refine lv_bipush (v := 6) hx hb dL_areAlike_13 (by decide) ?_
    refine rd_i (va_runS (As := [.int (v), .int (6)]) (rest := [.ref (g 0)]) ⟨hx, hb, hml, hown, hts⟩ (c_L_low l D ca v 6 (low_e (by decide))) (va_cwS 2 hts gL_areAlike_L_low rfl rfl rfl (by decide +kernel) ⟨Nat.le_of_ble_eq_true rfl, Nat.le_of_ble_eq_true rfl⟩) (rP_S va_P_nil hC) rfl rfl hl.1 rfl (lv_room (Nat.le_of_ble_eq_true rfl)) dL_areAlike_15 ⟨rmc _ (by omega), rms _ (by omega)⟩) ?_
    refine xr_l (vx_runSW (As := [.ref (g 0), .int (lw v 6)]) (rest := []) ⟨hx, hb, hml, hown, hts⟩ (c_L_show l hl9 D ca g x (lw v 6) hsh H.size) (vx_cwSW 2 hts gL_areAlike_L_show rfl rfl rfl (by decide +kernel) ⟨Nat.le_of_ble_eq_true rfl, Nat.le_of_ble_eq_true rfl⟩) (tP_S (app_l hP) hC (appD_l hD) hz hS hA) rfl rfl hl.1 rfl (lv_room (Nat.le_of_ble_eq_true rfl)) dL_areAlike_18 ⟨rmc _ (by omega), rms _ (by omega)⟩) hP hD hS hA (fun H locs hP hD hS => ?_)
    refine lv_aload_n hx hb dL_areAlike_21 rfl (lv_at hl 1 rfl) ?_
    refine lv_iload_n hx hb dL_areAlike_22 rfl (lv_at hl 2 rfl) ?_
    refine lv_bipush (v := 6) hx hb dL_areAlike_23 (by decide) ?_
    refine rd_i (va_runS (As := [.int (v), .int (6)]) (rest := [.ref (h 0), .long (vs)]) ⟨hx, hb, hml, hown, hts⟩ (c_L_low l D ca v 6 (low_e (by decide))) (va_cwS 2 hts gL_areAlike_L_low rfl rfl rfl (by decide +kernel) ⟨Nat.le_of_ble_eq_true rfl, Nat.le_of_ble_eq_true rfl⟩) (rP_S va_P_nil hC) rfl rfl hl.1 rfl (lv_room (Nat.le_of_ble_eq_true rfl)) dL_areAlike_25 ⟨rmc _ (by omega), rms _ (by omega)⟩) ?_
    refine mr_l (vx_runSW (As := [.ref (h 0), .int (lw v 6)]) (rest := [.long (vs)]) ⟨hx, hb, hml, hown, hts⟩ (c_L_show l hl9 D ca h x (lw v 6) hsh H.size) (vx_cwSW 2 hts gL_areAlike_L_show rfl rfl rfl (by decide +kernel) ⟨Nat.le_of_ble_eq_true rfl, Nat.le_of_ble_eq_true rfl⟩) (tP_S (app_r hP) hC (appD_r hD) hz hS hA) rfl rfl hl.1 rfl (lv_room (Nat.le_of_ble_eq_true rfl)) dL_areAlike_28 ⟨rmc _ (by omega), rms _ (by omega)⟩) hP hD hS hA (fun H locs hP hD hS => ?_)
    refine lv_lc_ne (tgt := 50) hx hb dL_areAlike_31 dL_areAlike_32 (by decide) (fun c9 => absurd rfl c9) (fun _ => ?_)
    refine lv_aload_n hx hb dL_areAlike_35 rfl (lv_at hl 0 rfl) ?_
    refine xr_i (va_runV (As := []) (rest := []) ⟨hx, hb, hml, hown, hts⟩ (c_X4_least l D ca g x hle H.size) (cwV 0 hts gL_areAlike_X4_least rfl rfl rfl (by decide +kernel) ⟨Nat.le_of_ble_eq_true rfl, Nat.le_of_ble_eq_true rfl⟩) (wP_V (q := (RX4, TX4, 16)) (app_l hP) hC (appD_l hD) 0 rfl rfl) rfl rfl hl.1 rfl (lv_room (Nat.le_of_ble_eq_true rfl)) dL_areAlike_36 ⟨rmc _ (by omega), rms _ (by omega)⟩) hP hD hS hA (fun H locs hP hD hS => ?_)
    refine lv_aload_n hx hb dL_areAlike_39 rfl (lv_at hl 1 rfl) ?_
    refine mr_i (va_runV (As := []) (rest := [.int (lv)]) ⟨hx, hb, hml, hown, hts⟩ (c_X4_least l D ca h x hle H.size) (cwV 0 hts gL_areAlike_X4_least rfl rfl rfl (by decide +kernel) ⟨Nat.le_of_ble_eq_true rfl, Nat.le_of_ble_eq_true rfl⟩) (wP_V (q := (RX4, TX4, 16)) (app_r hP) hC (appD_r hD) 0 rfl rfl) rfl rfl hl.1 rfl (lv_room (Nat.le_of_ble_eq_true rfl)) dL_areAlike_40 ⟨rmc _ (by omega), rms _ (by omega)⟩) hP hD hS hA (fun H locs hP hD hS => ?_)
    refine lv_icmp_ne (tgt := 50) hx hb dL_areAlike_43 (by decide) (fun c9 => absurd rfl c9) (fun _ => ?_)
    refine lv_iconst (v := 1) hx hb dL_areAlike_46 (by decide) ?_
    refine lv_goto (tgt := 51) hx hb dL_areAlike_47 (by decide) ?_
    refine lv_istore_n (lv' := [(3, .int (1)), (0, .ref (g 0)), (1, .ref (h 0)), (2, .int (v))]) hx hb dL_areAlike_51 rfl hl (by decide) rfl (fun ls hl => ?_)
    refine lv_iconst (v := 0) hx hb dL_areAlike_52 (by decide) ?_
    refine lv_istore (lv' := [(4, .int (0)), (3, .int (1)), (0, .ref (g 0)), (1, .ref (h 0)), (2, .int (v))]) hx hb dL_areAlike_53 hl (by decide) rfl (fun ls hl => ?_)
    exact loop 16 0 rfl H locs ls _ _ hP hD hS (lv_sub hl [2, 3, 4, 1, 0] rfl) (by omega) (by omega)
  rw [hHe, hle9] at hgo
  exact hgo
