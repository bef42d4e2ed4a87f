/-! what the law's loop calls: the script, and two objects that stand alike -/
set_option maxHeartbeats 4000000 in
set_option maxRecDepth 100000 in
theorem c_L_cell (l : Launch) (b L : Nat) (xs : Nat → Int32) (hL : L ≤ 260) (k : Nat) (hk : k < 1000) : Met l yL_cell wsL_cell ({ frames := 0, cells := 0, slots := 0, locals := 0 }) (sP b L xs (nI k)) (vp_Si (fun z => z = cl xs L k)) 0 0 (fun _ => False) := by
  refine Met.ofW (cc := cL_cell) (maxL := 2) (ret := (some .int)) (by decide) rfl ?_
  intro p e s m args below meth c s₁ B hml hv
  obtain ⟨rfl, hX, hbl⟩ := hv
  have hx := B.exec
  have hb := B.bytes
  have hr := B.returns
  have hlocks := B.notSynchronized
  have hS : va_S (fun _ => False) s.heap s.heap [] := va_S.rf
  have hl := lv_entry ([.ref b, .int (nI k)]) (n := 2) (Nat.le_of_ble_eq_true rfl)
  rw [lg_entry_eq]
  generalize (lg_sl ([.ref b, .int (nI k)]) ++ List.replicate (2 - (lg_sl ([.ref b, .int (nI k)])).length) Slot.unset).toArray = ls at hl ⊢
  have hl : lv_has ls 2 [(0, .ref b), (1, .int (nI k))] := hl
  refine lv_iload_n hx hb dL_cell_0 rfl (lv_at hl 1 rfl) ?_
  refine lv_aload_n hx hb dL_cell_1 rfl (lv_at hl 0 rfl) ?_
  refine va_slen hx hb hX hbl (fun h => h) hS dL_cell_2 ?_
  refine lv_icmp_ge (tgt := 12) hx hb dL_cell_3 (by decide) (fun c9 => ?_) (fun c9 => ?_)
  · have hge : L ≤ k := (nI_leI (a := L) (b := k) (by omega) (by omega)).mp c9
    refine lv_sipush (v := 7919) hx hb dL_cell_12 (by decide) ?_
    refine lv_iload_n hx hb dL_cell_15 rfl (lv_at hl 1 rfl) ?_
    refine lv_sipush (v := 2729) hx hb dL_cell_16 (by decide) ?_
    refine lv_iadd hx hb dL_cell_19 ?_
    refine lv_imul hx hb dL_cell_20 ?_
    refine lv_iload_n hx hb dL_cell_21 rfl (lv_at hl 1 rfl) ?_
    refine lv_sipush (v := 461) hx hb dL_cell_22 (by decide) ?_
    refine lv_iadd hx hb dL_cell_25 ?_
    refine lv_imul hx hb dL_cell_26 ?_
    exact rt_i hx hb hr (congrArg some (if_neg (Nat.not_lt.mpr hge)).symm) dL_cell_27 hlocks
  · have hlt : k < L := Nat.not_le.mp (fun h => c9 ((nI_leI (a := L) (b := k) (by omega) (by omega)).mpr h))
    refine lv_aload_n hx hb dL_cell_6 rfl (lv_at hl 0 rfl) ?_
    refine lv_iload_n hx hb dL_cell_7 rfl (lv_at hl 1 rfl) ?_
    refine va_sld hx hb hX hbl (fun h => h) hS (pk_in k L hlt rfl (by omega)) dL_cell_8 ?_
    refine lv_goto (tgt := 27) hx hb dL_cell_9 (by decide) ?_
    rw [nI_clamp (show k < 2 ^ 31 by omega)]
    exact rt_i hx hb hr (congrArg some (if_pos hlt).symm) dL_cell_27 hlocks
/-- a question leaves the state as it is -/
theorem same_light {x : XS} {a : Int32} : Okk (fun r => r.2 = x) (s_L_light x a) := by
  unfold s_L_light
  refine ok_bind (fun r0 q0 => ok_ite (ok_some ?_) ok_none)
  refine (show Okk (fun r => r.2.2 = x) (s_X4_light x a) from ?_) r0 q0
  unfold s_X4_light
  exact ok_bind (fun _ _ => ok_ite (ok_some rfl) (ok_bind (fun _ _ => ok_some rfl)))
theorem same_gives {x : XS} {a b : Int32} : Okk (fun r => r.2 = x) (s_L_gives x a b) := by
  unfold s_L_gives
  refine ok_bind (fun r0 q0 => ok_ite (ok_some ?_) ok_none)
  refine (show Okk (fun r => r.2.2 = x) (s_X4_gives x a b) from ?_) r0 q0
  unfold s_X4_gives
  exact ok_bind (fun _ _ => ok_opq (ok_some rfl) (fun _ => ok_bind (fun _ _ => ok_ite (ok_some rfl) (ok_grd (ok_bind (fun _ _ => ok_some rfl))))))
theorem same_blended {x : XS} {a b : Int32} : Okk (fun r => r.2 = x) (s_L_blended x a b) := by
  unfold s_L_blended
  refine ok_bind (fun r0 q0 => ok_ite (ok_some ?_) ok_none)
  refine (show Okk (fun r => r.2.2 = x) (s_X4_blended x a b) from ?_) r0 q0
  unfold s_X4_blended
  exact ok_bind (fun _ _ => ok_opq (ok_some rfl) (fun _ => ok_bind (fun _ _ => ok_ite (ok_some rfl) (ok_grd (ok_bind (fun _ _ => ok_ite (ok_some rfl) (ok_bind (fun _ _ => ok_bind (fun _ _ => ok_ite (ok_some rfl) (ok_ite (ok_dvzL (ok_some rfl)) (ok_some rfl)))))))))))
theorem same_scene {x : XS} {a b : Int32} : Okk (fun r => r.2 = x) (s_L_scene x a b) := by
  unfold s_L_scene
  refine ok_bind (fun r0 q0 => ok_ite (ok_some ?_) ok_none)
  refine (show Okk (fun r => r.2.2 = x) (s_X4_scene x a b) from ?_) r0 q0
  unfold s_X4_scene
  exact ok_bind (fun _ _ => ok_opq (ok_some rfl) (fun _ => ok_ite (ok_grd (ok_some rfl)) (ok_grd (ok_some rfl))))
theorem same_show {x : XS} {a : Int32} : Okk (fun r => r.2 = x) (s_L_show x a) := by
  unfold s_L_show
  exact ok_bind (fun r0 q0 => ok_ite (ok_some (show_same r0 q0)) ok_none)
theorem pin {x : XS} {o : Option (Int64 × XS)} {P : Int64 × XS → Prop} (h1 : ∃ r, o = some r ∧ P r) (h2 : Okk (fun r => r.2 = x) o) : ∃ z, o = some (z, x) := by
  obtain ⟨r, q, -⟩ := h1
  have := h2 r q
  exact ⟨r.1, by rw [q, ← this]⟩
/-- all that areAlike asks has an answer -/
theorem alike_e {x y : XS} (hR : Rel x y) (v : Int32) : ∃ vb lv vs x', s_X4_breaches x = some vb ∧ s_L_show x (lw v 6) = some (vs, x) ∧ s_X4_least x = some (lv, x') ∧ (∀ k, k < 16 → ∃ r, s_L_light x' (nI k) = some (r, x')) ∧ (∀ k, k < 16 → ∃ r, s_L_gives x' (nI k) (lw v 16) = some (r, x')) ∧ (∀ k, k < 16 → ∃ r, s_L_blended x' (lw v 4) (nI k) = some (r, x')) ∧ (∀ k, k < 16 → ∃ r, s_L_scene x' (nI k) 1 = some (r, x')) ∧ Rel x' y := by
  obtain ⟨vb, -, h1, -⟩ := bre_c hR
  obtain ⟨vs, h2⟩ := pin (lf_show hR 0 (lw v 6)) same_show
  obtain ⟨d, d1, d2, -⟩ := nee_e hR
  obtain ⟨x', h3, hR', -⟩ := lea_e hR d1 d2
  exact ⟨_, _, vs, x', h1, h2, h3, fun k _ => pin (lf_light hR' 0 _) same_light, fun k _ => pin (lf_gives hR' 0 _ _) same_gives, fun k _ => pin (lf_blended hR' 0 _ _) same_blended, fun k _ => pin (lf_scene hR' 0 (nI k) true) same_scene, hR'⟩
/-- the numbers of a state that is asked -/
theorem initSo {x y : XS} (hR : Rel x y) : ∃ d L, So y x.2.2 d L x := by
  obtain ⟨d, d1, d2, -⟩ := nee_e hR
  obtain ⟨L, l1, l2, l3, -⟩ := lev_c hR
  exact ⟨d, L, hR, rfl, hR.1.1, d1, d2, l1, l2, l3⟩
