/-! what holds at the law's entry -/
def ews : List Cond := [.arrayClass .int, .arrayOver (.object "FacadeShow$Projector"), .arrayOver (.object "FacadeShow$Scene"), .instantiable RX0 10, .instantiable RX1 2, .instantiable RX2 3, .instantiable RX3 2, .instantiable RX4 16, .laysStatic "java/lang/Throwable" "UNASSIGNED_STACK" "[Ljava/lang/StackTraceElement;", .laysStatic "java/lang/Throwable" "SUPPRESSED_SENTINEL" "Ljava/util/List;", .initialized "java/lang/Throwable"]
set_option maxRecDepth 20000 in
theorem ews_in : ∀ w ∈ ews, w ∈ lw_tbl := mem_pl [68, 70, 85, 327, 86, 53, 72, 45, 198, 200, 36] rfl
set_option maxRecDepth 20000 in
theorem nests_in : ∀ w ∈ nests, w ∈ lw_tbl := mem_pl [54, 73, 87, 92, 94, 256, 260, 275, 298, 328, 333, 335, 337, 339, 341, 343, 345, 347, 349, 350, 436, 459, 465, 491, 518, 525, 526, 544, 568, 175, 177, 179, 173, 241, 284] rfl
def txs : List Cond := [.stringRef RX4 81 "no such column", .stringRef RX4 88 "relief is out of range", .stringRef RX4 91 "surface is out of range", .stringRef RX4 100 "no such cell", .stringRef RX4 102 "what is out of range", .stringRef RX4 110 "the cell has a mast", .stringRef RX4 117 "columns is out of range", .stringRef RX4 119 "level is out of range", .stringRef RX4 121 "power is out of range", .stringRef RX4 126 "phase is out of range", .stringRef RX4 128 "focus is out of range", .stringRef RX4 130 "the cell is not empty", .stringRef RX4 132 "there are as many projectors as there may be", .stringRef RX4 141 "no such projector", .stringRef RX4 143 "to is below from, or too far", .stringRef RX4 168 "its phase would bear more than it may", .stringRef RX4 174 "wind is out of range", .stringRef RX4 176 "no such row", .stringRef RX4 200 "projectors has others", .stringRef RX4 225 "from is out of range", .stringRef RX4 227 "to is out of range", .stringRef RX4 229 "frame is out of range", .stringRef RX4 238 "no such scene", .stringRef RX4 240 "version is out of range", .stringRef RX4 245 "nothing is proposed", .stringRef RX4 253 "minutes is out of range", .stringRef RX4 255 "the minute would be above the last one"]
set_option maxRecDepth 20000 in
theorem txs_in : ∀ w ∈ txs, w ∈ lw_tbl := mem_pl [212, 248, 255, 273, 274, 291, 310, 311, 319, 323, 324, 325, 326, 383, 384, 400, 423, 431, 513, 579, 580, 588, 600, 601, 609, 635, 636] rfl
theorem txs_of : ∀ q ∈ texts, Cond.stringRef RX4 q.1 q.2 ∈ lw_tbl := by
  intro q hq
  refine txs_in _ ?_
  rw [show txs = texts.map (fun q => Cond.stringRef RX4 q.1 q.2) from rfl]
  exact List.mem_map.mpr ⟨q, hq, rfl⟩
theorem en_int {s : State} {args : Array Value} (h : (Cond.arrayClass .int).before args s = true) : ∃ cA, ArrOfT s cA .int ∧ va_RA s cA .int := by
  obtain ⟨c, k, comp, h1, h2, h3⟩ := Cond.arrayClass_spec h
  exact ⟨c, fun n z => ⟨fun k h => (by cases h), k, h2, comp, h3⟩, h1⟩
theorem en_obj {s : State} {args : Array Value} {C : String} (h : (Cond.arrayOver (.object C)).before args s = true) : ∃ cA, ArrOfT s cA (.object C) ∧ va_RA s cA (.object C) := by
  obtain ⟨comp, c, k, h1, h2, h3, h4, h5⟩ := Cond.arrayOver_spec h
  exact ⟨c, fun n z => ⟨fun k h => (by cases h), k, h3, comp, h4⟩, k, comp, h3, h4, h1, h5⟩
theorem entry_cx {s : State} {args : Array Value} (hts : ∀ w ∈ lw_tbl, w.before args s = true) (hnc : ∀ q ∈ ncs, (Cond.not (.castable q.1 q.2)).before args s = true) : ∃ D ca, cx D ca s := by
  have he : ∀ w ∈ ews, w.before args s = true := fun w h => hts w (ews_in w h)
  obtain ⟨c0, i0, k0⟩ := u_known (C := RX0) (T := TX0) (N := 10) (n := 10) hts inX0 (he (.instantiable RX0 10) (by decide +kernel))
  obtain ⟨c1, i1, k1⟩ := u_known (C := RX1) (T := TX1) (N := 2) (n := 2) hts inX1 (he (.instantiable RX1 2) (by decide +kernel))
  obtain ⟨c2, i2, k2⟩ := u_known (C := RX2) (T := TX2) (N := 3) (n := 3) hts inX2 (he (.instantiable RX2 3) (by decide +kernel))
  obtain ⟨c3, i3, k3⟩ := u_known (C := RX3) (T := TX3) (N := 2) (n := 2) hts inX3 (he (.instantiable RX3 2) (by decide +kernel))
  obtain ⟨c4, i4, k4⟩ := u_known (C := RX4) (T := TX4) (N := 16) (n := 16) hts inX4 (he (.instantiable RX4 16) (by decide +kernel))
  obtain ⟨a0, f0, r0⟩ := en_int (he (.arrayClass .int) (by decide +kernel))
  obtain ⟨a3, f3, r3⟩ := en_obj (he (.arrayOver (.object "FacadeShow$Projector")) (by decide +kernel))
  obtain ⟨a4, f4, r4⟩ := en_obj (he (.arrayOver (.object "FacadeShow$Scene")) (by decide +kernel))
  refine ⟨(fun k => if k = 0 then c0 else if k = 1 then c1 else if k = 2 then c2 else if k = 3 then c3 else c4, fun k => if k = 0 then i0 else if k = 1 then i1 else if k = 2 then i2 else if k = 3 then i3 else i4), fun k => if k = 0 then a0 else if k = 3 then a3 else a4, ⟨?_, ?_⟩, ?_, ?_, ?_, ?_⟩
  · intro k q hq
    match k, hq with
    | 0, hq => cases hq; exact k0
    | 1, hq => cases hq; exact k1
    | 2, hq => cases hq; exact k2
    | 3, hq => cases hq; exact k3
    | 4, hq => cases hq; exact k4
    | k + 5, hq => simp [vwCl] at hq
  · intro k q hq
    match k, hq with
    | 0, hq => cases hq; exact ⟨f0, r0⟩
    | 1, hq => cases hq; exact ⟨f0, r0⟩
    | 2, hq => cases hq; exact ⟨f0, r0⟩
    | 3, hq => cases hq; exact ⟨f3, r3⟩
    | 4, hq => cases hq; exact ⟨f4, r4⟩
    | k + 5, hq => simp [tyA] at hq
  · exact fun w hw => va_Nw.of (isNest_tab (List.all_eq_true.mp nests_ok w hw)) (hts w (nests_in w hw))
  · intro q hq
    have h := hts _ (txs_of q hq)
    obtain ⟨cur, hcur⟩ : ∃ cur, s.vm.findClass RX4 = some cur := by
      have h1 := h
      simp only [Cond.before, Cond.holds, Cond.value] at h1
      cases hc : s.vm.findClass RX4 with
      | none => simp [hc] at h1
      | some cur => exact ⟨cur, rfl⟩
    obtain ⟨-, -, -, a, -, -, -, -, -, h2⟩ := Cond.stringRef_spec hcur h
    exact ⟨a, vk_R.of h h2⟩
  · exact fun q hq => va_Nc.of (hnc q hq)
  · intro C hC
    simp only [aos, List.mem_cons, List.not_mem_nil, or_false] at hC
    rcases hC with rfl | rfl
    · exact va_AO.of (he (.arrayOver (.object "FacadeShow$Projector")) (by decide +kernel))
    · exact va_AO.of (he (.arrayOver (.object "FacadeShow$Scene")) (by decide +kernel))
theorem entry_zz {s : State} {args : Array Value} (hts : ∀ w ∈ lw_tbl, w.before args s = true) (h1 : (Cond.isRef (.static "java/lang/Throwable" "UNASSIGNED_STACK" "[Ljava/lang/StackTraceElement;")).before args s = true) (h2 : (Cond.isRef (.static "java/lang/Throwable" "SUPPRESSED_SENTINEL" "Ljava/util/List;")).before args s = true) : zz (fun q => s.heap.size ≤ q) s := by
  have he : ∀ w ∈ ews, w.before args s = true := fun w h => hts w (ews_in w h)
  refine ⟨vx_Zqof (he (.laysStatic "java/lang/Throwable" "UNASSIGNED_STACK" "[Ljava/lang/StackTraceElement;") (by decide +kernel)) (he (.initialized "java/lang/Throwable") (by decide +kernel)) h1 (fun a h => Nat.not_le.mpr h), vx_Zqof (he (.laysStatic "java/lang/Throwable" "SUPPRESSED_SENTINEL" "Ljava/util/List;") (by decide +kernel)) (he (.initialized "java/lang/Throwable") (by decide +kernel)) h2 (fun a h => Nat.not_le.mpr h)⟩
