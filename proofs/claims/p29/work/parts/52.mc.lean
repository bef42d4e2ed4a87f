theorem rel_curfew {x y : XS} (hR : Rel x y) (a1 a2 : Int32) : ∃ r y', s_X4_curfew x a1 a2 = some r ∧ s_X5_curfew y a1 a2 = some y' ∧ Ag (fun k => k = 2) 0 1 0 r r.2.1 y' := by
  have mt : ∀ c, ¬ c = 0 → s_X5_curfew_b28 a1 a2 y c = some (si y 0 0 c) := fun c hc => by unfold s_X5_curfew_b28; rw [gwb y hc]; rfl
  unfold s_X4_curfew s_X5_curfew
  rcases rngS 0 1439 (by decide) (by decide) a1 with ⟨c, -, hc, rfl, p1, p2⟩ | ⟨p1, p2⟩
  · have p2 : ∀ {α : Type} (A B : α), (if nI c < 0 then A else if nI c < 1440 then B else A) = B := p2
    rw [p1, p2, Option.bind_some, if_neg one_ne]
    rcases rng c 1440 (by omega) (by decide) a2 with ⟨e, e1, e2, rfl⟩ | h | ⟨h, h0⟩
    · rw [if_neg (nI_nlt e1 (by omega)), if_pos (leL 1440 e2 (by decide)), show s_X5_in (nI e) (nI c) 1440 = some 1 from in_yes e1 e2 (by decide), Option.bind_some, if_neg one_ne]
      refine ag_okv (v := (0 : Int32)) (x' := si (si x 0 8 (nI c)) 0 9 (nI e)) (y' := si (si (si y 0 0 0) 0 21 (nI c)) 0 22 (nI e)) rfl rfl rfl ?_
      obtain ⟨a1, a2, a3, a4, a5, a6, a7, a8, a9, a10, a11, a12, a13, a14, a15, a16, a17, a18, a19, a20, a21, a22, a23, a24, a25, a26, a27, hU⟩ := hR
      exact rel_mk a1 a2 a3 a4 a5 a6 a7 a8 a9 a10 a11 a12 a13 a14 a15 a16 a17 a18 a19 ⟨c, Nat.zero_le _, hc, rfl, rfl⟩ ⟨e, Nat.zero_le _, e2, rfl, rfl⟩ a22 a23 a24 a25 a26 a27 hU
    · rw [if_pos h, show s_X5_in a2 (nI c) 1440 = some 0 from in_lo h, Option.bind_some, if_pos rfl]
      exact ag_nov rfl (mt 1 (by decide)) (by decide) rfl rfl hR
    · rw [if_neg h0, if_neg (show ¬ a2 ≤ 1440 from (gt_np (by decide) h).2.1), show s_X5_in a2 (nI c) 1440 = some 0 from in_hi h h0, Option.bind_some, if_pos rfl]
      exact ag_nov rfl (mt 1 (by decide)) (by decide) rfl rfl hR
  · have p2 : ∀ {α : Type} (A B : α), (if a1 < 0 then A else if a1 < 1440 then B else A) = A := p2
    rw [p1, p2, Option.bind_some, if_pos rfl]
    exact ag_nov rfl (mt 1 (by decide)) (by decide) rfl rfl hR
theorem rel_ready {x y : XS} (hR : Rel x y) (a1 a2 : Int32) : ∃ r v y', s_X4_ready x a1 a2 = some r ∧ s_X5_ready y a1 a2 = some (v, y') ∧ Ag (fun k => k = 1 ∨ k = 2) 1 2 0 r v y' := by
  have mt : ∀ c, ¬ c = 0 → s_X5_ready_b30 a1 a2 y c = some (0, si y 0 0 c) := fun c hc => by unfold s_X5_ready_b30; rw [gwb y hc]; rfl
  have hn := hR.1.1
  unfold s_X4_ready s_X5_ready
  rcases proj_c hR a1 with ⟨p, hp, rfl, q1, q2⟩ | ⟨q1, q2⟩
  · rw [q1, q2, Option.bind_some, Option.bind_some, if_neg one_ne, opq_s]
    rcases rngL 0 99999 (by decide) (by decide) a2 with ⟨d, -, e2, rfl, p1, p2⟩ | ⟨p1, p2⟩
    · rw [p1, p2, Option.bind_some, if_neg one_ne, grd_lt hp]
      obtain ⟨a1, a2, a3, a4, a5, a6, a7, a8, a9, a10, a11, a12, a13, a14, a15, a16, a17, a18, a19, a20, a21, a22, a23, a24, a25, a26, a27, hU⟩ := hR
      obtain ⟨b, b1, b2, b3, b4⟩ := a15 p hp
      refine ag_ok (v := nI b) (x' := si x 29 p (nI d)) (y' := si (si y 0 0 0) 15 p (nI d)) (by rw [b3]) ?_ rfl ?_
      · unfold s_X5_ready_b30
        rw [gw1]
        dsimp only
        rw [chk_nI (by omega) (by decide), chk_nI (by omega) (by decide), nI_clamp (by omega), show (si y 0 0 0).1 15 p = nI b from b4]
      · exact rel_mk a1 a2 a3 a4 a5 a6 a7 a8 a9 a10 a11 a12 a13 a14 (a15.put (Nat.zero_le _) e2 rfl rfl) (a16.u15 hp) a17 a18 a19 a20 a21 a22 a23 a24 a25 a26 a27 hU
    · rw [p1, p2, Option.bind_some, if_pos rfl]
      exact ag_no rfl (mt 2 (by decide)) (by decide) (Or.inr rfl) rfl hR
  · rw [q1, q2, Option.bind_some, Option.bind_some, if_pos rfl, opq_n]
    exact ag_no rfl (mt 1 (by decide)) (by decide) (Or.inl rfl) rfl hR
theorem sce_c (x : XS) (a : Int32) : (∃ p, p < 4 ∧ a = nI p ∧ s_X4_findScene x a = some (some p) ∧ s_X5_in a 0 3 = some 1) ∨ (s_X4_findScene x a = some none ∧ s_X5_in a 0 3 = some 0) := by
  unfold s_X4_findScene
  rcases rng 0 3 (by decide) (by decide) a with ⟨d, h1, h2, rfl⟩ | h | ⟨h, h0⟩
  · refine Or.inl ⟨d, by omega, rfl, ?_, in_yes (lo := 0) h1 h2 (by decide)⟩
    rw [if_neg (nI_pos (by omega)), if_neg (geL 4 (by omega) (by decide)), if_pos (ltL 4 (by omega) (by decide)), chk_nI (by omega) (by decide), nI_clamp (by omega)]
  · refine Or.inr ⟨?_, in_lo h⟩
    rw [if_pos (show a < 0 from h)]
  · refine Or.inr ⟨?_, in_hi h h0⟩
    rw [if_neg (show ¬ a < 0 from h0), if_pos]
    have e := Int32.lt_iff_toInt_lt.mp h
    rw [nI_toInt (by decide)] at e
    apply Int32.le_iff_toInt_le.mpr
    have z : (4 : Int32).toInt = 4 := rfl
    omega
theorem rel_propose {x y : XS} (hR : Rel x y) (a1 a2 : Int32) : ∃ r v y', s_X4_propose x a1 a2 = some r ∧ s_X5_propose y a1 a2 = some (v, y') ∧ Ag (fun k => k = 1 ∨ k = 2) 1 2 0 r v y' := by
  have mt : ∀ c, ¬ c = 0 → s_X5_propose_b32 a1 a2 y c = some (0, si y 0 0 c) := fun c hc => by unfold s_X5_propose_b32; rw [gwb y hc]; rfl
  unfold s_X4_propose s_X5_propose
  rcases sce_c x a1 with ⟨p, hp, rfl, q1, q2⟩ | ⟨q1, q2⟩
  · rw [q1, q2, Option.bind_some, Option.bind_some, if_neg one_ne, opq_s]
    rcases rngL 0 999 (by decide) (by decide) a2 with ⟨d, -, e2, rfl, p1, p2⟩ | ⟨p1, p2⟩
    · rw [p1, p2, Option.bind_some, if_neg one_ne, grd_lt hp]
      obtain ⟨a1, a2, a3, a4, a5, a6, a7, a8, a9, a10, a11, a12, a13, a14, a15, a16, a17, a18, a19, a20, a21, a22, a23, a24, a25, a26, a27, hU⟩ := hR
      refine ag_ok (v := x.1 12 p) (x' := si x 12 p (nI d)) (y' := si (si y 0 0 0) 18 p (nI d)) rfl ?_ rfl ?_
      · unfold s_X5_propose_b32
        rw [gw1]
        dsimp only
        rw [chk_nI hp (by decide), chk_nI hp (by decide), nI_clamp (by omega), a23 p hp]
        rfl
      · exact rel_mk a1 a2 a3 a4 a5 a6 a7 a8 a9 a10 a11 a12 a13 a14 a15 a16 a17 a18 a19 a20 a21 a22 (a23.put rfl) a24 a25 a26 a27 hU
    · rw [p1, p2, Option.bind_some, if_pos rfl]
      exact ag_no rfl (mt 2 (by decide)) (by decide) (Or.inr rfl) rfl hR
  · rw [q1, q2, Option.bind_some, Option.bind_some, if_pos rfl, opq_n]
    exact ag_no rfl (mt 1 (by decide)) (by decide) (Or.inl rfl) rfl hR
theorem RE.self {k i : Nat} {f g : Nat → Int32} (h : RE k f g) : RE k f (upd g i (g i)) := by
  intro c hc
  by_cases e : c = i
  · subst e; rw [pk_us]; exact h c hc
  · rw [pk_un e]; exact h c hc
theorem rel_answer {x y : XS} (hR : Rel x y) (a1 : Int32) (q : Bool) : ∃ r v y', s_X4_answer x a1 (b2i q) = some r ∧ s_X5_answer y a1 (b2i q) = some (v, y') ∧ Ag (fun k => k = 1 ∨ k = 3) 1 0 2 r v y' := by
  have mt : ∀ c, ¬ c = 0 → s_X5_answer_b31 a1 (b2i q) y c = some (0, si y 0 0 c) := fun c hc => by unfold s_X5_answer_b31; rw [gwb y hc]; rfl
  unfold s_X4_answer s_X5_answer
  rcases sce_c x a1 with ⟨p, hp, rfl, q1, q2⟩ | ⟨q1, q2⟩
  · rw [q1, q2, Option.bind_some, Option.bind_some, if_neg one_ne, opq_s, grd_lt hp, chk_nI hp (by decide), nI_clamp (by omega)]
    have e18 : x.1 12 p = y.1 18 p := by
      obtain ⟨a1, a2, a3, a4, a5, a6, a7, a8, a9, a10, a11, a12, a13, a14, a15, a16, a17, a18, a19, a20, a21, a22, a23, -⟩ := hR
      exact a23 p hp
    have e17 : x.1 11 p = y.1 17 p := by
      obtain ⟨a1, a2, a3, a4, a5, a6, a7, a8, a9, a10, a11, a12, a13, a14, a15, a16, a17, a18, a19, a20, a21, a22, a23, -⟩ := hR
      exact a22 p hp
    by_cases hm : y.1 18 p = -1
    · rw [if_pos (by rw [e18]; exact hm), if_pos hm]
      exact ag_no rfl (mt 2 (by decide)) (by decide) (Or.inr rfl) rfl hR
    · rw [if_neg (by rw [e18]; exact hm), if_neg hm]
      have e63 : ∀ w, s_X5_answer_b63 (nI p) (b2i q) (si y 0 0 0) w (nI p) = some ((si (si (si y 0 0 0) 17 p w) 18 p (-1)).1 17 p, si (si (si y 0 0 0) 17 p w) 18 p (-1)) := by
        intro w
        unfold s_X5_answer_b63
        rw [chk_nI hp (by decide), chk_nI hp (by decide), chk_nI hp (by decide), nI_clamp (by omega)]
      have e31 : s_X5_answer_b31 (nI p) (b2i q) y 0 = if b2i q = 0 then s_X5_answer_b63 (nI p) (b2i q) (si y 0 0 0) (y.1 17 p) (nI p) else s_X5_answer_b63 (nI p) (b2i q) (si y 0 0 0) (y.1 18 p) (nI p) := by
        unfold s_X5_answer_b31
        rw [gw1]
        dsimp only
        rw [chk_nI hp (by decide), chk_nI hp (by decide), nI_clamp (by omega)]
        rfl
      rw [e31, e63, e63]
      obtain ⟨a1, a2, a3, a4, a5, a6, a7, a8, a9, a10, a11, a12, a13, a14, a15, a16, a17, a18, a19, a20, a21, a22, a23, a24, a25, a26, a27, hU⟩ := hR
      cases q with
      | false =>
        rw [if_pos (show b2i false = 0 by decide), if_pos (show b2i false = 0 by decide)]
        refine ag_ok (v := y.1 17 p) (x' := si x 12 p (-1)) (y' := si (si (si y 0 0 0) 17 p (y.1 17 p)) 18 p (-1)) ?_ ?_ rfl ?_
        · show some (0, x.1 11 p, _) = _
          rw [e17]
        · show some (upd (y.1 17) p (y.1 17 p) p, _) = _
          rw [pk_us]
        · exact rel_mk a1 a2 a3 a4 a5 a6 a7 a8 a9 a10 a11 a12 a13 a14 a15 a16 a17 a18 a19 a20 a21 a22.self (a23.put rfl) a24 a25 a26 a27 hU
      | true =>
        rw [if_neg (show ¬ b2i true = 0 by decide), if_neg (show ¬ b2i true = 0 by decide)]
        refine ag_ok (v := y.1 18 p) (x' := si (si x 11 p (x.1 12 p)) 12 p (-1)) (y' := si (si (si y 0 0 0) 17 p (y.1 18 p)) 18 p (-1)) ?_ ?_ rfl ?_
        · show some (0, upd (x.1 11) p (x.1 12 p) p, _) = _
          rw [pk_us, e18]
        · show some (upd (y.1 17) p (y.1 18 p) p, _) = _
          rw [pk_us]
        · exact rel_mk a1 a2 a3 a4 a5 a6 a7 a8 a9 a10 a11 a12 a13 a14 a15 a16 a17 a18 a19 a20 a21 (a22.put e18) (a23.put rfl) a24 a25 a26 a27 hU
  · rw [q1, q2, Option.bind_some, Option.bind_some, if_pos rfl, opq_n]
    exact ag_no rfl (mt 1 (by decide)) (by decide) (Or.inl rfl) rfl hR
theorem rel_scene {x y : XS} (hR : Rel x y) (a1 : Int32) (q : Bool) : ∃ r v y', s_X4_scene x a1 (b2i q) = some r ∧ s_X5_scene y a1 (b2i q) = some (v, y') ∧ Ag (fun k => k = 1) 1 0 0 r v y' := by
  have mt : ∀ c, ¬ c = 0 → s_X5_scene_b15 a1 (b2i q) y c = some (0, si y 0 0 c) := fun c hc => by unfold s_X5_scene_b15; rw [gwb y hc]; rfl
  unfold s_X4_scene s_X5_scene
  rcases sce_c x a1 with ⟨p, hp, rfl, q1, q2⟩ | ⟨q1, q2⟩
  · rw [q1, q2, Option.bind_some, Option.bind_some, if_neg one_ne, opq_s, grd_lt hp, grd_lt hp]
    have e18 : x.1 12 p = y.1 18 p := by
      obtain ⟨a1, a2, a3, a4, a5, a6, a7, a8, a9, a10, a11, a12, a13, a14, a15, a16, a17, a18, a19, a20, a21, a22, a23, -⟩ := hR
      exact a23 p hp
    have e17 : x.1 11 p = y.1 17 p := by
      obtain ⟨a1, a2, a3, a4, a5, a6, a7, a8, a9, a10, a11, a12, a13, a14, a15, a16, a17, a18, a19, a20, a21, a22, a23, -⟩ := hR
      exact a22 p hp
    have e31 : s_X5_scene_b15 (nI p) (b2i q) y 0 = if b2i q = 0 then some (y.1 17 p, si y 0 0 0) else some (y.1 18 p, si y 0 0 0) := by
      unfold s_X5_scene_b15
      rw [gw1]
      dsimp only
      rw [chk_nI hp (by decide), chk_nI hp (by decide), nI_clamp (by omega)]
      rfl
    rw [e31, e17, e18]
    cases q with
    | false =>
      rw [if_pos (show b2i false = 0 by decide), if_pos (show b2i false = 0 by decide)]
      exact ag_ok rfl rfl rfl (thr hR 0)
    | true =>
      rw [if_neg (show ¬ b2i true = 0 by decide), if_neg (show ¬ b2i true = 0 by decide)]
      exact ag_ok rfl rfl rfl (thr hR 0)
  · rw [q1, q2, Option.bind_some, Option.bind_some, if_pos rfl, opq_n]
    exact ag_no rfl (mt 1 (by decide)) (by decide) rfl rfl hR
theorem rel_show {x y : XS} (hR : Rel x y) (a1 : Int32) : ∃ r v y', s_X4_show x a1 = some r ∧ s_X5_show y a1 = some (v, y') ∧ Ag (fun k => k = 2) 0 1 0 r v y' := by
  have mt : ∀ c, ¬ c = 0 → s_X5_show_b15 a1 y c = some (0, si y 0 0 c) := fun c hc => by unfold s_X5_show_b15; rw [gwb y hc]; rfl
  have hR0 := thr hR 0
  obtain ⟨v, -, c1, c2⟩ := cnt_c hR0
  unfold s_X4_show s_X5_show
  have hh := hR
  obtain ⟨-, -, -, -, -, -, -, -, -, -, -, -, -, -, -, -, -, -, -, -, -, -, -, ⟨f, m, m1, m2, f3, f4, m3, m4⟩, e25, e26, e27, -⟩ := hh
  have no : (∀ d, d ≤ 5 → ¬ a1 = nI d) → s_X5_in a1 0 5 = some 0 → ∃ r v y', (if a1 = 0 then some (0, (x.1 0 11).toInt64, x) else (if a1 = 1 then some (0, (x.1 0 12).toInt64, x) else (if a1 = 2 then some (0, x.2.1 0, x) else (if a1 = 3 then some (0, x.2.1 1, x) else (if a1 = 4 then some (0, (x.1 0 15).toInt64, x) else (if a1 = 5 then (s_X4_countOfOn x).bind fun v_2 => some (0, v_2.toInt64, x) else some (2, 0, x))))))) = some r ∧ ((s_X5_in a1 0 5).bind fun v_9 => (if v_9 = 0 then s_X5_show_b15 a1 (y) (1) else s_X5_show_b15 a1 (y) (0))) = some (v, y') ∧ Ag (fun k => k = 2) 0 1 0 r v y' := by
    intro h1 h2
    rw [if_neg (show ¬ a1 = 0 from h1 0 (by decide)), if_neg (show ¬ a1 = 1 from h1 1 (by decide)), if_neg (show ¬ a1 = 2 from h1 2 (by decide)), if_neg (show ¬ a1 = 3 from h1 3 (by decide)), if_neg (show ¬ a1 = 4 from h1 4 (by decide)), if_neg (show ¬ a1 = 5 from h1 5 (by decide)), h2, Option.bind_some, if_pos rfl]
    exact ag_no rfl (mt 1 (by decide)) (by decide) rfl rfl hR
  rcases rng 0 5 (by decide) (by decide) a1 with ⟨d, h1, h2, rfl⟩ | h | ⟨h, h0⟩
  · rw [show s_X5_in (nI d) 0 5 = some 1 from in_yes (lo := 0) h1 h2 (by decide), Option.bind_some, if_neg one_ne]
    unfold s_X5_show_b15
    rw [gw1]
    dsimp only
    rcases (show d = 0 ∨ d = 1 ∨ d = 2 ∨ d = 3 ∨ d = 4 ∨ d = 5 by omega) with rfl | rfl | rfl | rfl | rfl | rfl
    · rw [if_pos (show nI 0 = 0 from rfl), if_pos (show nI 0 = 0 from rfl)]
      exact ag_ok (x' := x) (y' := si y 0 0 0) (by rw [f3]) (by rw [show (si y 0 0 0).1 0 25 = nI f from f4]) rfl hR0
    · rw [if_neg (by decide), if_pos (by decide), if_neg (by decide), if_pos (by decide)]
      exact ag_ok (x' := x) (y' := si y 0 0 0) (by rw [e25]; rfl) rfl rfl hR0
    · rw [if_neg (by decide), if_neg (by decide), if_pos (by decide), if_neg (by decide), if_neg (by decide), if_pos (by decide)]
      exact ag_ok (x' := x) (y' := si y 0 0 0) (by rw [e26]; rfl) rfl rfl hR0
    · rw [if_neg (by decide), if_neg (by decide), if_neg (by decide), if_pos (by decide), if_neg (by decide), if_neg (by decide), if_neg (by decide), if_pos (by decide)]
      exact ag_ok (x' := x) (y' := si y 0 0 0) (by rw [e27]; rfl) rfl rfl hR0
    · rw [if_neg (by decide), if_neg (by decide), if_neg (by decide), if_neg (by decide), if_pos (by decide), if_neg (by decide), if_neg (by decide), if_neg (by decide), if_neg (by decide), if_pos (by decide)]
      exact ag_ok (x' := x) (y' := si y 0 0 0) (by rw [m3]) (by rw [show (si y 0 0 0).1 0 29 = nI m from m4]) rfl hR0
    · rw [if_neg (by decide), if_neg (by decide), if_neg (by decide), if_neg (by decide), if_neg (by decide), if_pos (by decide), if_neg (by decide), if_neg (by decide), if_neg (by decide), if_neg (by decide), if_neg (by decide), c1, c2]
      exact ag_ok rfl rfl rfl hR0
  · refine no (fun d hd e => ?_) (in_lo h)
    subst e
    exact nI_pos (by omega) (show nI d < 0 from h)
  · refine no (fun d hd e => ?_) (in_hi h h0)
    subst e
    have := (nI_ltI (by decide) (by omega)).mp h
    omega
