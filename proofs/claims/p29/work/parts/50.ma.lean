theorem RA.put {n : Nat} {f t f' t' : Nat → Int32} (h : RA n f t f' t') {p a b : Nat} (h1 : a ≤ b) (h2 : b ≤ 15) : RA n (upd f p (nI a)) (upd t p (nI b)) (upd f' p (nI a)) (upd t' p (nI b)) := by
  intro q hq
  by_cases e : q = p
  · subst e
    exact Or.inr ⟨a, b, h1, h2, pk_us, pk_us, pk_us, pk_us⟩
  · rw [pk_un e, pk_un e, pk_un e, pk_un e]
    exact h q hq
theorem RZ.u12 {n : Nat} {t o f r : Nat → Int32} (h : RZ n t o f r) {p : Nat} {v : Int32} (hp : p < n) : RZ n (upd t p v) o f r := fun q h1 h2 => by rw [pk_un (by omega)]; exact h q h1 h2
theorem RZ.u13 {n : Nat} {t o f r : Nat → Int32} (h : RZ n t o f r) {p : Nat} {v : Int32} (hp : p < n) : RZ n t (upd o p v) f r := fun q h1 h2 => by rw [pk_un (by omega)]; exact h q h1 h2
theorem RZ.u14 {n : Nat} {t o f r : Nat → Int32} (h : RZ n t o f r) {p : Nat} {v : Int32} (hp : p < n) : RZ n t o (upd f p v) r := fun q h1 h2 => by rw [pk_un (by omega)]; exact h q h1 h2
theorem RZ.u15 {n : Nat} {t o f r : Nat → Int32} (h : RZ n t o f r) {p : Nat} {v : Int32} (hp : p < n) : RZ n t o f (upd r p v) := fun q h1 h2 => by rw [pk_un (by omega)]; exact h q h1 h2
theorem opq_s {α : Type} {j : Nat} {A : Option α} {B : Nat → Option α} : opq (some j) A B = B j := rfl
theorem opq_n {α : Type} {A : Option α} {B : Nat → Option α} : opq none A B = A := rfl
theorem rel_aim {x y : XS} (hR : Rel x y) (a1 a2 a3 : Int32) : ∃ r y', s_X4_aim x a1 a2 a3 = some r ∧ s_X5_aim y a1 a2 a3 = some y' ∧ Ag (fun k => k = 1 ∨ k = 2) 1 2 0 r r.2.1 y' := by
  have mt : ∀ c, ¬ c = 0 → s_X5_aim_b56 a1 a2 a3 y c = some (si y 0 0 c) := fun c hc => by unfold s_X5_aim_b56; rw [gwb y hc]; rfl
  have hn := hR.1.1
  unfold s_X4_aim s_X5_aim s_X5_aim_b27
  rcases proj_c hR a1 with ⟨p, hp, rfl, q1, q2⟩ | ⟨q1, q2⟩
  · rw [q1, q2, Option.bind_some, Option.bind_some, if_neg one_ne, opq_s]
    rcases col_c a2 with ⟨c, hc, rfl, c1, c2⟩ | ⟨c1, c2⟩
    · rw [c1, c2, Option.bind_some, Option.bind_some, if_neg one_ne, if_neg one_ne]
      rcases col_c a3 with ⟨e, he, rfl, e1, e2⟩ | ⟨e1, e2⟩
      · rw [e1, e2, Option.bind_some, Option.bind_some, if_neg one_ne, if_neg one_ne, if_neg one_ne, show (7 : Int32) = nI 7 from rfl, nI_add]
        by_cases h1 : e < c
        · rw [if_pos (nI_lt h1 (by omega)), show s_X5_in (nI e) (nI c) (nI (c + 7)) = some 0 from in_lo (nI_lt h1 (by omega)), Option.bind_some, if_pos rfl]
          exact ag_nov rfl (mt 2 (by decide)) (by decide) (Or.inr rfl) rfl hR
        · rw [if_neg (nI_nlt (by omega) (by omega))]
          by_cases h2 : e ≤ c + 7
          · rw [if_pos (nI_le h2 (by omega)), grd_lt hp, show s_X5_in (nI e) (nI c) (nI (c + 7)) = some 1 from in_yes (by omega) h2 (by omega), Option.bind_some, if_neg one_ne]
            refine ag_okv (v := (0 : Int32)) (x' := si (si x 25 p (nI c)) 26 p (nI e)) (y' := si (si (si y 0 0 0) 11 p (nI c)) 12 p (nI e)) rfl ?_ rfl ?_
            · unfold s_X5_aim_b56
              rw [gw1]
              dsimp only
              rw [chk_nI (by omega) (by decide), chk_nI (by omega) (by decide), nI_clamp (by omega)]
            · obtain ⟨a1, a2, a3, a4, a5, a6, a7, a8, a9, a10, a11, a12, a13, a14, a15, a16, a17, a18, a19, a20, a21, a22, a23, a24, a25, a26, a27, hU⟩ := hR
              exact rel_mk a1 a2 a3 a4 a5 a6 a7 a8 a9 a10 a11 (a12.put (by omega) (by omega)) a13 a14 a15 (a16.u12 hp) a17 a18 a19 a20 a21 a22 a23 a24 a25 a26 a27 hU
          · rw [if_neg (nI_ge (by omega) (by omega)), show s_X5_in (nI e) (nI c) (nI (c + 7)) = some 0 from in_hi (nI_lt (by omega) (by omega)) (nI_nlt (by omega) (by omega)), Option.bind_some, if_pos rfl]
            exact ag_nov rfl (mt 2 (by decide)) (by decide) (Or.inr rfl) rfl hR
      · rw [e1, e2, Option.bind_some, Option.bind_some, if_pos rfl, if_pos rfl, if_pos rfl]
        exact ag_nov rfl (mt 1 (by decide)) (by decide) (Or.inl rfl) rfl hR
    · rw [c1, c2, Option.bind_some, Option.bind_some, if_pos rfl, if_pos rfl, if_pos rfl]
      exact ag_nov rfl (mt 1 (by decide)) (by decide) (Or.inl rfl) rfl hR
  · rw [q1, q2, Option.bind_some, Option.bind_some, if_pos rfl, opq_n, if_pos rfl]
    exact ag_nov rfl (mt 1 (by decide)) (by decide) (Or.inl rfl) rfl hR
theorem rf_b {k p : Nat} {f g : Nat → Int32} (h : RF k 0 1 f g) (q : Bool) : RF k 0 1 (upd f p (b2i q)) (upd g p (b2i q)) := by
  cases q
  · exact h.put (d := 0) (by decide) (by decide) rfl rfl
  · exact h.put (d := 1) (by decide) (by decide) rfl rfl
theorem rel_turn {x y : XS} (hR : Rel x y) (a1 : Int32) (q : Bool) : ∃ r v y', s_X4_turn x a1 (b2i q) = some r ∧ s_X5_turn y a1 (b2i q) = some (v, y') ∧ Ag (fun k => k = 1 ∨ k = 3) 1 0 2 r v y' := by
  have mt : ∀ c, ¬ c = 0 → s_X5_turn_b80 a1 (b2i q) y c = some (0, si y 0 0 c) := fun c hc => by unfold s_X5_turn_b80; rw [gwb y hc]; rfl
  have hn := hR.1.1
  unfold s_X4_turn s_X5_turn s_X5_turn_b59
  rcases proj_c hR a1 with ⟨p, hp, rfl, q1, q2⟩ | ⟨q1, q2⟩
  · rw [q1, q2, Option.bind_some, Option.bind_some, if_neg one_ne, opq_s, grd_lt hp]
    obtain ⟨b, b1, b2⟩ := on_c hR hp
    obtain ⟨pw, p1, p2, p3, p4⟩ := hR.2.2.2.2.2.2.2.2.1 p hp
    obtain ⟨ph, g1, g2, g3, g4⟩ := hR.2.2.2.2.2.2.2.2.2.1 p hp
    obtain ⟨bo, o1, o2, o3, o4⟩ := hR.2.2.2.2.2.1 ph (by omega)
    obtain ⟨lo, l1, l2, l3⟩ := loa_c hR (nI ph)
    have eb : s_X4_borneBy x (nI ph) = some (nI bo) := by
      unfold s_X4_borneBy s_X4_isPhase
      rw [if_neg (nI_pos (by omega)), if_neg (geL 3 (by omega) (by decide)), Option.bind_some, if_neg one_ne, chk_nI (by omega) (by decide), nI_clamp (by omega), o3]
    rw [chk_nI (by omega) (by decide), nI_clamp (by omega), b1, b2, g3, g4, p3, p4, l2, l3, eb, Option.bind_some, Option.bind_some, Option.bind_some, chk_nI (by omega) (by decide), chk_nI (by omega) (by decide), chk_nI (by omega) (by decide), chk_nI (by omega) (by decide), nI_clamp (by omega), o4, zb_b2i, zb_b2i]
    have okk : ∃ r v y', (some (0, b2i b, si x 27 p (b2i q)) : Option (Nat × Int32 × XS)) = some r ∧ s_X5_turn_b80 (nI p) (b2i q) y 0 = some (v, y') ∧ Ag (fun k => k = 1 ∨ k = 3) 1 0 2 r v y' := by
      refine ag_ok (x' := si x 27 p (b2i q)) (y' := si (si y 0 0 0) 13 p (b2i q)) rfl ?_ rfl ?_
      · unfold s_X5_turn_b80
        rw [gw1]
        dsimp only
        rw [chk_nI (by omega) (by decide), chk_nI (by omega) (by decide), nI_clamp (by omega), zb_b2i, show (si y 0 0 0).1 13 p = b2i b from b2, zb_b2i]
      · obtain ⟨a1, a2, a3, a4, a5, a6, a7, a8, a9, a10, a11, a12, a13, a14, a15, a16, a17, a18, a19, a20, a21, a22, a23, a24, a25, a26, a27, hU⟩ := hR
        exact rel_mk a1 a2 a3 a4 a5 a6 a7 a8 a9 a10 a11 a12 (rf_b a13 q) a14 a15 (a16.u13 hp) a17 a18 a19 a20 a21 a22 a23 a24 a25 a26 a27 hU
    simp only [if_neg one_ne]
    cases q with
    | false =>
      rw [if_pos (show b2i false = 0 by decide), if_pos (show b2i false = 0 by decide)]
      exact okk
    | true =>
      rw [if_neg (show ¬ b2i true = 0 by decide), if_neg (show ¬ b2i true = 0 by decide)]
      cases b with
      | true =>
        rw [if_neg (show ¬ b2i true = 0 by decide), if_neg (show ¬ b2i true = 0 by decide)]
        exact okk
      | false =>
        rw [if_pos (show b2i false = 0 by decide), if_pos (show b2i false = 0 by decide), nI_add]
        by_cases h : lo + pw ≤ bo
        · rw [if_pos (nI_le h (by omega)), if_neg (nI_nlt h (by omega))]
          exact okk
        · rw [if_neg (nI_ge (by omega) (by omega)), if_pos (nI_lt (by omega) (by omega))]
          try rw [if_pos rfl]
          exact ag_no rfl (mt 2 (by decide)) (by decide) (Or.inr rfl) rfl hR
  · rw [q1, q2, Option.bind_some, Option.bind_some, if_pos rfl, opq_n, if_pos rfl]
    exact ag_no rfl (mt 1 (by decide)) (by decide) (Or.inl rfl) rfl hR
theorem rel_fail {x y : XS} (hR : Rel x y) (a1 : Int32) (q : Bool) : ∃ r v y', s_X4_fail x a1 (b2i q) = some r ∧ s_X5_fail y a1 (b2i q) = some (v, y') ∧ Ag (fun k => k = 1) 1 0 0 r v y' := by
  have mt : ∀ c, ¬ c = 0 → s_X5_fail_b14 a1 (b2i q) y c = some (0, si y 0 0 c) := fun c hc => by unfold s_X5_fail_b14; rw [gwb y hc]; rfl
  have hn := hR.1.1
  unfold s_X4_fail s_X5_fail
  rcases proj_c hR a1 with ⟨p, hp, rfl, q1, q2⟩ | ⟨q1, q2⟩
  · rw [q1, q2, Option.bind_some, Option.bind_some, if_neg one_ne, opq_s, grd_lt hp]
    obtain ⟨b, b1, b2⟩ := fa_c hR hp
    rw [b1, zb_b2i, zb_b2i]
    refine ag_ok (x' := si x 28 p (b2i q)) (y' := si (si y 0 0 0) 14 p (b2i q)) rfl ?_ rfl ?_
    · unfold s_X5_fail_b14
      rw [gw1]
      dsimp only
      rw [chk_nI (by omega) (by decide), chk_nI (by omega) (by decide), nI_clamp (by omega), zb_b2i, show (si y 0 0 0).1 14 p = b2i b from b2, zb_b2i]
    · obtain ⟨a1, a2, a3, a4, a5, a6, a7, a8, a9, a10, a11, a12, a13, a14, a15, a16, a17, a18, a19, a20, a21, a22, a23, a24, a25, a26, a27, hU⟩ := hR
      exact rel_mk a1 a2 a3 a4 a5 a6 a7 a8 a9 a10 a11 a12 a13 (rf_b a14 q) a15 (a16.u14 hp) a17 a18 a19 a20 a21 a22 a23 a24 a25 a26 a27 hU
  · rw [q1, q2, Option.bind_some, Option.bind_some, if_pos rfl, opq_n]
    exact ag_no rfl (mt 1 (by decide)) (by decide) rfl rfl hR
theorem rel_phase {x y : XS} (hR : Rel x y) (a1 a2 : Int32) : ∃ r v y', s_X4_phase x a1 a2 = some r ∧ s_X5_phase y a1 a2 = some (v, y') ∧ Ag (fun k => k = 2) 0 1 0 r v y' := by
  have mt : ∀ c, ¬ c = 0 → s_X5_phase_b25 a1 a2 y c = some (0, si y 0 0 c) := fun c hc => by unfold s_X5_phase_b25; rw [gwb y hc]; rfl
  unfold s_X4_phase s_X5_phase
  rcases phase_c a1 with ⟨k, hk, rfl, q1, q2⟩ | ⟨q1, q2⟩
  · rw [q1, q2, Option.bind_some, Option.bind_some, if_neg one_ne, if_neg one_ne]
    rcases rngL 0 99999 (by decide) (by decide) a2 with ⟨d, -, e2, rfl, p1, p2⟩ | ⟨p1, p2⟩
    · rw [p1, p2, Option.bind_some, if_neg one_ne, chk_nI hk (by decide), chk_nI hk (by decide), nI_clamp (by omega)]
      obtain ⟨bo, o1, o2, o3, o4⟩ := hR.2.2.2.2.2.1 k hk
      refine ag_ok (x' := si x 3 k (nI d)) (y' := si (si y 0 0 0) 16 k (nI d)) rfl ?_ rfl ?_
      · unfold s_X5_phase_b25
        rw [gw1]
        dsimp only
        rw [chk_nI hk (by decide), chk_nI hk (by decide), nI_clamp (by omega), show (si y 0 0 0).1 16 k = nI bo from o4, o3]
      · obtain ⟨a1, a2, a3, a4, a5, a6, a7, a8, a9, a10, a11, a12, a13, a14, a15, a16, a17, a18, a19, a20, a21, a22, a23, a24, a25, a26, a27, hU⟩ := hR
        exact rel_mk a1 a2 a3 a4 a5 (a6.put (Nat.zero_le _) e2 rfl rfl) a7 a8 a9 a10 a11 a12 a13 a14 a15 a16 a17 a18 a19 a20 a21 a22 a23 a24 a25 a26 a27 hU
    · rw [p1, p2, Option.bind_some, if_pos rfl]
      exact ag_no rfl (mt 1 (by decide)) (by decide) rfl rfl hR
  · rw [q1, q2, Option.bind_some, Option.bind_some, if_pos rfl, if_pos rfl]
    exact ag_no rfl (mt 1 (by decide)) (by decide) rfl rfl hR
theorem rel_wind {x y : XS} (hR : Rel x y) (a1 : Int32) : ∃ r v y', s_X4_wind x a1 = some r ∧ s_X5_wind y a1 = some (v, y') ∧ Ag (fun k => k = 2) 0 1 0 r v y' := by
  have mt : ∀ c, ¬ c = 0 → s_X5_wind_b16 a1 y c = some (0, si y 0 0 c) := fun c hc => by unfold s_X5_wind_b16; rw [gwb y hc]; rfl
  unfold s_X4_wind s_X5_wind
  rcases rngL 0 8 (by decide) (by decide) a1 with ⟨d, -, e2, rfl, p1, p2⟩ | ⟨p1, p2⟩
  · rw [p1, p2, Option.bind_some, if_neg one_ne]
    obtain ⟨a1, a2, a3, a4, a5, a6, a7, a8, a9, a10, a11, a12, a13, a14, a15, a16, a17, a18, a19, a20, a21, a22, a23, a24, a25, a26, a27, hU⟩ := hR
    obtain ⟨w, w1, w2, w3, w4⟩ := a17
    refine ag_ok (v := nI w) (x' := si x 0 4 (nI d)) (y' := si (si y 0 0 0) 0 20 (nI d)) (by rw [w3]) ?_ rfl ?_
    · unfold s_X5_wind_b16
      rw [gw1]
      dsimp only
      rw [show (si y 0 0 0).1 0 20 = nI w from w4]
    · exact rel_mk a1 a2 a3 a4 a5 a6 a7 a8 a9 a10 a11 a12 a13 a14 a15 a16 ⟨d, Nat.zero_le _, e2, rfl, rfl⟩ a18 a19 a20 a21 a22 a23 a24 a25 a26 a27 hU
  · rw [p1, p2, Option.bind_some, if_pos rfl]
    exact ag_no rfl (mt 1 (by decide)) (by decide) rfl rfl hR
