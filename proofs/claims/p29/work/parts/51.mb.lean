theorem rel_through {x y : XS} (hR : Rel x y) (a1 a2 a3 : Int32) : ∃ r v y', s_X4_through x a1 a2 a3 = some r ∧ s_X5_through y a1 a2 a3 = some (v, y') ∧ Ag (fun k => k = 1) 1 0 0 r v y' := by
  have mt : ∀ c, ¬ c = 0 → s_X5_through_b31 a1 a2 a3 y c = some (0, si y 0 0 c) := fun c hc => by unfold s_X5_through_b31; rw [gwb y hc]; rfl
  have hn := hR.1.1
  unfold s_X4_through s_X5_through
  rcases proj_c hR a1 with ⟨p, hp, rfl, q1, q2⟩ | ⟨q1, q2⟩
  · rw [q1, q2, Option.bind_some, Option.bind_some, if_neg one_ne, opq_s]
    rcases col_c a2 with ⟨c, hc, rfl, c1, c2⟩ | ⟨c1, c2⟩
    · rw [c1, c2, Option.bind_some, Option.bind_some, if_neg one_ne, if_neg one_ne]
      rcases rngS 0 11 (by decide) (by decide) a3 with ⟨r, -, e2, rfl, p1, p2⟩ | ⟨p1, p2⟩
      · have p2 : ∀ {α : Type} (A B : α), (if nI r < 0 then A else if nI r < 12 then B else A) = B := p2
        rw [p1, p2, Option.bind_some, if_neg one_ne, grd_lt hp]
        obtain ⟨e, k, q, h⟩ := ray hR hp hc
        have h0 : Ray x (si y 0 0 0) p c e k q := h
        obtain ⟨v, v1, v2⟩ : ∃ v, s_X4_crossing x p (nI c) (nI r) = some v ∧ s_X5_through_b31 (nI p) (nI c) (nI r) y 0 = some (v, si y 0 0 0) := by
          unfold s_X5_through_b31
          rw [gw1]
          dsimp only
          by_cases h1 : r ≤ e
          · refine ⟨-1, ?_, ?_⟩
            · unfold s_X4_crossing
              rw [rlf hc, Option.bind_some, grd_lt hp, h.2.2.2.2.2.2.2.1, h.2.2.2.2.2.2.2.2.2.1, if_neg (sub1 (by have := h.2.2.2.1; have := h.2.2.2.2.1; omega) (by have := h.2.2.2.2.2.1; omega)), if_pos (nI_le h1 (by have := h.2.2.2.1; omega))]
            · rw [chk_nI hc (by decide), nI_clamp (by omega), h0.2.2.2.2.2.2.2.2.1, if_pos (nI_le h1 (by have := h.2.2.2.1; omega))]
          · by_cases h2 : r < k
            · obtain ⟨v, hv, w1, w2⟩ := cross_c h0 (show e < r by omega) h2
              refine ⟨nI v, w1, ?_⟩
              rw [chk_nI hc (by decide), nI_clamp (by omega), h0.2.2.2.2.2.2.2.2.1, if_neg (nI_ge (by omega) (by omega)), chk_nI (by omega) (by decide), nI_clamp (by omega), h0.2.2.2.2.2.2.2.2.2.2.1, if_neg (nI_ge h2 (by have := h.2.2.2.2.2.1; omega)), w2, Option.bind_some]
            · refine ⟨-1, ?_, ?_⟩
              · unfold s_X4_crossing
                rw [rlf hc, Option.bind_some, grd_lt hp, h.2.2.2.2.2.2.2.1, h.2.2.2.2.2.2.2.2.2.1, if_neg (sub1 (by have := h.2.2.2.1; have := h.2.2.2.2.1; omega) (by have := h.2.2.2.2.2.1; omega)), if_neg (nI_ge (by omega) (by omega)), if_neg (nI_nlt (by omega) (by omega))]
              · rw [chk_nI hc (by decide), nI_clamp (by omega), h0.2.2.2.2.2.2.2.2.1, if_neg (nI_ge (by omega) (by omega)), chk_nI (by omega) (by decide), nI_clamp (by omega), h0.2.2.2.2.2.2.2.2.2.2.1, if_pos (nI_le (by omega) (by omega))]
        rw [v1, Option.bind_some, v2]
        exact ag_ok rfl rfl rfl (thr hR 0)
      · have p2 : ∀ {α : Type} (A B : α), (if a3 < 0 then A else if a3 < 12 then B else A) = A := p2
        rw [p1, p2, Option.bind_some, if_pos rfl]
        exact ag_no rfl (mt 1 (by decide)) (by decide) rfl rfl hR
    · rw [c1, c2, Option.bind_some, Option.bind_some, if_pos rfl, if_pos rfl]
      exact ag_no rfl (mt 1 (by decide)) (by decide) rfl rfl hR
  · rw [q1, q2, Option.bind_some, Option.bind_some, if_pos rfl, opq_n]
    exact ag_no rfl (mt 1 (by decide)) (by decide) rfl rfl hR
theorem rel_gives {x y : XS} (hR : Rel x y) (a1 a2 : Int32) : ∃ r v y', s_X4_gives x a1 a2 = some r ∧ s_X5_gives y a1 a2 = some (v, y') ∧ Ag (fun k => k = 1) 1 0 0 r v y' := by
  have mt : ∀ c, ¬ c = 0 → s_X5_gives_b21 a1 a2 y c = some (0, si y 0 0 c) := fun c hc => by unfold s_X5_gives_b21; rw [gwb y hc]; rfl
  unfold s_X4_gives s_X5_gives
  rcases proj_c hR a1 with ⟨p, hp, rfl, q1, q2⟩ | ⟨q1, q2⟩
  · rw [q1, q2, Option.bind_some, Option.bind_some, if_neg one_ne, opq_s]
    rcases col_c a2 with ⟨c, hc, rfl, c1, c2⟩ | ⟨c1, c2⟩
    · rw [c1, c2, Option.bind_some, Option.bind_some, if_neg one_ne, if_neg one_ne, grd_lt hp]
      obtain ⟨v, -, v2, v3⟩ := light_c (thr hR 0) hp hc
      rw [v2, Option.bind_some]
      refine ag_ok (x' := x) (y' := si y 0 0 0) rfl ?_ rfl (thr hR 0)
      unfold s_X5_gives_b21
      rw [gw1]
      dsimp only
      rw [v3, Option.bind_some]
    · rw [c1, c2, Option.bind_some, Option.bind_some, if_pos rfl, if_pos rfl]
      exact ag_no rfl (mt 1 (by decide)) (by decide) rfl rfl hR
  · rw [q1, q2, Option.bind_some, Option.bind_some, if_pos rfl, opq_n]
    exact ag_no rfl (mt 1 (by decide)) (by decide) rfl rfl hR
theorem rel_isSharp {x y : XS} (hR : Rel x y) (a1 a2 : Int32) : ∃ r v y', s_X4_isSharp x a1 a2 = some r ∧ s_X5_isSharp y a1 a2 = some (v, y') ∧ Ag (fun k => k = 1) 1 0 0 r v y' := by
  have mt : ∀ c, ¬ c = 0 → s_X5_isSharp_b21 a1 a2 y c = some (0, si y 0 0 c) := fun c hc => by unfold s_X5_isSharp_b21; rw [gwb y hc]; rfl
  unfold s_X4_isSharp s_X5_isSharp
  rcases proj_c hR a1 with ⟨p, hp, rfl, q1, q2⟩ | ⟨q1, q2⟩
  · rw [q1, q2, Option.bind_some, Option.bind_some, if_neg one_ne, opq_s]
    rcases col_c a2 with ⟨c, hc, rfl, c1, c2⟩ | ⟨c1, c2⟩
    · rw [c1, c2, Option.bind_some, Option.bind_some, if_neg one_ne, if_neg one_ne, grd_lt hp]
      obtain ⟨v, v2, v3⟩ := foc_c (thr hR 0) hp hc
      rw [v2, Option.bind_some, zb_b2i]
      refine ag_ok (x' := x) (y' := si y 0 0 0) rfl ?_ rfl (thr hR 0)
      unfold s_X5_isSharp_b21
      rw [gw1]
      dsimp only
      rw [v3, Option.bind_some]
      cases v <;> rfl
    · rw [c1, c2, Option.bind_some, Option.bind_some, if_pos rfl, if_pos rfl]
      exact ag_no rfl (mt 1 (by decide)) (by decide) rfl rfl hR
  · rw [q1, q2, Option.bind_some, Option.bind_some, if_pos rfl, opq_n]
    exact ag_no rfl (mt 1 (by decide)) (by decide) rfl rfl hR
theorem rel_light {x y : XS} (hR : Rel x y) (a1 : Int32) : ∃ r v y', s_X4_light x a1 = some r ∧ s_X5_light y a1 = some (v, y') ∧ Ag (fun k => k = 1) 1 0 0 r v y' := by
  have mt : ∀ c, ¬ c = 0 → s_X5_light_b13 a1 y c = some (0, si y 0 0 c) := fun c hc => by unfold s_X5_light_b13; rw [gwb y hc]; rfl
  unfold s_X4_light s_X5_light
  rcases col_c a1 with ⟨c, hc, rfl, c1, c2⟩ | ⟨c1, c2⟩
  · rw [c1, c2, Option.bind_some, Option.bind_some, if_neg one_ne, if_neg one_ne]
    obtain ⟨v, -, v2, v3⟩ := lit_c (thr hR 0) hc
    rw [v2, Option.bind_some]
    refine ag_ok (x' := x) (y' := si y 0 0 0) rfl ?_ rfl (thr hR 0)
    unfold s_X5_light_b13
    rw [gw1]
    dsimp only
    rw [v3, Option.bind_some]
  · rw [c1, c2, Option.bind_some, Option.bind_some, if_pos rfl, if_pos rfl]
    exact ag_no rfl (mt 1 (by decide)) (by decide) rfl rfl hR
theorem lev_c {x y : XS} (hR : Rel x y) : ∃ d, 1 ≤ d ∧ d ≤ 9999 ∧ x.1 0 6 = nI d ∧ y.1 0 7 = nI d := by
  obtain ⟨-, -, -, -, -, -, -, -, -, -, -, -, -, -, -, -, -, -, ⟨d, d1, d2, d3, d4⟩, -⟩ := hR
  exact ⟨d, d1, d2, d3, d4⟩
theorem dvzL_ne {α : Type} {d : Int64} {B : Option α} (h : ¬ d = 0) : dvzL d B = B := by unfold dvzL; rw [if_neg h]
theorem rel_blended {x y : XS} (hR : Rel x y) (a1 a2 : Int32) : ∃ r v y', s_X4_blended x a1 a2 = some r ∧ s_X5_blended y a1 a2 = some (v, y') ∧ Ag (fun k => k = 1) 1 0 0 r v y' := by
  have mt : ∀ c, ¬ c = 0 → s_X5_blended_b21 a1 a2 y c = some (0, si y 0 0 c) := fun c hc => by unfold s_X5_blended_b21; rw [gwb y hc]; rfl
  unfold s_X4_blended s_X5_blended
  rcases proj_c hR a1 with ⟨p, hp, rfl, q1, q2⟩ | ⟨q1, q2⟩
  · rw [q1, q2, Option.bind_some, Option.bind_some, if_neg one_ne, opq_s]
    rcases col_c a2 with ⟨c, hc, rfl, c1, c2⟩ | ⟨c1, c2⟩
    · rw [c1, c2, Option.bind_some, Option.bind_some, if_neg one_ne, if_neg one_ne, grd_lt hp]
      obtain ⟨v, hv, v2, v3⟩ := lit_c (thr hR 0) hc
      obtain ⟨w, hw, w2, w3⟩ := light_c (thr hR 0) hp hc
      obtain ⟨b, b1, b2⟩ := shi_c (thr hR 0) hp
      obtain ⟨L, l1, l2, l3, l4⟩ := lev_c (thr hR 0)
      have zl : ∀ d : Nat, 0 < d → d ≤ 6000000 → ¬ (nI d).toInt64 = 0 := by
        intro d g1 g2 g
        rw [nI_l (by omega)] at g
        have := (pk_lEQ (a := d) (b := 0) (by omega) (by decide)).mp g
        omega
      rw [b1, Option.bind_some]
      have e21 : s_X5_blended_b21 (nI p) (nI c) y 0 = if b2i b = 0 then s_X5_blended_b47 (nI p) (nI c) (si y 0 0 0) 0 else s_X5_blended_b47 (nI p) (nI c) (si y 0 0 0) (nI w) := by
        unfold s_X5_blended_b21
        rw [gw1]
        dsimp only
        rw [b2, Option.bind_some, w3, Option.bind_some]
      have e47 : ∀ q, s_X5_blended_b47 (nI p) (nI c) (si y 0 0 0) q = if nI v ≤ nI L then some (q, si y 0 0 0) else dvzL (nI v).toInt64 (some (((q.toInt64 * ((nI L).toInt64)) / (nI v).toInt64).toInt32, si y 0 0 0)) := by
        intro q
        unfold s_X5_blended_b47
        rw [v3, Option.bind_some, l4]
      rw [e21, e47, e47]
      cases b with
      | false =>
        rw [if_pos (show b2i false = 0 by decide), if_pos (show b2i false = 0 by decide)]
        by_cases h : v ≤ L
        · rw [if_pos (nI_le h (by omega))]
          exact ag_ok rfl rfl rfl (thr hR 0)
        · rw [if_neg (nI_ge (by omega) (by omega)), dvzL_ne (zl v (by omega) hv)]
          have z0 : (((0 : Int32).toInt64 * (nI L).toInt64) / (nI v).toInt64).toInt32 = 0 := by
            rw [show (0 : Int32).toInt64 = 0 from rfl, Int64.zero_mul, nI_l (by omega), show (0 : Int64) = lN 0 from rfl, pk_lDiv (by decide) (by omega) (by omega), Nat.zero_div]
            rfl
          rw [z0]
          exact ag_ok rfl rfl rfl (thr hR 0)
      | true =>
        rw [if_neg (show ¬ b2i true = 0 by decide), if_neg (show ¬ b2i true = 0 by decide), w2, Option.bind_some, v2, Option.bind_some, l3]
        by_cases h0 : v = 0
        · subst h0
          rw [if_pos (show nI 0 ≤ 0 by decide), if_pos (nI_le (Nat.zero_le _) (by omega))]
          exact ag_ok rfl rfl rfl (thr hR 0)
        · rw [if_neg (nI_nle (by omega) (by omega))]
          by_cases h : v ≤ L
          · rw [if_neg (nI_nlt h (by omega)), if_pos (nI_le h (by omega))]
            exact ag_ok rfl rfl rfl (thr hR 0)
          · rw [if_pos (nI_lt (by omega) (by omega)), if_neg (nI_ge (by omega) (by omega)), dvzL_ne (zl v (by omega) hv), dvzL_ne (zl v (by omega) hv)]
            exact ag_ok rfl rfl rfl (thr hR 0)
    · rw [c1, c2, Option.bind_some, Option.bind_some, if_pos rfl, if_pos rfl]
      exact ag_no rfl (mt 1 (by decide)) (by decide) rfl rfl hR
  · rw [q1, q2, Option.bind_some, Option.bind_some, if_pos rfl, opq_n]
    exact ag_no rfl (mt 1 (by decide)) (by decide) rfl rfl hR
theorem rel_covered {x y : XS} (hR : Rel x y) (a1 : Int32) : ∃ r v y', s_X4_covered x a1 = some r ∧ s_X5_covered y a1 = some (v, y') ∧ Ag (fun k => k = 2) 0 1 0 r v y' := by
  have mt : ∀ c, ¬ c = 0 → s_X5_covered_b14 a1 y c = some (0, si y 0 0 c) := fun c hc => by unfold s_X5_covered_b14; rw [gwb y hc]; rfl
  have p2 := p2_le hR.1.1
  unfold s_X4_covered s_X5_covered
  rcases set_c hR a1 with ⟨k, hk, rfl, q1, q2⟩ | ⟨q1, q2⟩
  · rw [q1, q2, Option.bind_some, Option.bind_some, if_neg one_ne, if_neg one_ne]
    obtain ⟨x', g1, g2, g3, g4⟩ := surv_c (thr hR 0)
    obtain ⟨M, m1, m2, m3⟩ := cov_y g2 (show k < 1024 by omega)
    rw [g1, Option.bind_some, cov_x ⟨g2, g3.symm ▸ g4⟩ (by omega) m1 m3]
    refine ag_ok rfl (y' := si y 0 0 0) ?_ rfl g2
    unfold s_X5_covered_b14
    rw [gw1]
    dsimp only
    rw [m2, Option.bind_some]
  · rw [q1, q2, Option.bind_some, Option.bind_some, if_pos rfl, if_pos rfl]
    exact ag_no rfl (mt 1 (by decide)) (by decide) rfl rfl hR
theorem rel_bears {x y : XS} (hR : Rel x y) (a1 : Int32) : ∃ r v y', s_X4_bears x a1 = some r ∧ s_X5_bears y a1 = some (v, y') ∧ Ag (fun k => k = 2) 0 1 0 r v y' := by
  have mt : ∀ c, ¬ c = 0 → s_X5_bears_b14 a1 y c = some (0, si y 0 0 c) := fun c hc => by unfold s_X5_bears_b14; rw [gwb y hc]; rfl
  have p2 := p2_le hR.1.1
  unfold s_X4_bears s_X5_bears
  rcases set_c hR a1 with ⟨k, hk, rfl, q1, q2⟩ | ⟨q1, q2⟩
  · rw [q1, q2, Option.bind_some, Option.bind_some, if_neg one_ne, if_neg one_ne]
    obtain ⟨x', g1, g2, g3, g4⟩ := surv_c (thr hR 0)
    have hS : Srv x' (si y 0 0 0) := ⟨g2, g3.symm ▸ g4⟩
    obtain ⟨d, d1, d2, d3⟩ := nee_e g2
    rw [g1, Option.bind_some, all_x hS (by omega) d1 d2, Option.bind_some, bea_x hS (g3.symm ▸ hk) d1 d2]
    refine ag_ok rfl (y' := si y 0 0 0) ?_ rfl g2
    unfold s_X5_bears_b14
    rw [gw1]
    dsimp only
    rw [eno_y g2 (by omega) d1 d3, Option.bind_some, bea_y g2 (by omega) d1 d3]
  · rw [q1, q2, Option.bind_some, Option.bind_some, if_pos rfl, if_pos rfl]
    exact ag_no rfl (mt 1 (by decide)) (by decide) rfl rfl hR
theorem rel_least {x y : XS} (hR : Rel x y) : ∃ v x' y', s_X4_least x = some (v, x') ∧ s_X5_least y = some (v, y') ∧ Rel x' y' := by
  obtain ⟨x', g1, g2, g3, g4⟩ := surv_c (thr hR 0)
  have hS : Srv x' (si y 0 0 0) := ⟨g2, g3.symm ▸ g4⟩
  obtain ⟨d, d1, d2, d3⟩ := nee_e g2
  obtain ⟨u, u1, u2, u3⟩ := unf_x g2
  refine ⟨ov (rn (vd (si y 0 0 0) x'.2.2 d) (2 ^ x'.2.2)), x', si y 0 0 0, ?_, ?_, g2⟩
  · unfold s_X4_least
    rw [g1, Option.bind_some, u2, Option.bind_some, lst_x hS d1 d2 u1 u3]
  · unfold s_X5_least
    rw [lst_y g2 d1 d3, Option.bind_some]
theorem rel_leastAnew {x y : XS} (hR : Rel x y) : ∃ v x' y', s_X4_leastAnew x = some (v, x') ∧ s_X5_leastAnew y = some (v, y') ∧ Rel x' y' := by
  obtain ⟨x', g1, g2, g3, g4⟩ := surv_c (thr hR 0)
  have hS : Srv x' (si y 0 0 0) := ⟨g2, g3.symm ▸ g4⟩
  obtain ⟨d, d1, d2, d3⟩ := nee_e g2
  obtain ⟨u, u1, u2, u3⟩ := unf_x g2
  have p2 := p2_le g2.1.1
  refine ⟨aw (rn (vd (si y 0 0 0) x'.2.2 d) (2 ^ x'.2.2)), x', si y 0 0 0, ?_, ?_, g2⟩
  · unfold s_X4_leastAnew
    rw [g1, Option.bind_some, u2, Option.bind_some, anw_x hS d1 d2 u1 u3]
  · unfold s_X5_leastAnew
    rw [lst_y g2 d1 d3, Option.bind_some]
    cases ho : rn (vd (si y 0 0 0) x'.2.2 d) (2 ^ x'.2.2) with
    | none => rfl
    | some j =>
      have hj := rn_lt ho
      rw [if_neg (show ¬ ov (some j) = -1 from nI_ne_m1 (by omega)), show ov (some j) = nI j from rfl, bc_y (by omega), Option.bind_some]
      rfl
theorem rel_breaches {x y : XS} (hR : Rel x y) : ∃ v y', s_X4_breaches x = some v ∧ s_X5_breaches y = some (v, y') ∧ Rel x y' := by
  obtain ⟨v, -, v2, v3⟩ := bre_c (thr hR 0)
  refine ⟨_, si y 0 0 0, v2, ?_, thr hR 0⟩
  unfold s_X5_breaches
  rw [v3, Option.bind_some]
