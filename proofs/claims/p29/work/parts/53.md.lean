/-! a new projector -/
theorem RF.snoc {n lo hi d : Nat} {f g : Nat → Int32} {a b : Int32} (h : RF n lo hi f g) (h1 : lo ≤ d) (h2 : d ≤ hi) (ha : a = nI d) (hb : b = nI d) : RF (n + 1) lo hi (upd f n a) (upd g n b) := by
  intro c hc
  by_cases e : c = n
  · subst e; exact ⟨d, h1, h2, by rw [pk_us, ha], by rw [pk_us, hb]⟩
  · rw [pk_un e, pk_un e]; exact h c (by omega)
theorem RF.zero {n hi : Nat} {f g : Nat → Int32} (h : RF n 0 hi f g) (hg : g n = 0) : RF (n + 1) 0 hi (upd f n 0) g := by
  intro c hc
  by_cases e : c = n
  · subst e; exact ⟨0, Nat.le_refl _, Nat.zero_le _, by rw [pk_us]; rfl, hg⟩
  · rw [pk_un e]; exact h c (by omega)
theorem RA.snoc {n : Nat} {f t f' t' : Nat → Int32} (h : RA n f t f' t') (ht : t' n = -1) : RA (n + 1) (upd f n (-1)) (upd t n (-1)) f' t' := by
  intro q hq
  by_cases e : q = n
  · subst e; exact Or.inl ⟨pk_us, pk_us, ht⟩
  · rw [pk_un e, pk_un e]; exact h q (by omega)
theorem RZ.snoc {n : Nat} {t o f r : Nat → Int32} (h : RZ n t o f r) : RZ (n + 1) t o f r := fun p h1 h2 => h p (by omega) h2
theorem rel_projector {x y : XS} (hR : Rel x y) (a1 a2 a3 a4 a5 : Int32) : ∃ r v y', s_X4_projector x a1 a2 a3 a4 a5 = some r ∧ s_X5_projector y a1 a2 a3 a4 a5 = some (v, y') ∧ Ag (fun k => k = 1 ∨ k = 2 ∨ k = 3) 1 2 3 r v y' := by
  have mt : ∀ c, ¬ c = 0 → s_X5_projector_b122 a1 a2 a3 a4 a5 y c = some (0, si y 0 0 c) := fun c hc => by unfold s_X5_projector_b122; rw [gwb y hc]; rfl
  have no2 : ∀ q7 q0, s_X5_projector_b91 a1 a2 a3 a4 a5 y 0 q7 q0 = some (0, si y 0 0 1) := fun q7 q0 => by unfold s_X5_projector_b91; rw [if_pos rfl]; exact mt 1 (by decide)
  have no3 : ∀ q0, s_X5_projector_b91 a1 a2 a3 a4 a5 y 1 0 q0 = some (0, si y 0 0 2) := fun q0 => by unfold s_X5_projector_b91; rw [if_neg one_ne, if_pos rfl]; exact mt 2 (by decide)
  have no4 : s_X5_projector_b91 a1 a2 a3 a4 a5 y 1 1 0 = some (0, si y 0 0 3) := by unfold s_X5_projector_b91; rw [if_neg one_ne, if_pos rfl]; exact mt 3 (by decide)
  have h44 : ∀ v, s_X5_projector_b44 a1 a2 a3 a4 a5 y 0 v = some (0, si y 0 0 1) := fun v => by unfold s_X5_projector_b44; rw [if_pos rfl]; exact no2 _ _
  unfold s_X4_projector s_X5_projector
  rcases cell_c a1 a2 with ⟨c, r, hc, h3, hr, rfl, rfl, q1, q2, q3⟩ | ⟨q, q3⟩
  · rw [q1, q2, q3, Option.bind_some, Option.bind_some, Option.bind_some, if_neg one_ne, if_neg one_ne]
    obtain ⟨d, ms, d1, m1, d2, m2, f2, z, -⟩ := hR.2.2.2.2.1 c r hc hr
    obtain ⟨hn, hx2, h8⟩ := hR.1
    have b44 : ∀ v, s_X5_projector_b44 (nI c) (nI r) a3 a4 a5 y 1 v = if nI d = 0 then (if nI ms = 0 then (if 10 ≤ nI x.2.2 then s_X5_projector_b91 (nI c) (nI r) a3 a4 a5 y 1 v 0 else s_X5_projector_b91 (nI c) (nI r) a3 a4 a5 y 1 v 1) else s_X5_projector_b91 (nI c) (nI r) a3 a4 a5 y 1 v 0) else s_X5_projector_b91 (nI c) (nI r) a3 a4 a5 y 1 v 0 := by
      intro v
      unfold s_X5_projector_b44
      rw [if_neg one_ne, at_c, Option.bind_some, chk_nI (by omega) (by decide), Option.bind_some, chk_nI (by omega) (by decide), nI_clamp (by omega), d2, m2, h8]
    have bad : s_X5_projector_b44 (nI c) (nI r) a3 a4 a5 y 1 0 = some (0, si y 0 0 2) := by
      rw [b44, no3, no3]
      split <;> first | rfl | (split <;> first | rfl | (split <;> rfl))
    rcases rngL 1 9999 (by decide) (by decide) a3 with ⟨d3, f3, e3, rfl, u1, u2⟩ | ⟨u1, u2⟩
    · rw [u1, u2, Option.bind_some, if_neg one_ne]
      rcases phase_c a4 with ⟨k, hk, rfl, k1, k2⟩ | ⟨k1, k2⟩
      · rw [k1, k2, Option.bind_some, Option.bind_some, if_neg one_ne, if_neg one_ne]
        rcases rngL 1 11 (by decide) (by decide) a5 with ⟨d5, f5, e5, rfl, w1, w2⟩ | ⟨w1, w2⟩
        · rw [w1, w2, Option.bind_some, if_neg one_ne, cont hc hr, Option.bind_some, f2, b44]
          by_cases hm : ms = 0
          · subst hm
            rw [if_pos rfl]
            by_cases hd : d = 0
            · subst hd
              rw [if_pos (show nI 0 = 0 from rfl), if_pos (show nI 0 = 0 from rfl), if_pos (show nI 0 = 0 from rfl), hx2, if_neg (nI_pos (by omega))]
              by_cases hn10 : x.2.2 < 10
              · rw [if_pos (ltL 10 hn10 (by decide)), if_neg (geL 10 hn10 (by decide)), put_c hc hr, Option.bind_some, chk_nI hn10 (by decide), nI_clamp (by omega), if_pos (show x.2.2 = (si x 8 (c * 12 + r) 4).2.2 from rfl)]
                let y1 := si (si y 0 0 0) 5 (16 * r + c) 1
                let y6 := si (si (si (si (si y1 6 x.2.2 (nI c)) 7 x.2.2 (nI r)) 8 x.2.2 (nI d3)) 9 x.2.2 (nI k)) 10 x.2.2 (nI d5)
                refine ag_ok (v := nI x.2.2) (x' := pjX (si x 8 (c * 12 + r) 4) (nI c) (nI r) (nI d3) (nI k) (nI d5) (nI x.2.2 + 1)) (y' := si y6 0 8 (nI x.2.2 + 1)) rfl ?_ rfl ?_
                · have e0 : y1.1 0 8 = nI x.2.2 := h8
                  have e1 : (si y1 6 x.2.2 (nI c)).1 0 8 = nI x.2.2 := h8
                  have e2 : (si (si y1 6 x.2.2 (nI c)) 7 x.2.2 (nI r)).1 0 8 = nI x.2.2 := h8
                  have e3 : (si (si (si y1 6 x.2.2 (nI c)) 7 x.2.2 (nI r)) 8 x.2.2 (nI d3)).1 0 8 = nI x.2.2 := h8
                  have e4 : (si (si (si (si y1 6 x.2.2 (nI c)) 7 x.2.2 (nI r)) 8 x.2.2 (nI d3)) 9 x.2.2 (nI k)).1 0 8 = nI x.2.2 := h8
                  have e5 : y6.1 0 8 = nI x.2.2 := h8
                  have e6 : (si y6 0 8 (nI x.2.2 + 1)).1 0 8 - 1 = nI x.2.2 := by
                    show nI x.2.2 + 1 - 1 = nI x.2.2
                    rw [nI_1, nI_pred]
                  unfold s_X5_projector_b91
                  rw [if_neg one_ne, if_neg one_ne, if_neg one_ne]
                  unfold s_X5_projector_b122
                  rw [gw1]
                  dsimp only
                  rw [at_c, Option.bind_some, chk_nI (by omega) (by decide), nI_clamp (show 16 * r + c < 2 ^ 31 by omega)]
                  rw [show zb (1 : Int32) = fun (B : Option (Int32 × XS)) => B from funext fun B => by unfold zb; rw [if_pos (Or.inr rfl)]]
                  dsimp only
                  rw [show si (si y 0 0 0) 5 (16 * r + c) 1 = y1 from rfl, e0, chk_nI (by omega) (by decide), nI_clamp (by omega), e1, chk_nI (by omega) (by decide), nI_clamp (by omega), e2, chk_nI (by omega) (by decide), nI_clamp (by omega), e3, chk_nI (by omega) (by decide), nI_clamp (by omega), e4, chk_nI (by omega) (by decide), nI_clamp (by omega)]
                  rw [show si (si (si (si (si y1 6 x.2.2 (nI c)) 7 x.2.2 (nI r)) 8 x.2.2 (nI d3)) 9 x.2.2 (nI k)) 10 x.2.2 (nI d5) = y6 from rfl, e5, e6]
                · obtain ⟨a1, a2, a3, a4, a5, a6, a7, a8, a9, a10, a11, a12, a13, a14, a15, a16, a17, a18, a19, a20, a21, a22, a23, a24, a25, a26, a27, hU⟩ := hR
                  obtain ⟨z1, z2, z3, z4⟩ := a16 x.2.2 (Nat.le_refl _) hn10
                  exact rel_mk ⟨hn10, nI_1 _, nI_1 _⟩ a2 a3 a4 (a5.mast hc hr h3 d2) a6 (a7.snoc (Nat.zero_le _) (by omega) rfl rfl) (a8.snoc h3 (by omega) rfl rfl) (a9.snoc f3 e3 rfl rfl) (a10.snoc (Nat.zero_le _) (by omega) rfl rfl) (a11.snoc f5 e5 rfl rfl) (a12.snoc z1) (a13.zero z2) (a14.zero z3) (a15.zero z4) a16.snoc a17 a18 a19 a20 a21 a22 a23 a24 a25 a26 a27 hU
              · rw [if_neg (nltL 10 (by omega) (by omega)), if_pos (leLa 10 (by omega) (by omega)), no4]
                exact ag_no rfl rfl (by decide) (Or.inr (Or.inr rfl)) rfl hR
            · rw [if_neg (iL 0 (by omega) (by decide) hd), if_neg (iL 0 (by omega) (by decide) hd), no4]
              exact ag_no rfl rfl (by decide) (Or.inr (Or.inr rfl)) rfl hR
          · have hm1 : ms = 1 := by omega
            subst hm1
            have := z rfl
            subst this
            rw [if_neg hm, if_neg (show ¬ (4 : Int32) = 0 by decide), if_pos (show nI 0 = 0 from rfl), if_neg (show ¬ nI 1 = 0 by decide), no4]
            exact ag_no rfl rfl (by decide) (Or.inr (Or.inr rfl)) rfl hR
        · rw [w1, w2, Option.bind_some, if_pos rfl, bad]
          exact ag_no rfl rfl (by decide) (Or.inr (Or.inl rfl)) rfl hR
      · rw [k1, k2, Option.bind_some, Option.bind_some, if_pos rfl, if_pos rfl, bad]
        exact ag_no rfl rfl (by decide) (Or.inr (Or.inl rfl)) rfl hR
    · rw [u1, u2, Option.bind_some, if_pos rfl, bad]
      exact ag_no rfl rfl (by decide) (Or.inr (Or.inl rfl)) rfl hR
  · rw [q3, Option.bind_some]
    have e : ∀ w : Option Int32, (∃ v, w = some v) → True := fun _ _ => trivial
    have M : ((s_X5_in a3 1 9999).bind fun v_23 => if v_23 = 0 then s_X5_projector_b44 a1 a2 a3 a4 a5 y 0 0 else (s_X5_in a4 0 2).bind fun v_25 => if v_25 = 0 then s_X5_projector_b44 a1 a2 a3 a4 a5 y 0 0 else (s_X5_in a5 1 11).bind fun v_27 => if v_27 = 0 then s_X5_projector_b44 a1 a2 a3 a4 a5 y 0 0 else s_X5_projector_b44 a1 a2 a3 a4 a5 y 0 1) = some (0, si y 0 0 1) := by
      rw [h44, h44]
      have iv : ∀ a b c : Int32, s_X5_in a b c = some 0 ∨ s_X5_in a b c = some 1 := by
        intro a b c
        unfold s_X5_in
        split
        · exact Or.inl rfl
        · split
          · exact Or.inl rfl
          · exact Or.inr rfl
      rcases iv a3 1 9999 with h | h <;> rw [h, Option.bind_some]
      · rw [if_pos rfl]
      · rw [if_neg one_ne]
        rcases iv a4 0 2 with h | h <;> rw [h, Option.bind_some]
        · rw [if_pos rfl]
        · rw [if_neg one_ne]
          rcases iv a5 1 11 with h | h <;> rw [h, Option.bind_some]
          · rw [if_pos rfl]
          · rw [if_neg one_ne]
    rw [M]
    rcases q with q1 | ⟨q1, q2⟩
    · rw [q1, Option.bind_some, if_pos rfl]
      exact ag_no rfl rfl (by decide) (Or.inl rfl) rfl hR
    · rw [q1, q2, Option.bind_some, Option.bind_some, if_neg one_ne, if_pos rfl]
      exact ag_no rfl rfl (by decide) (Or.inl rfl) rfl hR
