/-! minutes -/
theorem cur_c {x y : XS} (hR : Rel x y) (B : Int32) : ∃ b, s_X4_isCurfewNow x = some (b2i b) ∧ s_X5_passOne y B = s_X5_passOne_b35 B y (b2i b) := by
  obtain ⟨-, -, -, -, -, -, -, -, -, -, -, -, -, -, -, -, -, -, -, ⟨c, -, -, c3, c4⟩, ⟨e, -, -, e3, e4⟩, -, -, ⟨f, m, m1, m2, f3, f4, m3, m4⟩, -⟩ := hR
  unfold s_X4_isCurfewNow s_X5_passOne
  rw [c3, c4, e3, e4, m3, m4]
  generalize nI m - nI m / 1440 * 1440 = T
  by_cases h1 : T < nI c
  · rw [if_pos h1, if_pos h1]; exact ⟨false, rfl, rfl⟩
  · rw [if_neg h1, if_neg h1]
    by_cases h2 : nI e ≤ T
    · rw [if_pos h2, if_pos h2]; exact ⟨false, rfl, rfl⟩
    · rw [if_neg h2, if_neg h2]; exact ⟨true, rfl, rfl⟩
def xSX (x : XS) (a : Int64) (P : Int32) : XS := sl (sl x 0 (x.2.1 0 + a)) 1 (x.2.1 1 + P.toInt64)
def xgo (x : XS) (a : Int64) (P : Int32) : XS := si (si (xSX x a P) 0 11 (x.1 0 11 + 1)) 0 15 (x.1 0 15 + 1)
def xno (x : XS) (a : Int64) (P : Int32) : XS := si (si (xSX x a P) 0 12 (x.1 0 12 + 1)) 0 15 (x.1 0 15 + 1)
/-- one minute -/
theorem min_c {x y : XS} (hR : Rel x y) (B : Int32) {lr : Int32} {m : Nat} (hm : y.1 0 29 = nI m) (hm2 : m < 99999) (hl : ∀ f, f < 2 ^ 30 → (lr ≤ nI f ↔ al (nsh y) x.2.2 = true ∨ al (okp y f) x.2.2 = false)) (hP : sm (tpw y) x.2.2 < 2 ^ 31) :
    ∃ b x' y', s_X4_isCurfewNow x = some (b2i b) ∧ (∀ a1 k i, s_X4_pass_b92 a1 k x B (nI (sm (ton y) x.2.2)) (nI (sm (tpw y) x.2.2)) lr i (if b = true then nI (sm (ton y) x.2.2) else 0) B (x.2.1 0) = k x' B (nI (sm (ton y) x.2.2)) (nI (sm (tpw y) x.2.2)) lr (i + 1)) ∧
      s_X5_passOne y B = some y' ∧ Rel x' y' ∧ x'.2.2 = x.2.2 ∧ (∀ k, ¬ k = 0 → y'.1 k = y.1 k) ∧ y'.1 0 0 = y.1 0 0 ∧ y'.1 0 29 = nI (m + 1) := by
  obtain ⟨b, b1, b2⟩ := cur_c hR B
  have hn := hR.1.1
  obtain ⟨-, c2⟩ := cnt_e hR
  obtain ⟨-, -, -, -, -, -, -, -, -, -, -, -, -, -, -, -, -, -, -, -, -, -, -, ⟨f, m', m1, m2, f3, f4, m3, m4⟩, e25, e26, e27, -⟩ := id hR
  have em : m' = m := (nI_eq (by omega) (by omega)).mp (m4.symm.trans hm)
  subst em
  obtain ⟨q, hq⟩ : ∃ q, q = (B + (if b = true then nI (sm (ton y) x.2.2) else 0)).toInt64 := ⟨_, rfl⟩
  obtain ⟨⟨z1, z2, z3⟩, w1, w2, w3, w4⟩ := one_l hR B f4 (z := sl y 0 (y.2.1 0 + q)) rfl
  have w1 : z1 = y.1 := w1
  subst w1
  have w2 : z2 0 = y.2.1 0 + q := w2
  have w3 : z2 1 = y.2.1 1 + lN (sm (tpw y) x.2.2) := w3
  have p1 : s_X5_passOne y B = some (fin1 (y.1, z2, z3) f (gon y x.2.2 f)) := by
    rw [b2]
    unfold s_X5_passOne_b35
    cases b with
    | false =>
      rw [if_pos (show b2i false = 0 by decide)]
      unfold s_X5_passOne_b54
      rw [if_neg (by decide)] at hq
      rw [← hq]
      exact w4
    | true =>
      rw [if_neg (show ¬ b2i true = 0 by decide), c2, Option.bind_some]
      unfold s_X5_passOne_b54
      rw [if_pos rfl] at hq
      rw [← hq]
      exact w4
  have hP64 : (nI (sm (tpw y) x.2.2)).toInt64 = lN (sm (tpw y) x.2.2) := nI_l hP
  obtain ⟨a1, a2, a3, a4, a5, a6, a7, a8, a9, a10, a11, a12, a13, a14, a15, a16, a17, a18, a19, a20, a21, a22, a23, a24, a25, a26, a27, hU⟩ := hR
  cases hg : gon y x.2.2 f with
  | true =>
    refine ⟨b, xgo x q (nI (sm (tpw y) x.2.2)), fin1 (y.1, z2, z3) f true, b1, fun a1 k i => ?_, by rw [p1, hg], ?_, rfl, fun k hk => ?_, rfl, ?_⟩
    · unfold s_X4_pass_b92
      rw [← hq, if_neg]
      · rfl
      · show ¬ lr ≤ x.1 0 11
        rw [f3, hl f (by omega)]
        unfold gon at hg
        intro h
        rcases h with h | h
        · rw [h] at hg; exact absurd hg (by simp)
        · rw [h, Bool.and_false] at hg; exact absurd hg (by decide)
    · refine rel_mk a1 a2 a3 a4 a5 a6 a7 a8 a9 a10 a11 a12 a13 a14 a15 a16 a17 a18 a19 a20 a21 a22 a23 ⟨f + 1, m' + 1, by omega, by omega, ?_, ?_, ?_, ?_⟩ ?_ ?_ ?_ hU
      · show x.1 0 11 + 1 = _
        rw [f3, nI_1]
      · show nI f + 1 = _
        rw [nI_1]
      · show x.1 0 15 + 1 = _
        rw [m3, nI_1]
      · show y.1 0 29 + 1 = _
        rw [m4, nI_1]
      · show x.1 0 12 = y.1 0 26 + 0
        rw [e25, Int32.add_zero]
      · show x.2.1 0 + q = z2 0
        rw [w2, e26]
      · show x.2.1 1 + (nI (sm (tpw y) x.2.2)).toInt64 = z2 1
        rw [w3, hP64, e27]
    · unfold fin1
      rw [si_other hk, si_other hk, si_other hk]
    · show y.1 0 29 + 1 = _
      rw [m4, nI_1]
  | false =>
    refine ⟨b, xno x q (nI (sm (tpw y) x.2.2)), fin1 (y.1, z2, z3) f false, b1, fun a1 k i => ?_, by rw [p1, hg], ?_, rfl, fun k hk => ?_, rfl, ?_⟩
    · unfold s_X4_pass_b92
      rw [← hq, if_pos]
      · rfl
      · show lr ≤ x.1 0 11
        rw [f3, hl f (by omega)]
        unfold gon at hg
        cases h1 : al (nsh y) x.2.2
        · rw [h1] at hg; exact Or.inr hg
        · exact Or.inl rfl
    · refine rel_mk a1 a2 a3 a4 a5 a6 a7 a8 a9 a10 a11 a12 a13 a14 a15 a16 a17 a18 a19 a20 a21 a22 a23 ⟨f, m' + 1, by omega, by omega, ?_, ?_, ?_, ?_⟩ ?_ ?_ ?_ hU
      · show x.1 0 11 = _
        rw [f3]
      · show nI f + 0 = _
        rw [Int32.add_zero]
      · show x.1 0 15 + 1 = _
        rw [m3, nI_1]
      · show y.1 0 29 + 1 = _
        rw [m4, nI_1]
      · show x.1 0 12 + 1 = y.1 0 26 + 1
        rw [e25]
      · show x.2.1 0 + q = z2 0
        rw [w2, e26]
      · show x.2.1 1 + (nI (sm (tpw y) x.2.2)).toInt64 = z2 1
        rw [w3, hP64, e27]
    · unfold fin1
      rw [si_other hk, si_other hk, si_other hk]
    · show y.1 0 29 + 1 = _
      rw [m4, nI_1]
theorem tpw_le {x y : XS} (hR : Rel x y) : sm (tpw y) x.2.2 ≤ 99990 := by
  have hn := hR.1.1
  have h : ∀ i, i ≤ x.2.2 → sm (tpw y) i ≤ i * 9999 := by
    intro i
    induction i with
    | zero => intro _; exact Nat.le_refl _
    | succ i ih =>
      intro hi
      have := ih (by omega)
      obtain ⟨pw, p1, p2, p3, p4⟩ := hR.2.2.2.2.2.2.2.2.1 i (by omega)
      have : tpw y i ≤ 9999 := by
        unfold tpw
        split
        · decide
        · rw [p4, nI_clamp (by omega)]; exact p2
      show sm (tpw y) i + tpw y i ≤ (i + 1) * 9999
      omega
  have := h _ (Nat.le_refl _)
  omega
theorem rel_pass {x y : XS} (hR : Rel x y) (a1 : Int32) : ∃ r v y', s_X4_pass x a1 = some r ∧ s_X5_pass y a1 = some (v, y') ∧ Ag (fun k => k = 2 ∨ k = 3) 0 1 2 r v y' := by
  have mt : ∀ c, ¬ c = 0 → s_X5_pass_b34 a1 y c = some (0, si y 0 0 c) := fun c hc => by unfold s_X5_pass_b34; rw [gwb y hc]; rfl
  have hR0 := thr hR 0
  obtain ⟨-, -, -, -, -, -, -, -, -, -, -, -, -, -, -, -, -, -, -, -, -, -, -, ⟨f, m, m1, m2, f3, f4, m3, m4⟩, -⟩ := id hR
  unfold s_X4_pass s_X5_pass
  rcases rngL 1 1440 (by decide) (by decide) a1 with ⟨d, d1, d2, rfl, p1, p2⟩ | ⟨p1, p2⟩
  · rw [p1, p2, Option.bind_some, if_neg one_ne, m3, m4, show (99999 : Int32) = nI 99999 from rfl, pk_sub m2, nI_add]
    by_cases hd : m + d ≤ 99999
    · rw [if_pos (nI_le (by omega) (by omega)), if_pos (nI_le hd (by omega))]
      obtain ⟨B, -, v2, v3⟩ := bre_c hR0
      obtain ⟨lr, l1, l2⟩ := last_e hR0
      rw [v2, Option.bind_some, (cnt_e hR0).1, Option.bind_some, pow_e hR0, Option.bind_some, l1, Option.bind_some]
      have key : ∃ x' v yy, s_X4_pass_b68 (nI d) FU x (nI B) (nI (sm (ton (si y 0 0 0)) x.2.2)) (nI (sm (tpw (si y 0 0 0)) x.2.2)) lr (nI 0) = some (0, v, x') ∧ s_X5_pass_b50 (nI d) FU (si y 0 0 0) (nI B) 0 = some (v, yy) ∧ yy.1 0 0 = 0 ∧ Rel x' yy := by
        refine lp (fun F xx i => s_X4_pass_b68 (nI d) F xx (nI B) (nI (sm (ton (si y 0 0 0)) x.2.2)) (nI (sm (tpw (si y 0 0 0)) x.2.2)) lr i) d (fun i xx => i ≤ d ∧ ∃ yy, Rel xx yy ∧ xx.2.2 = x.2.2 ∧ (∀ k, ¬ k = 0 → yy.1 k = (si y 0 0 0).1 k) ∧ yy.1 0 0 = 0 ∧ yy.1 0 29 = nI (m + i) ∧ s_X5_pass_b50 (nI d) FU (si y 0 0 0) (nI B) 0 = s_X5_pass_b50 (nI d) (FU - i) yy (nI B) (nI i)) (fun r => ∃ x' v yy, r = some (0, v, x') ∧ s_X5_pass_b50 (nI d) FU (si y 0 0 0) (nI B) 0 = some (v, yy) ∧ yy.1 0 0 = 0 ∧ Rel x' yy) ?_ ?_ d FU 0 x (by omega) (by unfold FU; omega) ⟨Nat.zero_le _, si y 0 0 0, hR0, rfl, fun _ _ => rfl, rfl, m4, rfl⟩
        · rintro F xx ⟨-, yy, r1, r2, r3, r4, r5, r6⟩
          refine ⟨xx, yy.1 0 29, yy, ?_, ?_, r4, r1⟩
          · show s_X4_pass_b68 (nI d) (F + 1) xx _ _ _ lr (nI d) = _
            obtain ⟨-, -, -, -, -, -, -, -, -, -, -, -, -, -, -, -, -, -, -, -, -, -, -, ⟨f', m', -, -, -, -, m3', m4'⟩, -⟩ := r1
            rw [s_X4_pass_b68, if_pos (nI_le (Nat.le_refl _) (by omega)), m3', m4']
          · rw [r6, fu_1 (by omega), s_X5_pass_b50, if_pos (nI_le (Nat.le_refl _) (by omega))]
        · rintro F i xx hi ⟨-, yy, r1, r2, r3, r4, r5, r6⟩ kk
          have t1 : ton yy = ton (si y 0 0 0) := funext fun p => by unfold ton; rw [r3 13 (by decide)]
          have t2 : tpw yy = tpw (si y 0 0 0) := funext fun p => by unfold tpw; rw [r3 13 (by decide), r3 8 (by decide)]
          have t3 : nsh yy = nsh (si y 0 0 0) := funext fun p => by unfold nsh; rw [r3 13 (by decide), r3 14 (by decide)]
          have t4 : okp yy = okp (si y 0 0 0) := funext fun f => funext fun p => by unfold okp; rw [t3, r3 15 (by decide)]
          obtain ⟨b, x', y', g1, g2, g3, g4, g5, g6, g7, g8⟩ := min_c r1 (nI B) (lr := lr) r5 (by omega) (by rw [t3, t4, r2]; exact l2) (by have := tpw_le r1; omega)
          rw [t1, t2, r2] at g2
          show (fun r => ∃ x' v yy, r = some (0, v, x') ∧ s_X5_pass_b50 (nI d) FU (si y 0 0 0) (nI B) 0 = some (v, yy) ∧ yy.1 0 0 = 0 ∧ Rel x' yy) (s_X4_pass_b68 (nI d) (F + 1) xx _ _ _ lr (nI i))
          have nx := kk x' ⟨hi, y', g4, g5.trans r2, fun k hk => (g6 k hk).trans (r3 k hk), g7.trans r4, g8, by
            rw [r6, fu_1 (by omega), s_X5_pass_b50, if_neg (nI_ge hi (by omega)), g3, Option.bind_some, nI_1]⟩
          rw [s_X4_pass_b68, if_neg (nI_ge hi (by omega)), g1, Option.bind_some]
          cases b with
          | false =>
            have g2' := g2 (nI d) (fun zx z_p2 z_p3 z_p4 z_p5 z_p6 => s_X4_pass_b68 (nI d) F zx z_p2 z_p3 z_p4 z_p5 z_p6) (nI i)
            rw [if_neg (by decide)] at g2'
            rw [if_pos (show b2i false = 0 by decide), g2']
            exact nx
          | true =>
            have g2' := g2 (nI d) (fun zx z_p2 z_p3 z_p4 z_p5 z_p6 => s_X4_pass_b68 (nI d) F zx z_p2 z_p3 z_p4 z_p5 z_p6) (nI i)
            rw [if_pos rfl] at g2'
            rw [if_neg (show ¬ b2i true = 0 by decide), g2']
            exact nx
      obtain ⟨x', v, yy, k1, k2, k3, k4⟩ := key
      refine ag_ok k1 (y' := yy) ?_ k3 k4
      unfold s_X5_pass_b34
      rw [gw1]
      dsimp only
      rw [v3, Option.bind_some, k2]
    · rw [if_neg (nI_ge (by omega) (by omega)), if_neg (nI_ge (by omega) (by omega))]
      exact ag_no rfl (mt 2 (by decide)) (by decide) (Or.inr rfl) rfl hR
  · rw [p1, p2, Option.bind_some, if_pos rfl]
    exact ag_no rfl (mt 1 (by decide)) (by decide) (Or.inl rfl) rfl hR
