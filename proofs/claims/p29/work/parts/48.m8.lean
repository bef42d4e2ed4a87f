/-! time -/
def ton (y : XS) (p : Nat) : Nat := if y.1 13 p = 0 then 0 else 1
def tpw (y : XS) (p : Nat) : Nat := if y.1 13 p = 0 then 0 else (y.1 8 p).toNatClampNeg
def tlo (y : XS) (a : Int32) (p : Nat) : Nat := if y.1 13 p = 0 then 0 else if y.1 9 p = a then (y.1 8 p).toNatClampNeg else 0
def nsh (y : XS) (p : Nat) : Bool := decide (y.1 13 p = 0) || decide (¬ y.1 14 p = 0)
def okp (y : XS) (f p : Nat) : Bool := nsh y p || decide (nI f + 1 ≤ y.1 15 p)
theorem cnt_e {x y : XS} (hR : Rel x y) : s_X4_countOfOn x = some (nI (sm (ton y) x.2.2)) ∧ s_X5_on y = some (nI (sm (ton y) x.2.2)) := by
  have hn := hR.1.1
  obtain ⟨v, rfl, h1, h2⟩ := lpFG hR (s_X4_countOfOn_b4 x) (s_X5_on_b4 y) (fun _ _ _ => rfl) (fun _ _ _ => rfl) (fun p s => s = nI (sm (ton y) p)) (by
    intro F G p s hp t2
    obtain ⟨b, b1, b2⟩ := on_c hR hp
    show ∃ s', s' = nI (sm (ton y) p + ton y p) ∧ (if x.1 27 p = 0 then _ else _) = _ ∧ chk 10 (nI p) (if y.1 13 (nI p).toNatClampNeg = 0 then _ else _) = _
    rw [chk_nI (by omega) (by decide), nI_clamp (by omega)]
    unfold ton
    rw [b1, b2]
    cases b with
    | false =>
      refine ⟨s, by rw [if_pos (show b2i false = 0 by decide), Nat.add_zero]; exact t2, if_pos (show b2i false = 0 by decide), ?_⟩
      rw [if_pos (show b2i false = 0 by decide), Int32.add_zero]
    | true =>
      exact ⟨s + 1, by rw [if_neg (show ¬ b2i true = 0 by decide), ← nI_1, t2]; rfl, if_neg (show ¬ b2i true = 0 by decide), if_neg (show ¬ b2i true = 0 by decide)⟩) 0 rfl
  exact ⟨h1, h2⟩
theorem loa_e {x y : XS} (hR : Rel x y) (a : Int32) : s_X4_loadOf x a = some (nI (sm (tlo y a) x.2.2)) := by
  obtain ⟨hn, h2, h8⟩ := hR.1
  refine lpF hn h2 (s_X4_loadOf_b4 x a) (K := fun s => some s) (fun _ _ _ => rfl) (fun p s => s = nI (sm (tlo y a) p)) (fun r => r = some (nI (sm (tlo y a) x.2.2))) (fun s h => by rw [h]) ?_ 0 rfl
  rintro F p s hp rfl kk
  obtain ⟨b, b1, b2⟩ := on_c hR hp
  obtain ⟨pw, p1, p2, p3, p4⟩ := hR.2.2.2.2.2.2.2.2.1 p hp
  obtain ⟨ph, g1, g2, g3, g4⟩ := hR.2.2.2.2.2.2.2.2.2.1 p hp
  show (if x.1 27 p = 0 then _ else (if x.1 23 p = a then _ else _)) = _
  have kk : ∀ s', s' = nI (sm (tlo y a) p + tlo y a p) → s_X4_loadOf_b4 x a F s' (nI p + 1) = _ := fun s' h => kk s' h
  unfold tlo at kk
  rw [b2, g4, p4] at kk
  rw [b1, g3, p3]
  cases b with
  | false =>
    rw [if_pos (show b2i false = 0 by decide)]
    exact kk _ (by rw [if_pos (show b2i false = 0 by decide), Nat.add_zero]; rfl)
  | true =>
    rw [if_neg (show ¬ b2i true = 0 by decide)]
    by_cases g : nI ph = a
    · rw [if_pos g]
      exact kk _ (by rw [if_neg (show ¬ b2i true = 0 by decide), if_pos g, nI_clamp (by omega), nI_add]; rfl)
    · rw [if_neg g]
      exact kk _ (by rw [if_neg (show ¬ b2i true = 0 by decide), if_neg g, Nat.add_zero]; rfl)
theorem sm_3 {x y : XS} (hR : Rel x y) : ∀ i, i ≤ x.2.2 → sm (tlo y 0) i + sm (tlo y 1) i + sm (tlo y 2) i = sm (tpw y) i
  | 0, _ => rfl
  | i + 1, hi => by
    have ih := sm_3 hR i (by omega)
    obtain ⟨ph, g1, g2, g3, g4⟩ := hR.2.2.2.2.2.2.2.2.2.1 i (by omega)
    have e : tlo y 0 i + tlo y 1 i + tlo y 2 i = tpw y i := by
      unfold tlo tpw
      rw [g4]
      by_cases h : y.1 13 i = 0
      · rw [if_pos h, if_pos h, if_pos h, if_pos h]
      · rw [if_neg h, if_neg h, if_neg h, if_neg h]
        rcases (show ph = 0 ∨ ph = 1 ∨ ph = 2 by omega) with rfl | rfl | rfl
        · rw [if_pos (by decide), if_neg (by decide), if_neg (by decide)]; rfl
        · rw [if_neg (by decide), if_pos (by decide), if_neg (by decide)]; omega
        · rw [if_neg (by decide), if_neg (by decide), if_pos (by decide)]; omega
    show (sm (tlo y 0) i + tlo y 0 i) + (sm (tlo y 1) i + tlo y 1 i) + (sm (tlo y 2) i + tlo y 2 i) = sm (tpw y) i + tpw y i
    omega
theorem pow_e {x y : XS} (hR : Rel x y) : s_X4_powerOfOn x = some (nI (sm (tpw y) x.2.2)) := by
  unfold s_X4_powerOfOn
  rw [loa_e hR, Option.bind_some, loa_e hR, Option.bind_some, loa_e hR, Option.bind_some, nI_add, nI_add, sm_3 hR _ (Nat.le_refl _)]
theorem shi_w {y w : XS} (h : w.1 = y.1) {p : Nat} (hp : p < 10) : s_X5_shines w (nI p) = some (b2i (!nsh y p)) := by
  unfold s_X5_shines nsh
  rw [chk_nI hp (by decide), chk_nI hp (by decide), nI_clamp (by omega), h]
  by_cases h1 : y.1 13 p = 0
  · rw [if_pos h1, decide_eq_true h1]; rfl
  · rw [if_neg h1, decide_eq_false h1]
    by_cases h2 : y.1 14 p = 0
    · rw [if_pos h2, decide_eq_false (show ¬ ¬ y.1 14 p = 0 from fun q => q h2)]; rfl
    · rw [if_neg h2, decide_eq_true h2]; rfl
theorem last_e {x y : XS} (hR : Rel x y) : ∃ lr, s_X4_lastFrameOfAll x = some lr ∧ ∀ f, f < 2 ^ 30 → (lr ≤ nI f ↔ al (nsh y) x.2.2 = true ∨ al (okp y f) x.2.2 = false) := by
  obtain ⟨hn, h2, h8⟩ := hR.1
  refine lpF hn h2 (s_X4_lastFrameOfAll_b4 x) (K := fun s => some s) (fun _ _ _ => rfl) (fun p s => (s = -1 ∧ al (nsh y) p = true) ∨ ∃ m, m ≤ 99999 ∧ s = nI m ∧ al (nsh y) p = false ∧ ∀ f, f < 2 ^ 30 → (m ≤ f ↔ al (okp y f) p = false)) (fun r => ∃ lr, r = some lr ∧ ∀ f, f < 2 ^ 30 → (lr ≤ nI f ↔ al (nsh y) x.2.2 = true ∨ al (okp y f) x.2.2 = false)) ?_ ?_ (-1) (Or.inl ⟨rfl, rfl⟩)
  · rintro s (⟨rfl, h⟩ | ⟨m, h1, rfl, h3, h4⟩)
    · refine ⟨-1, rfl, fun f hf => ⟨fun _ => Or.inl h, fun _ => ?_⟩⟩
      apply Int32.le_iff_toInt_le.mpr
      rw [nI_toInt (by omega)]
      have z : (-1 : Int32).toInt = -1 := rfl
      omega
    · refine ⟨nI m, rfl, fun f hf => ?_⟩
      rw [nI_leI (by omega) (by omega), h4 f hf, h3]
      exact ⟨fun q => Or.inr q, fun q => by rcases q with q | q; exact absurd q (by decide); exact q⟩
  · intro F p s hp hI kk
    obtain ⟨b, b1, -⟩ := shi_c hR hp
    have b2 := shi_w (y := y) (w := y) rfl (show p < 10 by omega)
    obtain ⟨b', c1, c2⟩ := shi_c hR hp
    have eb : b' = !nsh y p := by
      rw [b2] at c2
      revert c2
      cases b' <;> cases nsh y p <;> intro c2 <;> first | rfl | exact absurd (Option.some.inj c2) (by decide)
    obtain ⟨rd, r1, r2, r3, r4⟩ := hR.2.2.2.2.2.2.2.2.2.2.2.2.2.2.1 p hp
    show (fun r => ∃ lr, r = some lr ∧ ∀ f, f < 2 ^ 30 → (lr ≤ nI f ↔ al (nsh y) x.2.2 = true ∨ al (okp y f) x.2.2 = false)) ((s_X0_shines x p).bind _)
    rw [c1, Option.bind_some, eb, r3]
    cases hs : nsh y p with
    | true =>
      rw [if_pos (show b2i (!true) = 0 by decide)]
      refine kk s ?_
      rcases hI with ⟨h1, h3⟩ | ⟨m, h1, h3, h4, h5⟩
      · exact Or.inl ⟨h1, by show (al _ p && nsh y p) = true; rw [h3, hs]; rfl⟩
      · refine Or.inr ⟨m, h1, h3, by show (al _ p && nsh y p) = false; rw [h4]; rfl, fun f hf => ?_⟩
        rw [h5 f hf]
        show _ ↔ (al _ p && okp y f p) = false
        rw [show okp y f p = true by unfold okp; rw [hs]; rfl, Bool.and_true]
    | false =>
      rw [if_neg (show ¬ b2i (!false) = 0 by decide)]
      have ns : al (nsh y) (p + 1) = false := by show (al _ p && nsh y p) = false; rw [hs, Bool.and_false]
      have ok : ∀ f, f < 2 ^ 30 → (okp y f p = false ↔ rd ≤ f) := by
        intro f hf
        unfold okp
        rw [hs, Bool.false_or, r4, nI_1, decide_eq_false_iff_not, nI_leI (by omega) (by omega)]
        omega
      rcases hI with ⟨h1, h3⟩ | ⟨m, h1, h3, h4, h5⟩
      · rw [if_pos h1]
        refine kk _ (Or.inr ⟨rd, r2, rfl, ns, fun f hf => ?_⟩)
        show _ ↔ (al _ p && okp y f p) = false
        have : al (okp y f) p = true := (al_iff _ p).mpr (fun i hi => by unfold okp; rw [(al_iff _ p).mp h3 i hi]; rfl)
        rw [this, Bool.true_and, ok f hf]
      · rw [if_neg (show ¬ s = -1 by rw [h3]; exact nI_ne_m1 (by omega)), h3]
        have both : ∀ f, f < 2 ^ 30 → (al (okp y f) (p + 1) = false ↔ m ≤ f ∨ rd ≤ f) := by
          intro f hf
          show (al _ p && okp y f p) = false ↔ _
          rw [h5 f hf, ← ok f hf, Bool.and_eq_false_iff]
        by_cases hm : m ≤ rd
        · rw [if_pos (nI_le hm (by omega))]
          exact kk _ (Or.inr ⟨m, h1, rfl, ns, fun f hf => by rw [both f hf]; omega⟩)
        · rw [if_neg (nI_ge (by omega) (by omega))]
          exact kk _ (Or.inr ⟨rd, r2, rfl, ns, fun f hf => by rw [both f hf]; omega⟩)
def gon (y : XS) (n f : Nat) : Bool := !al (nsh y) n && al (okp y f) n
def fin1 (z : XS) (f : Nat) (go : Bool) : XS := si (si (si z 0 25 (nI f + b2i go)) 0 26 (z.1 0 26 + b2i (!go))) 0 29 (z.1 0 29 + 1)
theorem one_l {x y : XS} (hR : Rel x y) (B : Int32) {f : Nat} (hf : y.1 0 25 = nI f) {z : XS} (hz : z.1 = y.1) : ∃ z', z'.1 = y.1 ∧ z'.2.1 0 = z.2.1 0 ∧ z'.2.1 1 = z.2.1 1 + lN (sm (tpw y) x.2.2) ∧ s_X5_passOne_b68 B FU z 0 0 0 = some (fin1 z' f (gon y x.2.2 f)) := by
  obtain ⟨hn, h2, h8⟩ := hR.1
  refine lp (fun F (s : XS × Int32 × Int32) i => s_X5_passOne_b68 B F s.1 s.2.1 s.2.2 i) x.2.2 (fun i s => s.1.1 = y.1 ∧ s.1.2.1 0 = z.2.1 0 ∧ s.1.2.1 1 = z.2.1 1 + lN (sm (tpw y) i) ∧ s.2.1 = b2i (!al (nsh y) i) ∧ s.2.2 = b2i (!al (okp y f) i)) (fun r => ∃ z', z'.1 = y.1 ∧ z'.2.1 0 = z.2.1 0 ∧ z'.2.1 1 = z.2.1 1 + lN (sm (tpw y) x.2.2) ∧ r = some (fin1 z' f (gon y x.2.2 f))) ?_ ?_ x.2.2 FU 0 (z, 0, 0) (by omega) (by unfold FU; omega) ⟨hz, rfl, (Int64.add_zero _).symm, rfl, rfl⟩
  · rintro F ⟨w, s, t⟩ ⟨w1, w2, w3, w4, w5⟩
    have w1 : w.1 = y.1 := w1
    have w4 : s = _ := w4
    have w5 : t = _ := w5
    subst w4 w5
    refine ⟨w, w1, w2, w3, ?_⟩
    show s_X5_passOne_b68 B (F + 1) w _ _ (nI x.2.2) = _
    rw [s_X5_passOne_b68, w1, h8, if_pos (nI_le (Nat.le_refl _) (by omega))]
    unfold fin1 gon
    rw [hf, w1]
    cases al (nsh y) x.2.2 <;> cases al (okp y f) x.2.2
    · show s_X5_passOne_b189 B w 1 1 0 (nI f) = _
      unfold s_X5_passOne_b189 s_X5_passOne_b212
      rw [if_neg one_ne, if_neg one_ne]
      show some (si (si (si w 0 25 (nI f + 0)) 0 26 (w.1 0 26 + 1)) 0 29 (w.1 0 29 + 1)) = _
      rw [w1]
      rfl
    · show s_X5_passOne_b189 B w 1 0 1 (nI f) = _
      unfold s_X5_passOne_b189 s_X5_passOne_b212
      rw [if_neg one_ne, if_pos rfl]
      show some (si (si (si w 0 25 (nI f + 1)) 0 26 (w.1 0 26 + 0)) 0 29 (w.1 0 29 + 1)) = _
      rw [w1]
      rfl
    · show s_X5_passOne_b189 B w 0 1 0 (nI f) = _
      unfold s_X5_passOne_b189 s_X5_passOne_b212
      rw [if_pos rfl]
      show some (si (si (si w 0 25 (nI f + 0)) 0 26 (w.1 0 26 + 1)) 0 29 (w.1 0 29 + 1)) = _
      rw [w1]
      rfl
    · show s_X5_passOne_b189 B w 0 0 0 (nI f) = _
      unfold s_X5_passOne_b189 s_X5_passOne_b212
      rw [if_pos rfl]
      show some (si (si (si w 0 25 (nI f + 0)) 0 26 (w.1 0 26 + 1)) 0 29 (w.1 0 29 + 1)) = _
      rw [w1]
      rfl
  · rintro F p ⟨w, s, t⟩ hp ⟨w1, w2, w3, w4, w5⟩ kk
    have w1 : w.1 = y.1 := w1
    have w3 : w.2.1 1 = _ := w3
    have w4 : s = _ := w4
    have w5 : t = _ := w5
    subst w4 w5
    obtain ⟨pw, p1, p2, p3, p4⟩ := hR.2.2.2.2.2.2.2.2.1 p hp
    show ∃ z', _ ∧ _ ∧ _ ∧ s_X5_passOne_b68 B (F + 1) w _ _ (nI p) = _
    have e8 : w.1 0 8 = nI x.2.2 := by rw [w1]; exact h8
    have h126 : ∀ v : XS, v.1 = y.1 → v.2.1 0 = z.2.1 0 → v.2.1 1 = z.2.1 1 + lN (sm (tpw y) p + tpw y p) → ∃ z', z'.1 = y.1 ∧ z'.2.1 0 = z.2.1 0 ∧ z'.2.1 1 = z.2.1 1 + lN (sm (tpw y) x.2.2) ∧ s_X5_passOne_b126 B (fun zx z_p3 z_p4 z_p5 => s_X5_passOne_b68 B F zx z_p3 z_p4 z_p5) v (b2i (!al (okp y f) p)) (nI p) (b2i (!(al (nsh y) p && nsh y p))) = some (fin1 z' f (gon y x.2.2 f)) := by
      intro v v1 v2 v3
      have kk2 : ∃ z', z'.1 = y.1 ∧ z'.2.1 0 = z.2.1 0 ∧ z'.2.1 1 = z.2.1 1 + lN (sm (tpw y) x.2.2) ∧ s_X5_passOne_b68 B F v (b2i (!(al (nsh y) p && nsh y p))) (b2i (!(al (okp y f) p && okp y f p))) (nI p + 1) = some (fin1 z' f (gon y x.2.2 f)) := kk (v, _, _) ⟨v1, v2, v3, rfl, rfl⟩
      unfold s_X5_passOne_b126
      cases ho : al (okp y f) p with
      | false =>
        rw [ho] at kk2
        rw [if_neg (show ¬ b2i (!false) = 0 by decide)]
        exact kk2
      | true =>
        rw [ho, Bool.true_and] at kk2
        rw [if_pos (show b2i (!true) = 0 by decide), shi_w v1 (by omega), Option.bind_some]
        unfold okp at kk2
        cases hs : nsh y p with
        | true =>
          rw [hs] at kk2
          rw [if_pos (show b2i (!true) = 0 by decide)]
          exact kk2
        | false =>
          rw [hs, Bool.false_or] at kk2
          rw [if_neg (show ¬ b2i (!false) = 0 by decide), chk_nI (by omega) (by decide), nI_clamp (by omega), v1, hf]
          by_cases hr : nI f + 1 ≤ y.1 15 p
          · rw [decide_eq_true hr] at kk2
            rw [if_pos hr]
            exact kk2
          · rw [decide_eq_false hr] at kk2
            rw [if_neg hr]
            exact kk2
    have h104 : ∀ q : Int64, z.2.1 1 + lN (sm (tpw y) p) + q = z.2.1 1 + lN (sm (tpw y) p + tpw y p) → ∃ z', z'.1 = y.1 ∧ z'.2.1 0 = z.2.1 0 ∧ z'.2.1 1 = z.2.1 1 + lN (sm (tpw y) x.2.2) ∧ s_X5_passOne_b104 B (fun zx z_p3 z_p4 z_p5 => s_X5_passOne_b68 B F zx z_p3 z_p4 z_p5) w (b2i (!al (nsh y) p)) (b2i (!al (okp y f) p)) (nI p) q (w.2.1 1) = some (fin1 z' f (gon y x.2.2 f)) := by
      intro q hq
      have k2 := h126 (sl w 1 (w.2.1 1 + q)) w1 w2 (by show w.2.1 1 + q = _; rw [w3, hq])
      unfold s_X5_passOne_b104
      cases ha : al (nsh y) p with
      | false =>
        rw [ha] at k2
        rw [if_neg (show ¬ b2i (!false) = 0 by decide)]
        exact k2
      | true =>
        rw [ha, Bool.true_and] at k2
        rw [if_pos (show b2i (!true) = 0 by decide), shi_w (show (sl w 1 (w.2.1 1 + q)).1 = y.1 from w1) (by omega), Option.bind_some]
        cases hs : nsh y p with
        | true => rw [hs] at k2; rw [if_pos (show b2i (!true) = 0 by decide)]; exact k2
        | false => rw [hs] at k2; rw [if_neg (show ¬ b2i (!false) = 0 by decide)]; exact k2
    rw [s_X5_passOne_b68, e8, if_neg (nI_ge hp (by omega)), chk_nI (by omega) (by decide), chk_nI (by omega) (by decide), nI_clamp (by omega), w1]
    by_cases ho : y.1 13 p = 0
    · rw [if_pos ho]
      exact h104 0 (by unfold tpw; rw [if_pos ho, Nat.add_zero, Int64.add_zero])
    · rw [if_neg ho, p4]
      refine h104 _ ?_
      unfold tpw
      rw [if_neg ho, p4, nI_clamp (by omega), nI_l (by omega), Int64.add_assoc, lN_add]
