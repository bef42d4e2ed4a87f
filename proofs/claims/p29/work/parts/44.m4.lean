/-! the survey of lights, and how a column is covered -/
def Lm (y : XS) (p c : Nat) : Nat := ((s_X5_lightOf y (nI p) (nI c)).getD 0).toNatClampNeg
def Fm (y : XS) (p c : Nat) : Bool := decide (¬ (s_X5_isSharpAt y (nI p) (nI c)).getD 0 = 0)
def Am (y : XS) (n p c : Nat) : Nat := if p < n ∧ y.1 14 p = 0 then Lm y p c else 0
def Bm (y : XS) (n p c : Nat) : Bool := decide (0 < Am y n p c) && !Fm y p c
theorem light_m {x y : XS} (hR : Rel x y) {p c : Nat} (hp : p < x.2.2) (hc : c < 16) : Lm y p c ≤ 600000 ∧ s_X4_lightFrom x p (nI c) = some (nI (Lm y p c)) ∧ s_X5_lightOf y (nI p) (nI c) = some (nI (Lm y p c)) := by
  obtain ⟨v, h1, h2, h3⟩ := light_c hR hp hc
  have e : Lm y p c = v := by unfold Lm; rw [h3]; exact nI_clamp (by omega)
  rw [e]
  exact ⟨h1, h2, h3⟩
theorem foc_m {x y : XS} (hR : Rel x y) {p c : Nat} (hp : p < x.2.2) (hc : c < 16) : s_X4_isInFocus x p (nI c) = some (b2i (Fm y p c)) ∧ s_X5_isSharpAt y (nI p) (nI c) = some (b2i (Fm y p c)) := by
  obtain ⟨b, h2, h3⟩ := foc_c hR hp hc
  have e : Fm y p c = b := by unfold Fm; rw [h3]; cases b <;> rfl
  rw [e]
  exact ⟨h2, h3⟩
theorem am_le {x y : XS} (hR : Rel x y) {p c : Nat} (hc : c < 16) : Am y x.2.2 p c ≤ 600000 := by
  unfold Am
  by_cases h : p < x.2.2 ∧ y.1 14 p = 0
  · rw [if_pos h]; exact (light_m hR h.1 hc).1
  · rw [if_neg h]; decide
theorem ix10 (c r : Nat) : nI c * 10 + nI r = nI (c * 10 + r) := by rw [show (10 : Int32) = nI 10 from rfl, pk_mul, nI_add]
def nb (b p a : Nat) (f : Bool) : Nat := if 0 < a ∧ f = false then b ||| 2 ^ p else b &&& (2 ^ 10 - 1 ^^^ 2 ^ p)
def xn (xx : XS) (c p a b : Nat) (f : Bool) : XS := si (si xx 9 (c * 10 + p) (nI a)) 10 c (nI (nb b p a f))
theorem nb_lt {b p a : Nat} {f : Bool} (hb : b < 1024) (hp : p < 10) : nb b p a f < 1024 := by
  unfold nb
  split
  · exact Nat.or_lt_two_pow (n := 10) hb (Nat.pow_lt_pow_right (by decide) hp)
  · exact Nat.and_lt_two_pow (n := 10) b (Nat.xor_lt_two_pow (by decide) (Nat.pow_lt_pow_right (by decide) hp))
theorem nb_same {b p a : Nat} {f : Bool} (hp : p < 10) : (nb b p a f).testBit p = (decide (0 < a) && !f) := by
  unfold nb
  by_cases h : 0 < a ∧ f = false
  · rw [if_pos h, Nat.testBit_or, Nat.testBit_two_pow_self, Bool.or_true, h.2, decide_eq_true h.1]; rfl
  · rw [if_neg h, Nat.testBit_and, Nat.testBit_xor, Nat.testBit_two_pow_self, Nat.testBit_two_pow_sub_one, decide_eq_true hp]
    by_cases h0 : 0 < a
    · have : f = true := by cases f; exact absurd ⟨h0, rfl⟩ h; rfl
      rw [this]; simp
    · rw [decide_eq_false h0]; simp
theorem nb_other {b p a q : Nat} {f : Bool} (hq : q < 10) (h : ¬ q = p) : (nb b p a f).testBit q = b.testBit q := by
  unfold nb
  by_cases g : 0 < a ∧ f = false
  · rw [if_pos g, Nat.testBit_or, Nat.testBit_two_pow, decide_eq_false (fun e => h e.symm), Bool.or_false]
  · rw [if_neg g, Nat.testBit_and, Nat.testBit_xor, Nat.testBit_two_pow, Nat.testBit_two_pow_sub_one, decide_eq_true hq, decide_eq_false (fun e => h e.symm)]; simp
theorem note_c {xx : XS} {c p a b : Nat} {f : Bool} (hc : c < 16) (hp : p < 10) (ha : a < 2 ^ 31) (hb : b < 1024) (e : xx.1 10 c = nI b) : s_X3_note xx (nI c) (nI p) (nI a) (b2i f) = some (xn xx c p a b f) := by
  unfold s_X3_note s_X3_isPlace
  rw [col_lt hc, Option.bind_some, if_neg one_ne, if_neg (nI_pos (by omega)), if_neg (geL 10 hp (by decide)), Option.bind_some, if_neg one_ne, ix10, chk_nI (by omega) (by decide), nI_clamp (by omega), one_sh p (by omega)]
  have hx : (si xx 9 (c * 10 + p) (nI a)).1 10 c = nI b := e
  have hor : ∀ g, s_X3_note_b39 (nI c) (nI p) (nI a) g (si xx 9 (c * 10 + p) (nI a)) (nI (2 ^ p)) 1 = some (si (si xx 9 (c * 10 + p) (nI a)) 10 c (nI (b ||| 2 ^ p))) := by
    intro g
    unfold s_X3_note_b39
    rw [if_neg one_ne, chk_nI hc (by decide), chk_nI hc (by decide), nI_clamp (by omega), hx, nx_or']
  have hand : ∀ g, s_X3_note_b39 (nI c) (nI p) (nI a) g (si xx 9 (c * 10 + p) (nI a)) (nI (2 ^ p)) 0 = some (si (si xx 9 (c * 10 + p) (nI a)) 10 c (nI (b &&& (2 ^ 10 - 1 ^^^ 2 ^ p)))) := by
    intro g
    unfold s_X3_note_b39
    rw [if_pos rfl, chk_nI hc (by decide), chk_nI hc (by decide), nI_clamp (by omega), hx, nx_dif (m := 10) hb (by decide)]
  unfold xn nb
  by_cases h0 : 0 < a
  · rw [if_neg (nI_nle h0 ha)]
    cases f with
    | false => rw [if_pos (show b2i false = 0 by decide), hor, if_pos ⟨h0, rfl⟩]
    | true => rw [if_neg (show ¬ b2i true = 0 by decide), hand, if_neg (fun q => by simp at q)]
  · have h1 : a = 0 := by omega
    subst h1
    rw [if_pos (show nI 0 ≤ 0 by decide), hand, if_neg (fun q => h0 q.1)]
theorem rel_xn {xx y : XS} (hR : Rel xx y) {c p a b : Nat} {f : Bool} (hb : b < 1024) (hp : p < 10) : Rel (xn xx c p a b f) y := by
  obtain ⟨a1, a2, a3, a4, a5, a6, a7, a8, a9, a10, a11, a12, a13, a14, a15, a16, a17, a18, a19, a20, a21, a22, a23, a24, a25, a26, a27, hU⟩ := hR
  refine ⟨a1, a2, a3, a4, a5, a6, a7, a8, a9, a10, a11, a12, a13, a14, a15, a16, a17, a18, a19, a20, a21, a22, a23, a24, a25, a26, a27, ?_⟩
  intro c' hc'
  unfold xn
  rw [si_same]
  by_cases e : c' = c
  · rw [e, pk_us]; exact ⟨_, nb_lt hb hp, rfl⟩
  · rw [pk_un e]; exact hU c' hc'
def Done (y : XS) (n c p : Nat) (xx : XS) : Prop := ∀ c' p', c' < 16 → p' < 10 → (c' < c ∨ (c' = c ∧ p' < p)) → xx.1 9 (c' * 10 + p') = nI (Am y n p' c') ∧ ∃ b, b < 1024 ∧ xx.1 10 c' = nI b ∧ b.testBit p' = Bm y n p' c'
theorem done_s {xx y : XS} {n c p b : Nat} {f : Bool} (hp : p < 10) (hb : b < 1024) (e : xx.1 10 c = nI b) (hD : Done y n c p xx) (hB : (decide (0 < Am y n p c) && !f) = Bm y n p c) : Done y n c (p + 1) (xn xx c p (Am y n p c) b f) := by
  intro c' p' h1 h2 h3
  unfold xn
  rw [si_same, si_other (by decide), si_same, si_other (by decide)]
  by_cases ec : c' = c
  · subst ec
    by_cases ep : p' = p
    · subst ep
      refine ⟨pk_us, _, nb_lt hb hp, pk_us, ?_⟩
      rw [nb_same hp, hB]
    · obtain ⟨g1, b', g2, g3, g4⟩ := hD c' p' h1 h2 (by omega)
      rw [e] at g3
      have eb : b = b' := (nI_eq (by omega) (by omega)).mp g3
      subst eb
      refine ⟨?_, _, nb_lt hb hp, pk_us, ?_⟩
      · rw [pk_un (by omega)]; exact g1
      · rw [nb_other h2 ep]; exact g4
  · obtain ⟨g1, b', g2, g3, g4⟩ := hD c' p' h1 h2 (by omega)
    refine ⟨?_, b', g2, ?_, g4⟩
    · rw [pk_un (by omega)]; exact g1
    · rw [pk_un ec]; exact g3
theorem surv_in {y : XS} {β : Type} {n c : Nat} {k2 : XS → Int32 → Option XS} {C : Option XS → Prop} (hc : c < 16) {xx : XS} (hR : Rel xx y) (hn : xx.2.2 = n) (hD : Done y n c 0 xx)
    (hk : ∀ xx', Rel xx' y → xx'.2.2 = n → Done y n (c + 1) 0 xx' → C (k2 xx' (nI c + 1))) : C (s_X4_surveyLights_b10 k2 FU xx (nI c) 0) := by
  refine lp (fun F xx i => s_X4_surveyLights_b10 k2 F xx (nI c) i) 10 (fun i xx => Rel xx y ∧ xx.2.2 = n ∧ Done y n c i xx) C ?_ ?_ 10 FU 0 xx (by decide) (by decide) ⟨hR, hn, hD⟩
  · rintro F xx ⟨h1, h2, h3⟩
    show C (s_X4_surveyLights_b10 k2 (F + 1) xx (nI c) 10)
    rw [s_X4_surveyLights_b10, if_pos (by decide)]
    exact hk xx h1 h2 (fun c' p' a1 a2 a3 => h3 c' p' a1 a2 (by omega))
  · rintro F p xx hp ⟨h1, h2, h3⟩ kk
    obtain ⟨hn10, hx2, -⟩ := h1.1
    obtain ⟨b, hb, e⟩ := h1.2.2.2.2.2.2.2.2.2.2.2.2.2.2.2.2.2.2.2.2.2.2.2.2.2.2.2 c hc
    show C (s_X4_surveyLights_b10 k2 (F + 1) xx (nI c) (nI p))
    rw [s_X4_surveyLights_b10, if_neg (geL 10 hp (by decide))]
    have z : Am y n p c = 0 → C (s_X4_surveyLights_b33 (fun zx z1 z2 => s_X4_surveyLights_b10 k2 F zx z1 z2) xx (nI c) (nI p)) := by
      intro h0
      unfold s_X4_surveyLights_b33
      have q := note_c (xx := xx) (c := c) (p := p) (a := Am y n p c) (b := b) (f := true) hc hp (by rw [h0]; decide) hb e
      rw [show s_X3_note xx (nI c) (nI p) (nI (Am y n p c)) (b2i true) = s_X3_note xx (nI c) (nI p) 0 1 by rw [h0]; rfl] at q
      rw [q, Option.bind_some]
      refine kk _ ⟨rel_xn h1 hb hp, h2, done_s hp hb e h3 ?_⟩
      unfold Bm
      rw [h0]
      rfl
    by_cases hpn : p < xx.2.2
    · rw [find_lt hn10 hx2 hpn]
      show C (grd p xx.2.2 _)
      rw [grd_lt hpn]
      obtain ⟨fb, f1, f2⟩ := fa_c h1 hpn
      rw [f1]
      cases fb with
      | false =>
        obtain ⟨l1, l2, -⟩ := light_m h1 hpn hc
        have ea : Am y n p c = Lm y p c := by unfold Am; rw [if_pos ⟨h2 ▸ hpn, f2⟩]
        rw [if_pos (show b2i false = 0 by decide), l2, Option.bind_some, (foc_m h1 hpn hc).1, Option.bind_some, ← ea, note_c hc hp (by omega) hb e, Option.bind_some]
        exact kk _ ⟨rel_xn h1 hb hp, h2, done_s hp hb e h3 rfl⟩
      | true =>
        rw [if_neg (show ¬ b2i true = 0 by decide)]
        refine z ?_
        unfold Am
        rw [if_neg]
        intro q
        rw [f2] at q
        exact absurd q.2 (by decide)
    · rw [find_ge hn10 hx2 (by omega) (by omega)]
      refine z ?_
      unfold Am
      rw [if_neg (fun q => hpn (h2.symm ▸ q.1))]
theorem surv_c {x y : XS} (hR : Rel x y) : ∃ x', s_X4_surveyLights x = some x' ∧ Rel x' y ∧ x'.2.2 = x.2.2 ∧ Done y x.2.2 16 0 x' := by
  refine lp (fun F xx i => s_X4_surveyLights_b2 F xx i) 16 (fun i xx => Rel xx y ∧ xx.2.2 = x.2.2 ∧ Done y x.2.2 i 0 xx) (fun r => ∃ x', r = some x' ∧ Rel x' y ∧ x'.2.2 = x.2.2 ∧ Done y x.2.2 16 0 x') ?_ ?_ 16 FU 0 x (by decide) (by decide) ⟨hR, rfl, fun c' p' _ _ h => by omega⟩
  · rintro F xx ⟨h1, h2, h3⟩
    refine ⟨xx, ?_, h1, h2, h3⟩
    show s_X4_surveyLights_b2 (F + 1) xx 16 = _
    rw [s_X4_surveyLights_b2, if_pos (by decide)]
  · rintro F c xx hc ⟨h1, h2, h3⟩ kk
    show (fun r => ∃ x', r = some x' ∧ Rel x' y ∧ x'.2.2 = x.2.2 ∧ Done y x.2.2 16 0 x') (s_X4_surveyLights_b2 (F + 1) xx (nI c))
    rw [s_X4_surveyLights_b2, if_neg (geL 16 hc (by decide))]
    exact surv_in (β := Unit) (C := fun r => ∃ x', r = some x' ∧ Rel x' y ∧ x'.2.2 = x.2.2 ∧ Done y x.2.2 16 0 x') (k2 := fun zx z => s_X4_surveyLights_b2 F zx z) hc h1 h2 h3 (fun xx' g1 g2 g3 => kk xx' ⟨g1, g2, g3⟩)
def tq (y : XS) (n k c p : Nat) : Nat := if k.testBit p = true then Am y n p c else 0
def gq (y : XS) (n k c p : Nat) : Bool := decide (tq y n k c p = 0) || Fm y p c
def Wq (y : XS) (n k c : Nat) : Bool := al (gq y n k c) n && decide (¬ (nI (sm (tq y n k c) n) < y.1 0 7))
theorem tq_z {y : XS} {n k c p : Nat} (h : n ≤ p) : tq y n k c p = 0 := by
  unfold tq Am
  rw [if_neg (show ¬ (p < n ∧ y.1 14 p = 0) from fun q => by omega)]
  split <;> rfl
theorem gq_z {y : XS} {n k c p : Nat} (h : n ≤ p) : gq y n k c p = true := by unfold gq; rw [tq_z h]; rfl
theorem well_x {x y : XS} (hR : Rel x y) {c k : Nat} (hc : c < 16) (hk : k < 1024) (hD : Done y x.2.2 16 0 x) : s_X3_isWellCovered x (nI c) (nI k) (x.1 0 6) = some (b2i (Wq y x.2.2 k c)) := by
  have hn := hR.1.1
  have hlev : x.1 0 6 = y.1 0 7 := by obtain ⟨-, -, -, -, -, -, -, -, -, -, -, -, -, -, -, -, -, -, ⟨d, -, -, d3, d4⟩, -⟩ := hR; rw [d3, d4]
  obtain ⟨b, hb, e⟩ := hR.2.2.2.2.2.2.2.2.2.2.2.2.2.2.2.2.2.2.2.2.2.2.2.2.2.2.2 c hc
  have hbit : ∀ p, p < 10 → b.testBit p = Bm y x.2.2 p c := by
    intro p hp
    obtain ⟨-, b', g2, g3, g4⟩ := hD c p hc hp (by omega)
    rw [e] at g3
    have eb : b = b' := (nI_eq (by omega) (by omega)).mp g3
    subst eb
    exact g4
  have hal : al (gq y x.2.2 k c) x.2.2 = al (gq y x.2.2 k c) 10 := by
    have := al_z (f := gq y x.2.2 k c) (n := x.2.2) (fun p h => gq_z h) (10 - x.2.2)
    rw [show x.2.2 + (10 - x.2.2) = 10 by omega] at this
    exact this.symm
  have hsm : sm (tq y x.2.2 k c) x.2.2 = sm (tq y x.2.2 k c) 10 := by
    have := sm_z (t := tq y x.2.2 k c) (n := x.2.2) (fun p h => tq_z h) (10 - x.2.2)
    rw [show x.2.2 + (10 - x.2.2) = 10 by omega] at this
    exact this.symm
  have hz : (b &&& k = 0) ↔ al (gq y x.2.2 k c) 10 = true := by
    rw [tb_0 (m := 10) (Nat.and_lt_two_pow (n := 10) b hk), al_iff]
    constructor
    · intro h p hp
      have h1 := h p hp
      rw [Nat.testBit_and, hbit p hp] at h1
      unfold gq tq
      unfold Bm at h1
      cases hkp : k.testBit p with
      | false => rfl
      | true =>
        rw [hkp, Bool.and_true] at h1
        rw [if_pos rfl]
        by_cases h0 : Am y x.2.2 p c = 0
        · rw [decide_eq_true h0]; rfl
        · rw [decide_eq_true (show 0 < Am y x.2.2 p c by omega)] at h1
          cases hf : Fm y p c
          · rw [hf] at h1; exact absurd h1 (by decide)
          · rw [Bool.or_true]
    · intro h p hp
      have h1 := h p hp
      rw [Nat.testBit_and, hbit p hp]
      unfold gq tq at h1
      unfold Bm
      cases hkp : k.testBit p with
      | false => rw [Bool.and_false]
      | true =>
        rw [hkp, if_pos rfl] at h1
        by_cases h0 : Am y x.2.2 p c = 0
        · rw [h0]; rfl
        · rw [decide_eq_false h0, Bool.false_or] at h1
          rw [h1]; simp
  unfold s_X3_isWellCovered
  rw [col_lt hc, Option.bind_some, if_neg one_ne, chk_nI hc (by decide), nI_clamp (by omega), e, nx_and']
  unfold Wq
  by_cases hbk : b &&& k = 0
  · rw [if_pos (by rw [hbk]; rfl), hal, hz.mp hbk, Bool.true_and, hsm, ← hlev]
    refine lp (fun F s i => s_X3_isWellCovered_b26 x (nI c) (nI k) (x.1 0 6) F s i) 10 (fun i s => s = nI (sm (tq y x.2.2 k c) i)) (fun r => r = some (b2i (decide (¬ (nI (sm (tq y x.2.2 k c) 10) < x.1 0 6))))) ?_ ?_ 10 FU 0 0 (by decide) (by decide) rfl
    · rintro F s rfl
      show s_X3_isWellCovered_b26 x (nI c) (nI k) (x.1 0 6) (F + 1) _ 10 = _
      rw [s_X3_isWellCovered_b26, if_pos (by decide)]
      by_cases h : nI (sm (tq y x.2.2 k c) 10) < x.1 0 6
      · rw [if_pos h, decide_eq_false (fun q => q h)]; rfl
      · rw [if_neg h, decide_eq_true h]; rfl
    · rintro F p s hp rfl kk
      show s_X3_isWellCovered_b26 x (nI c) (nI k) (x.1 0 6) (F + 1) _ (nI p) = _
      rw [s_X3_isWellCovered_b26, if_neg (geL 10 hp (by decide)), tb k p (by omega) (by omega)]
      cases hkp : k.testBit p with
      | false =>
        rw [if_pos (show b2i false = 0 by decide)]
        refine kk _ ?_
        show nI _ = nI (sm (tq y x.2.2 k c) p + tq y x.2.2 k c p)
        unfold tq
        rw [hkp, if_neg (by decide), Nat.add_zero]
      | true =>
        rw [if_neg (show ¬ b2i true = 0 by decide), ix10, chk_nI (by omega) (by decide), nI_clamp (by omega), (hD c p hc hp (by omega)).1]
        refine kk _ ?_
        rw [nI_add]
        show nI _ = nI (sm (tq y x.2.2 k c) p + tq y x.2.2 k c p)
        rw [show tq y x.2.2 k c p = Am y x.2.2 p c by unfold tq; rw [hkp, if_pos rfl]]
  · rw [if_neg (fun q => hbk ((nI_eq0 (Nat.lt_of_le_of_lt Nat.and_le_left (by omega))).mp q)), hal]
    have : al (gq y x.2.2 k c) 10 = false := by
      cases h : al (gq y x.2.2 k c) 10
      · rfl
      · exact absurd (hz.mpr h) hbk
    rw [this]
    rfl
theorem well_48 {y : XS} {p c k t : Nat} {a f : Bool} {P : Int32} {K : Int32 → Int32 → Int32 → Option Int32} (hf : s_X5_isSharpAt y (nI p) (nI c) = some (b2i f)) (ht : t < 2 ^ 31) :
    s_X5_isWell_b48 y (nI k) (nI c) K P (b2i a) (nI p) (nI t) = K (P + nI t) (b2i (a && (decide (t = 0) || f))) (nI p + 1) := by
  unfold s_X5_isWell_b48
  cases a with
  | false => rfl
  | true =>
    rw [if_neg (show ¬ b2i true = 0 by decide), Bool.true_and]
    by_cases h0 : t = 0
    · subst h0; rfl
    · rw [if_neg (fun q => h0 ((nI_eq0 ht).mp q)), hf, Option.bind_some, decide_eq_false h0, Bool.false_or]
      cases f <;> rfl
theorem well_y {x y : XS} (hR : Rel x y) {c k : Nat} (hc : c < 16) (hk : k < 1024) : s_X5_isWell y (nI k) (nI c) = some (b2i (Wq y x.2.2 k c)) := by
  obtain ⟨hn, h2, h8⟩ := hR.1
  refine lp (fun F (s : Int32 × Int32) i => s_X5_isWell_b8 y (nI k) (nI c) F s.1 s.2 i) x.2.2 (fun i s => s.1 = nI (sm (tq y x.2.2 k c) i) ∧ s.2 = b2i (al (gq y x.2.2 k c) i)) (fun r => r = some (b2i (Wq y x.2.2 k c))) ?_ ?_ x.2.2 FU 0 (0, 1) (by omega) (by unfold FU; omega) ⟨rfl, rfl⟩
  · rintro F ⟨s, t⟩ ⟨e1, e2⟩
    have e1 : s = _ := e1
    have e2 : t = _ := e2
    subst e1 e2
    show s_X5_isWell_b8 y (nI k) (nI c) (F + 1) _ _ (nI x.2.2) = _
    rw [s_X5_isWell_b8, h8, if_pos (nI_le (Nat.le_refl _) (by omega))]
    unfold Wq
    cases al (gq y x.2.2 k c) x.2.2 with
    | false => rfl
    | true =>
      rw [if_neg (show ¬ b2i true = 0 by decide), Bool.true_and]
      by_cases h : nI (sm (tq y x.2.2 k c) x.2.2) < y.1 0 7
      · rw [if_pos h, decide_eq_false (fun q => q h)]; rfl
      · rw [if_neg h, decide_eq_true h]; rfl
  · rintro F p ⟨s, t⟩ hp ⟨e1, e2⟩ kk
    have e1 : s = _ := e1
    have e2 : t = _ := e2
    subst e1 e2
    show s_X5_isWell_b8 y (nI k) (nI c) (F + 1) _ _ (nI p) = _
    have ht : tq y x.2.2 k c p ≤ 600000 := by
      unfold tq
      split
      · exact am_le hR hc
      · decide
    have body : s_X5_isWell_b8 y (nI k) (nI c) (F + 1) (nI (sm (tq y x.2.2 k c) p)) (b2i (al (gq y x.2.2 k c) p)) (nI p) = s_X5_isWell_b48 y (nI k) (nI c) (fun z1 z2 z3 => s_X5_isWell_b8 y (nI k) (nI c) F z1 z2 z3) (nI (sm (tq y x.2.2 k c) p)) (b2i (al (gq y x.2.2 k c) p)) (nI p) (nI (tq y x.2.2 k c p)) := by
      rw [s_X5_isWell_b8, h8, if_neg (nI_ge hp (by omega)), tb k p (by omega) (by omega)]
      unfold tq
      cases hkp : k.testBit p with
      | false => rfl
      | true =>
        rw [if_pos (show b2i true = 1 by decide), chk_nI (by omega) (by decide), nI_clamp (by omega), if_pos rfl]
        unfold Am
        by_cases h0 : y.1 14 p = 0
        · rw [if_pos h0, (light_m hR hp hc).2.2, Option.bind_some, if_pos ⟨hp, h0⟩]
        · rw [if_neg h0, if_neg (fun q => h0 q.2)]; rfl
    rw [body, well_48 (foc_m hR hp hc).2 (by omega)]
    refine kk (_, _) ⟨?_, rfl⟩
    show _ + _ = _
    rw [nI_add]
    rfl
