/-! sets of projectors -/
/-- a surveyed state -/
def Srv (x y : XS) : Prop := Rel x y ∧ Done y x.2.2 16 0 x
theorem lev_e {x y : XS} (hR : Rel x y) : x.1 0 6 = y.1 0 7 := by obtain ⟨-, -, -, -, -, -, -, -, -, -, -, -, -, -, -, -, -, -, ⟨d, -, -, d3, d4⟩, -⟩ := hR; rw [d3, d4]
theorem nee_e {x y : XS} (hR : Rel x y) : ∃ d, d < 2 ^ 16 ∧ x.1 0 5 = nI d ∧ y.1 0 6 = nI d := by obtain ⟨-, -, -, -, -, -, -, -, -, -, -, -, -, -, -, -, -, ⟨d, -, d2, d3, d4⟩, -⟩ := hR; exact ⟨d, by omega, d3, d4⟩
def en (y : XS) (n d k : Nat) : Bool := al (fun c => !d.testBit c || Wq y n k c) 16
theorem or_s {M c : Nat} (hM : M < 2 ^ 16) (hc : c < 16) : nI M ||| ((1 : Int32) <<< (nI c &&& 31)) = nI (M ||| 2 ^ c) ∧ (M ||| 2 ^ c) < 2 ^ 16 := by
  rw [one_sh c (by omega), nx_or']
  exact ⟨rfl, Nat.or_lt_two_pow hM (Nat.pow_lt_pow_right (by decide) hc)⟩
theorem all_x {x y : XS} (hS : Srv x y) {k d : Nat} (hk : k < 1024) (hd : d < 2 ^ 16) (e : x.1 0 5 = nI d) : s_X3_coversAll x (x.1 0 5) (nI k) (x.1 0 6) = some (b2i (en y x.2.2 d k)) := by
  rw [e]
  refine lp (fun F (_ : Unit) i => s_X3_coversAll_b3 x (nI d) (nI k) (x.1 0 6) F i) 16 (fun i _ => i ≤ 16 ∧ al (fun c => !d.testBit c || Wq y x.2.2 k c) i = true) (fun r => r = some (b2i (en y x.2.2 d k))) ?_ ?_ 16 FU 0 () (by decide) (by decide) ⟨by decide, rfl⟩
  · rintro F - ⟨-, h⟩
    show s_X3_coversAll_b3 x (nI d) (nI k) (x.1 0 6) (F + 1) 16 = _
    rw [s_X3_coversAll_b3, if_pos (by decide), show en y x.2.2 d k = true from h]
    rfl
  · rintro F c - hc ⟨h0, h⟩ kk
    show s_X3_coversAll_b3 x (nI d) (nI k) (x.1 0 6) (F + 1) (nI c) = _
    rw [s_X3_coversAll_b3, if_neg (geL 16 hc (by decide)), tb d c (by omega) (by omega), well_x hS.1 hc hk hS.2]
    cases hb : d.testBit c with
    | false =>
      rw [if_pos (show b2i false = 0 by decide)]
      refine kk () ⟨hc, ?_⟩
      show (al _ c && (!d.testBit c || _)) = true
      rw [h, hb]; rfl
    | true =>
      rw [if_neg (show ¬ b2i true = 0 by decide), Option.bind_some]
      cases hw : Wq y x.2.2 k c with
      | false =>
        rw [if_pos (show b2i false = 0 by decide)]
        have : en y x.2.2 d k = false := by
          cases hh : en y x.2.2 d k
          · rfl
          · have := (al_iff _ 16).mp hh c hc
            rw [hb, hw] at this
            exact absurd this (by decide)
        rw [this]; rfl
      | true =>
        rw [if_neg (show ¬ b2i true = 0 by decide)]
        refine kk () ⟨hc, ?_⟩
        show (al _ c && (!d.testBit c || Wq y x.2.2 k c)) = true
        rw [h, hw, Bool.or_true]; rfl
theorem mask_s {M c : Nat} {f : Nat → Bool} (w : Bool) (hw : w = f c) (hM : M < 2 ^ 16) (hc : c < 16) (h : ∀ i, i < 16 → M.testBit i = (decide (i < c) && f i)) :
    ∃ M', M' < 2 ^ 16 ∧ (if w = false then nI M else nI M ||| ((1 : Int32) <<< (nI c &&& 31))) = nI M' ∧ ∀ i, i < 16 → M'.testBit i = (decide (i < c + 1) && f i) := by
  cases w with
  | false =>
    refine ⟨M, hM, if_pos rfl, fun i hi => ?_⟩
    rw [h i hi]
    by_cases e : i = c
    · subst e; rw [← hw]; simp
    · by_cases e2 : i < c
      · rw [decide_eq_true e2, decide_eq_true (show i < c + 1 by omega)]
      · rw [decide_eq_false e2, decide_eq_false (show ¬ i < c + 1 by omega)]
  | true =>
    refine ⟨M ||| 2 ^ c, (or_s hM hc).2, ?_, fun i hi => ?_⟩
    · rw [if_neg (by decide), (or_s hM hc).1]
    · rw [Nat.testBit_or, Nat.testBit_two_pow, h i hi]
      by_cases e : i = c
      · subst e; rw [← hw]; simp
      · rw [decide_eq_false (show ¬ c = i from fun q => e q.symm), Bool.or_false]
        by_cases e2 : i < c
        · rw [decide_eq_true e2, decide_eq_true (show i < c + 1 by omega)]
        · rw [decide_eq_false e2, decide_eq_false (show ¬ i < c + 1 by omega)]
theorem cov_y {x y : XS} (hR : Rel x y) {k : Nat} (hk : k < 1024) : ∃ M, M < 2 ^ 16 ∧ s_X5_coveredBy y (nI k) = some (nI M) ∧ ∀ i, i < 16 → M.testBit i = Wq y x.2.2 k i := by
  refine lp (fun F s i => s_X5_coveredBy_b4 y (nI k) F s i) 16 (fun i s => ∃ M, M < 2 ^ 16 ∧ s = nI M ∧ ∀ j, j < 16 → M.testBit j = (decide (j < i) && Wq y x.2.2 k j)) (fun r => ∃ M, M < 2 ^ 16 ∧ r = some (nI M) ∧ ∀ i, i < 16 → M.testBit i = Wq y x.2.2 k i) ?_ ?_ 16 FU 0 0 (by decide) (by decide) ⟨0, by decide, rfl, fun j _ => by rw [Nat.zero_testBit, decide_eq_false (Nat.not_lt_zero j)]; rfl⟩
  · rintro F s ⟨M, hM, rfl, h⟩
    refine ⟨M, hM, ?_, fun i hi => ?_⟩
    · show s_X5_coveredBy_b4 y (nI k) (F + 1) (nI M) 16 = _
      rw [s_X5_coveredBy_b4, if_pos (by decide)]
    · rw [h i hi, decide_eq_true hi, Bool.true_and]
  · rintro F c s hc ⟨M, hM, rfl, h⟩ kk
    obtain ⟨M', hM', e', h'⟩ := mask_s (f := Wq y x.2.2 k) (Wq y x.2.2 k c) rfl hM hc h
    show (fun r => ∃ M, M < 2 ^ 16 ∧ r = some (nI M) ∧ ∀ i, i < 16 → M.testBit i = Wq y x.2.2 k i) (s_X5_coveredBy_b4 y (nI k) (F + 1) (nI M) (nI c))
    rw [s_X5_coveredBy_b4, if_neg (geL 16 hc (by decide)), well_y hR hc hk, Option.bind_some]
    have kk' := kk (nI M') ⟨M', hM', rfl, h'⟩
    rw [← e'] at kk'
    cases hw : Wq y x.2.2 k c with
    | false =>
      rw [hw, if_pos rfl] at kk'
      rw [if_pos (show b2i false = 0 by decide), show nI M ||| 0 = nI M from (nx_or' M 0).trans (by rw [Nat.or_zero])]
      exact kk'
    | true =>
      rw [hw, if_neg (by decide)] at kk'
      rw [if_neg (show ¬ b2i true = 0 by decide)]
      exact kk'
theorem eno_y {x y : XS} (hR : Rel x y) {k d : Nat} (hk : k < 1024) (hd : d < 2 ^ 16) (e : y.1 0 6 = nI d) : s_X5_isEnough y (nI k) = some (b2i (en y x.2.2 d k)) := by
  obtain ⟨M, hM, h1, h2⟩ := cov_y hR hk
  unfold s_X5_isEnough
  rw [h1, Option.bind_some, e, nx_dif (m := 16) hd (by decide)]
  have hz : (d &&& (2 ^ 16 - 1 ^^^ M)) = 0 ↔ en y x.2.2 d k = true := by
    rw [tb_0 (m := 16) (Nat.lt_of_le_of_lt Nat.and_le_left hd)]
    unfold en
    rw [al_iff]
    have hb : ∀ i, i < 16 → (d &&& (2 ^ 16 - 1 ^^^ M)).testBit i = (d.testBit i && !Wq y x.2.2 k i) := by
      intro i hi
      rw [Nat.testBit_and, Nat.testBit_xor, Nat.testBit_two_pow_sub_one, decide_eq_true hi, h2 i hi, Bool.true_xor]
    constructor
    · intro h i hi
      have := h i hi
      rw [hb i hi] at this
      show (!d.testBit i || Wq y x.2.2 k i) = true
      cases h3 : d.testBit i <;> cases h4 : Wq y x.2.2 k i <;> rw [h3, h4] at this <;> first | rfl | exact absurd this (by decide)
    · intro h i hi
      have : (!d.testBit i || Wq y x.2.2 k i) = true := h i hi
      rw [hb i hi]
      cases h3 : d.testBit i <;> cases h4 : Wq y x.2.2 k i <;> rw [h3, h4] at this <;> first | rfl | exact absurd this (by decide)
  have hl : (d &&& (2 ^ 16 - 1 ^^^ M)) < 2 ^ 31 := Nat.lt_of_le_of_lt Nat.and_le_left (by omega)
  by_cases h : (d &&& (2 ^ 16 - 1 ^^^ M)) = 0
  · rw [if_pos (by rw [h]; rfl), hz.mp h]; rfl
  · rw [if_neg (fun q => h ((nI_eq0 hl).mp q))]
    have : en y x.2.2 d k = false := by
      cases hh : en y x.2.2 d k
      · rfl
      · exact absurd (hz.mpr hh) h
    rw [this]; rfl
/-- the class's covered -/
theorem cov_x {x y : XS} (hS : Srv x y) {k M : Nat} (hk : k < 1024) (hM : M < 2 ^ 16) (h : ∀ i, i < 16 → M.testBit i = Wq y x.2.2 k i) : s_X4_covered_b26 (nI k) FU x 0 0 = some (0, nI M, x) := by
  refine lp (fun F s i => s_X4_covered_b26 (nI k) F x s i) 16 (fun i s => ∃ M, M < 2 ^ 16 ∧ s = nI M ∧ ∀ j, j < 16 → M.testBit j = (decide (j < i) && Wq y x.2.2 k j)) (fun r => r = some (0, nI M, x)) ?_ ?_ 16 FU 0 0 (by decide) (by decide) ⟨0, by decide, rfl, fun j _ => by rw [Nat.zero_testBit, decide_eq_false (Nat.not_lt_zero j)]; rfl⟩
  · rintro F s ⟨M1, hM1, rfl, h1⟩
    show s_X4_covered_b26 (nI k) (F + 1) x (nI M1) 16 = _
    rw [s_X4_covered_b26, if_pos (by decide), tb_ext hM1 hM (fun i hi => by rw [h1 i hi, decide_eq_true hi, Bool.true_and, h i hi])]
  · rintro F c s hc ⟨M1, hM1, rfl, h1⟩ kk
    obtain ⟨M', hM', e', h'⟩ := mask_s (f := Wq y x.2.2 k) (Wq y x.2.2 k c) rfl hM1 hc h1
    show s_X4_covered_b26 (nI k) (F + 1) x (nI M1) (nI c) = _
    rw [s_X4_covered_b26, if_neg (geL 16 hc (by decide)), well_x hS.1 hc hk hS.2, Option.bind_some]
    have kk' := kk (nI M') ⟨M', hM', rfl, h'⟩
    rw [← e'] at kk'
    cases hw : Wq y x.2.2 k c with
    | false =>
      rw [hw, if_pos rfl] at kk'
      rw [if_pos (show b2i false = 0 by decide)]
      exact kk'
    | true =>
      rw [hw, if_neg (by decide)] at kk'
      rw [if_neg (show ¬ b2i true = 0 by decide)]
      exact kk'
/-! which are failed -/
def pk (y : XS) (n k : Nat) : Bool := al (fun i => !(k.testBit i && decide (¬ y.1 14 i = 0))) n
def bc (k : Nat) : Nat := k % 2 + k / 2 % 2 + k / 4 % 2 + k / 8 % 2 + k / 16 % 2 + k / 32 % 2 + k / 64 % 2 + k / 128 % 2 + k / 256 % 2 + k / 512 % 2
theorem bc_j : ∀ k, k < 1024 → s_J6_bitCount_0f7a4 (nI k) = some (nI (bc k)) := by decide +kernel
theorem bc_le : ∀ n, n < 11 → ∀ k, k < 2 ^ n → bc k ≤ n := by decide +kernel
theorem p2_n : ∀ n, n < 11 → (1 : Int32) <<< (nI n &&& 31) = nI (2 ^ n) := by decide +kernel
theorem p2_le {n : Nat} (h : n ≤ 10) : 2 ^ n ≤ 1024 := show 2 ^ n ≤ 2 ^ 10 from Nat.pow_le_pow_right (by decide) h
theorem bc_y {k : Nat} (hk : k < 1024) : s_X5_bits (nI k) = some (nI (bc k)) := by
  have t : ∀ p, p < 10 → (nI k >>> (nI p &&& 31)) &&& 1 = nI (k / 2 ^ p % 2) := by
    intro p hp
    rw [tb k p (by omega) (by omega), Nat.testBit_eq_decide_div_mod_eq]
    rcases Nat.mod_two_eq_zero_or_one (k / 2 ^ p) with h | h <;> rw [h] <;> rfl
  refine lp (fun F s i => s_X5_bits_b4 (nI k) F s i) 10 (fun i s => s = nI (sm (fun p => k / 2 ^ p % 2) i)) (fun r => r = some (nI (bc k))) ?_ ?_ 10 FU 0 0 (by decide) (by decide) rfl
  · rintro F s rfl
    show s_X5_bits_b4 (nI k) (F + 1) _ 10 = _
    rw [s_X5_bits_b4, if_pos (by decide)]
    have : sm (fun p => k / 2 ^ p % 2) 10 = bc k := by
      show 0 + k / 1 % 2 + k / 2 % 2 + k / 4 % 2 + k / 8 % 2 + k / 16 % 2 + k / 32 % 2 + k / 64 % 2 + k / 128 % 2 + k / 256 % 2 + k / 512 % 2 = bc k
      unfold bc
      rw [Nat.zero_add, Nat.div_one]
    rw [this]
  · rintro F p s hp rfl kk
    show s_X5_bits_b4 (nI k) (F + 1) _ (nI p) = _
    rw [s_X5_bits_b4, if_neg (geL 10 hp (by decide)), t p hp, nI_add]
    exact kk _ rfl
theorem fai_y {x y : XS} (hR : Rel x y) : ∃ f, f < 1024 ∧ s_X5_leastSet y = s_X5_leastSet_b41 y FU (nI f) (-1) 0 ∧ ∀ i, i < 10 → f.testBit i = (decide (i < x.2.2) && decide (¬ y.1 14 i = 0)) := by
  obtain ⟨hn, h2, h8⟩ := hR.1
  refine lp (fun F s i => s_X5_leastSet_b4 y F s i) x.2.2 (fun j s => j ≤ x.2.2 ∧ ∃ f, f < 1024 ∧ s = nI f ∧ ∀ i, i < 10 → f.testBit i = (decide (i < j) && decide (¬ y.1 14 i = 0))) (fun r => ∃ f, f < 1024 ∧ r = s_X5_leastSet_b41 y FU (nI f) (-1) 0 ∧ ∀ i, i < 10 → f.testBit i = (decide (i < x.2.2) && decide (¬ y.1 14 i = 0))) ?_ ?_ x.2.2 FU 0 0 (by omega) (by unfold FU; omega) ⟨Nat.zero_le _, 0, by decide, rfl, fun j _ => by rw [Nat.zero_testBit, decide_eq_false (Nat.not_lt_zero j)]; rfl⟩
  · rintro F s ⟨-, f, hf, rfl, h⟩
    refine ⟨f, hf, ?_, h⟩
    show s_X5_leastSet_b4 y (F + 1) (nI f) (nI x.2.2) = _
    rw [s_X5_leastSet_b4, h8, if_pos (nI_le (Nat.le_refl _) (by omega))]
  · rintro F p s hp ⟨-, f, hf, rfl, h⟩ kk
    obtain ⟨b, b1, b2⟩ := fa_c hR hp
    have kk : ∀ g, g < 1024 → (∀ i, i < 10 → g.testBit i = (decide (i < p + 1) && decide (¬ y.1 14 i = 0))) → ∃ f, f < 1024 ∧ s_X5_leastSet_b4 y F (nI g) (nI p + 1) = s_X5_leastSet_b41 y FU (nI f) (-1) 0 ∧ ∀ i, i < 10 → f.testBit i = (decide (i < x.2.2) && decide (¬ y.1 14 i = 0)) := fun g g1 g2 => kk (nI g) ⟨hp, g, g1, rfl, g2⟩
    show ∃ f', f' < 1024 ∧ s_X5_leastSet_b4 y (F + 1) (nI f) (nI p) = s_X5_leastSet_b41 y FU (nI f') (-1) 0 ∧ _
    rw [s_X5_leastSet_b4, h8, if_neg (nI_ge hp (by omega)), chk_nI (by omega) (by decide), nI_clamp (by omega), one_sh p (by omega), nx_or', show nI f ||| 0 = nI f from (nx_or' f 0).trans (by rw [Nat.or_zero])]
    by_cases h0 : y.1 14 p = 0
    · rw [if_pos h0]
      refine kk f hf (fun i hi => ?_)
      rw [h i hi]
      by_cases e : i = p
      · subst e; rw [decide_eq_false (show ¬ ¬ y.1 14 i = 0 from fun q => q h0), Bool.and_false, Bool.and_false]
      · by_cases e2 : i < p
        · rw [decide_eq_true e2, decide_eq_true (show i < p + 1 by omega)]
        · rw [decide_eq_false e2, decide_eq_false (show ¬ i < p + 1 by omega)]
    · rw [if_neg h0]
      refine kk (f ||| 2 ^ p) (Nat.or_lt_two_pow (n := 10) hf (Nat.pow_lt_pow_right (by decide) (by omega))) (fun i hi => ?_)
      rw [Nat.testBit_or, Nat.testBit_two_pow, h i hi]
      by_cases e : i = p
      · subst e; rw [decide_eq_true h0]; simp
      · rw [decide_eq_false (show ¬ p = i from fun q => e q.symm), Bool.or_false]
        by_cases e2 : i < p
        · rw [decide_eq_true e2, decide_eq_true (show i < p + 1 by omega)]
        · rw [decide_eq_false e2, decide_eq_false (show ¬ i < p + 1 by omega)]
theorem unf_x {x y : XS} (hR : Rel x y) : ∃ u, u < 1024 ∧ s_X4_unfailedProjectors x = some (nI u) ∧ ∀ i, i < 10 → u.testBit i = (decide (i < x.2.2) && decide (y.1 14 i = 0)) := by
  obtain ⟨hn, h2, h8⟩ := hR.1
  refine lpF hn h2 (s_X4_unfailedProjectors_b4 x) (K := fun s => some s) (fun _ _ _ => rfl) (fun j s => ∃ f, f < 1024 ∧ s = nI f ∧ ∀ i, i < 10 → f.testBit i = (decide (i < j) && decide (y.1 14 i = 0))) (fun r => ∃ f, f < 1024 ∧ r = some (nI f) ∧ ∀ i, i < 10 → f.testBit i = (decide (i < x.2.2) && decide (y.1 14 i = 0))) ?_ ?_ 0 ⟨0, by decide, rfl, fun j _ => by rw [Nat.zero_testBit, decide_eq_false (Nat.not_lt_zero j)]; rfl⟩
  · rintro s ⟨f, hf, rfl, h⟩
    exact ⟨f, hf, rfl, h⟩
  · rintro F p s hp ⟨f, hf, rfl, h⟩ kk
    obtain ⟨b, b1, b2⟩ := fa_c hR hp
    have kk : ∀ g, g < 1024 → (∀ i, i < 10 → g.testBit i = (decide (i < p + 1) && decide (y.1 14 i = 0))) → ∃ f, f < 1024 ∧ s_X4_unfailedProjectors_b4 x F (nI g) (nI p + 1) = some (nI f) ∧ ∀ i, i < 10 → f.testBit i = (decide (i < x.2.2) && decide (y.1 14 i = 0)) := fun g g1 g2 => kk (nI g) ⟨g, g1, rfl, g2⟩
    show ∃ f', f' < 1024 ∧ (if x.1 28 p = 0 then _ else _) = some (nI f') ∧ _
    rw [b1, one_sh p (by omega), nx_or']
    cases b with
    | true =>
      have h0 : ¬ y.1 14 p = 0 := by rw [b2]; decide
      rw [if_neg (show ¬ b2i true = 0 by decide)]
      refine kk f hf (fun i hi => ?_)
      rw [h i hi]
      by_cases e : i = p
      · subst e; rw [decide_eq_false h0, Bool.and_false, Bool.and_false]
      · by_cases e2 : i < p
        · rw [decide_eq_true e2, decide_eq_true (show i < p + 1 by omega)]
        · rw [decide_eq_false e2, decide_eq_false (show ¬ i < p + 1 by omega)]
    | false =>
      have h0 : y.1 14 p = 0 := b2
      rw [if_pos (show b2i false = 0 by decide)]
      refine kk (f ||| 2 ^ p) (Nat.or_lt_two_pow (n := 10) hf (Nat.pow_lt_pow_right (by decide) (by omega))) (fun i hi => ?_)
      rw [Nat.testBit_or, Nat.testBit_two_pow, h i hi]
      by_cases e : i = p
      · subst e; rw [decide_eq_true h0]; simp
      · rw [decide_eq_false (show ¬ p = i from fun q => e q.symm), Bool.or_false]
        by_cases e2 : i < p
        · rw [decide_eq_true e2, decide_eq_true (show i < p + 1 by omega)]
        · rw [decide_eq_false e2, decide_eq_false (show ¬ i < p + 1 by omega)]
theorem pk_y {y : XS} {n k f : Nat} (hn : n ≤ 10) (hk : k < 2 ^ n) (hf : f < 1024) (h : ∀ i, i < 10 → f.testBit i = (decide (i < n) && decide (¬ y.1 14 i = 0))) : nI k &&& nI f = 0 ↔ pk y n k = true := by
  have hk2 := Nat.lt_of_lt_of_le hk (p2_le hn)
  rw [nx_and', nI_eq0 (Nat.lt_of_le_of_lt Nat.and_le_left (by omega)), tb_0 (m := n) (Nat.lt_of_le_of_lt Nat.and_le_left hk)]
  unfold pk
  rw [al_iff]
  have hb : ∀ i, i < n → (k &&& f).testBit i = (k.testBit i && decide (¬ y.1 14 i = 0)) := fun i hi => by rw [Nat.testBit_and, h i (by omega), decide_eq_true hi, Bool.true_and]
  constructor
  · intro g i hi
    show (!(_ && _)) = true
    rw [← hb i hi, g i hi]; rfl
  · intro g i hi
    have : (!(k.testBit i && decide (¬ y.1 14 i = 0))) = true := g i hi
    rw [← hb i hi] at this
    cases hh : (k &&& f).testBit i
    · rfl
    · rw [hh] at this; exact absurd this (by decide)
theorem pk_x {y : XS} {n k u : Nat} (hn : n ≤ 10) (hk : k < 2 ^ n) (hu : u < 1024) (h : ∀ i, i < 10 → u.testBit i = (decide (i < n) && decide (y.1 14 i = 0))) : (nI k &&& (nI u ^^^ (-1)) = 0 ↔ pk y n k = true) ∧ (pk y n k = true → k ≤ u) := by
  have hk2 := Nat.lt_of_lt_of_le hk (p2_le hn)
  have hb : ∀ i, i < n → (k &&& (2 ^ n - 1 ^^^ u)).testBit i = (k.testBit i && decide (¬ y.1 14 i = 0)) := by
    intro i hi
    rw [Nat.testBit_and, Nat.testBit_xor, Nat.testBit_two_pow_sub_one, h i (by omega), decide_eq_true hi, Bool.true_and, Bool.true_xor]
    by_cases h0 : y.1 14 i = 0
    · rw [decide_eq_true h0, decide_eq_false (fun q => q h0)]; rfl
    · rw [decide_eq_false h0, decide_eq_true h0]; rfl
  have hz : (k &&& (2 ^ n - 1 ^^^ u)) = 0 ↔ pk y n k = true := by
    rw [tb_0 (m := n) (Nat.lt_of_le_of_lt Nat.and_le_left hk)]
    unfold pk
    rw [al_iff]
    constructor
    · intro g i hi
      show (!(_ && _)) = true
      rw [← hb i hi, g i hi]; rfl
    · intro g i hi
      have : (!(k.testBit i && decide (¬ y.1 14 i = 0))) = true := g i hi
      rw [← hb i hi] at this
      cases hh : (k &&& (2 ^ n - 1 ^^^ u)).testBit i
      · rfl
      · rw [hh] at this; exact absurd this (by decide)
  refine ⟨?_, fun g => ?_⟩
  · rw [nx_dif (m := n) hk (by omega), nI_eq0 (Nat.lt_of_le_of_lt Nat.and_le_left (by omega)), hz]
  · have e : k = k &&& u := by
      refine tb_ext (m := n) hk (Nat.lt_of_le_of_lt Nat.and_le_left hk) (fun i hi => ?_)
      have h0 : (!(k.testBit i && decide (¬ y.1 14 i = 0))) = true := (al_iff _ n).mp g i hi
      rw [Nat.testBit_and, h i (by omega), decide_eq_true hi, Bool.true_and]
      by_cases h1 : y.1 14 i = 0
      · rw [decide_eq_true h1, Bool.and_true]
      · rw [decide_eq_true h1, Bool.and_true] at h0
        rw [decide_eq_false h1, Bool.and_false]
        cases hh : k.testBit i
        · rfl
        · rw [hh] at h0; exact absurd h0 (by decide)
    rw [e]
    exact Nat.and_le_right
