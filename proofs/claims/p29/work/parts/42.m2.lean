/-- one row of a ray, for the living -/
theorem liv_s {x y : XS} (hR : Rel x y) {p c e k q r : Nat} (h : Ray x y p c e k q) (he : e < r) (hr : r < k) : ∃ v b,
    s_X4_crossing x p (nI c) (nI r) = some (nI v) ∧ s_X2_hasTheLiving x (nI v) (nI r) = some (b2i b) ∧ (r < 3 → b = false) ∧
    (∀ G, s_X5_meets_b12 y (nI p) (nI c) (G + 1) 0 (nI r) = s_X5_meets_b12 y (nI p) (nI c) G (b2i b) (nI r + 1)) ∧
    (∀ G, s_X5_meets_b12 y (nI p) (nI c) (G + 1) 1 (nI r) = s_X5_meets_b12 y (nI p) (nI c) G 1 (nI r + 1)) := by
  obtain ⟨v, hv, h1, h2⟩ := cross_c h he hr
  obtain ⟨hp, hn, hc, e2, k1, k2, q2, e3, e4, k3, k4, q3, q4⟩ := h
  obtain ⟨w, m, w1, m1, w2, w3, w4, w5, w6⟩ := hR.2.2.2.2.1 v r hv (by omega)
  have st : ∀ s G, s_X5_meets_b12 y (nI p) (nI c) (G + 1) s (nI r) = if s = 0 then (if nI w = 2 then s_X5_meets_b12 y (nI p) (nI c) G 1 (nI r + 1) else if nI w = 3 then s_X5_meets_b12 y (nI p) (nI c) G 1 (nI r + 1) else s_X5_meets_b12 y (nI p) (nI c) G 0 (nI r + 1)) else s_X5_meets_b12 y (nI p) (nI c) G 1 (nI r + 1) := by
    intro s G
    rw [s_X5_meets_b12, chk_nI (by omega) (by decide), nI_clamp (by omega), k4, if_neg (nI_ge hr (by omega)), h2, Option.bind_some, at_c, Option.bind_some, chk_nI (by omega) (by decide), nI_clamp (by omega), w2]
  have cl : s_X2_hasTheLiving x (nI v) (nI r) = if x.1 8 (v * 12 + r) = 2 then some 1 else if x.1 8 (v * 12 + r) = 3 then some 1 else some 0 := by
    unfold s_X2_hasTheLiving
    rw [cont hv (by omega), Option.bind_some]
  have st1 : ∀ G, s_X5_meets_b12 y (nI p) (nI c) (G + 1) 1 (nI r) = s_X5_meets_b12 y (nI p) (nI c) G 1 (nI r + 1) := fun G => by rw [st, if_neg one_ne]
  by_cases c2 : m = 0
  · subst c2
    rw [if_pos rfl] at w4
    by_cases c3 : w = 2
    · subst c3
      refine ⟨v, true, h1, ?_, fun q => absurd (w6 q).1 (by decide), fun G => ?_, st1⟩
      · rw [cl, w4, if_pos (by decide)]; rfl
      · rw [st, if_pos rfl, if_pos (by decide)]; rfl
    · have c3' : ¬ nI w = 2 := iL 2 (by omega) (by decide) c3
      by_cases c4 : w = 3
      · subst c4
        refine ⟨v, true, h1, ?_, fun q => absurd (w6 q).1 (by decide), fun G => ?_, st1⟩
        · rw [cl, w4, if_neg c3', if_pos (by decide)]; rfl
        · rw [st, if_pos rfl, if_neg c3', if_pos (by decide)]; rfl
      · have c4' : ¬ nI w = 3 := iL 3 (by omega) (by decide) c4
        refine ⟨v, false, h1, ?_, fun _ => rfl, fun G => ?_, st1⟩
        · rw [cl, w4, if_neg c3', if_neg c4']; rfl
        · rw [st, if_pos rfl, if_neg c3', if_neg c4']; rfl
  · have hm : m = 1 := by omega
    subst hm
    have := w5 rfl
    subst this
    rw [if_neg c2] at w4
    refine ⟨v, false, h1, ?_, fun _ => rfl, fun G => ?_, st1⟩
    · rw [cl, w4, if_neg (by decide), if_neg (by decide)]; rfl
    · rw [st, if_pos rfl, if_neg (by decide), if_neg (by decide)]; rfl
theorem mee_1 {x y : XS} (hR : Rel x y) {p c e k q r : Nat} (h : Ray x y p c e k q) (he : e < r) (hr : r ≤ k) {G : Nat} (hG : 20 ≤ G) : s_X5_meets_b12 y (nI p) (nI c) G 1 (nI r) = some 1 := by
  refine lp (fun F (_ : Unit) i => s_X5_meets_b12 y (nI p) (nI c) F 1 i) k (fun i _ => e < i) (fun r => r = some 1) ?_ ?_ (k - r) G r () (by omega) (by have := h.2.2.2.2.2.1; omega) he
  · intro F _ _
    obtain ⟨hp, hn, hc, e2, k1, k2, q2, e3, e4, k3, k4, q3, q4⟩ := h
    show s_X5_meets_b12 y (nI p) (nI c) (F + 1) 1 (nI k) = some 1
    rw [s_X5_meets_b12, chk_nI (by omega) (by decide), nI_clamp (by omega), k4, if_pos (nI_le (Nat.le_refl _) (by omega))]
    rfl
  · intro F i _ hi hI kk
    obtain ⟨v, b, -, -, -, -, h4⟩ := liv_s hR h hI hi
    show s_X5_meets_b12 y (nI p) (nI c) (F + 1) 1 (nI i) = some 1
    rw [h4]
    exact kk () (by omega)
theorem mee_c {x y : XS} (hR : Rel x y) {p c : Nat} (hp : p < x.2.2) (hc : c < 16) : ∃ b, s_X4_meetsTheLiving x p (nI c) = some (b2i b) ∧ s_X5_meets y (nI p) (nI c) = some (b2i b) := by
  obtain ⟨e, k, q, h⟩ := ray hR hp hc
  have h' := h
  obtain ⟨hp, hn, hc, e2, k1, k2, q2, e3, e4, k3, k4, q3, q4⟩ := h'
  have low : ∀ r G, e < r → r < k → r < 3 → s_X5_meets_b12 y (nI p) (nI c) (G + 1) 0 (nI r) = s_X5_meets_b12 y (nI p) (nI c) G 0 (nI (r + 1)) := by
    intro r G a1 a2 a3
    obtain ⟨v, b, -, -, h3, h4, -⟩ := liv_s hR h a1 a2
    rw [h4, h3 a3, nI_1]; rfl
  have m0 : ∃ G, 100 ≤ G ∧ s_X5_meets y (nI p) (nI c) = s_X5_meets_b12 y (nI p) (nI c) G 0 (nI 3) := by
    have m1 : s_X5_meets y (nI p) (nI c) = s_X5_meets_b12 y (nI p) (nI c) FU 0 (nI (e + 1)) := by
      unfold s_X5_meets
      rw [chk_nI hc (by decide), nI_clamp (by omega), e4, nI_1]
    rcases (show e = 0 ∨ e = 1 ∨ e = 2 by omega) with rfl | rfl | rfl
    · refine ⟨FU - 2, by decide, ?_⟩
      rw [m1, show FU = 1998 + 1 + 1 from rfl, low 1 _ (by decide) (by omega) (by decide), low 2 _ (by decide) (by omega) (by decide)]
    · refine ⟨FU - 1, by decide, ?_⟩
      rw [m1, show FU = 1999 + 1 from rfl, low 2 _ (by decide) (by omega) (by decide)]
    · exact ⟨FU, by decide, m1⟩
  obtain ⟨G0, hG0, m0⟩ := m0
  rw [m0, show s_X4_meetsTheLiving x p (nI c) = s_X4_meetsTheLiving_b2 x p (nI c) FU (nI 3) from rfl]
  refine lp (fun F (_ : Unit) i => s_X4_meetsTheLiving_b2 x p (nI c) F i) k (fun i _ => 3 ≤ i ∧ i ≤ k ∧ s_X5_meets_b12 y (nI p) (nI c) G0 0 (nI 3) = s_X5_meets_b12 y (nI p) (nI c) (G0 - (i - 3)) 0 (nI i)) (fun r => ∃ b, r = some (b2i b) ∧ s_X5_meets_b12 y (nI p) (nI c) G0 0 (nI 3) = some (b2i b)) ?_ ?_ (k - 3) FU 3 () (by omega) (by unfold FU; omega) ⟨by omega, by omega, by rw [Nat.sub_self]; rfl⟩
  · intro F _ hI
    refine ⟨false, ?_, ?_⟩
    · show s_X4_meetsTheLiving_b2 x p (nI c) (F + 1) (nI k) = some 0
      rw [s_X4_meetsTheLiving_b2, grd_lt hp, k3, if_pos (nI_le (Nat.le_refl _) (by omega))]
    · rw [hI.2.2, show G0 - (k - 3) = (G0 - (k - 3) - 1) + 1 by omega, s_X5_meets_b12, chk_nI (by omega) (by decide), nI_clamp (by omega), k4, if_pos (nI_le (Nat.le_refl _) (by omega))]
      rfl
  · intro F i _ hi hI kk
    obtain ⟨v, b, h1, h2, -, h3, h4⟩ := liv_s hR h (show e < i by omega) hi
    show ∃ b, s_X4_meetsTheLiving_b2 x p (nI c) (F + 1) (nI i) = some (b2i b) ∧ _
    rw [s_X4_meetsTheLiving_b2, grd_lt hp, k3, if_neg (nI_ge hi (by omega)), h1, Option.bind_some, h2, Option.bind_some]
    have e5 : s_X5_meets_b12 y (nI p) (nI c) G0 0 (nI 3) = s_X5_meets_b12 y (nI p) (nI c) (G0 - (i + 1 - 3)) (b2i b) (nI i + 1) := by
      rw [hI.2.2, show G0 - (i - 3) = (G0 - (i + 1 - 3)) + 1 by omega, h3]
    cases b with
    | true =>
      rw [if_neg (show ¬ b2i true = 0 by decide)]
      refine ⟨true, rfl, ?_⟩
      rw [e5, nI_1]
      exact mee_1 hR h (by omega) (by omega) (by omega)
    | false =>
      rw [if_pos (show b2i false = 0 by decide)]
      refine kk () ⟨by omega, by omega, ?_⟩
      rw [e5, nI_1]
      rfl
theorem sh_lt {c s a : Nat} (hc : c < 100) (hs : s < 100) (ha : a < 100) : (nI c - nI s < nI a) ↔ (nI c < nI a + nI s) := by
  rw [nI_add, Int32.lt_iff_toInt_lt, Int32.lt_iff_toInt_lt, pk_sub_toInt (by omega) (by omega), nI_toInt (by omega), nI_toInt (by omega), nI_toInt (by omega)]
  omega
theorem sh_gt {c s a : Nat} (hc : c < 100) (hs : s < 100) (ha : a < 100) : (nI a < nI c - nI s) ↔ (nI a + nI s < nI c) := by
  rw [nI_add, Int32.lt_iff_toInt_lt, Int32.lt_iff_toInt_lt, pk_sub_toInt (by omega) (by omega), nI_toInt (by omega), nI_toInt (by omega), nI_toInt (by omega)]
  omega
theorem aim_c {x y : XS} (hR : Rel x y) {p c : Nat} (hp : p < x.2.2) (hc : c < 16) : ∃ b, s_X4_isAimedAt x p (nI c) = some (b2i b) ∧ s_X5_covers y (nI p) (nI c) = some (b2i b) := by
  obtain ⟨hN, -, -, -, -, -, -, -, -, -, -, hA, -, -, -, -, hw, -⟩ := hR
  have hn := hN.1
  obtain ⟨w, -, w2, w3, w4⟩ := hw
  have hm : ∃ s, s ≤ 5 ∧ s_X5_covers y (nI p) (nI c) = s_X5_covers_b18 y (nI p) (nI c) (nI s) ∧ (¬ x.1 25 p = -1 → s_X4_isAimedAt x p (nI c) = s_X4_isAimedAt_b28 x p (nI c) (nI s)) := by
    by_cases hw3 : w ≤ 3
    · refine ⟨0, by decide, ?_, fun g => ?_⟩
      · unfold s_X5_covers; rw [w4, if_pos (leL 3 hw3 (by decide))]; rfl
      · unfold s_X4_isAimedAt; rw [grd_lt hp, if_neg g, w3, if_pos (leL 3 hw3 (by decide))]; rfl
    · refine ⟨w - 3, by omega, ?_, fun g => ?_⟩
      · unfold s_X5_covers; rw [w4, if_neg (geLa 3 (by omega) (by omega)), show (3 : Int32) = nI 3 from rfl, pk_sub (by omega)]
      · unfold s_X4_isAimedAt; rw [grd_lt hp, if_neg g, w3, if_neg (geLa 3 (by omega) (by omega)), show (3 : Int32) = nI 3 from rfl, pk_sub (by omega)]
  obtain ⟨s, s5, m1, m2⟩ := hm
  rcases hA p hp with ⟨f1, t1, t2⟩ | ⟨a, b, hab, hb, f1, f2, t1, t2⟩
  · refine ⟨false, ?_, ?_⟩
    · unfold s_X4_isAimedAt; rw [grd_lt hp, if_pos f1]; rfl
    · rw [m1]; unfold s_X5_covers_b18; rw [chk_nI (by omega) (by decide), nI_clamp (by omega), if_pos t2]; rfl
  · have nf : ¬ x.1 25 p = -1 := by
      intro g
      rw [f1] at g
      exact absurd (show nI a < 0 by rw [g]; decide) (nI_pos (by omega))
    have nt : ¬ y.1 12 p = -1 := by
      intro g
      rw [t2] at g
      exact absurd (show nI b < 0 by rw [g]; decide) (nI_pos (by omega))
    rw [m1, m2 nf]
    unfold s_X4_isAimedAt_b28 s_X5_covers_b18
    rw [grd_lt hp, chk_nI (by omega) (by decide), nI_clamp (by omega), if_neg nt, chk_nI (by omega) (by decide), chk_nI (by omega) (by decide), f1, f2, t1, t2]
    unfold s_X5_in
    by_cases g1 : nI c < nI a + nI s
    · rw [if_pos g1, if_pos ((sh_lt (by omega) (by omega) (by omega)).mpr g1)]
      exact ⟨false, rfl, rfl⟩
    · rw [if_neg g1, if_neg (fun q => g1 ((sh_lt (by omega) (by omega) (by omega)).mp q))]
      by_cases g2 : nI b + nI s < nI c
      · rw [if_pos g2, if_pos ((sh_gt (by omega) (by omega) (by omega)).mpr g2)]
        exact ⟨false, rfl, rfl⟩
      · rw [if_neg g2, if_neg (fun q => g2 ((sh_gt (by omega) (by omega) (by omega)).mp q))]
        exact ⟨true, rfl, rfl⟩
theorem sq_dec : ∀ c, c < 16 → ∀ q, q < 16 → (nI c - nI q) * (nI c - nI q) = nI ((c - q) * (c - q) + (q - c) * (q - c)) ∧ (c - q) * (c - q) + (q - c) * (q - c) ≤ 225 := by decide +kernel
def hn (s : Nat) : Nat := if s = 0 then 60 else if s = 1 then 40 else 0
theorem li_nat {pw sq h : Nat} (h1 : pw ≤ 9999) (h2 : 1 ≤ sq) (h3 : h ≤ 60) : 100 * pw / sq * h / 100 ≤ 600000 ∧ 100 * pw / sq * h < 2 ^ 31 := by
  have a : 100 * pw / sq ≤ 999900 := Nat.le_trans (Nat.div_le_self _ _) (by omega)
  have b : 100 * pw / sq * h ≤ 999900 * 60 := Nat.mul_le_mul a h3
  omega
theorem li_i {pw sq h : Nat} (h1 : pw ≤ 9999) (h2 : 1 ≤ sq) (h22 : sq ≤ 1000) (h3 : h ≤ 60) : 100 * nI pw / nI sq * nI h / 100 = nI (100 * pw / sq * h / 100) := by
  rw [show (100 : Int32) = nI 100 from rfl, pk_mul, pk_div (by omega) (by omega) (by omega), pk_mul, pk_div (li_nat h1 h2 h3).2 (by decide) (by decide)]
theorem light_c {x y : XS} (hR : Rel x y) {p c : Nat} (hp : p < x.2.2) (hc : c < 16) : ∃ v, v ≤ 600000 ∧ s_X4_lightFrom x p (nI c) = some (nI v) ∧ s_X5_lightOf y (nI p) (nI c) = some (nI v) := by
  obtain ⟨e, k, q, h⟩ := ray hR hp hc
  obtain ⟨ba, a1, a2⟩ := aim_c hR hp hc
  obtain ⟨bb, b1, b2⟩ := blk_c hR hp hc
  obtain ⟨hp, hn', hc, e2, k1, k2, q2, e3, e4, k3, k4, q3, q4⟩ := h
  obtain ⟨s, -, s2, s3, s4⟩ := hR.2.2.1 c hc
  obtain ⟨pw, p1, p2, p3, p4⟩ := hR.2.2.2.2.2.2.2.2.1 p hp
  unfold s_X4_lightFrom s_X5_lightOf
  rw [grd_lt hp, a1, a2, Option.bind_some, Option.bind_some]
  cases ba with
  | false => exact ⟨0, by decide, rfl, rfl⟩
  | true =>
    rw [if_neg (show ¬ b2i true = 0 by decide), if_neg (show ¬ b2i true = 0 by decide), b1, b2, Option.bind_some, Option.bind_some]
    cases bb with
    | true => exact ⟨0, by decide, rfl, rfl⟩
    | false =>
      have d := sq_dec c hc q (by omega)
      have sqe : (nI c - nI q) * (nI c - nI q) + (nI k - nI e) * (nI k - nI e) = nI ((c - q) * (c - q) + (q - c) * (q - c) + (k - e) * (k - e)) := by
        rw [d.1, pk_sub (by omega : e ≤ k), pk_mul, nI_add]
      have kk : 1 ≤ (k - e) * (k - e) := Nat.mul_pos (by omega) (by omega)
      have kk2 : (k - e) * (k - e) ≤ 11 * 11 := Nat.mul_le_mul (by omega) (by omega)
      have d2 := d.2
      generalize (c - q) * (c - q) + (q - c) * (q - c) = A at d2 sqe
      generalize (k - e) * (k - e) = B at kk kk2 sqe
      have hs60 : hn s ≤ 60 := by unfold hn; rcases (show s = 0 ∨ s = 1 ∨ s = 2 by omega) with rfl | rfl | rfl <;> decide
      refine ⟨100 * pw / (A + B) * hn s / 100, (li_nat p2 (by omega) hs60).1, ?_, ?_⟩
      · rw [if_pos (show b2i false = 0 by decide), rlf hc, Option.bind_some, e3, k3, q3, p3, sqe, if_pos (leLa 1 (by omega) (by omega)), dvz_ne (nI_ne0 (by omega) (by omega)), hund hc s2 s3, Option.bind_some,
          show (if s = 0 then (60 : Int32) else if s = 1 then 40 else 0) = nI (hn s) by rcases (show s = 0 ∨ s = 1 ∨ s = 2 by omega) with rfl | rfl | rfl <;> rfl, li_i p2 (by omega) (by omega) hs60]
      · rw [if_pos (show b2i false = 0 by decide), chk_nI (by omega) (by decide), chk_nI (by omega) (by decide), chk_nI hc (by decide), chk_nI (by omega) (by decide), nI_clamp (by omega), nI_clamp (by omega), e4, k4, q4, p4, sqe, dvz_ne (nI_ne0 (by omega) (by omega)), chk_nI hc (by decide), s4, chk_nI (by omega) (by decide), nI_clamp (by omega),
          show y.1 3 s = nI (hn s) by
            obtain ⟨r0, r1, r2⟩ := hR.2.2.2.1
            rcases (show s = 0 ∨ s = 1 ∨ s = 2 by omega) with rfl | rfl | rfl
            · rw [r0]; rfl
            · rw [r1]; rfl
            · rw [r2]; rfl, li_i p2 (by omega) (by omega) hs60]
theorem foc_c {x y : XS} (hR : Rel x y) {p c : Nat} (hp : p < x.2.2) (hc : c < 16) : ∃ b, s_X4_isInFocus x p (nI c) = some (b2i b) ∧ s_X5_isSharpAt y (nI p) (nI c) = some (b2i b) := by
  obtain ⟨e, k, q, h⟩ := ray hR hp hc
  obtain ⟨hp, hn', hc, e2, k1, k2, q2, e3, e4, k3, k4, q3, q4⟩ := h
  obtain ⟨f, -, f2, f3, f4⟩ := hR.2.2.2.2.2.2.2.2.2.2.1 p hp
  unfold s_X4_isInFocus s_X5_isSharpAt
  rw [grd_lt hp, rlf hc, Option.bind_some, e3, k3, f3, chk_nI (by omega) (by decide), chk_nI hc (by decide), chk_nI (by omega) (by decide), nI_clamp (by omega), nI_clamp (by omega), k4, e4, f4]
  unfold s_X5_in
  generalize nI k - nI e - nI f = T
  by_cases g1 : T < -1
  · rw [if_pos g1]; exact ⟨false, rfl, rfl⟩
  · rw [if_neg g1]
    by_cases g2 : 1 < T
    · rw [if_pos g2]; exact ⟨false, rfl, rfl⟩
    · rw [if_neg g2]; exact ⟨true, rfl, rfl⟩
theorem rf_01 {n : Nat} {f g : Nat → Int32} (h : RF n 0 1 f g) {p : Nat} (hp : p < n) : ∃ b, f p = b2i b ∧ g p = b2i b := by
  obtain ⟨d, -, d2, d3, d4⟩ := h p hp
  rcases (show d = 0 ∨ d = 1 by omega) with rfl | rfl
  · exact ⟨false, d3, d4⟩
  · exact ⟨true, d3, d4⟩
theorem on_c {x y : XS} (hR : Rel x y) {p : Nat} (hp : p < x.2.2) : ∃ b, x.1 27 p = b2i b ∧ y.1 13 p = b2i b := by
  obtain ⟨-, -, -, -, -, -, -, -, -, -, -, -, ho, -⟩ := hR
  exact rf_01 ho hp
theorem fa_c {x y : XS} (hR : Rel x y) {p : Nat} (hp : p < x.2.2) : ∃ b, x.1 28 p = b2i b ∧ y.1 14 p = b2i b := by
  obtain ⟨-, -, -, -, -, -, -, -, -, -, -, -, -, ho, -⟩ := hR
  exact rf_01 ho hp
theorem shi_c {x y : XS} (hR : Rel x y) {p : Nat} (hp : p < x.2.2) : ∃ b, s_X0_shines x p = some (b2i b) ∧ s_X5_shines y (nI p) = some (b2i b) := by
  obtain ⟨a, a1, a2⟩ := on_c hR hp
  obtain ⟨b, b1, b2⟩ := fa_c hR hp
  have hn := hR.1.1
  unfold s_X0_shines s_X5_shines
  rw [grd_lt hp, a1, b1, chk_nI (by omega) (by decide), chk_nI (by omega) (by decide), nI_clamp (by omega), a2, b2]
  cases a <;> cases b
  · exact ⟨false, rfl, rfl⟩
  · exact ⟨false, rfl, rfl⟩
  · exact ⟨true, rfl, rfl⟩
  · exact ⟨false, rfl, rfl⟩
/-! the sums -/
theorem lit_c {x y : XS} (hR : Rel x y) {c : Nat} (hc : c < 16) : ∃ v, v ≤ 6000000 ∧ s_X4_lightOf x (nI c) = some (nI v) ∧ s_X5_lightAt y (nI c) = some (nI v) := by
  have hn := hR.1.1
  obtain ⟨v, ⟨t, t1, rfl⟩, h1, h2⟩ := lpFG hR (s_X4_lightOf_b4 x (nI c)) (s_X5_lightAt_b4 y (nI c)) (fun _ _ _ => rfl) (fun _ _ _ => rfl) (fun p s => ∃ t, t ≤ p * 600000 ∧ s = nI t) (by
    intro F G p s hp ⟨t, t1, t2⟩
    obtain ⟨b, b1, b2⟩ := shi_c hR hp
    obtain ⟨v, v1, v2, v3⟩ := light_c hR hp hc
    show ∃ s', _ ∧ (s_X0_shines x p).bind _ = _ ∧ (s_X5_shines y (nI p)).bind _ = _
    rw [b1, b2, Option.bind_some, Option.bind_some]
    cases b with
    | false =>
      refine ⟨s, ⟨t, Nat.le_trans t1 (Nat.mul_le_mul_right _ (Nat.le_succ p)), t2⟩, if_pos (show b2i false = 0 by decide), ?_⟩
      rw [if_pos (show b2i false = 0 by decide), Int32.add_zero]
    | true =>
      rw [if_neg (show ¬ b2i true = 0 by decide), if_neg (show ¬ b2i true = 0 by decide), v2, v3]
      refine ⟨s + nI v, ⟨t + v, by omega, by rw [t2, nI_add]⟩, rfl, rfl⟩) 0 ⟨0, by omega, rfl⟩
  exact ⟨t, by omega, h1, h2⟩
theorem cnt_c {x y : XS} (hR : Rel x y) : ∃ v, v ≤ 10 ∧ s_X4_countOfOn x = some (nI v) ∧ s_X5_on y = some (nI v) := by
  have hn := hR.1.1
  obtain ⟨v, ⟨t, t1, rfl⟩, h1, h2⟩ := lpFG hR (s_X4_countOfOn_b4 x) (s_X5_on_b4 y) (fun _ _ _ => rfl) (fun _ _ _ => rfl) (fun p s => ∃ t, t ≤ p ∧ s = nI t) (by
    intro F G p s hp ⟨t, t1, t2⟩
    obtain ⟨b, b1, b2⟩ := on_c hR hp
    show ∃ s', _ ∧ (if x.1 27 p = 0 then _ else _) = _ ∧ chk 10 (nI p) (if y.1 13 (nI p).toNatClampNeg = 0 then _ else _) = _
    rw [chk_nI (by omega) (by decide), nI_clamp (by omega), b1, b2]
    cases b with
    | false =>
      refine ⟨s, ⟨t, by omega, t2⟩, if_pos (show b2i false = 0 by decide), ?_⟩
      rw [if_pos (show b2i false = 0 by decide), Int32.add_zero]
    | true =>
      exact ⟨s + 1, ⟨t + 1, by omega, by rw [t2, nI_1]⟩, if_neg (show ¬ b2i true = 0 by decide), if_neg (show ¬ b2i true = 0 by decide)⟩) 0 ⟨0, by omega, rfl⟩
  exact ⟨t, by omega, h1, h2⟩
theorem loa_c {x y : XS} (hR : Rel x y) (a : Int32) : ∃ v, v ≤ 99990 ∧ s_X4_loadOf x a = some (nI v) ∧ s_X5_borne y a = some (nI v) := by
  have hn := hR.1.1
  obtain ⟨v, ⟨t, t1, rfl⟩, h1, h2⟩ := lpFG hR (s_X4_loadOf_b4 x a) (s_X5_borne_b4 y a) (fun _ _ _ => rfl) (fun _ _ _ => rfl) (fun p s => ∃ t, t ≤ p * 9999 ∧ s = nI t) (by
    intro F G p s hp ⟨t, t1, t2⟩
    obtain ⟨b, b1, b2⟩ := on_c hR hp
    obtain ⟨pw, p1, p2, p3, p4⟩ := hR.2.2.2.2.2.2.2.2.1 p hp
    obtain ⟨ph, h1, h2, h3, h4⟩ := hR.2.2.2.2.2.2.2.2.2.1 p hp
    show ∃ s', _ ∧ (if x.1 27 p = 0 then _ else (if x.1 23 p = a then _ else _)) = _ ∧ chk 10 (nI p) (if y.1 13 (nI p).toNatClampNeg = 0 then _ else chk 10 (nI p) (if y.1 9 (nI p).toNatClampNeg = a then _ else _)) = _
    rw [chk_nI (by omega) (by decide), chk_nI (by omega) (by decide), nI_clamp (by omega), b1, b2, h3, h4]
    cases b with
    | false =>
      refine ⟨s, ⟨t, Nat.le_trans t1 (Nat.mul_le_mul_right _ (Nat.le_succ p)), t2⟩, if_pos (show b2i false = 0 by decide), ?_⟩
      rw [if_pos (show b2i false = 0 by decide), Int32.add_zero]
    | true =>
      rw [if_neg (show ¬ b2i true = 0 by decide), if_neg (show ¬ b2i true = 0 by decide)]
      by_cases g : nI ph = a
      · rw [if_pos g, if_pos g, chk_nI (by omega) (by decide), p3, p4]
        exact ⟨s + nI pw, ⟨t + pw, by omega, by rw [t2, nI_add]⟩, rfl, rfl⟩
      · rw [if_neg g, if_neg g, Int32.add_zero]
        exact ⟨s, ⟨t, Nat.le_trans t1 (Nat.mul_le_mul_right _ (Nat.le_succ p)), t2⟩, rfl, rfl⟩) 0 ⟨0, by omega, rfl⟩
  exact ⟨t, by omega, h1, h2⟩
