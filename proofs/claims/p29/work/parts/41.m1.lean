/-! loops, and what the readers answer on both sides -/
theorem lp {α β : Type} (f : Nat → α → Int32 → Option β) (N : Nat) (I : Nat → α → Prop) (C : Option β → Prop) (hK : ∀ F s, I N s → C (f (F + 1) s (nI N)))
    (hs : ∀ F i s, i < N → I i s → (∀ s', I (i + 1) s' → C (f F s' (nI i + 1))) → C (f (F + 1) s (nI i))) :
    ∀ k F i s, i + k = N → k < F → I i s → C (f F s (nI i)) := by
  intro k
  induction k with
  | zero =>
    intro F i s hi hF hI
    obtain ⟨F, rfl⟩ : ∃ F', F = F' + 1 := ⟨F - 1, by omega⟩
    have hi : i = N := hi
    subst hi
    exact hK F s hI
  | succ k ih =>
    intro F i s hi hF hI
    obtain ⟨F, rfl⟩ : ∃ F', F = F' + 1 := ⟨F - 1, by omega⟩
    refine hs F i s (by omega) hI (fun s' hI' => ?_)
    rw [nI_1]
    exact ih F (i + 1) s' (by omega) (by omega) hI'
theorem lpF {x : XS} (hn : x.2.2 ≤ 10) (h2 : x.1 0 2 = nI x.2.2) {α β : Type} (f : Nat → α → Int32 → Option β) {K : α → Option β} {fb : Nat → α → Int32 → Nat → Option β}
    (hf : ∀ F s i, f (F + 1) s i = if 10 ≤ i then K s else (s_X4_find x i).bind fun v => opq v (f F s (i + 1)) (fun j => grd j x.2.2 (fb F s i j)))
    (I : Nat → α → Prop) (C : Option β → Prop) (hK : ∀ s, I x.2.2 s → C (K s))
    (hs : ∀ F p s, p < x.2.2 → I p s → (∀ s', I (p + 1) s' → C (f F s' (nI p + 1))) → C (fb F s (nI p) p)) (s : α) (h0 : I 0 s) : C (f FU s 0) := by
  refine lp f 10 (fun i s => I (min i x.2.2) s) C ?_ ?_ 10 FU 0 s rfl (by decide) ?_
  · intro F s h
    rw [hf, show nI 10 = 10 from rfl, if_pos (by decide)]
    have h : I (min 10 x.2.2) s := h
    rw [Nat.min_eq_right hn] at h
    exact hK s h
  · intro F i s hi hI k
    have hI : I (min i x.2.2) s := hI
    rw [hf, if_neg (geL 10 hi (by decide))]
    by_cases hp : i < x.2.2
    · rw [find_lt hn h2 hp]
      show C (grd i x.2.2 _)
      rw [grd_lt hp]
      rw [Nat.min_eq_left (by omega)] at hI
      refine hs F i s hp hI (fun s' hI' => k s' ?_)
      show I (min (i + 1) x.2.2) s'
      rw [Nat.min_eq_left (by omega)]
      exact hI'
    · rw [find_ge hn h2 (by omega) (by omega)]
      refine k s ?_
      show I (min (i + 1) x.2.2) s
      rw [Nat.min_eq_right (by omega)] at hI ⊢
      exact hI
  · show I (min 0 x.2.2) s
    rw [Nat.zero_min]
    exact h0
theorem fu_1 {p : Nat} (h : p ≤ 1990) : FU - p = (FU - (p + 1)) + 1 := by unfold FU; omega
theorem lpFG {x y : XS} (hR : Rel x y) (f g : Nat → Int32 → Int32 → Option Int32) {fb : Nat → Int32 → Int32 → Nat → Option Int32} {gb : Nat → Int32 → Int32 → Option Int32}
    (hf : ∀ F s i, f (F + 1) s i = if 10 ≤ i then some s else (s_X4_find x i).bind fun v => opq v (f F s (i + 1)) (fun j => grd j x.2.2 (fb F s i j)))
    (hg : ∀ F s i, g (F + 1) s i = if y.1 0 8 ≤ i then some s else gb F s i) (I : Nat → Int32 → Prop)
    (hs : ∀ F G p s, p < x.2.2 → I p s → ∃ s', I (p + 1) s' ∧ fb F s (nI p) p = f F s' (nI p + 1) ∧ gb G s (nI p) = g G s' (nI p + 1)) (s : Int32) (h0 : I 0 s) :
    ∃ v, I x.2.2 v ∧ f FU s 0 = some v ∧ g FU s 0 = some v := by
  obtain ⟨hn, h2, h8⟩ := hR.1
  refine lpF hn h2 f hf (fun p s' => I p s' ∧ p ≤ x.2.2 ∧ g FU s 0 = g (FU - p) s' (nI p)) (fun r => ∃ v, I x.2.2 v ∧ r = some v ∧ g FU s 0 = some v) ?_ ?_ s ⟨h0, Nat.zero_le _, rfl⟩
  · intro s' h
    refine ⟨s', h.1, rfl, ?_⟩
    rw [h.2.2, fu_1 (by omega), hg, h8, if_pos (nI_le (Nat.le_refl _) (by omega))]
  · intro F p s' hp h k
    obtain ⟨s2, q1, q2, q3⟩ := hs F (FU - (p + 1)) p s' hp h.1
    rw [q2]
    refine k s2 ⟨q1, hp, ?_⟩
    rw [h.2.2, fu_1 (by omega), hg, h8, if_neg (nI_ge hp (by omega)), q3, nI_1]
theorem dvz_ne {α : Type} {d : Int32} {B : Option α} (h : ¬ d = 0) : dvz d B = B := by unfold dvz; rw [if_neg h]
theorem one_ne : ¬ (1 : Int32) = 0 := by decide
theorem col_lt {c : Nat} (h : c < 16) : s_X4_isColumn (nI c) = some 1 := by
  unfold s_X4_isColumn
  rw [if_neg (nI_pos (by omega)), if_neg (geL 16 (by omega) (by decide))]
theorem rlf {x : XS} {c : Nat} (h : c < 16) : s_X2_reliefOf x (nI c) = some (x.1 6 c) := by
  unfold s_X2_reliefOf
  rw [col_lt h, Option.bind_some, if_neg one_ne, chk_nI h (by decide), nI_clamp (by omega)]
theorem hund {x : XS} {c s : Nat} (h : c < 16) (hs : s ≤ 2) (e : x.1 7 c = nI s) : s_X2_hundredthsOf x (nI c) = some (if s = 0 then 60 else if s = 1 then 40 else 0) := by
  unfold s_X2_hundredthsOf
  rw [col_lt h, Option.bind_some, if_neg one_ne, chk_nI h (by decide), nI_clamp (by omega), e]
  unfold s_X2_hundredthsOf_b17
  rcases (show s = 0 ∨ s = 1 ∨ s = 2 by omega) with rfl | rfl | rfl <;> rfl
theorem cell_lt {c r : Nat} (h : c < 16) (h2 : r < 12) : s_X2_isCell (nI c) (nI r) = some 1 := by
  unfold s_X2_isCell
  rw [if_neg (nI_pos (by omega)), if_neg (geL 16 (by omega) (by decide)), if_neg (nI_pos (by omega)), if_neg (geL 12 (by omega) (by decide))]
theorem ix12 (c r : Nat) : nI c * 12 + nI r = nI (c * 12 + r) := by rw [show (12 : Int32) = nI 12 from rfl, pk_mul, nI_add]
theorem ix16 (c r : Nat) : 16 * nI r + nI c = nI (16 * r + c) := by rw [show (16 : Int32) = nI 16 from rfl, pk_mul, nI_add]
theorem cont {x : XS} {c r : Nat} (h : c < 16) (h2 : r < 12) : s_X2_contentOf x (nI c) (nI r) = some (x.1 8 (c * 12 + r)) := by
  unfold s_X2_contentOf
  rw [cell_lt h h2, Option.bind_some, if_neg one_ne, ix12, chk_nI (by omega) (by decide), nI_clamp (by omega)]
theorem cr_dec : ∀ q, q < 16 → ∀ c, c < 16 → ∀ R, R < 12 → ∀ g, g < R → ¬ ((2 * ((nI q * nI R) + ((nI c - nI q) * nI g))) + nI R) / (2 * nI R) < 0 ∧ ((2 * ((nI q * nI R) + ((nI c - nI q) * nI g))) + nI R) / (2 * nI R) < nI 16 := by decide +kernel
theorem cr_c {q c e k r : Nat} (hq : q < 16) (hc : c < 16) (he : e < r) (hr : r < k) (hk : k < 12) :
    ∃ v, v < 16 ∧ ((2 * ((nI q * (nI k - nI e)) + ((nI c - nI q) * (nI k - nI r)))) + (nI k - nI e)) / (2 * (nI k - nI e)) = nI v ∧ ¬ 2 * (nI k - nI e) = 0 := by
  have h := cr_dec q hq c hc (k - e) (by omega) (k - r) (by omega)
  rw [pk_sub (by omega : e ≤ k), pk_sub (by omega : r ≤ k)]
  obtain ⟨v, hv, hv2⟩ := nI_of h.1
  refine ⟨v, ?_, hv2, ?_⟩
  · have h3 := h.2
    rw [hv2] at h3
    exact (nI_ltI hv (by decide)).mp h3
  · rw [show (2 : Int32) = nI 2 from rfl, pk_mul]
    exact nI_ne0 (by omega) (by omega)
/-- what a ray needs to know -/
def Ray (x y : XS) (p c e k q : Nat) : Prop := p < x.2.2 ∧ x.2.2 ≤ 10 ∧ c < 16 ∧ e ≤ 2 ∧ 3 ≤ k ∧ k ≤ 11 ∧ q ≤ 15 ∧ x.1 6 c = nI e ∧ y.1 1 c = nI e ∧ x.1 21 p = nI k ∧ y.1 7 p = nI k ∧ x.1 20 p = nI q ∧ y.1 6 p = nI q
theorem ray {x y : XS} (hR : Rel x y) {p c : Nat} (hp : p < x.2.2) (hc : c < 16) : ∃ e k q, Ray x y p c e k q := by
  obtain ⟨hN, hrel, -, -, -, -, hcol, hrow, -⟩ := hR
  obtain ⟨e, -, e2, e3, e4⟩ := hrel c hc
  obtain ⟨k, k1, k2, k3, k4⟩ := hrow p hp
  obtain ⟨q, -, q2, q3, q4⟩ := hcol p hp
  exact ⟨e, k, q, hp, hN.1, hc, e2, k1, k2, q2, e3, e4, k3, k4, q3, q4⟩
theorem sub1 {k e : Nat} (h : e < k) (hk : k < 2 ^ 31) : ¬ nI k - nI e < 1 := by
  rw [pk_sub (by omega : e ≤ k)]
  exact nI_nlt (a := k - e) (b := 1) (by omega) (by omega)
theorem cross_c {x y : XS} {p c e k q r : Nat} (h : Ray x y p c e k q) (he : e < r) (hr : r < k) :
    ∃ v, v < 16 ∧ s_X4_crossing x p (nI c) (nI r) = some (nI v) ∧ s_X5_cross y (nI p) (nI c) (nI r) = some (nI v) := by
  obtain ⟨hp, hn, hc, e2, k1, k2, q2, e3, e4, k3, k4, q3, q4⟩ := h
  obtain ⟨v, hv, h1, h2⟩ := cr_c (q := q) (c := c) (by omega) hc he hr (by omega)
  refine ⟨v, hv, ?_, ?_⟩
  · unfold s_X4_crossing
    rw [rlf hc, Option.bind_some, grd_lt hp, e3, k3, q3, if_neg (sub1 (by omega) (by omega)), if_neg (nI_ge he (by omega)), if_pos (nI_lt hr (by omega)), dvz_ne h2, h1]
  · unfold s_X5_cross
    rw [chk_nI (by omega) (by decide), chk_nI hc (by decide), chk_nI (by omega) (by decide), chk_nI (by omega) (by decide), chk_nI (by omega) (by decide), nI_clamp (by omega), nI_clamp (by omega), k4, q4, e4, dvz_ne h2, h1]
theorem at_c (c r : Nat) : s_X5_at (nI c) (nI r) = some (nI (16 * r + c)) := by unfold s_X5_at; rw [ix16]
theorem nI_i {a b : Nat} (ha : a < 2 ^ 31) (hb : b < 2 ^ 31) (h : ¬ a = b) : ¬ nI a = nI b := fun q => h ((nI_eq ha hb).mp q)
/-- one row of a ray -/
theorem row_s {x y : XS} (hR : Rel x y) {p c e k q r : Nat} (h : Ray x y p c e k q) (he : e < r) (hr : r < k) : ∃ v b,
    s_X4_crossing x p (nI c) (nI r) = some (nI v) ∧ s_X2_stopsRays x (nI v) (nI r) = some (b2i b) ∧
    (∀ G, s_X5_isBlocked_b12 y (nI p) (nI c) (G + 1) 0 (nI r) = s_X5_isBlocked_b12 y (nI p) (nI c) G (b2i b) (nI r + 1)) ∧
    (∀ G, s_X5_isBlocked_b12 y (nI p) (nI c) (G + 1) 1 (nI r) = s_X5_isBlocked_b12 y (nI p) (nI c) G 1 (nI r + 1)) := by
  obtain ⟨v, hv, h1, h2⟩ := cross_c h he hr
  obtain ⟨hp, hn, hc, e2, k1, k2, q2, e3, e4, k3, k4, q3, q4⟩ := h
  obtain ⟨d, -, d2, d3, d4⟩ := hR.2.1 v hv
  obtain ⟨w, m, w1, m1, w2, w3, w4, w5, -⟩ := hR.2.2.2.2.1 v r hv (by omega)
  have st : ∀ s G, s_X5_isBlocked_b12 y (nI p) (nI c) (G + 1) s (nI r) = if s = 0 then (if nI r < nI d then s_X5_isBlocked_b12 y (nI p) (nI c) G 1 (nI r + 1) else if nI w = 1 then s_X5_isBlocked_b12 y (nI p) (nI c) G 1 (nI r + 1) else if nI m = 0 then s_X5_isBlocked_b12 y (nI p) (nI c) G 0 (nI r + 1) else s_X5_isBlocked_b12 y (nI p) (nI c) G 1 (nI r + 1)) else s_X5_isBlocked_b12 y (nI p) (nI c) G 1 (nI r + 1) := by
    intro s G
    rw [s_X5_isBlocked_b12, chk_nI (by omega) (by decide), nI_clamp (by omega), k4, if_neg (nI_ge hr (by omega)), h2, Option.bind_some]
    rw [chk_nI hv (by decide), nI_clamp (by omega), d4, at_c, Option.bind_some, chk_nI (by omega) (by decide), Option.bind_some, chk_nI (by omega) (by decide), nI_clamp (by omega), w2, w3]
  have cl : s_X2_stopsRays x (nI v) (nI r) = if nI r < nI d then some 1 else if x.1 8 (v * 12 + r) = 1 then some 1 else if x.1 8 (v * 12 + r) = 4 then some 1 else some 0 := by
    unfold s_X2_stopsRays
    rw [cont hv (by omega), Option.bind_some, rlf hv, Option.bind_some, d3]
  have st1 : ∀ G, s_X5_isBlocked_b12 y (nI p) (nI c) (G + 1) 1 (nI r) = s_X5_isBlocked_b12 y (nI p) (nI c) G 1 (nI r + 1) := fun G => by rw [st, if_neg one_ne]
  by_cases c1 : r < d
  · refine ⟨v, true, h1, ?_, fun G => ?_, st1⟩
    · rw [cl, if_pos (nI_lt c1 (by omega))]; rfl
    · rw [st, if_pos rfl, if_pos (nI_lt c1 (by omega))]; rfl
  · have c1' := nI_nlt (a := r) (b := d) (by omega) (by omega)
    by_cases c2 : m = 0
    · subst c2
      rw [if_pos rfl] at w4
      by_cases c3 : w = 1
      · subst c3
        refine ⟨v, true, h1, ?_, fun G => ?_, st1⟩
        · rw [cl, if_neg c1', w4, if_pos (by decide)]; rfl
        · rw [st, if_pos rfl, if_neg c1', if_pos (by decide)]; rfl
      · have c3' : ¬ nI w = 1 := iL 1 (by omega) (by decide) c3
        refine ⟨v, false, h1, ?_, fun G => ?_, st1⟩
        · rw [cl, if_neg c1', w4, if_neg c3', if_neg (iL 4 (by omega) (by decide) (by omega))]; rfl
        · rw [st, if_pos rfl, if_neg c1', if_neg c3', if_pos (by decide)]; rfl
    · have hm : m = 1 := by omega
      subst hm
      have := w5 rfl
      subst this
      rw [if_neg c2] at w4
      refine ⟨v, true, h1, ?_, fun G => ?_, st1⟩
      · rw [cl, if_neg c1', w4, if_neg (by decide), if_pos rfl]; rfl
      · rw [st, if_pos rfl, if_neg c1', if_neg (by decide), if_neg (by decide)]; rfl
theorem blk_1 {x y : XS} (hR : Rel x y) {p c e k q r : Nat} (h : Ray x y p c e k q) (he : e < r) (hr : r ≤ k) {G : Nat} (hG : 20 ≤ G) : s_X5_isBlocked_b12 y (nI p) (nI c) G 1 (nI r) = some 1 := by
  refine lp (fun F (_ : Unit) i => s_X5_isBlocked_b12 y (nI p) (nI c) F 1 i) k (fun i _ => e < i) (fun r => r = some 1) ?_ ?_ (k - r) G r () (by omega) (by have := h.2.2.2.2.2.1; omega) he
  · intro F _ _
    obtain ⟨hp, hn, hc, e2, k1, k2, q2, e3, e4, k3, k4, q3, q4⟩ := h
    show s_X5_isBlocked_b12 y (nI p) (nI c) (F + 1) 1 (nI k) = some 1
    rw [s_X5_isBlocked_b12, chk_nI (by omega) (by decide), nI_clamp (by omega), k4, if_pos (nI_le (Nat.le_refl _) (by omega))]
    rfl
  · intro F i _ hi hI kk
    obtain ⟨v, b, -, -, -, h4⟩ := row_s hR h hI hi
    show s_X5_isBlocked_b12 y (nI p) (nI c) (F + 1) 1 (nI i) = some 1
    rw [h4]
    exact kk () (by omega)
theorem blk_c {x y : XS} (hR : Rel x y) {p c : Nat} (hp : p < x.2.2) (hc : c < 16) : ∃ b, s_X4_isBlocked x p (nI c) = some (b2i b) ∧ s_X5_isBlocked y (nI p) (nI c) = some (b2i b) := by
  obtain ⟨e, k, q, h⟩ := ray hR hp hc
  have h' := h
  obtain ⟨hp, hn, hc, e2, k1, k2, q2, e3, e4, k3, k4, q3, q4⟩ := h'
  have m0 : s_X5_isBlocked y (nI p) (nI c) = s_X5_isBlocked_b12 y (nI p) (nI c) FU 0 (nI (e + 1)) := by
    unfold s_X5_isBlocked
    rw [chk_nI hc (by decide), nI_clamp (by omega), e4, nI_1]
  have c0 : s_X4_isBlocked x p (nI c) = s_X4_isBlocked_b11 x p (nI c) FU (nI (e + 1)) := by
    unfold s_X4_isBlocked
    rw [rlf hc, Option.bind_some, e3, nI_1]
  rw [m0, c0]
  refine lp (fun F (_ : Unit) i => s_X4_isBlocked_b11 x p (nI c) F i) k (fun i _ => e < i ∧ i ≤ k ∧ s_X5_isBlocked_b12 y (nI p) (nI c) FU 0 (nI (e + 1)) = s_X5_isBlocked_b12 y (nI p) (nI c) (FU - (i - (e + 1))) 0 (nI i)) (fun r => ∃ b, r = some (b2i b) ∧ s_X5_isBlocked_b12 y (nI p) (nI c) FU 0 (nI (e + 1)) = some (b2i b)) ?_ ?_ (k - (e + 1)) FU (e + 1) () (by omega) (by unfold FU; omega) ⟨by omega, by omega, by rw [Nat.sub_self]; rfl⟩
  · intro F _ hI
    refine ⟨false, ?_, ?_⟩
    · show s_X4_isBlocked_b11 x p (nI c) (F + 1) (nI k) = some 0
      rw [s_X4_isBlocked_b11, grd_lt hp, k3, if_pos (nI_le (Nat.le_refl _) (by omega))]
    · rw [hI.2.2, fu_1 (by omega), s_X5_isBlocked_b12, chk_nI (by omega) (by decide), nI_clamp (by omega), k4, if_pos (nI_le (Nat.le_refl _) (by omega))]
      rfl
  · intro F i _ hi hI kk
    obtain ⟨v, b, h1, h2, h3, h4⟩ := row_s hR h hI.1 hi
    show ∃ b, s_X4_isBlocked_b11 x p (nI c) (F + 1) (nI i) = some (b2i b) ∧ _
    rw [s_X4_isBlocked_b11, grd_lt hp, k3, if_neg (nI_ge hi (by omega)), h1, Option.bind_some, h2, Option.bind_some]
    have e5 : s_X5_isBlocked_b12 y (nI p) (nI c) FU 0 (nI (e + 1)) = s_X5_isBlocked_b12 y (nI p) (nI c) (FU - (i - (e + 1) + 1)) (b2i b) (nI i + 1) := by rw [hI.2.2, fu_1 (by omega), h3]
    cases b with
    | true =>
      rw [if_neg (show ¬ b2i true = 0 by decide)]
      refine ⟨true, rfl, ?_⟩
      rw [e5, nI_1]
      exact blk_1 hR h (by omega) (by omega) (by unfold FU; omega)
    | false =>
      rw [if_pos (show b2i false = 0 by decide)]
      refine kk () ⟨by omega, by omega, ?_⟩
      rw [e5, nI_1, show i + 1 - (e + 1) = i - (e + 1) + 1 by omega]
      rfl
