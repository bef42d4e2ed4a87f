/-! the least sets -/
def ov (o : Option Nat) : Int32 := match o with
  | none => -1
  | some j => nI j
def fw (n : Nat) (o : Option Nat) : Int32 := match o with
  | none => nI (n + 1)
  | some j => nI (bc j)
def up (v : Nat → Bool) (o : Option Nat) (k : Nat) : Option Nat := if v k = true then (match o with
  | none => some k
  | some j => if bc k < bc j then some k else some j) else o
def rn (v : Nat → Bool) : Nat → Option Nat
  | 0 => none
  | k + 1 => up v (rn v k) k
def vd (y : XS) (n d k : Nat) : Bool := pk y n k && en y n d k
theorem rn_p (v : Nat → Bool) : ∀ k, (rn v k = none ∧ ∀ i, i < k → v i = false) ∨ ∃ j, rn v k = some j ∧ j < k ∧ v j = true ∧ ∀ i, i < k → v i = true → bc j ≤ bc i
  | 0 => Or.inl ⟨rfl, fun i h => absurd h (Nat.not_lt_zero i)⟩
  | k + 1 => by
    show (up v (rn v k) k = none ∧ _) ∨ ∃ j, up v (rn v k) k = some j ∧ _
    unfold up
    by_cases hv : v k = true
    · rw [if_pos hv]
      rcases rn_p v k with ⟨h1, h2⟩ | ⟨j, h1, h2, h3, h4⟩
      · rw [h1]
        refine Or.inr ⟨k, rfl, by omega, hv, fun i hi hvi => ?_⟩
        by_cases e : i = k
        · rw [e]; exact Nat.le_refl _
        · rw [h2 i (by omega)] at hvi; exact absurd hvi (by decide)
      · rw [h1]
        by_cases hb : bc k < bc j
        · refine Or.inr ⟨k, if_pos hb, by omega, hv, fun i hi hvi => ?_⟩
          by_cases e : i = k
          · rw [e]; exact Nat.le_refl _
          · have := h4 i (by omega) hvi; omega
        · refine Or.inr ⟨j, if_neg hb, by omega, h3, fun i hi hvi => ?_⟩
          by_cases e : i = k
          · rw [e]; omega
          · exact h4 i (by omega) hvi
    · rw [if_neg hv]
      rcases rn_p v k with ⟨h1, h2⟩ | ⟨j, h1, h2, h3, h4⟩
      · refine Or.inl ⟨h1, fun i hi => ?_⟩
        by_cases e : i = k
        · rw [e]; cases h : v k; rfl; exact absurd h hv
        · exact h2 i (by omega)
      · refine Or.inr ⟨j, h1, by omega, h3, fun i hi hvi => ?_⟩
        by_cases e : i = k
        · rw [e] at hvi; exact absurd hvi hv
        · exact h4 i (by omega) hvi
theorem rn_stay {v : Nat → Bool} {u : Nat} (h : ∀ k, u ≤ k → v k = false) : ∀ m, rn v (u + m) = rn v u
  | 0 => rfl
  | m + 1 => by
    show up v (rn v (u + m)) (u + m) = _
    unfold up
    rw [if_neg (by rw [h _ (by omega)]; decide), rn_stay h m]
theorem rn_lt {v : Nat → Bool} {k j : Nat} (h : rn v k = some j) : j < k := by
  rcases rn_p v k with ⟨h1, -⟩ | ⟨j', h1, h2, -⟩
  · rw [h1] at h; exact absurd h (by simp)
  · rw [h1] at h; cases h; exact h2
theorem nI_ne_m1 {k : Nat} (h : k < 2 ^ 31) : ¬ nI k = -1 := fun g => absurd (show nI k < 0 by rw [g]; decide) (nI_pos h)
theorem lst_y {x y : XS} (hR : Rel x y) {d : Nat} (hd : d < 2 ^ 16) (e : y.1 0 6 = nI d) : s_X5_leastSet y = some (ov (rn (vd y x.2.2 d) (2 ^ x.2.2))) := by
  obtain ⟨hn, h2, h8⟩ := hR.1
  obtain ⟨f, hf, h1, hfb⟩ := fai_y hR
  rw [h1]
  have p2 := p2_le hn
  refine lp (fun F s i => s_X5_leastSet_b41 y F (nI f) s i) (2 ^ x.2.2) (fun i s => s = ov (rn (vd y x.2.2 d) i)) (fun r => r = some (ov (rn (vd y x.2.2 d) (2 ^ x.2.2)))) ?_ ?_ (2 ^ x.2.2) FU 0 (-1) (by omega) (by unfold FU; omega) rfl
  · rintro F s rfl
    show s_X5_leastSet_b41 y (F + 1) (nI f) _ (nI (2 ^ x.2.2)) = _
    rw [s_X5_leastSet_b41, h8, p2_n x.2.2 (by omega), if_pos (nI_le (Nat.le_refl _) (by omega))]
  · rintro F k s hk rfl kk
    show s_X5_leastSet_b41 y (F + 1) (nI f) _ (nI k) = _
    have kk' := kk _ rfl
    have kk' : s_X5_leastSet_b41 y F (nI f) (ov (up (vd y x.2.2 d) (rn (vd y x.2.2 d) k) k)) (nI k + 1) = some (ov (rn (vd y x.2.2 d) (2 ^ x.2.2))) := kk'
    rw [s_X5_leastSet_b41, h8, p2_n x.2.2 (by omega), if_neg (nI_ge hk (by omega))]
    have h72 : ∀ o q, s_X5_leastSet_b72 y (fun z_p1 z_p2 z_p3 => s_X5_leastSet_b41 y F z_p1 z_p2 z_p3) (nI f) o (nI k) q = s_X5_leastSet_b41 y F (nI f) (if vd y x.2.2 d k = true ∧ ¬ q = 0 then nI k else o) (nI k + 1) := by
      intro o q
      unfold s_X5_leastSet_b72 vd
      cases hp : pk y x.2.2 k with
      | false =>
        rw [if_neg (fun z => by rw [(pk_y hn hk hf hfb).mp z] at hp; exact absurd hp (by decide)), if_neg (fun z => by simp at z)]
      | true =>
        rw [if_pos ((pk_y hn hk hf hfb).mpr hp), Bool.true_and]
        by_cases hq : q = 0
        · rw [if_pos hq, if_neg (fun z => z.2 hq)]
        · rw [if_neg hq, eno_y hR (by omega) hd e, Option.bind_some]
          cases he : en y x.2.2 d k with
          | false => rw [if_pos (show b2i false = 0 by decide), if_neg (fun z => by simp at z)]
          | true => rw [if_neg (show ¬ b2i true = 0 by decide), if_pos ⟨rfl, hq⟩]
    rw [← kk']
    cases ho : rn (vd y x.2.2 d) k with
    | none =>
      rw [if_pos (show ov none = -1 from rfl), h72]
      unfold up
      by_cases hv : vd y x.2.2 d k = true
      · rw [if_pos ⟨hv, by decide⟩, if_pos hv]; rfl
      · rw [if_neg (fun z => hv z.1), if_neg hv]
    | some j =>
      have hj := rn_lt ho
      rw [if_neg (show ¬ ov (some j) = -1 from nI_ne_m1 (by omega)), bc_y (by omega), Option.bind_some, show ov (some j) = nI j from rfl, bc_y (show j < 1024 by omega), Option.bind_some]
      have b1 := bc_le 10 (by decide) k (by omega)
      have b2 := bc_le 10 (by decide) j (by omega)
      unfold up
      by_cases hb : bc k < bc j
      · rw [if_neg (nI_ge hb (by omega)), h72]
        by_cases hv : vd y x.2.2 d k = true
        · rw [if_pos ⟨hv, by decide⟩, if_pos hv]
          show _ = s_X5_leastSet_b41 y F (nI f) (ov (if bc k < bc j then some k else some j)) _
          rw [if_pos hb]; rfl
        · rw [if_neg (fun z => hv z.1), if_neg hv]; rfl
      · rw [if_pos (nI_le (by omega) (by omega)), h72, if_neg (fun z => z.2 rfl)]
        by_cases hv : vd y x.2.2 d k = true
        · rw [if_pos hv]
          show _ = s_X5_leastSet_b41 y F (nI f) (ov (if bc k < bc j then some k else some j)) _
          rw [if_neg hb]; rfl
        · rw [if_neg hv]; rfl
theorem u_lt {y : XS} {n u : Nat} (hn : n ≤ 10) (hu : u < 1024) (h : ∀ i, i < 10 → u.testBit i = (decide (i < n) && decide (y.1 14 i = 0))) : u < 2 ^ n := by
  have e : u = u % 2 ^ n := by
    refine tb_ext (m := 10) hu (Nat.lt_of_le_of_lt (Nat.mod_le _ _) hu) (fun i hi => ?_)
    rw [Nat.testBit_mod_two_pow, h i hi]
    cases decide (i < n) <;> rfl
  rw [e]
  exact Nat.mod_lt _ (Nat.two_pow_pos n)
theorem rn_u {y : XS} {n d u : Nat} (hn : n ≤ 10) (hu : u < 1024) (h : ∀ i, i < 10 → u.testBit i = (decide (i < n) && decide (y.1 14 i = 0))) : rn (fun k => decide (k < 2 ^ n) && vd y n d k) (2 ^ n) = rn (fun k => decide (k < 2 ^ n) && vd y n d k) (u + 1) := by
  have h1 := u_lt hn hu h
  have := rn_stay (v := fun k => decide (k < 2 ^ n) && vd y n d k) (u := u + 1) (fun k hk => by
    show (decide (k < 2 ^ n) && vd y n d k) = false
    by_cases hk2 : k < 2 ^ n
    · rw [decide_eq_true hk2, Bool.true_and]
      unfold vd
      cases hp : pk y n k
      · rfl
      · have := (pk_x hn hk2 hu h).2 hp; omega
    · rw [decide_eq_false hk2]; rfl) (2 ^ n - (u + 1))
  rwa [show u + 1 + (2 ^ n - (u + 1)) = 2 ^ n by omega] at this
theorem rn_cong {v w : Nat → Bool} : ∀ k, (∀ i, i < k → v i = w i) → rn v k = rn w k
  | 0, _ => rfl
  | k + 1, h => by
    show up v (rn v k) k = up w (rn w k) k
    rw [rn_cong k (fun i hi => h i (by omega))]
    unfold up
    rw [h k (by omega)]
theorem rn_u' {y : XS} {n d u : Nat} (hn : n ≤ 10) (hu : u < 1024) (h : ∀ i, i < 10 → u.testBit i = (decide (i < n) && decide (y.1 14 i = 0))) : rn (vd y n d) (2 ^ n) = rn (vd y n d) (u + 1) := by
  have h1 := u_lt hn hu h
  have e : ∀ k, k ≤ 2 ^ n → rn (vd y n d) k = rn (fun k => decide (k < 2 ^ n) && vd y n d k) k := fun k hk => rn_cong k (fun i hi => by
    show _ = (decide (i < 2 ^ n) && vd y n d i)
    rw [decide_eq_true (show i < 2 ^ n by omega), Bool.true_and])
  rw [e _ (Nat.le_refl _), e _ (by omega)]
  exact rn_u hn hu h
theorem lst_x {x y : XS} (hS : Srv x y) {d u : Nat} (hd : d < 2 ^ 16) (e : x.1 0 5 = nI d) (hu : u < 1024) (hub : ∀ i, i < 10 → u.testBit i = (decide (i < x.2.2) && decide (y.1 14 i = 0))) : s_X4_least_b21 FU x (nI u) (-1) (x.1 0 2 + 1) 0 = some (ov (rn (vd y x.2.2 d) (2 ^ x.2.2)), x) := by
  obtain ⟨hn, h2, h8⟩ := hS.1.1
  have p2 := p2_le hn
  have hul := u_lt hn hu hub
  rw [rn_u' hn hu hub, h2, nI_1]
  refine lp (fun F (s : Int32 × Int32) i => s_X4_least_b21 F x (nI u) s.1 s.2 i) (u + 1) (fun i s => s = (ov (rn (vd y x.2.2 d) i), fw x.2.2 (rn (vd y x.2.2 d) i))) (fun r => r = some (ov (rn (vd y x.2.2 d) (u + 1)), x)) ?_ ?_ (u + 1) FU 0 (-1, nI (x.2.2 + 1)) (by omega) (by unfold FU; omega) rfl
  · rintro F s rfl
    show s_X4_least_b21 (F + 1) x (nI u) _ _ (nI (u + 1)) = _
    rw [s_X4_least_b21, if_pos (nI_lt (by omega) (by omega))]
  · rintro F k s hk rfl kk
    show s_X4_least_b21 (F + 1) x (nI u) _ _ (nI k) = _
    have kk' : s_X4_least_b21 F x (nI u) (ov (up (vd y x.2.2 d) (rn (vd y x.2.2 d) k) k)) (fw x.2.2 (up (vd y x.2.2 d) (rn (vd y x.2.2 d) k) k)) (nI k + 1) = some (ov (rn (vd y x.2.2 d) (u + 1)), x) := kk _ rfl
    rw [s_X4_least_b21, if_neg (nI_nlt (by omega) (by omega)), bc_j k (by omega), Option.bind_some]
    cases ho : rn (vd y x.2.2 d) k with
    | none =>
      rw [ho] at kk'
      unfold up at kk'
      unfold vd at kk'
      cases hp : pk y x.2.2 k with
      | false =>
        rw [hp, if_neg (by simp)] at kk'
        rw [if_neg (fun z => by rw [(pk_x hn (by omega) hu hub).1.mp z] at hp; exact absurd hp (by decide))]
        exact kk'
      | true =>
        rw [if_pos ((pk_x hn (by omega) hu hub).1.mpr hp), if_neg (show ¬ fw x.2.2 none ≤ nI (bc k) from nI_ge (Nat.lt_succ_of_le (bc_le x.2.2 (by omega) k (by omega))) (by omega)), all_x hS (by omega) hd e, Option.bind_some]
        rw [hp, Bool.true_and] at kk'
        cases he : en y x.2.2 d k with
        | false =>
          rw [he, if_neg (by decide)] at kk'
          rw [if_pos (show b2i false = 0 by decide)]
          exact kk'
        | true =>
          rw [he, if_pos rfl] at kk'
          rw [if_neg (show ¬ b2i true = 0 by decide)]
          exact kk'
    | some j =>
      have hj := rn_lt ho
      rw [ho] at kk'
      unfold up at kk'
      unfold vd at kk'
      have b1 := bc_le 10 (by decide) k (by omega)
      have b2 := bc_le 10 (by decide) j (by omega)
      cases hp : pk y x.2.2 k with
      | false =>
        rw [hp, if_neg (by simp)] at kk'
        rw [if_neg (fun z => by rw [(pk_x hn (by omega) hu hub).1.mp z] at hp; exact absurd hp (by decide))]
        exact kk'
      | true =>
        rw [if_pos ((pk_x hn (by omega) hu hub).1.mpr hp), show fw x.2.2 (some j) = nI (bc j) from rfl]
        rw [hp, Bool.true_and] at kk'
        by_cases hb : bc k < bc j
        · rw [if_neg (nI_ge hb (by omega)), all_x hS (by omega) hd e, Option.bind_some]
          cases he : en y x.2.2 d k with
          | false =>
            rw [he, if_neg (by decide)] at kk'
            rw [if_pos (show b2i false = 0 by decide)]
            exact kk'
          | true =>
            have kk' : s_X4_least_b21 F x (nI u) (ov (if en y x.2.2 d k = true then (if bc k < bc j then some k else some j) else some j)) (fw x.2.2 (if en y x.2.2 d k = true then (if bc k < bc j then some k else some j) else some j)) (nI k + 1) = some (ov (rn (vd y x.2.2 d) (u + 1)), x) := kk'
            rw [if_pos he, if_pos hb] at kk'
            rw [if_neg (show ¬ b2i true = 0 by decide)]
            exact kk'
        · rw [if_pos (nI_le (by omega) (by omega))]
          have kk' : s_X4_least_b21 F x (nI u) (ov (if en y x.2.2 d k = true then (if bc k < bc j then some k else some j) else some j)) (fw x.2.2 (if en y x.2.2 d k = true then (if bc k < bc j then some k else some j) else some j)) (nI k + 1) = some (ov (rn (vd y x.2.2 d) (u + 1)), x) := kk'
          rw [if_neg hb] at kk'
          cases he : en y x.2.2 d k with
          | false => rw [he, if_neg (by decide)] at kk'; exact kk'
          | true => rw [he, if_pos rfl] at kk'; exact kk'
def aw (o : Option Nat) : Int32 := match o with
  | none => -1
  | some j => nI (bc j)
theorem anw_x {x y : XS} (hS : Srv x y) {d u : Nat} (hd : d < 2 ^ 16) (e : x.1 0 5 = nI d) (hu : u < 1024) (hub : ∀ i, i < 10 → u.testBit i = (decide (i < x.2.2) && decide (y.1 14 i = 0))) : s_X4_leastAnew_b11 FU x (nI u) 0 = some (aw (rn (vd y x.2.2 d) (2 ^ x.2.2)), x) := by
  obtain ⟨hn, h2, h8⟩ := hS.1.1
  have p2 := p2_le hn
  have hul := u_lt hn hu hub
  have hrp := rn_p (vd y x.2.2 d) (2 ^ x.2.2)
  refine lp (fun F (_ : Unit) i => s_X4_leastAnew_b11 F x (nI u) i) (x.2.2 + 1) (fun z _ => z ≤ x.2.2 + 1 ∧ ∀ k, k < 2 ^ x.2.2 → vd y x.2.2 d k = true → z ≤ bc k) (fun r => r = some (aw (rn (vd y x.2.2 d) (2 ^ x.2.2)), x)) ?_ ?_ (x.2.2 + 1) FU 0 () (by omega) (by unfold FU; omega) ⟨by omega, fun _ _ _ => Nat.zero_le _⟩
  · rintro F - ⟨-, h⟩
    show s_X4_leastAnew_b11 (F + 1) x (nI u) (nI (x.2.2 + 1)) = _
    rw [s_X4_leastAnew_b11, h2, if_pos (nI_lt (by omega) (by omega))]
    rcases hrp with ⟨h1, -⟩ | ⟨j, h1, g2, g3, -⟩
    · rw [h1]; rfl
    · have a1 := h j g2 g3
      have a2 := bc_le x.2.2 (by omega) j g2
      omega
  · rintro F z - hz ⟨-, h⟩ kk
    show s_X4_leastAnew_b11 (F + 1) x (nI u) (nI z) = _
    rw [s_X4_leastAnew_b11, h2, if_neg (nI_nlt (by omega) (by omega))]
    refine lp (fun G (_ : Unit) i => s_X4_leastAnew_b21 (fun zx z_p1 z_p2 => s_X4_leastAnew_b11 F zx z_p1 z_p2) G x (nI u) (nI z) i) (u + 1) (fun k _ => ∀ i, i < k → vd y x.2.2 d i = true → ¬ bc i = z) (fun r => r = some (aw (rn (vd y x.2.2 d) (2 ^ x.2.2)), x)) ?_ ?_ (u + 1) FU 0 () (by omega) (by unfold FU; omega) (fun i hi => absurd hi (Nat.not_lt_zero i))
    · rintro G - g
      show s_X4_leastAnew_b21 _ (G + 1) x (nI u) (nI z) (nI (u + 1)) = _
      rw [s_X4_leastAnew_b21, if_pos (nI_lt (by omega) (by omega))]
      refine kk () ⟨by omega, fun k hk hv => ?_⟩
      have a1 := h k hk hv
      have a2 : k ≤ u := by
        have hv' := hv
        unfold vd at hv'
        exact (pk_x hn hk hu hub).2 (Bool.and_eq_true _ _ ▸ hv' : _ ∧ _).1
      have a3 := g k (by omega) hv
      omega
    · rintro G k - hk g kk2
      show s_X4_leastAnew_b21 _ (G + 1) x (nI u) (nI z) (nI k) = _
      rw [s_X4_leastAnew_b21, if_neg (nI_nlt (by omega) (by omega))]
      have b1 := bc_le 10 (by decide) k (by omega)
      have ev : vd y x.2.2 d k = (pk y x.2.2 k && en y x.2.2 d k) := rfl
      have go : (vd y x.2.2 d k = true → ¬ bc k = z) → s_X4_leastAnew_b21 (fun zx z_p1 z_p2 => s_X4_leastAnew_b11 F zx z_p1 z_p2) G x (nI u) (nI z) (nI k + 1) = some (aw (rn (vd y x.2.2 d) (2 ^ x.2.2)), x) := by
        intro w
        refine kk2 () (fun i hi hv => ?_)
        by_cases ei : i = k
        · subst ei; exact w hv
        · exact g i (by omega) hv
      cases hp : pk y x.2.2 k with
      | false =>
        rw [if_neg (fun q => by rw [(pk_x hn (by omega) hu hub).1.mp q] at hp; exact absurd hp (by decide))]
        refine go (fun q => ?_)
        rw [ev, hp] at q
        exact absurd q (by simp)
      | true =>
        rw [if_pos ((pk_x hn (by omega) hu hub).1.mpr hp), bc_j k (by omega), Option.bind_some]
        by_cases hbz : bc k = z
        · rw [if_pos (by rw [hbz]), all_x hS (by omega) hd e, Option.bind_some]
          cases he : en y x.2.2 d k with
          | false =>
            rw [if_pos (show b2i false = 0 by decide)]
            refine go (fun q => ?_)
            rw [ev, he, Bool.and_false] at q
            exact absurd q (by decide)
          | true =>
            rw [if_neg (show ¬ b2i true = 0 by decide)]
            have hv : vd y x.2.2 d k = true := by rw [ev, hp, he]; rfl
            rcases hrp with ⟨-, h1⟩ | ⟨j, h1, g2, g3, g4⟩
            · rw [h1 k (by omega)] at hv; exact absurd hv (by decide)
            · have a1 := g4 k (by omega) hv
              have a2 := h j g2 g3
              rw [h1, show aw (some j) = nI (bc j) from rfl, show bc j = z by omega]
        · rw [if_neg (fun q => hbz ((nI_eq (by omega) (by omega)).mp q))]
          exact go (fun _ => hbz)
