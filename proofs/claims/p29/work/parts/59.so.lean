/-! isSo: what the asked methods answer, in numbers -/
theorem shi_e {x y : XS} (hR : Rel x y) {p : Nat} (hp : p < x.2.2) : s_X0_shines x p = some (b2i (!nsh y p)) := by
  have hn := hR.1.1
  have b2 := shi_w (y := y) (w := y) rfl (show p < 10 by omega)
  obtain ⟨b', c1, c2⟩ := shi_c hR hp
  have eb : b' = !nsh y p := by
    rw [b2] at c2
    revert c2
    cases b' <;> cases nsh y p <;> intro c2 <;> first | rfl | exact absurd (Option.some.inj c2) (by decide)
  rw [c1, eb]
/-- the light that a projector gives now -/
def tl (y : XS) (n c p : Nat) : Nat := if p < n ∧ nsh y p = false then Lm y p c else 0
theorem tl_no {y : XS} {n c p : Nat} (h : nsh y p = true) : tl y n c p = 0 := by
  unfold tl
  rw [if_neg (fun q => by rw [h] at q; exact absurd q.2 (by decide))]
theorem tl_z {y : XS} {n c p : Nat} (h : n ≤ p) : tl y n c p = 0 := by
  unfold tl
  rw [if_neg (fun q => Nat.not_lt.mpr h q.1)]
theorem tl_yes {y : XS} {n c p : Nat} (h : p < n) (h2 : nsh y p = false) : tl y n c p = Lm y p c := by
  unfold tl
  rw [if_pos ⟨h, h2⟩]
theorem tl_le {x y : XS} (hR : Rel x y) {c : Nat} (hc : c < 16) (p : Nat) : tl y x.2.2 c p ≤ 600000 := by
  unfold tl
  by_cases h : p < x.2.2 ∧ nsh y p = false
  · rw [if_pos h]; exact (light_m hR h.1 hc).1
  · rw [if_neg h]; exact Nat.zero_le _
/-- the light of a column -/
def TT (y : XS) (n c : Nat) : Nat := sm (tl y n c) 10
theorem tl_10 {y : XS} {n c : Nat} (hn : n ≤ 10) : sm (tl y n c) n = TT y n c := by
  unfold TT
  have := sm_z (t := tl y n c) (n := n) (fun p h => tl_z h) (10 - n)
  rw [show n + (10 - n) = 10 by omega] at this
  exact this.symm
theorem TT_le {x y : XS} (hR : Rel x y) {c : Nat} (hc : c < 16) : TT y x.2.2 c ≤ 6000000 := by
  have := sm_le (tl_le hR hc) 10
  unfold TT
  omega
theorem lit_e {x y : XS} (hR : Rel x y) {c : Nat} (hc : c < 16) : s_X4_lightOf x (nI c) = some (nI (TT y x.2.2 c)) := by
  obtain ⟨hn, h2, h8⟩ := hR.1
  rw [← tl_10 hn]
  refine lpF hn h2 (s_X4_lightOf_b4 x (nI c)) (K := fun s => some s) (fun _ _ _ => rfl) (fun p s => s = nI (sm (tl y x.2.2 c) p)) (fun r => r = some (nI (sm (tl y x.2.2 c) x.2.2))) (fun s h => by rw [h]) ?_ 0 rfl
  rintro F p s hp rfl kk
  have kk : ∀ s', s' = nI (sm (tl y x.2.2 c) p + tl y x.2.2 c p) → s_X4_lightOf_b4 x (nI c) F s' (nI p + 1) = _ := fun s' h => kk s' h
  show (s_X0_shines x p).bind _ = _
  rw [shi_e hR hp, Option.bind_some]
  cases hs : nsh y p with
  | true =>
    rw [if_pos (show b2i (!true) = 0 by decide)]
    exact kk _ (by rw [tl_no hs, Nat.add_zero])
  | false =>
    rw [if_neg (show ¬ b2i (!false) = 0 by decide), (light_m hR hp hc).2.1, Option.bind_some]
    exact kk _ (by rw [tl_yes hp hs, nI_add])
/-- .. and as it is blended -/
def bl (y : XS) (n L c p : Nat) : Nat := if TT y n c ≤ L then tl y n c p else tl y n c p * L / TT y n c
theorem bl_0 {y : XS} {n L c p : Nat} (h : tl y n c p = 0) : bl y n L c p = 0 := by
  unfold bl
  rw [h, Nat.zero_mul, Nat.zero_div]
  by_cases h : TT y n c ≤ L
  · rw [if_pos h]
  · rw [if_neg h]
theorem bl_le {y : XS} {n L c p : Nat} : bl y n L c p ≤ tl y n c p := by
  unfold bl
  by_cases h : TT y n c ≤ L
  · rw [if_pos h]; exact Nat.le_refl _
  · rw [if_neg h]
    refine Nat.div_le_of_le_mul ?_
    rw [Nat.mul_comm]
    exact Nat.mul_le_mul_right _ (by omega)
theorem bld_e {x y : XS} (hR : Rel x y) {p c L : Nat} (hp : p < x.2.2) (hc : c < 16) (hL : x.1 0 6 = nI L) (hL2 : L ≤ 9999) : s_X4_blended x (nI p) (nI c) = some (0, nI (bl y x.2.2 L c p), x) := by
  obtain ⟨hn, h2, h8⟩ := hR.1
  have tb := TT_le hR hc
  unfold s_X4_blended
  rw [find_lt hn h2 hp, Option.bind_some, opq_s, col_lt hc, Option.bind_some, if_neg one_ne, grd_lt hp, shi_e hR hp, Option.bind_some]
  cases hs : nsh y p with
  | true =>
    rw [if_pos (show b2i (!true) = 0 by decide), bl_0 (tl_no hs)]
    rfl
  | false =>
    have t1 : tl y x.2.2 c p = Lm y p c := tl_yes hp hs
    have l1 := (light_m hR hp hc).1
    rw [if_neg (show ¬ b2i (!false) = 0 by decide), (light_m hR hp hc).2.1, Option.bind_some, lit_e hR hc, Option.bind_some]
    unfold bl
    rw [t1]
    by_cases h0 : TT y x.2.2 c = 0
    · rw [if_pos (show nI (TT y x.2.2 c) ≤ 0 by rw [h0]; decide), if_pos (show TT y x.2.2 c ≤ L by omega)]
    · rw [if_neg (nI_nle (by omega) (by omega)), hL]
      by_cases h : TT y x.2.2 c ≤ L
      · rw [if_neg (nI_nlt h (by omega)), if_pos h]
      · have lm : Lm y p c * L ≤ 600000 * 9999 := Nat.mul_le_mul l1 hL2
        have z : ¬ lN (TT y x.2.2 c) = 0 := fun g => h0 ((pk_lEQ (a := TT y x.2.2 c) (b := 0) (by omega) (by decide)).mp g)
        rw [if_pos (nI_lt (by omega) (by omega)), if_neg h, nI_l (show TT y x.2.2 c < 2 ^ 31 by omega), dvzL_ne z, nI_l (show Lm y p c < 2 ^ 31 by omega), nI_l (show L < 2 ^ 31 by omega), lN_mul, pk_lDiv (by omega) (by omega) (by omega), lN_i]
theorem sm_cong {f g : Nat → Nat} (h : ∀ p, f p = g p) (n : Nat) : sm f n = sm g n := congrArg (fun t => sm t n) (funext h)
/-- what is summed up of 'gives' -/
def gx (y : XS) (n L c p : Nat) : Nat := if 0 < bl y n L c p then Lm y p c else 0
theorem sum_le {y : XS} {n L c : Nat} (h : TT y n c ≤ L) : sm (bl y n L c) 10 = TT y n c ∧ sm (gx y n L c) 10 = TT y n c := by
  have e : ∀ p, bl y n L c p = tl y n c p := fun p => by unfold bl; rw [if_pos h]
  refine ⟨sm_cong e 10, sm_cong (fun p => ?_) 10⟩
  unfold gx
  rw [e p]
  by_cases h0 : 0 < tl y n c p
  · rw [if_pos h0]
    unfold tl at h0 ⊢
    by_cases g : p < n ∧ nsh y p = false
    · rw [if_pos g]
    · rw [if_neg g] at h0; exact absurd h0 (Nat.lt_irrefl 0)
  · rw [if_neg h0]; omega
theorem sum_gt {y : XS} {n L c : Nat} (h : L < TT y n c) : sm (bl y n L c) 10 ≤ L ∧ L < sm (bl y n L c) 10 + 10 := by
  have key : ∀ k, TT y n c * sm (bl y n L c) k ≤ sm (tl y n c) k * L ∧ sm (tl y n c) k * L + k ≤ TT y n c * (sm (bl y n L c) k + k) := by
    intro k
    induction k with
    | zero => exact ⟨by simp [sm], by simp [sm]⟩
    | succ k ih =>
      have e : bl y n L c k = tl y n c k * L / TT y n c := by unfold bl; rw [if_neg (by omega)]
      have d1 : TT y n c * bl y n L c k ≤ tl y n c k * L := by rw [e]; exact Nat.mul_div_le _ _
      have d2 : tl y n c k * L + 1 ≤ TT y n c * (bl y n L c k + 1) := by
        rw [e]
        have := Nat.lt_mul_div_succ (tl y n c k * L) (show 0 < TT y n c by omega)
        omega
      have s1 : sm (bl y n L c) (k + 1) = sm (bl y n L c) k + bl y n L c k := rfl
      have s2 : sm (tl y n c) (k + 1) = sm (tl y n c) k + tl y n c k := rfl
      rw [s1, s2, Nat.mul_add, Nat.add_mul]
      refine ⟨by omega, ?_⟩
      rw [show sm (bl y n L c) k + bl y n L c k + (k + 1) = (sm (bl y n L c) k + k) + (bl y n L c k + 1) by omega, Nat.mul_add]
      omega
  obtain ⟨k1, k2⟩ := key 10
  have e : sm (tl y n c) 10 = TT y n c := rfl
  rw [e] at k1 k2
  refine ⟨Nat.le_of_mul_le_mul_left k1 (by omega), ?_⟩
  have : TT y n c * L < TT y n c * (sm (bl y n L c) 10 + 10) := by omega
  exact Nat.lt_of_mul_lt_mul_left this
/-- a state of the object, as long as it is only asked -/
def So (y : XS) (n d L : Nat) (xx : XS) : Prop := Rel xx y ∧ xx.2.2 = n ∧ n ≤ 10 ∧ d < 2 ^ 16 ∧ xx.1 0 5 = nI d ∧ 1 ≤ L ∧ L ≤ 9999 ∧ xx.1 0 6 = nI L
theorem So.next {y : XS} {n d L : Nat} {xx xx' : XS} (h : So y n d L xx) (hR : Rel xx' y) (hn : xx'.2.2 = xx.2.2) : So y n d L xx' := by
  obtain ⟨h1, h2, h3, h4, h5, h6, h7, h8⟩ := h
  have f := f56_of h1 hR
  exact ⟨hR, hn.trans h2, h3, h4, f.1.trans h5, h6, h7, f.2.trans h8⟩
theorem so_least {y : XS} {n d L : Nat} {xx : XS} (h : So y n d L xx) : ∃ x', s_X4_least xx = some (ov (rn (vd y n d) (2 ^ n)), x') ∧ So y n d L x' := by
  obtain ⟨x', q1, q2, q3⟩ := lea_e h.1 h.2.2.2.1 h.2.2.2.2.1
  rw [h.2.1] at q1
  exact ⟨x', q1, h.next q2 q3⟩
theorem so_anew {y : XS} {n d L : Nat} {xx : XS} (h : So y n d L xx) : ∃ x', s_X4_leastAnew xx = some (aw (rn (vd y n d) (2 ^ n)), x') ∧ So y n d L x' := by
  obtain ⟨x', q1, q2, q3⟩ := anw_e h.1 h.2.2.2.1 h.2.2.2.2.1
  rw [h.2.1] at q1
  exact ⟨x', q1, h.next q2 q3⟩
theorem so_cov {y : XS} {n d L : Nat} {xx : XS} (h : So y n d L xx) {k : Nat} (hk : k < 2 ^ n) : ∃ M x', s_X4_covered xx (nI k) = some (0, nI M, x') ∧ So y n d L x' ∧ ((nI d &&& (nI M ^^^ (-1))) = 0 ↔ en y n d k = true) := by
  obtain ⟨M, x', q1, q2, q3, q4, q5⟩ := cov_e h.1 (by rw [h.2.1]; exact hk)
  refine ⟨M, x', q1, h.next q4 q5, ?_⟩
  rw [h.2.1] at q3
  have hd := h.2.2.2.1
  have hl : (d &&& (2 ^ 16 - 1 ^^^ M)) < 2 ^ 31 := Nat.lt_of_le_of_lt Nat.and_le_left (by omega)
  rw [nx_dif (m := 16) hd (by decide), nI_eq0 hl, tb_0 (m := 16) (Nat.lt_of_le_of_lt Nat.and_le_left hd)]
  unfold en
  rw [al_iff]
  have hb : ∀ i, i < 16 → (d &&& (2 ^ 16 - 1 ^^^ M)).testBit i = (d.testBit i && !Wq y n k i) := by
    intro i hi
    rw [Nat.testBit_and, Nat.testBit_xor, Nat.testBit_two_pow_sub_one, decide_eq_true hi, q3 i hi, Bool.true_xor]
  constructor
  · intro h i hi
    have := h i hi
    rw [hb i hi] at this
    show (!d.testBit i || Wq y n k i) = true
    cases h3 : d.testBit i <;> cases h4 : Wq y n k i <;> rw [h3, h4] at this <;> first | rfl | exact absurd this (by decide)
  · intro h i hi
    have : (!d.testBit i || Wq y n k i) = true := h i hi
    rw [hb i hi]
    cases h3 : d.testBit i <;> cases h4 : Wq y n k i <;> rw [h3, h4] at this <;> first | rfl | exact absurd this (by decide)
theorem rm_dec : ∀ k, k < 1024 → ∀ p, p < 10 → k.testBit p = true → rm k p = k - 2 ^ p ∧ 2 ^ p ≤ k ∧ bc (rm k p) + 1 = bc k := by decide +kernel
/-- the least set, when there is one -/
def Lst (y : XS) (n d j : Nat) : Prop := rn (vd y n d) (2 ^ n) = some j
theorem lst_f {y : XS} {n d j : Nat} (hn : n ≤ 10) (h : Lst y n d j) : j < 2 ^ n ∧ j < 1024 ∧ en y n d j = true ∧ ∀ p, p < 10 → j.testBit p = true → p < n ∧ rm j p = j - 2 ^ p ∧ 2 ^ p ≤ j ∧ rm j p < 2 ^ n ∧ en y n d (rm j p) = false := by
  have p2 := p2_le hn
  rcases rn_p (vd y n d) (2 ^ n) with ⟨h1, -⟩ | ⟨j', h1, h2, h3, h4⟩
  · rw [show rn (vd y n d) (2 ^ n) = some j from h] at h1; exact absurd h1 (by simp)
  · have e : j' = j := Option.some.inj (h1.symm.trans h)
    subst e
    have hv : pk y n j' = true ∧ en y n d j' = true := by unfold vd at h3; exact (Bool.and_eq_true _ _ ▸ h3 : _ ∧ _)
    refine ⟨h2, by omega, hv.2, fun p hp hb => ?_⟩
    obtain ⟨r1, r2, r3⟩ := rm_dec j' (by omega) p hp hb
    have pn : p < n := by
      refine Nat.not_le.mp (fun q => ?_)
      rw [Nat.testBit_lt_two_pow (Nat.lt_of_lt_of_le h2 (Nat.pow_le_pow_right (by decide) q))] at hb
      exact absurd hb (by decide)
    have rl : rm j' p < 2 ^ n := by rw [r1]; exact Nat.lt_of_le_of_lt (Nat.sub_le _ _) h2
    refine ⟨pn, r1, r2, rl, ?_⟩
    cases he : en y n d (rm j' p) with
    | false => rfl
    | true =>
      have pkr : pk y n (rm j' p) = true := by
        unfold pk
        rw [al_iff]
        intro i hi
        have g : (!(j'.testBit i && decide (¬ y.1 14 i = 0))) = true := (al_iff _ n).mp hv.1 i hi
        show (!((rm j' p).testBit i && decide (¬ y.1 14 i = 0))) = true
        have hm : (rm j' p).testBit i = (j'.testBit i && (2 ^ 10 - 1 ^^^ 2 ^ p).testBit i) := by unfold rm; rw [Nat.testBit_and]
        rw [hm]
        cases hj : j'.testBit i with
        | false => rfl
        | true =>
          rw [hj, Bool.true_and] at g
          cases hf : decide (¬ y.1 14 i = 0) with
          | false => rw [Bool.and_false]; rfl
          | true => rw [hf] at g; exact absurd g (by decide)
      have := h4 (rm j' p) rl (by unfold vd; rw [pkr, he]; rfl)
      omega
theorem so_bears {y : XS} {n d L : Nat} {xx : XS} (h : So y n d L xx) {j p : Nat} (hj : Lst y n d j) (hp : p < 10) (hb : j.testBit p = true) : ∃ x', s_X4_bears xx (nI j) = some (0, 0, x') ∧ So y n d L x' := by
  obtain ⟨l1, l2, l3, l4⟩ := lst_f h.2.2.1 hj
  obtain ⟨pn, -, -, -, e⟩ := l4 p hp hb
  obtain ⟨x', q1, q2, q3⟩ := bea_e h.1 (by rw [h.2.1]; exact l1) h.2.2.2.1 h.2.2.2.2.1
  refine ⟨x', ?_, h.next q2 q3⟩
  rw [q1, h.2.1]
  have : al (br y n d j) n = false := by
    cases ha : al (br y n d j) n with
    | false => rfl
    | true =>
      have := (al_iff _ n).mp ha p pn
      unfold br at this
      rw [hb, e] at this
      exact absurd this (by decide)
  rw [this, Bool.and_false]
  rfl
theorem so_bl {y : XS} {n d L : Nat} {xx : XS} (h : So y n d L xx) {p c : Nat} (hp : p < 10) (hc : c < 16) : s_L_blended xx (nI p) (nI c) = some (if p < n then lN (bl y n L c p) else N9, xx) := by
  unfold s_L_blended
  by_cases hn : p < n
  · have b := bl_le (y := y) (n := n) (L := L) (c := c) (p := p)
    have t := tl_le h.1 hc p
    rw [h.2.1] at t
    have e := bld_e h.1 (by rw [h.2.1]; exact hn) hc h.2.2.2.2.2.2.2 h.2.2.2.2.2.2.1
    rw [h.2.1] at e
    rw [e, Option.bind_some, if_pos (Or.inl rfl), if_pos hn]
    show some (wv 0 (nI (bl y n L c p)).toInt64, xx) = _
    rw [nI_l (by omega)]
    rfl
  · obtain ⟨hn10, h2, -⟩ := h.1.1
    have e : s_X4_blended xx (nI p) (nI c) = some (1, 0, xx) := by
      unfold s_X4_blended
      rw [find_ge hn10 h2 (by rw [h.2.1]; omega) (by omega), Option.bind_some, opq_n]
    rw [e, Option.bind_some, if_pos (Or.inr rfl), if_neg hn]
    rfl
theorem so_gives {y : XS} {n d L : Nat} {xx : XS} (h : So y n d L xx) {p c : Nat} (hp : p < n) (hc : c < 16) : s_X4_gives xx (nI p) (nI c) = some (0, nI (Lm y p c), xx) := by
  obtain ⟨hn10, h2, -⟩ := h.1.1
  have hp' : p < xx.2.2 := by rw [h.2.1]; exact hp
  unfold s_X4_gives
  rw [find_lt hn10 h2 hp', Option.bind_some, opq_s, col_lt hc, Option.bind_some, if_neg one_ne, grd_lt hp', (light_m h.1 hp' hc).2.1, Option.bind_some]
theorem so_light {y : XS} {n d L : Nat} {xx : XS} (h : So y n d L xx) {c : Nat} (hc : c < 16) : s_X4_light xx (nI c) = some (0, nI (TT y n c), xx) := by
  unfold s_X4_light
  rw [col_lt hc, Option.bind_some, if_neg one_ne, lit_e h.1 hc, Option.bind_some, h.2.1]
theorem so_16 (xx : XS) : s_L_light xx 16 = some (N9, xx) := by
  unfold s_L_light s_X4_light s_X4_isColumn
  rw [if_neg (by decide), if_pos (by decide), Option.bind_some, if_pos rfl, Option.bind_some, if_pos (Or.inr rfl)]
  rfl
theorem so_6 (xx : XS) : s_L_show xx 6 = some (N9, xx) := by
  unfold s_L_show s_X4_show
  rw [if_neg (by decide), if_neg (by decide), if_neg (by decide), if_neg (by decide), if_neg (by decide), if_neg (by decide), Option.bind_some, if_pos (Or.inr rfl)]
  rfl
/-- a least set's bits, counted -/
theorem bc_sm (k : Nat) : sm (fun p => k / 2 ^ p % 2) 10 = bc k := by
  show 0 + k / 1 % 2 + k / 2 % 2 + k / 4 % 2 + k / 8 % 2 + k / 16 % 2 + k / 32 % 2 + k / 64 % 2 + k / 128 % 2 + k / 256 % 2 + k / 512 % 2 = bc k
  unfold bc
  rw [Nat.zero_add, Nat.div_one]
theorem bit_n {k p : Nat} (hk : k < 1024) (hp : p < 10) : (nI k >>> (nI p &&& 31)) &&& 1 = nI (k / 2 ^ p % 2) := by
  rw [tb k p (by omega) (by omega), Nat.testBit_eq_decide_div_mod_eq]
  rcases Nat.mod_two_eq_zero_or_one (k / 2 ^ p) with h | h <;> rw [h] <;> rfl
theorem bit_0 {k p : Nat} : nI (k / 2 ^ p % 2) = 0 ↔ k.testBit p = false := by
  rw [Nat.testBit_eq_decide_div_mod_eq]
  rcases Nat.mod_two_eq_zero_or_one (k / 2 ^ p) with h | h <;> rw [h] <;> decide
theorem rm_sub {k p : Nat} (hk : k < 1024) (hp : p < 10) (hb : k.testBit p = true) : nI k - ((1 : Int32) <<< (nI p &&& 31)) = nI (rm k p) := by
  obtain ⟨r1, r2, -⟩ := rm_dec k hk p hp hb
  rw [one_sh p (by omega), pk_sub r2, r1]
/-- compares of the longs -/
theorem its_no {y : XS} {n L c p : Nat} (h : ¬ (p < n ∧ 0 < bl y n L c p)) : ¬ (0 : Int64) < (if p < n then lN (bl y n L c p) else N9) := by
  by_cases hp : p < n
  · have b0 : bl y n L c p = 0 := by
      refine Nat.le_zero.mp (Nat.not_lt.mp (fun q => h ⟨hp, q⟩))
    rw [if_pos hp, b0]
    decide
  · rw [if_neg hp]
    decide
theorem bl_zz {y : XS} {n L c p : Nat} (h : ¬ (p < n ∧ 0 < bl y n L c p)) : bl y n L c p = 0 ∧ gx y n L c p = 0 := by
  have b0 : bl y n L c p = 0 := by
    by_cases hp : p < n
    · exact Nat.le_zero.mp (Nat.not_lt.mp (fun q => h ⟨hp, q⟩))
    · exact bl_0 (tl_z (Nat.not_lt.mp hp))
  refine ⟨b0, ?_⟩
  unfold gx
  rw [b0, if_neg (Nat.lt_irrefl 0)]
theorem lv_10 {L B : Nat} (h1 : 1 ≤ L) (h2 : L ≤ 9999) (h3 : B ≤ L) (h4 : L < B + 10) : (nI L - 10).toInt64 < lN B := by
  rw [Int64.lt_iff_toInt_lt, Int32.toInt_toInt64, show (10 : Int32) = nI 10 from rfl, pk_sub_toInt (by omega) (by decide), lN_toInt (by omega)]
  omega
