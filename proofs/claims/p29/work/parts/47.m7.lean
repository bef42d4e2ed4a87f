/-! tools for the calls -/
theorem rngL (lo hi : Nat) (hlo : lo ≤ hi) (hhi : hi < 2 ^ 30) (a : Int32) : (∃ d, lo ≤ d ∧ d ≤ hi ∧ a = nI d ∧ s_X5_in a (OfNat.ofNat lo) (OfNat.ofNat hi) = some 1 ∧ ∀ {α : Type} (A B : α), (if a < OfNat.ofNat lo then A else if a ≤ OfNat.ofNat hi then B else A) = B) ∨
    (s_X5_in a (OfNat.ofNat lo) (OfNat.ofNat hi) = some 0 ∧ ∀ {α : Type} (A B : α), (if a < OfNat.ofNat lo then A else if a ≤ OfNat.ofNat hi then B else A) = A) := by
  rcases rng lo hi hlo hhi a with ⟨d, h1, h2, rfl⟩ | h | ⟨h, h0⟩
  · refine Or.inl ⟨d, h1, h2, rfl, in_yes h1 h2 (by omega), fun A B => ?_⟩
    rw [if_neg (nltL lo h1 (by omega)), if_pos (leL hi h2 (by omega))]
  · refine Or.inr ⟨in_lo h, fun A B => ?_⟩
    rw [if_pos (show a < OfNat.ofNat lo from h)]
  · refine Or.inr ⟨in_hi h h0, fun A B => ?_⟩
    rw [if_neg (show ¬ a < OfNat.ofNat lo from h0), if_neg (show ¬ a ≤ OfNat.ofNat hi from (gt_np (by omega) h).2.1)]
theorem rngS (lo hi : Nat) (hlo : lo ≤ hi) (hhi : hi + 1 < 2 ^ 30) (a : Int32) : (∃ d, lo ≤ d ∧ d ≤ hi ∧ a = nI d ∧ s_X5_in a (OfNat.ofNat lo) (OfNat.ofNat hi) = some 1 ∧ ∀ {α : Type} (A B : α), (if a < OfNat.ofNat lo then A else if a < nI (hi + 1) then B else A) = B) ∨
    (s_X5_in a (OfNat.ofNat lo) (OfNat.ofNat hi) = some 0 ∧ ∀ {α : Type} (A B : α), (if a < OfNat.ofNat lo then A else if a < nI (hi + 1) then B else A) = A) := by
  rcases rng lo hi hlo (by omega) a with ⟨d, h1, h2, rfl⟩ | h | ⟨h, h0⟩
  · refine Or.inl ⟨d, h1, h2, rfl, in_yes h1 h2 (by omega), fun A B => ?_⟩
    rw [if_neg (nltL lo h1 (by omega)), if_pos (nI_lt (by omega) (by omega))]
  · refine Or.inr ⟨in_lo h, fun A B => ?_⟩
    rw [if_pos (show a < OfNat.ofNat lo from h)]
  · refine Or.inr ⟨in_hi h h0, fun A B => ?_⟩
    rw [if_neg (show ¬ a < OfNat.ofNat lo from h0), if_neg]
    intro q
    have q1 := Int32.lt_iff_toInt_lt.mp q
    have q2 := Int32.lt_iff_toInt_lt.mp h
    rw [nI_toInt (by omega)] at q1 q2
    omega
theorem gw0 {α : Type} (y : XS) (K : Int32 × XS → Option α) : (s_X5_goesWell y 0).bind K = K (1, si y 0 0 0) := rfl
theorem gwb {α : Type} (y : XS) {c : Int32} (hc : ¬ c = 0) (K : Int32 × XS → Option α) : (s_X5_goesWell y c).bind K = K (0, si y 0 0 c) := by
  unfold s_X5_goesWell
  rw [if_neg hc, Option.bind_some]
theorem thr {x y : XS} (hR : Rel x y) (c : Int32) : Rel x (si y 0 0 c) := by
  obtain ⟨a1, a2, a3, a4, a5, a6, a7, a8, a9, a10, a11, a12, a13, a14, a15, a16, a17, a18, a19, a20, a21, a22, a23, a24, a25, a26, a27, hU⟩ := hR
  exact ⟨a1, a2, a3, a4, a5, a6, a7, a8, a9, a10, a11, a12, a13, a14, a15, a16, a17, a18, a19, a20, a21, a22, a23, a24, a25, a26, a27, hU⟩
theorem isC_y {c : Nat} (h : c < 16) : s_X5_isColumn (nI c) = some 1 := by
  unfold s_X5_isColumn
  rw [show s_X5_in (nI c) 0 15 = some 1 from in_yes (lo := 0) (hi := 15) (Nat.zero_le _) (by omega) (by decide)]
  rfl
theorem set_c {x y : XS} (hR : Rel x y) (a : Int32) : (∃ k, k < 2 ^ x.2.2 ∧ a = nI k ∧ s_X4_isSetOfProjectors x a = some 1 ∧ s_X5_isSet y a = some 1) ∨ (s_X4_isSetOfProjectors x a = some 0 ∧ s_X5_isSet y a = some 0) := by
  obtain ⟨hn, h2, h8⟩ := hR.1
  have p2 := p2_le hn
  have pp : 1 ≤ 2 ^ x.2.2 := Nat.two_pow_pos _
  unfold s_X4_isSetOfProjectors s_X5_isSet
  rw [h2, h8, p2_n x.2.2 (by omega), show (1 : Int32) = nI 1 from rfl, pk_sub pp]
  rcases rng 0 (2 ^ x.2.2 - 1) (by omega) (by omega) a with ⟨d, h1, h3, rfl⟩ | h | ⟨h, h0⟩
  · refine Or.inl ⟨d, by omega, rfl, ?_, ?_⟩
    · rw [if_neg (nI_pos (by omega)), if_neg (nI_ge (by omega) (by omega))]
    · rw [show s_X5_in (nI d) 0 (nI (2 ^ x.2.2 - 1)) = some 1 from in_yes (lo := 0) h1 h3 (by omega)]; rfl
  · refine Or.inr ⟨?_, ?_⟩
    · rw [if_pos (show a < 0 from h)]
    · rw [show s_X5_in a 0 (nI (2 ^ x.2.2 - 1)) = some 0 from in_lo h]; rfl
  · refine Or.inr ⟨?_, ?_⟩
    · rw [if_neg (show ¬ a < 0 from h0), if_pos]
      have e := Int32.lt_iff_toInt_lt.mp h
      apply Int32.le_iff_toInt_le.mpr
      rw [nI_toInt (by omega)] at e ⊢
      omega
    · rw [show s_X5_in a 0 (nI (2 ^ x.2.2 - 1)) = some 0 from in_hi h h0]; rfl
/-! bears -/
def rm (k p : Nat) : Nat := k &&& (2 ^ 10 - 1 ^^^ 2 ^ p)
def br (y : XS) (n d k : Nat) (p : Nat) : Bool := !k.testBit p || en y n d (rm k p)
theorem bit_and {k p : Nat} (hp : p < 31) (hk : k < 1024) : nI k &&& nI (2 ^ p) = 0 ↔ k.testBit p = false := by
  rw [nx_and', nI_eq0 (Nat.lt_of_le_of_lt Nat.and_le_left (by omega))]
  constructor
  · intro h
    have : (k &&& 2 ^ p).testBit p = false := by rw [h, Nat.zero_testBit]
    rw [Nat.testBit_and, Nat.testBit_two_pow_self, Bool.and_true] at this
    exact this
  · intro h
    apply Nat.eq_of_testBit_eq
    intro i
    rw [Nat.testBit_and, Nat.testBit_two_pow, Nat.zero_testBit]
    by_cases e : p = i
    · subst e; rw [h]; rfl
    · rw [decide_eq_false e, Bool.and_false]
theorem rm_e {k p : Nat} (hk : k < 1024) (hp : p < 10) : nI k &&& (((1 : Int32) <<< (nI p &&& 31)) ^^^ (-1)) = nI (rm k p) ∧ rm k p < 1024 := by
  rw [one_sh p (by omega), nx_dif (m := 10) hk (by decide)]
  exact ⟨rfl, Nat.lt_of_le_of_lt Nat.and_le_left hk⟩
theorem bea_y {x y : XS} (hR : Rel x y) {k d : Nat} (hk : k < 1024) (hd : d < 2 ^ 16) (e : y.1 0 6 = nI d) (e0 : Bool) : s_X5_bears_b30 (nI k) FU y (b2i e0) 0 = some (b2i (e0 && al (br y x.2.2 d k) x.2.2), y) := by
  obtain ⟨hn, h2, h8⟩ := hR.1
  refine lp (fun F s i => s_X5_bears_b30 (nI k) F y s i) x.2.2 (fun i s => s = b2i (e0 && al (br y x.2.2 d k) i)) (fun r => r = some (b2i (e0 && al (br y x.2.2 d k) x.2.2), y)) ?_ ?_ x.2.2 FU 0 (b2i e0) (by omega) (by unfold FU; omega) (by show _ = b2i (e0 && true); rw [Bool.and_true])
  · rintro F s rfl
    show s_X5_bears_b30 (nI k) (F + 1) y _ (nI x.2.2) = _
    rw [s_X5_bears_b30, h8, if_pos (nI_le (Nat.le_refl _) (by omega)), zb_b2i]
  · rintro F p s hp rfl kk
    show s_X5_bears_b30 (nI k) (F + 1) y _ (nI p) = _
    have kk' : s_X5_bears_b30 (nI k) F y (b2i (e0 && (al (br y x.2.2 d k) p && br y x.2.2 d k p))) (nI p + 1) = _ := kk _ rfl
    rw [← Bool.and_assoc] at kk'
    rw [s_X5_bears_b30, h8, if_neg (nI_ge hp (by omega)), tb k p (by omega) (by omega), (rm_e hk (by omega)).1, eno_y hR (rm_e hk (by omega)).2 hd e, Option.bind_some]
    unfold br at kk'
    cases ha : (e0 && al (br y x.2.2 d k) p) with
    | false =>
      rw [if_pos (show b2i false = 0 by decide)]
      rw [show (e0 && al (fun p => !k.testBit p || en y x.2.2 d (rm k p)) p) = false from ha] at kk'
      exact kk'
    | true =>
      rw [if_neg (show ¬ b2i true = 0 by decide)]
      rw [show (e0 && al (fun p => !k.testBit p || en y x.2.2 d (rm k p)) p) = true from ha, Bool.true_and] at kk'
      cases hb : k.testBit p with
      | false =>
        rw [hb] at kk'
        rw [if_pos (show b2i false = 0 by decide)]
        exact kk'
      | true =>
        rw [hb] at kk'
        rw [if_neg (show ¬ b2i true = 0 by decide)]
        cases hc : en y x.2.2 d (rm k p) with
        | false => rw [hc] at kk'; rw [if_pos (show b2i false = 0 by decide)]; exact kk'
        | true => rw [hc] at kk'; rw [if_neg (show ¬ b2i true = 0 by decide)]; exact kk'
theorem bea_x {x y : XS} (hS : Srv x y) {k d : Nat} (hk : k < 2 ^ x.2.2) (hd : d < 2 ^ 16) (e : x.1 0 5 = nI d) (e0 : Bool) : s_X4_bears_b41 (nI k) FU x (b2i e0) 0 = some (0, b2i (e0 && al (br y x.2.2 d k) x.2.2), x) := by
  obtain ⟨hn, h2, h8⟩ := hS.1.1
  have p2 := p2_le hn
  have h10 : al (br y x.2.2 d k) x.2.2 = al (br y x.2.2 d k) 10 := by
    have := al_z (f := br y x.2.2 d k) (n := x.2.2) (fun p h => by
      unfold br
      rw [Nat.testBit_lt_two_pow (Nat.lt_of_lt_of_le hk (Nat.pow_le_pow_right (by decide) h))]; rfl) (10 - x.2.2)
    rw [show x.2.2 + (10 - x.2.2) = 10 by omega] at this
    exact this.symm
  rw [h10]
  refine lp (fun F s i => s_X4_bears_b41 (nI k) F x s i) 10 (fun i s => s = b2i (e0 && al (br y x.2.2 d k) i)) (fun r => r = some (0, b2i (e0 && al (br y x.2.2 d k) 10), x)) ?_ ?_ 10 FU 0 (b2i e0) (by omega) (by unfold FU; omega) (by show _ = b2i (e0 && true); rw [Bool.and_true])
  · rintro F s rfl
    show s_X4_bears_b41 (nI k) (F + 1) x _ 10 = _
    rw [s_X4_bears_b41, zb_b2i, if_pos (show (10 : Int32) ≤ 10 by decide)]
    cases (e0 && al (br y x.2.2 d k) 10) <;> rfl
  · rintro F p s hp rfl kk
    show s_X4_bears_b41 (nI k) (F + 1) x _ (nI p) = _
    have kk' : s_X4_bears_b41 (nI k) F x (b2i (e0 && (al (br y x.2.2 d k) p && br y x.2.2 d k p))) (nI p + 1) = _ := kk _ rfl
    rw [← Bool.and_assoc] at kk'
    rw [s_X4_bears_b41, zb_b2i, if_neg (geL 10 hp (by decide)), one_sh p (by omega)]
    cases ha : (e0 && al (br y x.2.2 d k) p) with
    | false =>
      rw [if_pos (show b2i false = 0 by decide)]
      have : (e0 && al (br y x.2.2 d k) 10) = false := by
        cases hh : (e0 && al (br y x.2.2 d k) 10)
        · rfl
        · have h1 := (Bool.and_eq_true _ _ ▸ hh : _ ∧ _)
          have h2 : al (br y x.2.2 d k) p = true := (al_iff _ p).mpr (fun i hi => (al_iff _ 10).mp h1.2 i (by omega))
          rw [h1.1, h2] at ha
          exact absurd ha (by decide)
      rw [this]
    | true =>
      rw [ha, Bool.true_and] at kk'
      rw [if_neg (show ¬ b2i true = 0 by decide)]
      cases hb : k.testBit p with
      | false =>
        rw [if_pos ((bit_and (by omega) (by omega)).mpr hb)]
        rw [show br y x.2.2 d k p = true by unfold br; rw [hb]; rfl] at kk'
        exact kk'
      | true =>
        rw [if_neg (fun q => by rw [(bit_and (by omega) (by omega)).mp q] at hb; exact absurd hb (by decide)), ← one_sh p (by omega), (rm_e (by omega) (by omega)).1, all_x hS (rm_e (by omega) (by omega)).2 hd e, Option.bind_some]
        rw [show br y x.2.2 d k p = en y x.2.2 d (rm k p) by unfold br; rw [hb]; rfl] at kk'
        exact kk'
