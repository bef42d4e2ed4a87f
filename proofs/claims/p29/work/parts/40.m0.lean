/-! the relation between the class's state and the reference's; what the small questions answer -/
def b2i (b : Bool) : Int32 := if b then 1 else 0
theorem b2i_eq0 {b : Bool} : b2i b = 0 ↔ b = false := by cases b <;> decide
theorem b2i_01 {b : Bool} : b2i b = 0 ∨ b2i b = 1 := by cases b <;> decide
theorem zb_b2i {α : Type} {b : Bool} {B : Option α} : zb (b2i b) B = B := by unfold zb; rw [if_pos b2i_01]
theorem geL (b : Nat) {a : Nat} (h : a < b) (hb : b < 2 ^ 31) : ¬ (OfNat.ofNat b : Int32) ≤ nI a := nI_ge h hb
theorem geLa (a : Nat) {b : Nat} (h : a < b) (hb : b < 2 ^ 31) : ¬ nI b ≤ (OfNat.ofNat a : Int32) := nI_ge h hb
theorem leL (b : Nat) {a : Nat} (h : a ≤ b) (hb : b < 2 ^ 31) : nI a ≤ (OfNat.ofNat b : Int32) := nI_le h hb
theorem leLa (a : Nat) {b : Nat} (h : a ≤ b) (hb : b < 2 ^ 31) : (OfNat.ofNat a : Int32) ≤ nI b := nI_le h hb
theorem ltL (b : Nat) {a : Nat} (h : a < b) (hb : b < 2 ^ 31) : nI a < (OfNat.ofNat b : Int32) := nI_lt h hb
theorem nltL (b : Nat) {a : Nat} (h : b ≤ a) (ha : a < 2 ^ 31) : ¬ nI a < (OfNat.ofNat b : Int32) := nI_nlt h ha
theorem iL (b : Nat) {a : Nat} (ha : a < 2 ^ 31) (hb : b < 2 ^ 31) (h : ¬ a = b) : ¬ nI a = (OfNat.ofNat b : Int32) := fun q => h ((nI_eq ha hb).mp q)
theorem chk_nI {α : Type} {n k : Nat} {B : Option α} (h : k < n) (hn : n < 2 ^ 31) : chk n (nI k) B = B := by
  unfold chk
  rw [if_neg (nI_in h hn)]
theorem grd_lt {α : Type} {j n : Nat} {B : Option α} (h : j < n) : grd j n B = B := by unfold grd; rw [if_pos h]
theorem i_lt {a b : Nat} (ha : a < 2 ^ 31) (hb : b < 2 ^ 31) : (nI a < nI b) = (a < b) := propext (nI_ltI ha hb)
theorem i_le {a b : Nat} (ha : a < 2 ^ 31) (hb : b < 2 ^ 31) : (nI a ≤ nI b) = (a ≤ b) := propext (nI_leI ha hb)
theorem i_eq {a b : Nat} (ha : a < 2 ^ 31) (hb : b < 2 ^ 31) : (nI a = nI b) = (a = b) := propext (nI_eq ha hb)
/-- bounded arrays that hold the same -/
def RF (k lo hi : Nat) (f g : Nat → Int32) : Prop := ∀ c, c < k → ∃ d, lo ≤ d ∧ d ≤ hi ∧ f c = nI d ∧ g c = nI d
def RV (lo hi : Nat) (a b : Int32) : Prop := ∃ d, lo ≤ d ∧ d ≤ hi ∧ a = nI d ∧ b = nI d
def RN (n : Nat) (a b : Int32) : Prop := n ≤ 10 ∧ a = nI n ∧ b = nI n
def RB (g : Nat → Int32) : Prop := g 0 = 60 ∧ g 1 = 40 ∧ g 2 = 0
def RC (f g m : Nat → Int32) : Prop := ∀ c r, c < 16 → r < 12 → ∃ d ms, d ≤ 3 ∧ ms ≤ 1 ∧ g (16 * r + c) = nI d ∧ m (16 * r + c) = nI ms ∧ f (c * 12 + r) = (if ms = 0 then nI d else 4) ∧ (ms = 1 → d = 0) ∧ (r < 3 → d = 0 ∧ ms = 0)
def RA (n : Nat) (f t f' t' : Nat → Int32) : Prop := ∀ p, p < n → (f p = -1 ∧ t p = -1 ∧ t' p = -1) ∨ ∃ a b, a ≤ b ∧ b ≤ 15 ∧ f p = nI a ∧ f' p = nI a ∧ t p = nI b ∧ t' p = nI b
def RZ (n : Nat) (t o f r : Nat → Int32) : Prop := ∀ p, n ≤ p → p < 10 → t p = -1 ∧ o p = 0 ∧ f p = 0 ∧ r p = 0
def RE (k : Nat) (f g : Nat → Int32) : Prop := ∀ c, c < k → f c = g c
def RM (a b a' b' : Int32) : Prop := ∃ f m, f ≤ m ∧ m ≤ 99999 ∧ a = nI f ∧ a' = nI f ∧ b = nI m ∧ b' = nI m
def RU (f : Nat → Int32) : Prop := ∀ c, c < 16 → ∃ b, b < 1024 ∧ f c = nI b
def Rel (x y : XS) : Prop :=
  RN x.2.2 (x.1 0 2) (y.1 0 8) ∧ RF 16 0 2 (x.1 6) (y.1 1) ∧ RF 16 0 2 (x.1 7) (y.1 2) ∧ RB (y.1 3) ∧ RC (x.1 8) (y.1 4) (y.1 5) ∧ RF 3 0 99999 (x.1 3) (y.1 16) ∧
  RF x.2.2 0 15 (x.1 20) (y.1 6) ∧ RF x.2.2 3 11 (x.1 21) (y.1 7) ∧ RF x.2.2 1 9999 (x.1 22) (y.1 8) ∧ RF x.2.2 0 2 (x.1 23) (y.1 9) ∧ RF x.2.2 1 11 (x.1 24) (y.1 10) ∧
  RA x.2.2 (x.1 25) (x.1 26) (y.1 11) (y.1 12) ∧ RF x.2.2 0 1 (x.1 27) (y.1 13) ∧ RF x.2.2 0 1 (x.1 28) (y.1 14) ∧ RF x.2.2 0 99999 (x.1 29) (y.1 15) ∧ RZ x.2.2 (y.1 12) (y.1 13) (y.1 14) (y.1 15) ∧
  RV 0 8 (x.1 0 4) (y.1 0 20) ∧ RV 0 65535 (x.1 0 5) (y.1 0 6) ∧ RV 1 9999 (x.1 0 6) (y.1 0 7) ∧ RV 0 1439 (x.1 0 8) (y.1 0 21) ∧ RV 0 1440 (x.1 0 9) (y.1 0 22) ∧
  RE 4 (x.1 11) (y.1 17) ∧ RE 4 (x.1 12) (y.1 18) ∧ RM (x.1 0 11) (x.1 0 15) (y.1 0 25) (y.1 0 29) ∧ x.1 0 12 = y.1 0 26 ∧ x.2.1 0 = y.2.1 0 ∧ x.2.1 1 = y.2.1 1 ∧ RU (x.1 10)
theorem RF.put {k lo hi i d : Nat} {f g : Nat → Int32} {a b : Int32} (h : RF k lo hi f g) (h1 : lo ≤ d) (h2 : d ≤ hi) (ha : a = nI d) (hb : b = nI d) : RF k lo hi (upd f i a) (upd g i b) := by
  intro c hc
  by_cases e : c = i
  · subst e; exact ⟨d, h1, h2, by simp [upd, ha], by simp [upd, hb]⟩
  · obtain ⟨d', q⟩ := h c hc
    exact ⟨d', q.1, q.2.1, by simp [upd, e, q.2.2.1], by simp [upd, e, q.2.2.2]⟩
theorem RE.put {k i : Nat} {f g : Nat → Int32} {a b : Int32} (h : RE k f g) (hab : a = b) : RE k (upd f i a) (upd g i b) := by
  intro c hc
  by_cases e : c = i
  · subst e; simp [upd, hab]
  · simp [upd, e, h c hc]
theorem initRel : Rel initX initM := by
  refine ⟨⟨by decide, rfl, rfl⟩, ?_, ?_, ⟨rfl, rfl, rfl⟩, ?_, ?_, ?_, ?_, ?_, ?_, ?_, ?_, ?_, ?_, ?_, ?_, ⟨0, by decide, by decide, rfl, rfl⟩, ⟨0, by decide, by decide, rfl, rfl⟩, ⟨100, by decide, by decide, rfl, rfl⟩, ⟨0, by decide, by decide, rfl, rfl⟩, ⟨0, by decide, by decide, rfl, rfl⟩, ?_, ?_, ⟨0, 0, by decide, by decide, rfl, rfl, rfl, rfl⟩, rfl, rfl, rfl, fun c _ => ⟨0, by decide, rfl⟩⟩
  · exact fun c _ => ⟨0, by decide, by decide, rfl, rfl⟩
  · exact fun c _ => ⟨0, by decide, by decide, rfl, rfl⟩
  · exact fun c r _ _ => ⟨0, 0, by decide, by decide, rfl, rfl, rfl, by decide, fun _ => ⟨rfl, rfl⟩⟩
  · intro c hc
    rcases (show c = 0 ∨ c = 1 ∨ c = 2 by omega) with rfl | rfl | rfl <;> exact ⟨9999, by decide, by decide, rfl, rfl⟩
  · exact fun c h => absurd h (Nat.not_lt_zero c)
  · exact fun c h => absurd h (Nat.not_lt_zero c)
  · exact fun c h => absurd h (Nat.not_lt_zero c)
  · exact fun c h => absurd h (Nat.not_lt_zero c)
  · exact fun c h => absurd h (Nat.not_lt_zero c)
  · exact fun c h => absurd h (Nat.not_lt_zero c)
  · exact fun c h => absurd h (Nat.not_lt_zero c)
  · exact fun c h => absurd h (Nat.not_lt_zero c)
  · exact fun c h => absurd h (Nat.not_lt_zero c)
  · intro p _ hp
    refine ⟨?_, rfl, rfl, rfl⟩
    rcases (show p = 0 ∨ p = 1 ∨ p = 2 ∨ p = 3 ∨ p = 4 ∨ p = 5 ∨ p = 6 ∨ p = 7 ∨ p = 8 ∨ p = 9 by omega) with rfl | rfl | rfl | rfl | rfl | rfl | rfl | rfl | rfl | rfl <;> rfl
  · intro c _; rfl
  · intro c hc
    rcases (show c = 0 ∨ c = 1 ∨ c = 2 ∨ c = 3 by omega) with rfl | rfl | rfl | rfl <;> rfl
/-! numbers in a range -/
theorem gt_np {a : Int32} {k : Nat} (hk : k < 2 ^ 31) (h : nI k < a) : ¬ a < 0 ∧ ¬ a ≤ nI k ∧ ¬ a < nI k := by
  have h1 := Int32.lt_iff_toInt_lt.mp h
  rw [nI_toInt hk] at h1
  have z : (0 : Int32).toInt = 0 := rfl
  refine ⟨fun q => ?_, fun q => ?_, fun q => ?_⟩
  · have := Int32.lt_iff_toInt_lt.mp q; omega
  · have := Int32.le_iff_toInt_le.mp q; rw [nI_toInt hk] at this; omega
  · have := Int32.lt_iff_toInt_lt.mp q; rw [nI_toInt hk] at this; omega
/-- a number is below, above, or a number in between -/
theorem rng (lo hi : Nat) (hlo : lo ≤ hi) (hhi : hi < 2 ^ 30) (a : Int32) : (∃ d, lo ≤ d ∧ d ≤ hi ∧ a = nI d) ∨ a < nI lo ∨ (nI hi < a ∧ ¬ a < nI lo) := by
  by_cases h1 : a < nI lo
  · exact Or.inr (Or.inl h1)
  · by_cases h2 : nI hi < a
    · exact Or.inr (Or.inr ⟨h2, h1⟩)
    · refine Or.inl ?_
      have a1 : ¬ a.toInt < lo := fun q => h1 (Int32.lt_iff_toInt_lt.mpr (by rw [nI_toInt (by omega)]; exact q))
      have a2 : ¬ hi < a.toInt := fun q => h2 (Int32.lt_iff_toInt_lt.mpr (by rw [nI_toInt (by omega)]; exact q))
      refine ⟨a.toInt.toNat, by omega, by omega, ?_⟩
      apply Int32.toInt_inj.mp
      rw [nI_toInt (by omega)]
      omega
theorem in_yes {lo d hi : Nat} (h1 : lo ≤ d) (h2 : d ≤ hi) (hhi : hi < 2 ^ 31) : s_X5_in (nI d) (nI lo) (nI hi) = some 1 := by
  unfold s_X5_in
  rw [if_neg (nI_nlt h1 (by omega)), if_neg (nI_nlt h2 hhi)]
theorem in_lo {a lo hi : Int32} (h : a < lo) : s_X5_in a lo hi = some 0 := by unfold s_X5_in; rw [if_pos h]
theorem in_hi {a lo hi : Int32} (h : hi < a) (h2 : ¬ a < lo) : s_X5_in a lo hi = some 0 := by unfold s_X5_in; rw [if_neg h2, if_pos h]
theorem col_c (a : Int32) : (∃ c, c < 16 ∧ a = nI c ∧ s_X4_isColumn a = some 1 ∧ s_X5_isColumn a = some 1) ∨ (s_X4_isColumn a = some 0 ∧ s_X5_isColumn a = some 0) := by
  rcases rng 0 15 (by decide) (by decide) a with ⟨d, h1, h2, rfl⟩ | h | ⟨h, h0⟩
  · refine Or.inl ⟨d, by omega, rfl, ?_, ?_⟩
    · unfold s_X4_isColumn
      rw [if_neg (nI_pos (by omega)), if_neg (geL 16 (by omega) (by decide))]
    · unfold s_X5_isColumn
      rw [show s_X5_in (nI d) 0 15 = some 1 from in_yes h1 h2 (by decide)]
      rfl
  · refine Or.inr ⟨?_, ?_⟩
    · unfold s_X4_isColumn
      rw [if_pos (show a < 0 from h)]
    · unfold s_X5_isColumn
      rw [show s_X5_in a 0 15 = some 0 from in_lo h]
      rfl
  · obtain ⟨k1, k2, -⟩ := gt_np (by decide) h
    refine Or.inr ⟨?_, ?_⟩
    · unfold s_X4_isColumn
      rw [if_neg k1, if_pos]
      have e := Int32.lt_iff_toInt_lt.mp h
      rw [nI_toInt (by decide)] at e
      apply Int32.le_iff_toInt_le.mpr
      have z : (16 : Int32).toInt = 16 := rfl
      omega
    · unfold s_X5_isColumn
      rw [show s_X5_in a 0 15 = some 0 from in_hi h h0]
      rfl
theorem row_c (a : Int32) : (∃ r, 3 ≤ r ∧ r < 12 ∧ a = nI r ∧ s_X4_isOpenRow a = some 1 ∧ s_X5_in a 3 11 = some 1) ∨ (s_X4_isOpenRow a = some 0 ∧ s_X5_in a 3 11 = some 0) := by
  rcases rng 3 11 (by decide) (by decide) a with ⟨d, h1, h2, rfl⟩ | h | ⟨h, h0⟩
  · refine Or.inl ⟨d, h1, by omega, rfl, ?_, in_yes h1 h2 (by decide)⟩
    unfold s_X4_isOpenRow
    rw [if_neg (nltL 3 h1 (by omega)), if_neg (geL 12 (by omega) (by decide))]
  · refine Or.inr ⟨?_, in_lo h⟩
    unfold s_X4_isOpenRow
    rw [if_pos (show a < 3 from h)]
  · refine Or.inr ⟨?_, in_hi h h0⟩
    unfold s_X4_isOpenRow
    rw [if_neg (show ¬ a < 3 from h0), if_pos]
    have e := Int32.lt_iff_toInt_lt.mp h
    rw [nI_toInt (by decide)] at e
    apply Int32.le_iff_toInt_le.mpr
    have z : (12 : Int32).toInt = 12 := rfl
    omega
theorem phase_c (a : Int32) : (∃ k, k < 3 ∧ a = nI k ∧ s_X4_isPhase a = some 1 ∧ s_X5_in a 0 2 = some 1) ∨ (s_X4_isPhase a = some 0 ∧ s_X5_in a 0 2 = some 0) := by
  rcases rng 0 2 (by decide) (by decide) a with ⟨d, h1, h2, rfl⟩ | h | ⟨h, h0⟩
  · refine Or.inl ⟨d, by omega, rfl, ?_, in_yes h1 h2 (by decide)⟩
    unfold s_X4_isPhase
    rw [if_neg (nI_pos (by omega)), if_neg (geL 3 (by omega) (by decide))]
  · refine Or.inr ⟨?_, in_lo h⟩
    unfold s_X4_isPhase
    rw [if_pos (show a < 0 from h)]
  · refine Or.inr ⟨?_, in_hi h h0⟩
    unfold s_X4_isPhase
    rw [if_neg (show ¬ a < 0 from h0), if_pos]
    have e := Int32.lt_iff_toInt_lt.mp h
    rw [nI_toInt (by decide)] at e
    apply Int32.le_iff_toInt_le.mpr
    have z : (3 : Int32).toInt = 3 := rfl
    omega
theorem find_lt {x : XS} {p : Nat} (hn : x.2.2 ≤ 10) (h2 : x.1 0 2 = nI x.2.2) (hp : p < x.2.2) : s_X4_find x (nI p) = some (some p) := by
  unfold s_X4_find
  rw [if_neg (nI_pos (by omega)), h2, if_neg (nI_ge hp (by omega)), if_pos (ltL 10 (by omega) (by decide)), chk_nI (by omega) (by decide), nI_clamp (by omega), if_pos hp]
theorem find_ge {x : XS} {p : Nat} (hn : x.2.2 ≤ 10) (h2 : x.1 0 2 = nI x.2.2) (hp : x.2.2 ≤ p) (hp2 : p < 2 ^ 31) : s_X4_find x (nI p) = some none := by
  unfold s_X4_find
  rw [if_neg (nI_pos hp2), h2, if_pos (nI_le hp hp2)]
theorem n1_toInt {n : Nat} (h : n ≤ 10) : (nI n - 1).toInt = (n : Int) - 1 := by
  have := pk_sub_toInt (a := n) (b := 1) (by omega) (by decide)
  exact this
theorem proj_c {x y : XS} (hR : Rel x y) (a : Int32) : (∃ p, p < x.2.2 ∧ a = nI p ∧ s_X4_find x a = some (some p) ∧ s_X5_isProjector y a = some 1) ∨ (s_X4_find x a = some none ∧ s_X5_isProjector y a = some 0) := by
  obtain ⟨⟨hn, h2, h8⟩, -⟩ := hR
  unfold s_X5_isProjector
  rw [h8]
  by_cases hneg : a < 0
  · refine Or.inr ⟨?_, ?_⟩
    · unfold s_X4_find; rw [if_pos hneg]
    · rw [in_lo hneg]; rfl
  · obtain ⟨j, hj, rfl⟩ := nI_of hneg
    by_cases hp : j < x.2.2
    · refine Or.inl ⟨j, hp, rfl, find_lt hn h2 hp, ?_⟩
      have e : s_X5_in (nI j) 0 (nI x.2.2 - 1) = some 1 := by
        unfold s_X5_in
        rw [if_neg hneg, if_neg]
        intro q
        have := Int32.lt_iff_toInt_lt.mp q
        rw [n1_toInt hn, nI_toInt hj] at this
        omega
      rw [e]; rfl
    · refine Or.inr ⟨find_ge hn h2 (by omega) hj, ?_⟩
      have e : s_X5_in (nI j) 0 (nI x.2.2 - 1) = some 0 := by
        refine in_hi ?_ hneg
        apply Int32.lt_iff_toInt_lt.mpr
        rw [n1_toInt hn, nI_toInt hj]
        omega
      rw [e]; rfl
