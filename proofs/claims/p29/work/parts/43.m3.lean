/-! breaches -/
theorem bre_p {x y : XS} (hR : Rel x y) {p : Nat} (hp : p < x.2.2) : ∃ v sb, v ≤ 16 ∧ s_X0_shines x p = some (b2i sb) ∧ (sb = true → s_X4_breachesBy x p = some (nI v)) ∧ (sb = false → v = 0) ∧
    ∀ k4 s, s_X5_breachesNow_b14 y k4 FU s (nI p) 0 = k4 (s + nI v) (nI p + 1) := by
  obtain ⟨sb, b1, b2⟩ := shi_c hR hp
  cases sb with
  | false =>
    refine ⟨0, false, by decide, b1, fun h => by simp at h, fun _ => rfl, fun k4 s => ?_⟩
    refine lp (fun F (_ : Unit) i => s_X5_breachesNow_b14 y k4 F s (nI p) i) 16 (fun _ _ => True) (fun r => r = k4 (s + nI 0) (nI p + 1)) ?_ ?_ 16 FU 0 () (by decide) (by decide) trivial
    · intro F _ _
      show s_X5_breachesNow_b14 y k4 (F + 1) s (nI p) 16 = _
      rw [s_X5_breachesNow_b14, if_pos (by decide), nI_0, Int32.add_zero]
    · intro F i _ hi _ kk
      show s_X5_breachesNow_b14 y k4 (F + 1) s (nI p) (nI i) = _
      rw [s_X5_breachesNow_b14, if_neg (geL 16 hi (by decide)), b2, Option.bind_some, if_pos (show b2i false = 0 by decide), Int32.add_zero]
      exact kk () trivial
  | true =>
    have key : ∃ v, v ≤ 16 ∧ s_X4_breachesBy_b4 x p FU 0 (nI 0) = some (nI v) ∧ ∀ k4 s, s_X5_breachesNow_b14 y k4 FU s (nI p) 0 = k4 (s + nI v) (nI p + 1) := by
      refine lp (fun F s' i => s_X4_breachesBy_b4 x p F s' i) 16 (fun i s' => ∃ t, t ≤ i ∧ i ≤ 16 ∧ s' = nI t ∧ ∀ k4 s, s_X5_breachesNow_b14 y k4 FU s (nI p) 0 = s_X5_breachesNow_b14 y k4 (FU - i) (s + nI t) (nI p) (nI i)) (fun r => ∃ v, v ≤ 16 ∧ r = some (nI v) ∧ ∀ k4 s, s_X5_breachesNow_b14 y k4 FU s (nI p) 0 = k4 (s + nI v) (nI p + 1)) ?_ ?_ 16 FU 0 0 (by decide) (by decide) ⟨0, by decide, by decide, rfl, fun k4 s => by rw [nI_0, Int32.add_zero]; rfl⟩
      · rintro F s' ⟨t, t1, -, rfl, t3⟩
        refine ⟨t, by omega, ?_, fun k4 s => ?_⟩
        · show s_X4_breachesBy_b4 x p (F + 1) (nI t) 16 = _
          rw [s_X4_breachesBy_b4, if_pos (by decide)]
        · rw [t3, fu_1 (by decide), s_X5_breachesNow_b14, if_pos (by decide)]
      · rintro F i s' hi ⟨t, t1, t2, rfl, t3⟩ kk
        obtain ⟨ba, a1, a2⟩ := aim_c hR hp hi
        obtain ⟨bm, m1, m2⟩ := mee_c hR hp hi
        obtain ⟨bb, c1, c2⟩ := blk_c hR hp hi
        show ∃ v, v ≤ 16 ∧ s_X4_breachesBy_b4 x p (F + 1) (nI t) (nI i) = _ ∧ _
        have e5 : ∀ k4 s, s_X5_breachesNow_b14 y k4 FU s (nI p) 0 = s_X5_breachesNow_b14 y k4 (FU - (i + 1)) (s + nI (t + (if ba = true ∧ bm = true ∧ bb = false then 1 else 0))) (nI p) (nI (i + 1)) := by
          intro k4 s
          rw [t3, fu_1 (by omega), s_X5_breachesNow_b14, if_neg (geL 16 hi (by decide)), b2, Option.bind_some, if_neg (show ¬ b2i true = 0 by decide), a2, Option.bind_some, c2, Option.bind_some, m2, Option.bind_some, nI_1, Int32.add_zero]
          cases ba <;> cases bm <;> cases bb <;> first | rfl | (show s_X5_breachesNow_b14 y k4 _ (s + nI t + 1) _ _ = _; rw [Int32.add_assoc, nI_1]; rfl)
        rw [s_X4_breachesBy_b4, if_neg (geL 16 hi (by decide)), grd_lt hp, a1, Option.bind_some, m1, Option.bind_some, c1, Option.bind_some]
        have k0 : (if ba = true ∧ bm = true ∧ bb = false then 1 else 0) = 0 → ∃ v, v ≤ 16 ∧ s_X4_breachesBy_b4 x p F (nI t) (nI i + 1) = some (nI v) ∧ ∀ k4 s, s_X5_breachesNow_b14 y k4 FU s (nI p) 0 = k4 (s + nI v) (nI p + 1) := by
          intro h0
          rw [h0] at e5
          exact kk _ ⟨t, by omega, by omega, rfl, e5⟩
        have k1 : (if ba = true ∧ bm = true ∧ bb = false then 1 else 0) = 1 → ∃ v, v ≤ 16 ∧ s_X4_breachesBy_b4 x p F (nI t + 1) (nI i + 1) = some (nI v) ∧ ∀ k4 s, s_X5_breachesNow_b14 y k4 FU s (nI p) 0 = k4 (s + nI v) (nI p + 1) := by
          intro h0
          rw [h0] at e5
          exact kk _ ⟨t + 1, by omega, by omega, nI_1 t, e5⟩
        cases ba <;> cases bm <;> cases bb <;> first | exact k0 rfl | exact k1 rfl
    obtain ⟨v, v1, v2, v3⟩ := key
    exact ⟨v, true, v1, b1, fun _ => v2, fun h => by simp at h, v3⟩
theorem bre_c {x y : XS} (hR : Rel x y) : ∃ v, v ≤ 160 ∧ s_X4_breaches x = some (nI v) ∧ s_X5_breachesNow y = some (nI v) := by
  have hn := hR.1.1
  obtain ⟨v, ⟨t, t1, rfl⟩, h1, h2⟩ := lpFG hR (s_X4_breaches_b4 x) (s_X5_breachesNow_b4 y) (fun _ _ _ => rfl) (fun _ _ _ => rfl) (fun p s => ∃ t, t ≤ p * 16 ∧ s = nI t) (by
    intro F G p s hp ⟨t, t1, t2⟩
    obtain ⟨v, sb, v1, b1, b2, b3, b4⟩ := bre_p hR hp
    refine ⟨s + nI v, ⟨t + v, by omega, by rw [t2, nI_add]⟩, ?_, ?_⟩
    · show (s_X0_shines x p).bind _ = _
      rw [b1, Option.bind_some]
      cases sb with
      | false =>
        rw [if_pos (show b2i false = 0 by decide), b3 rfl, nI_0, Int32.add_zero]
      | true =>
        rw [if_neg (show ¬ b2i true = 0 by decide), b2 rfl]
        rfl
    · exact b4 _ s) 0 ⟨0, by omega, rfl⟩
  exact ⟨t, by omega, h1, h2⟩
/-! bits -/
theorem nx_and' (a b : Nat) : nI a &&& nI b = nI (a &&& b) := by
  apply Int32.toBitVec_inj.mp
  rw [Int32.toBitVec_and]
  apply BitVec.eq_of_getLsbD_eq
  intro i hi
  show (BitVec.ofNat 32 a &&& BitVec.ofNat 32 b).getLsbD i = (BitVec.ofNat 32 (a &&& b)).getLsbD i
  rw [BitVec.getLsbD_and, BitVec.getLsbD_ofNat, BitVec.getLsbD_ofNat, BitVec.getLsbD_ofNat, Nat.testBit_and]
  cases decide (i < 32) <;> rfl
theorem nx_or' (a b : Nat) : nI a ||| nI b = nI (a ||| b) := by
  apply Int32.toBitVec_inj.mp
  rw [Int32.toBitVec_or]
  apply BitVec.eq_of_getLsbD_eq
  intro i hi
  show (BitVec.ofNat 32 a ||| BitVec.ofNat 32 b).getLsbD i = (BitVec.ofNat 32 (a ||| b)).getLsbD i
  rw [BitVec.getLsbD_or, BitVec.getLsbD_ofNat, BitVec.getLsbD_ofNat, BitVec.getLsbD_ofNat, Nat.testBit_or]
  cases decide (i < 32) <;> rfl
/-- what stands in a and not in b -/
theorem nx_dif {a b m : Nat} (ha : a < 2 ^ m) (hm : m ≤ 31) : nI a &&& (nI b ^^^ (-1)) = nI (a &&& (2 ^ m - 1 ^^^ b)) := by
  apply Int32.toBitVec_inj.mp
  rw [Int32.toBitVec_and, Int32.toBitVec_xor]
  apply BitVec.eq_of_getLsbD_eq
  intro i hi
  show (BitVec.ofNat 32 a &&& (BitVec.ofNat 32 b ^^^ (-1 : Int32).toBitVec)).getLsbD i = (BitVec.ofNat 32 (a &&& (2 ^ m - 1 ^^^ b))).getLsbD i
  rw [BitVec.getLsbD_and, BitVec.getLsbD_xor, BitVec.getLsbD_ofNat, BitVec.getLsbD_ofNat, BitVec.getLsbD_ofNat, Nat.testBit_and, Nat.testBit_xor, Nat.testBit_two_pow_sub_one]
  rw [show (-1 : Int32).toBitVec.getLsbD i = true from (by decide +kernel : ∀ j, j < 32 → (-1 : Int32).toBitVec.getLsbD j = true) i hi]
  by_cases h : i < m
  · rw [decide_eq_true h, decide_eq_true hi]
    cases a.testBit i <;> cases b.testBit i <;> rfl
  · rw [Nat.testBit_lt_two_pow (Nat.lt_of_lt_of_le ha (Nat.pow_le_pow_right (by decide) (by omega)))]
    simp
theorem one_sh : ∀ p, p < 31 → (1 : Int32) <<< (nI p &&& 31) = nI (2 ^ p) := by decide +kernel
theorem nI_eq0 {a : Nat} (h : a < 2 ^ 31) : nI a = 0 ↔ a = 0 := nI_eq (b := 0) h (by decide)
theorem tb_ext {a b m : Nat} (ha : a < 2 ^ m) (hb : b < 2 ^ m) (h : ∀ i, i < m → a.testBit i = b.testBit i) : a = b := by
  apply Nat.eq_of_testBit_eq
  intro i
  by_cases hi : i < m
  · exact h i hi
  · rw [Nat.testBit_lt_two_pow (Nat.lt_of_lt_of_le ha (Nat.pow_le_pow_right (by decide) (by omega))), Nat.testBit_lt_two_pow (Nat.lt_of_lt_of_le hb (Nat.pow_le_pow_right (by decide) (by omega)))]
theorem tb_0 {a m : Nat} (ha : a < 2 ^ m) : a = 0 ↔ ∀ i, i < m → a.testBit i = false := by
  constructor
  · intro h i _
    rw [h, Nat.zero_testBit]
  · intro h
    exact tb_ext (b := 0) ha (Nat.two_pow_pos m) (fun i hi => by rw [h i hi, Nat.zero_testBit])
/-- all up to n -/
def al (f : Nat → Bool) : Nat → Bool
  | 0 => true
  | n + 1 => al f n && f n
theorem al_iff (f : Nat → Bool) : ∀ n, al f n = true ↔ ∀ i, i < n → f i = true
  | 0 => ⟨fun _ i h => absurd h (Nat.not_lt_zero i), fun _ => rfl⟩
  | n + 1 => by
    show (al f n && f n) = true ↔ _
    rw [Bool.and_eq_true, al_iff f n]
    constructor
    · rintro ⟨h1, h2⟩ i hi
      by_cases h : i = n
      · rw [h]; exact h2
      · exact h1 i (by omega)
    · intro h
      exact ⟨fun i hi => h i (by omega), h n (by omega)⟩
def sm (t : Nat → Nat) : Nat → Nat
  | 0 => 0
  | n + 1 => sm t n + t n
theorem sm_le {t : Nat → Nat} {B : Nat} (h : ∀ p, t p ≤ B) : ∀ n, sm t n ≤ n * B
  | 0 => by simp [sm]
  | n + 1 => by
    have := sm_le h n
    have := h n
    rw [sm, Nat.succ_mul]
    omega
theorem sm_z {t : Nat → Nat} {n : Nat} (h : ∀ p, n ≤ p → t p = 0) : ∀ k, sm t (n + k) = sm t n
  | 0 => rfl
  | k + 1 => by
    show sm t (n + k) + t (n + k) = _
    rw [sm_z h k, h _ (by omega), Nat.add_zero]
theorem al_z {f : Nat → Bool} {n : Nat} (h : ∀ p, n ≤ p → f p = true) : ∀ k, al f (n + k) = al f n
  | 0 => rfl
  | k + 1 => by
    show (al f (n + k) && f (n + k)) = _
    rw [al_z h k, h _ (by omega), Bool.and_true]
theorem tb (a p : Nat) (ha : a < 2 ^ 31) (hp : p < 31) : (nI a >>> (nI p &&& 31)) &&& 1 = b2i (a.testBit p) := by
  have e : ((nI p &&& 31).toBitVec.smod 32).toNat = p := (by decide +kernel : ∀ n, n < 32 → ((nI n &&& 31).toBitVec.smod 32).toNat = n) p (by omega)
  rw [pk_shrN ha _ p e, show (1 : Int32) = nI 1 from rfl, nx_and', Nat.testBit_eq_decide_div_mod_eq]
  rw [show a / 2 ^ p &&& 1 = a / 2 ^ p % 2 from Nat.and_two_pow_sub_one_eq_mod _ 1]
  rcases Nat.mod_two_eq_zero_or_one (a / 2 ^ p) with h | h <;> rw [h] <;> rfl
