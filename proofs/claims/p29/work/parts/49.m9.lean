def wk (a b d : Int32) (k : Nat) : Int32 := if k = 0 then 0 else if k = 1 then a else if k = 2 then b else d
/-! the calls -/
theorem gw1 {α : Type} (y : XS) (F G : Int32 × XS → Option α) : ((s_X5_goesWell y 0).bind fun v => if v.1 = 0 then F v else G v) = G (1, si y 0 0 0) := rfl
/-- what the law asks of a call -/
def Ag {α : Type} (P : Nat → Prop) (a b d : Int32) (r : Nat × α × XS) (v : α) (y' : XS) : Prop := (r.1 = 0 ∨ P r.1) ∧ wk a b d r.1 = y'.1 0 0 ∧ (r.1 = 0 → r.2.1 = v) ∧ Rel r.2.2 y'
theorem ag_ok {α : Type} {P : Nat → Prop} {a b d : Int32} {v : α} {x' y' : XS} {A : Option (Nat × α × XS)} {B : Option (α × XS)} (hA : A = some (0, v, x')) (hB : B = some (v, y')) (h0 : y'.1 0 0 = 0) (hR : Rel x' y') : ∃ r v y', A = some r ∧ B = some (v, y') ∧ Ag P a b d r v y' :=
  ⟨_, _, _, hA, hB, Or.inl rfl, h0.symm, fun _ => rfl, hR⟩
theorem ag_okv {α : Type} {P : Nat → Prop} {a b d : Int32} {v : α} {x' y' : XS} {A : Option (Nat × α × XS)} {B : Option XS} (hA : A = some (0, v, x')) (hB : B = some y') (h0 : y'.1 0 0 = 0) (hR : Rel x' y') : ∃ r y', A = some r ∧ B = some y' ∧ Ag P a b d r r.2.1 y' :=
  ⟨_, _, hA, hB, Or.inl rfl, h0.symm, fun _ => rfl, hR⟩
theorem ag_no {α : Type} {P : Nat → Prop} {a b d c : Int32} {k : Nat} {w v : α} {x y : XS} {A : Option (Nat × α × XS)} {B : Option (α × XS)} (hA : A = some (k, w, x)) (hB : B = some (v, si y 0 0 c)) (hk : ¬ k = 0) (hP : P k) (hw : wk a b d k = c) (hR : Rel x y) : ∃ r v y', A = some r ∧ B = some (v, y') ∧ Ag P a b d r v y' :=
  ⟨_, _, _, hA, hB, Or.inr hP, hw, fun h => absurd h hk, thr hR c⟩
theorem ag_nov {α : Type} {P : Nat → Prop} {a b d c : Int32} {k : Nat} {w : α} {x y : XS} {A : Option (Nat × α × XS)} {B : Option XS} (hA : A = some (k, w, x)) (hB : B = some (si y 0 0 c)) (hk : ¬ k = 0) (hP : P k) (hw : wk a b d k = c) (hR : Rel x y) : ∃ r y', A = some r ∧ B = some y' ∧ Ag P a b d r r.2.1 y' :=
  ⟨_, _, hA, hB, Or.inr hP, hw, fun h => absurd h hk, thr hR c⟩
/-- the components of Rel by name -/
theorem rel_mk {x y : XS} (h1 : RN x.2.2 (x.1 0 2) (y.1 0 8)) (h2 : RF 16 0 2 (x.1 6) (y.1 1)) (h3 : RF 16 0 2 (x.1 7) (y.1 2)) (h4 : RB (y.1 3)) (h5 : RC (x.1 8) (y.1 4) (y.1 5)) (h6 : RF 3 0 99999 (x.1 3) (y.1 16))
    (h7 : RF x.2.2 0 15 (x.1 20) (y.1 6)) (h8 : RF x.2.2 3 11 (x.1 21) (y.1 7)) (h9 : RF x.2.2 1 9999 (x.1 22) (y.1 8)) (h10 : RF x.2.2 0 2 (x.1 23) (y.1 9)) (h11 : RF x.2.2 1 11 (x.1 24) (y.1 10))
    (h12 : RA x.2.2 (x.1 25) (x.1 26) (y.1 11) (y.1 12)) (h13 : RF x.2.2 0 1 (x.1 27) (y.1 13)) (h14 : RF x.2.2 0 1 (x.1 28) (y.1 14)) (h15 : RF x.2.2 0 99999 (x.1 29) (y.1 15)) (h16 : RZ x.2.2 (y.1 12) (y.1 13) (y.1 14) (y.1 15))
    (h17 : RV 0 8 (x.1 0 4) (y.1 0 20)) (h18 : RV 0 65535 (x.1 0 5) (y.1 0 6)) (h19 : RV 1 9999 (x.1 0 6) (y.1 0 7)) (h20 : RV 0 1439 (x.1 0 8) (y.1 0 21)) (h21 : RV 0 1440 (x.1 0 9) (y.1 0 22))
    (h22 : RE 4 (x.1 11) (y.1 17)) (h23 : RE 4 (x.1 12) (y.1 18)) (h24 : RM (x.1 0 11) (x.1 0 15) (y.1 0 25) (y.1 0 29)) (h25 : x.1 0 12 = y.1 0 26) (h26 : x.2.1 0 = y.2.1 0) (h27 : x.2.1 1 = y.2.1 1) (h28 : RU (x.1 10)) : Rel x y :=
  ⟨h1, h2, h3, h4, h5, h6, h7, h8, h9, h10, h11, h12, h13, h14, h15, h16, h17, h18, h19, h20, h21, h22, h23, h24, h25, h26, h27, h28⟩
theorem rel_column {x y : XS} (hR : Rel x y) (a1 a2 a3 : Int32) : ∃ r y', s_X4_column x a1 a2 a3 = some r ∧ s_X5_column y a1 a2 a3 = some y' ∧ Ag (fun k => k = 1 ∨ k = 2) 1 2 0 r r.2.1 y' := by
  have mt : ∀ c, ¬ c = 0 → s_X5_column_b39 a1 a2 a3 y c = some (si y 0 0 c) := fun c hc => by unfold s_X5_column_b39; rw [gwb y hc]; rfl
  unfold s_X4_column s_X5_column
  rcases col_c a1 with ⟨c, hc, rfl, q1, q2⟩ | ⟨q1, q2⟩
  · rw [q1, q2, Option.bind_some, Option.bind_some, if_neg one_ne, if_neg one_ne]
    rcases rngL 0 2 (by decide) (by decide) a2 with ⟨d2, -, e2, rfl, p1, p2⟩ | ⟨p1, p2⟩
    · rw [p1, p2, Option.bind_some, if_neg one_ne]
      rcases rngL 0 2 (by decide) (by decide) a3 with ⟨d3, -, e3, rfl, u1, u2⟩ | ⟨u1, u2⟩
      · rw [u1, u2, Option.bind_some, if_neg one_ne]
        refine ag_okv (v := (0 : Int32)) (x' := si (si x 6 c (nI d2)) 7 c (nI d3)) (y' := si (si (si y 0 0 0) 1 c (nI d2)) 2 c (nI d3)) ?_ ?_ rfl ?_
        · unfold s_X2_build
          rw [q1, Option.bind_some, if_neg one_ne, chk_nI hc (by decide), chk_nI hc (by decide), nI_clamp (by omega), Option.bind_some]
        · unfold s_X5_column_b39
          rw [gw0]
          show chk 16 (nI c) _ = _
          rw [chk_nI hc (by decide), chk_nI hc (by decide), nI_clamp (by omega)]
        · obtain ⟨a1, a2, a3, a4, a5, a6, a7, a8, a9, a10, a11, a12, a13, a14, a15, a16, a17, a18, a19, a20, a21, a22, a23, a24, a25, a26, a27, hU⟩ := hR
          exact rel_mk a1 (a2.put (Nat.zero_le _) e2 rfl rfl) (a3.put (Nat.zero_le _) e3 rfl rfl) a4 a5 a6 a7 a8 a9 a10 a11 a12 a13 a14 a15 a16 a17 a18 a19 a20 a21 a22 a23 a24 a25 a26 a27 hU
      · rw [u1, u2, Option.bind_some, if_pos rfl]
        exact ag_nov rfl (mt 2 (by decide)) (by decide) ((Or.inr rfl)) rfl hR
    · rw [p1, p2, Option.bind_some, if_pos rfl]
      exact ag_nov rfl (mt 2 (by decide)) (by decide) ((Or.inr rfl)) rfl hR
  · rw [q1, q2, Option.bind_some, Option.bind_some, if_pos rfl, if_pos rfl]
    exact ag_nov rfl (mt 1 (by decide)) (by decide) ((Or.inl rfl)) rfl hR
theorem RC.put {f g m : Nat → Int32} (h : RC f g m) {c r d : Nat} (hc : c < 16) (hr : r < 12) (h3 : 3 ≤ r) (hd : d ≤ 3) (hm : m (16 * r + c) = 0) : RC (upd f (c * 12 + r) (nI d)) (upd g (16 * r + c) (nI d)) m := by
  intro c' r' h1 h2
  obtain ⟨d', ms, b1, b2, b3, b4, b5, b6, b7⟩ := h c' r' h1 h2
  by_cases e : c' = c ∧ r' = r
  · obtain ⟨rfl, rfl⟩ := e
    refine ⟨d, 0, hd, by decide, pk_us, hm, pk_us, fun q => absurd q (by decide), fun q => by omega⟩
  · refine ⟨d', ms, b1, b2, ?_, b4, ?_, b6, b7⟩
    · rw [pk_un (by omega)]; exact b3
    · rw [pk_un (by omega)]; exact b5
theorem RC.mast {f g m : Nat → Int32} (h : RC f g m) {c r : Nat} (hc : c < 16) (hr : r < 12) (h3 : 3 ≤ r) (hg : g (16 * r + c) = 0) : RC (upd f (c * 12 + r) 4) g (upd m (16 * r + c) 1) := by
  intro c' r' h1 h2
  obtain ⟨d', ms, b1, b2, b3, b4, b5, b6, b7⟩ := h c' r' h1 h2
  by_cases e : c' = c ∧ r' = r
  · obtain ⟨rfl, rfl⟩ := e
    exact ⟨0, 1, by decide, by decide, hg, pk_us, pk_us, fun _ => rfl, fun q => by omega⟩
  · refine ⟨d', ms, b1, b2, b3, ?_, ?_, b6, b7⟩
    · rw [pk_un (by omega)]; exact b4
    · rw [pk_un (by omega)]; exact b5
theorem cell_c (a1 a2 : Int32) : (∃ c r, c < 16 ∧ 3 ≤ r ∧ r < 12 ∧ a1 = nI c ∧ a2 = nI r ∧ s_X4_isColumn a1 = some 1 ∧ s_X4_isOpenRow a2 = some 1 ∧ s_X5_isCell a1 a2 = some 1) ∨ ((s_X4_isColumn a1 = some 0 ∨ s_X4_isColumn a1 = some 1 ∧ s_X4_isOpenRow a2 = some 0) ∧ s_X5_isCell a1 a2 = some 0) := by
  unfold s_X5_isCell
  rcases col_c a1 with ⟨c, hc, rfl, q1, q2⟩ | ⟨q1, q2⟩
  · rcases row_c a2 with ⟨r, h1, h2, rfl, p1, p2⟩ | ⟨p1, p2⟩
    · exact Or.inl ⟨c, r, hc, h1, h2, rfl, rfl, q1, p1, by rw [q2, p2]; rfl⟩
    · exact Or.inr ⟨Or.inr ⟨q1, p1⟩, by rw [q2, p2]; rfl⟩
  · exact Or.inr ⟨Or.inl q1, by rw [q2]; rfl⟩
theorem put_c {x : XS} {c r : Nat} {v : Int32} (h : c < 16) (h2 : r < 12) : s_X2_put x (nI c) (nI r) v = some (si x 8 (c * 12 + r) v) := by
  unfold s_X2_put
  rw [cell_lt h h2, Option.bind_some, if_neg one_ne, ix12, chk_nI (by omega) (by decide), nI_clamp (by omega)]
theorem rel_cell {x y : XS} (hR : Rel x y) (a1 a2 a3 : Int32) : ∃ r v y', s_X4_cell x a1 a2 a3 = some r ∧ s_X5_cell y a1 a2 a3 = some (v, y') ∧ Ag (fun k => k = 1 ∨ k = 2 ∨ k = 3) 1 2 3 r v y' := by
  have mt : ∀ c, ¬ c = 0 → s_X5_cell_b48 a1 a2 a3 y c = some (0, si y 0 0 c) := fun c hc => by unfold s_X5_cell_b48; rw [gwb y hc]; rfl
  unfold s_X4_cell s_X5_cell
  rcases cell_c a1 a2 with ⟨c, r, hc, h3, hr, rfl, rfl, q1, q2, q3⟩ | ⟨q, q3⟩
  · rw [q1, q2, q3, Option.bind_some, Option.bind_some, Option.bind_some, if_neg one_ne, if_neg one_ne]
    rcases rngL 0 3 (by decide) (by decide) a3 with ⟨d3, -, e3, rfl, u1, u2⟩ | ⟨u1, u2⟩
    · rw [u1, u2, Option.bind_some, if_neg one_ne, if_neg one_ne, at_c, Option.bind_some, chk_nI (by omega) (by decide), nI_clamp (by omega), cont hc hr, Option.bind_some]
      obtain ⟨d, ms, d1, m1, d2, m2, f2, z, -⟩ := hR.2.2.2.2.1 c r hc hr
      rw [m2]
      by_cases hm : ms = 0
      · subst hm
        rw [if_pos rfl] at f2
        rw [f2, if_neg (iL 4 (by omega) (by decide) (by omega)), if_pos (show nI 0 = 0 from rfl), put_c hc hr, Option.bind_some]
        refine ag_ok (v := nI d) (x' := si x 8 (c * 12 + r) (nI d3)) (y' := si (si y 0 0 0) 4 (16 * r + c) (nI d3)) rfl ?_ rfl ?_
        · unfold s_X5_cell_b48
          rw [gw1]
          dsimp only
          rw [at_c, Option.bind_some, chk_nI (by omega) (by decide), Option.bind_some, chk_nI (by omega) (by decide), nI_clamp (by omega), ← d2]
          rfl
        · obtain ⟨a1, a2, a3, a4, a5, a6, a7, a8, a9, a10, a11, a12, a13, a14, a15, a16, a17, a18, a19, a20, a21, a22, a23, a24, a25, a26, a27, hU⟩ := hR
          exact rel_mk a1 a2 a3 a4 (a5.put hc hr h3 e3 m2) a6 a7 a8 a9 a10 a11 a12 a13 a14 a15 a16 a17 a18 a19 a20 a21 a22 a23 a24 a25 a26 a27 hU
      · have hm1 : ms = 1 := by omega
        subst hm1
        rw [if_neg hm] at f2
        rw [f2, if_pos rfl, if_neg (show ¬ nI 1 = 0 by decide)]
        exact ag_no rfl (mt 3 (by decide)) (by decide) ((Or.inr (Or.inr rfl))) rfl hR
    · rw [u1, u2, Option.bind_some, if_neg one_ne, if_pos rfl]
      exact ag_no rfl (mt 2 (by decide)) (by decide) ((Or.inr (Or.inl rfl))) rfl hR
  · rw [q3, Option.bind_some, if_pos rfl]
    rcases q with q1 | ⟨q1, q2⟩
    · rw [q1, Option.bind_some, if_pos rfl]
      exact ag_no rfl (mt 1 (by decide)) (by decide) ((Or.inl rfl)) rfl hR
    · rw [q1, q2, Option.bind_some, Option.bind_some, if_neg one_ne, if_pos rfl]
      exact ag_no rfl (mt 1 (by decide)) (by decide) ((Or.inl rfl)) rfl hR
theorem rel_need {x y : XS} (hR : Rel x y) (a1 a2 : Int32) : ∃ r y', s_X4_need x a1 a2 = some r ∧ s_X5_need y a1 a2 = some y' ∧ Ag (fun k => k = 2) 0 1 0 r r.2.1 y' := by
  have mt : ∀ c, ¬ c = 0 → s_X5_need_b27 a1 a2 y c = some (si y 0 0 c) := fun c hc => by unfold s_X5_need_b27; rw [gwb y hc]; rfl
  unfold s_X4_need s_X5_need
  rcases rngL 0 65535 (by decide) (by decide) a1 with ⟨d2, -, e2, rfl, p1, p2⟩ | ⟨p1, p2⟩
  · rw [p1, p2, Option.bind_some, if_neg one_ne]
    rcases rngL 1 9999 (by decide) (by decide) a2 with ⟨d3, f3, e3, rfl, u1, u2⟩ | ⟨u1, u2⟩
    · rw [u1, u2, Option.bind_some, if_neg one_ne]
      refine ag_okv (v := (0 : Int32)) (x' := si (si x 0 5 (nI d2)) 0 6 (nI d3)) (y' := si (si (si y 0 0 0) 0 6 (nI d2)) 0 7 (nI d3)) rfl rfl rfl ?_
      obtain ⟨a1, a2, a3, a4, a5, a6, a7, a8, a9, a10, a11, a12, a13, a14, a15, a16, a17, a18, a19, a20, a21, a22, a23, a24, a25, a26, a27, hU⟩ := hR
      exact rel_mk a1 a2 a3 a4 a5 a6 a7 a8 a9 a10 a11 a12 a13 a14 a15 a16 a17 ⟨d2, Nat.zero_le _, e2, rfl, rfl⟩ ⟨d3, f3, e3, rfl, rfl⟩ a20 a21 a22 a23 a24 a25 a26 a27 hU
    · rw [u1, u2, Option.bind_some, if_pos rfl]
      exact ag_nov rfl (mt 1 (by decide)) (by decide) (rfl) rfl hR
  · rw [p1, p2, Option.bind_some, if_pos rfl]
    exact ag_nov rfl (mt 1 (by decide)) (by decide) (rfl) rfl hR
