/-! what a call leaves as it is -/
def Okk {α : Type} (P : α → Prop) (o : Option α) : Prop := ∀ r, o = some r → P r
theorem ok_some {α : Type} {P : α → Prop} {r : α} (h : P r) : Okk P (some r) := fun r' e => by cases e; exact h
theorem ok_none {α : Type} {P : α → Prop} : Okk P none := fun r' e => by cases e
theorem ok_ite {α : Type} {P : α → Prop} {c : Prop} {ic : Decidable c} {X Y : Option α} (h1 : Okk P X) (h2 : Okk P Y) : Okk P (@ite _ c ic X Y) := by
  by_cases h : c
  · rw [if_pos h]; exact h1
  · rw [if_neg h]; exact h2
theorem ok_bind {α β : Type} {P : β → Prop} {o : Option α} {k : α → Option β} (h : ∀ v, o = some v → Okk P (k v)) : Okk P (o.bind k) := fun r e => by
  obtain ⟨v, h1, h2⟩ := sp_b e
  exact h v h1 r h2
theorem ok_chk {α : Type} {P : α → Prop} {n : Nat} {i : Int32} {X : Option α} (h : Okk P X) : Okk P (chk n i X) := fun r e => h r (sp_c e).2
theorem ok_grd {α : Type} {P : α → Prop} {j n : Nat} {X : Option α} (h : Okk P X) : Okk P (grd j n X) := fun r e => h r (sp_g e).2
theorem ok_zb {α : Type} {P : α → Prop} {v : Int32} {X : Option α} (h : Okk P X) : Okk P (zb v X) := fun r e => h r (sp_z e).2
theorem ok_dvzL {α : Type} {P : α → Prop} {v : Int64} {X : Option α} (h : Okk P X) : Okk P (dvzL v X) := fun r e => h r (sp_dL e).2
theorem ok_opq {α : Type} {P : α → Prop} {o : Option Nat} {X : Option α} {B : Nat → Option α} (h1 : Okk P X) (h2 : ∀ j, Okk P (B j)) : Okk P (opq o X B) := by
  cases o with
  | none => exact h1
  | some j => exact h2 j
/-- needed and level stay -/
def F56 (x x' : XS) : Prop := x'.1 0 5 = x.1 0 5 ∧ x'.1 0 6 = x.1 0 6
/-- what throws changes nothing, needed and level stay -/
def Fr {α : Type} (x : XS) (r : Nat × α × XS) : Prop := (¬ r.1 = 0 → r.2.2 = x) ∧ F56 x r.2.2
theorem build_fr {x : XS} {a b c : Int32} : Okk (fun r => r.1 0 = x.1 0) (s_X2_build x a b c) := by
  unfold s_X2_build
  exact ok_bind (fun _ _ => ok_ite (ok_some rfl) (ok_chk (ok_chk (ok_some rfl))))
theorem put_fr {x : XS} {a b c : Int32} : Okk (fun r => r.1 0 = x.1 0) (s_X2_put x a b c) := by
  unfold s_X2_put
  exact ok_bind (fun _ _ => ok_ite (ok_some rfl) (ok_chk (ok_some rfl)))
theorem fr_column {x : XS} {a1 a2 a3 : Int32} : Okk (Fr x) (s_X4_column x a1 a2 a3) := by
  unfold s_X4_column
  have t : ∀ k, Okk (Fr x) (some (k + 1, (0 : Int32), x)) := fun k => ok_some ⟨fun _ => rfl, rfl, rfl⟩
  refine ok_bind (fun _ _ => ok_ite (t 0) (ok_ite (t 1) (ok_ite (ok_ite (t 1) (ok_ite (ok_bind (fun v hv => ok_some ⟨fun h => absurd rfl h, ?_⟩)) (t 1))) (t 1))))
  have := build_fr _ hv
  exact ⟨congrFun this 5, congrFun this 6⟩
theorem fr_cell {x : XS} {a1 a2 a3 : Int32} : Okk (Fr x) (s_X4_cell x a1 a2 a3) := by
  unfold s_X4_cell
  have t : ∀ k, Okk (Fr x) (some (k + 1, (0 : Int32), x)) := fun k => ok_some ⟨fun _ => rfl, rfl, rfl⟩
  refine ok_bind (fun _ _ => ok_ite (t 0) (ok_bind (fun _ _ => ok_ite (t 0) (ok_ite (t 1) (ok_ite (ok_bind (fun _ _ => ok_ite (t 2) (ok_bind (fun v hv => ok_some ⟨fun h => absurd rfl h, ?_⟩)))) (t 1))))))
  have := put_fr _ hv
  exact ⟨congrFun this 5, congrFun this 6⟩
theorem fr_projector {x : XS} {a1 a2 a3 a4 a5 : Int32} : Okk (Fr x) (s_X4_projector x a1 a2 a3 a4 a5) := by
  unfold s_X4_projector
  have t : ∀ k, Okk (Fr x) (some (k + 1, (0 : Int32), x)) := fun k => ok_some ⟨fun _ => rfl, rfl, rfl⟩
  refine ok_bind (fun _ _ => ok_ite (t 0) (ok_bind (fun _ _ => ok_ite (t 0) (ok_ite (t 1) (ok_ite (ok_bind (fun _ _ => ok_ite (t 1) (ok_ite (t 1) (ok_ite (ok_bind (fun _ _ => ok_ite (ok_ite (t 2) (ok_ite (ok_bind (fun v hv => ok_chk (ok_ite (ok_some ⟨fun h => absurd rfl h, ?_⟩) ok_none))) (t 2))) (t 2))) (t 1))))) (t 1))))))
  have := put_fr _ hv
  exact ⟨congrFun this 5, congrFun this 6⟩
theorem fr_need {x : XS} {a1 a2 : Int32} : Okk (fun r => (¬ r.1 = 0 → r.2.2 = x) ∧ (r.1 = 0 → r.2.2.1 0 5 = a1 ∧ r.2.2.1 0 6 = a2)) (s_X4_need x a1 a2) := by
  unfold s_X4_need
  have t : Okk (fun r => (¬ r.1 = 0 → r.2.2 = x) ∧ (r.1 = 0 → r.2.2.1 0 5 = a1 ∧ r.2.2.1 0 6 = a2)) (some (2, (0 : Int32), x)) := ok_some ⟨fun _ => rfl, fun h => absurd h (show ¬ (2 : Nat) = 0 by decide)⟩
  exact ok_ite t (ok_ite (ok_ite t (ok_ite (ok_some ⟨fun h => absurd rfl h, fun _ => ⟨rfl, rfl⟩⟩) t)) t)
theorem fr_aim {x : XS} {a1 a2 a3 : Int32} : Okk (Fr x) (s_X4_aim x a1 a2 a3) := by
  unfold s_X4_aim
  repeat' (first
    | exact ok_some ⟨fun _ => rfl, rfl, rfl⟩
    | exact ok_some ⟨fun h => absurd rfl h, rfl, rfl⟩
    | refine ok_opq ?_ (fun _ => ?_)
    | with_reducible refine ok_grd ?_
    | with_reducible refine ok_chk ?_
    | with_reducible refine ok_zb ?_
    | with_reducible refine ok_dvzL ?_
    | with_reducible refine ok_ite ?_ ?_
    | refine ok_bind (fun _ hv => ?_))
theorem fr_turn {x : XS} {a1 a2 : Int32} : Okk (Fr x) (s_X4_turn x a1 a2) := by
  unfold s_X4_turn
  repeat' (first
    | exact ok_some ⟨fun _ => rfl, rfl, rfl⟩
    | exact ok_some ⟨fun h => absurd rfl h, rfl, rfl⟩
    | refine ok_opq ?_ (fun _ => ?_)
    | with_reducible refine ok_grd ?_
    | with_reducible refine ok_chk ?_
    | with_reducible refine ok_zb ?_
    | with_reducible refine ok_dvzL ?_
    | with_reducible refine ok_ite ?_ ?_
    | refine ok_bind (fun _ hv => ?_))
theorem fr_fail {x : XS} {a1 a2 : Int32} : Okk (Fr x) (s_X4_fail x a1 a2) := by
  unfold s_X4_fail
  repeat' (first
    | exact ok_some ⟨fun _ => rfl, rfl, rfl⟩
    | exact ok_some ⟨fun h => absurd rfl h, rfl, rfl⟩
    | refine ok_opq ?_ (fun _ => ?_)
    | with_reducible refine ok_grd ?_
    | with_reducible refine ok_chk ?_
    | with_reducible refine ok_zb ?_
    | with_reducible refine ok_dvzL ?_
    | with_reducible refine ok_ite ?_ ?_
    | refine ok_bind (fun _ hv => ?_))
theorem fr_phase {x : XS} {a1 a2 : Int32} : Okk (Fr x) (s_X4_phase x a1 a2) := by
  unfold s_X4_phase
  repeat' (first
    | exact ok_some ⟨fun _ => rfl, rfl, rfl⟩
    | exact ok_some ⟨fun h => absurd rfl h, rfl, rfl⟩
    | refine ok_opq ?_ (fun _ => ?_)
    | with_reducible refine ok_grd ?_
    | with_reducible refine ok_chk ?_
    | with_reducible refine ok_zb ?_
    | with_reducible refine ok_dvzL ?_
    | with_reducible refine ok_ite ?_ ?_
    | refine ok_bind (fun _ hv => ?_))
theorem fr_wind {x : XS} {a1 : Int32} : Okk (Fr x) (s_X4_wind x a1) := by
  unfold s_X4_wind
  repeat' (first
    | exact ok_some ⟨fun _ => rfl, rfl, rfl⟩
    | exact ok_some ⟨fun h => absurd rfl h, rfl, rfl⟩
    | refine ok_opq ?_ (fun _ => ?_)
    | with_reducible refine ok_grd ?_
    | with_reducible refine ok_chk ?_
    | with_reducible refine ok_zb ?_
    | with_reducible refine ok_dvzL ?_
    | with_reducible refine ok_ite ?_ ?_
    | refine ok_bind (fun _ hv => ?_))
theorem fr_through {x : XS} {a1 a2 a3 : Int32} : Okk (Fr x) (s_X4_through x a1 a2 a3) := by
  unfold s_X4_through
  repeat' (first
    | exact ok_some ⟨fun _ => rfl, rfl, rfl⟩
    | exact ok_some ⟨fun h => absurd rfl h, rfl, rfl⟩
    | refine ok_opq ?_ (fun _ => ?_)
    | with_reducible refine ok_grd ?_
    | with_reducible refine ok_chk ?_
    | with_reducible refine ok_zb ?_
    | with_reducible refine ok_dvzL ?_
    | with_reducible refine ok_ite ?_ ?_
    | refine ok_bind (fun _ hv => ?_))
theorem fr_gives {x : XS} {a1 a2 : Int32} : Okk (Fr x) (s_X4_gives x a1 a2) := by
  unfold s_X4_gives
  repeat' (first
    | exact ok_some ⟨fun _ => rfl, rfl, rfl⟩
    | exact ok_some ⟨fun h => absurd rfl h, rfl, rfl⟩
    | refine ok_opq ?_ (fun _ => ?_)
    | with_reducible refine ok_grd ?_
    | with_reducible refine ok_chk ?_
    | with_reducible refine ok_zb ?_
    | with_reducible refine ok_dvzL ?_
    | with_reducible refine ok_ite ?_ ?_
    | refine ok_bind (fun _ hv => ?_))
theorem fr_isSharp {x : XS} {a1 a2 : Int32} : Okk (Fr x) (s_X4_isSharp x a1 a2) := by
  unfold s_X4_isSharp
  repeat' (first
    | exact ok_some ⟨fun _ => rfl, rfl, rfl⟩
    | exact ok_some ⟨fun h => absurd rfl h, rfl, rfl⟩
    | refine ok_opq ?_ (fun _ => ?_)
    | with_reducible refine ok_grd ?_
    | with_reducible refine ok_chk ?_
    | with_reducible refine ok_zb ?_
    | with_reducible refine ok_dvzL ?_
    | with_reducible refine ok_ite ?_ ?_
    | refine ok_bind (fun _ hv => ?_))
theorem fr_light {x : XS} {a1 : Int32} : Okk (Fr x) (s_X4_light x a1) := by
  unfold s_X4_light
  repeat' (first
    | exact ok_some ⟨fun _ => rfl, rfl, rfl⟩
    | exact ok_some ⟨fun h => absurd rfl h, rfl, rfl⟩
    | refine ok_opq ?_ (fun _ => ?_)
    | with_reducible refine ok_grd ?_
    | with_reducible refine ok_chk ?_
    | with_reducible refine ok_zb ?_
    | with_reducible refine ok_dvzL ?_
    | with_reducible refine ok_ite ?_ ?_
    | refine ok_bind (fun _ hv => ?_))
theorem fr_blended {x : XS} {a1 a2 : Int32} : Okk (Fr x) (s_X4_blended x a1 a2) := by
  unfold s_X4_blended
  repeat' (first
    | exact ok_some ⟨fun _ => rfl, rfl, rfl⟩
    | exact ok_some ⟨fun h => absurd rfl h, rfl, rfl⟩
    | refine ok_opq ?_ (fun _ => ?_)
    | with_reducible refine ok_grd ?_
    | with_reducible refine ok_chk ?_
    | with_reducible refine ok_zb ?_
    | with_reducible refine ok_dvzL ?_
    | with_reducible refine ok_ite ?_ ?_
    | refine ok_bind (fun _ hv => ?_))
theorem fr_curfew {x : XS} {a1 a2 : Int32} : Okk (Fr x) (s_X4_curfew x a1 a2) := by
  unfold s_X4_curfew
  repeat' (first
    | exact ok_some ⟨fun _ => rfl, rfl, rfl⟩
    | exact ok_some ⟨fun h => absurd rfl h, rfl, rfl⟩
    | refine ok_opq ?_ (fun _ => ?_)
    | with_reducible refine ok_grd ?_
    | with_reducible refine ok_chk ?_
    | with_reducible refine ok_zb ?_
    | with_reducible refine ok_dvzL ?_
    | with_reducible refine ok_ite ?_ ?_
    | refine ok_bind (fun _ hv => ?_))
theorem fr_ready {x : XS} {a1 a2 : Int32} : Okk (Fr x) (s_X4_ready x a1 a2) := by
  unfold s_X4_ready
  repeat' (first
    | exact ok_some ⟨fun _ => rfl, rfl, rfl⟩
    | exact ok_some ⟨fun h => absurd rfl h, rfl, rfl⟩
    | refine ok_opq ?_ (fun _ => ?_)
    | with_reducible refine ok_grd ?_
    | with_reducible refine ok_chk ?_
    | with_reducible refine ok_zb ?_
    | with_reducible refine ok_dvzL ?_
    | with_reducible refine ok_ite ?_ ?_
    | refine ok_bind (fun _ hv => ?_))
theorem fr_propose {x : XS} {a1 a2 : Int32} : Okk (Fr x) (s_X4_propose x a1 a2) := by
  unfold s_X4_propose
  repeat' (first
    | exact ok_some ⟨fun _ => rfl, rfl, rfl⟩
    | exact ok_some ⟨fun h => absurd rfl h, rfl, rfl⟩
    | refine ok_opq ?_ (fun _ => ?_)
    | with_reducible refine ok_grd ?_
    | with_reducible refine ok_chk ?_
    | with_reducible refine ok_zb ?_
    | with_reducible refine ok_dvzL ?_
    | with_reducible refine ok_ite ?_ ?_
    | refine ok_bind (fun _ hv => ?_))
theorem fr_answer {x : XS} {a1 a2 : Int32} : Okk (Fr x) (s_X4_answer x a1 a2) := by
  unfold s_X4_answer
  repeat' (first
    | exact ok_some ⟨fun _ => rfl, rfl, rfl⟩
    | exact ok_some ⟨fun h => absurd rfl h, rfl, rfl⟩
    | refine ok_opq ?_ (fun _ => ?_)
    | with_reducible refine ok_grd ?_
    | with_reducible refine ok_chk ?_
    | with_reducible refine ok_zb ?_
    | with_reducible refine ok_dvzL ?_
    | with_reducible refine ok_ite ?_ ?_
    | refine ok_bind (fun _ hv => ?_))
theorem fr_scene {x : XS} {a1 a2 : Int32} : Okk (Fr x) (s_X4_scene x a1 a2) := by
  unfold s_X4_scene
  repeat' (first
    | exact ok_some ⟨fun _ => rfl, rfl, rfl⟩
    | exact ok_some ⟨fun h => absurd rfl h, rfl, rfl⟩
    | refine ok_opq ?_ (fun _ => ?_)
    | with_reducible refine ok_grd ?_
    | with_reducible refine ok_chk ?_
    | with_reducible refine ok_zb ?_
    | with_reducible refine ok_dvzL ?_
    | with_reducible refine ok_ite ?_ ?_
    | refine ok_bind (fun _ hv => ?_))
theorem fr_show {x : XS} {a1 : Int32} : Okk (Fr x) (s_X4_show x a1) := by
  unfold s_X4_show
  repeat' (first
    | exact ok_some ⟨fun _ => rfl, rfl, rfl⟩
    | exact ok_some ⟨fun h => absurd rfl h, rfl, rfl⟩
    | refine ok_opq ?_ (fun _ => ?_)
    | with_reducible refine ok_grd ?_
    | with_reducible refine ok_chk ?_
    | with_reducible refine ok_zb ?_
    | with_reducible refine ok_dvzL ?_
    | with_reducible refine ok_ite ?_ ?_
    | refine ok_bind (fun _ hv => ?_))
theorem pass_fr (a1 : Int32) : ∀ (F : Nat) (xx : XS) (p2 p3 p4 p5 p6 : Int32), Okk (fun r => r.1 = 0 ∧ F56 xx r.2.2) (s_X4_pass_b68 a1 F xx p2 p3 p4 p5 p6) := by
  intro F
  induction F with
  | zero => intro xx p2 p3 p4 p5 p6; exact ok_none
  | succ F ih =>
    intro xx p2 p3 p4 p5 p6
    have hb : ∀ q0 q1 q2, Okk (fun r => r.1 = 0 ∧ F56 xx r.2.2) (s_X4_pass_b92 a1 (fun zx z_p2 z_p3 z_p4 z_p5 z_p6 => s_X4_pass_b68 a1 F zx z_p2 z_p3 z_p4 z_p5 z_p6) xx p2 p3 p4 p5 p6 q0 q1 q2) := by
      intro q0 q1 q2
      unfold s_X4_pass_b92 s_X4_pass_b142
      refine ok_ite (fun r e => ?_) (fun r e => ?_)
      · obtain ⟨h1, h2, h3⟩ := ih _ _ _ _ _ _ r e
        exact ⟨h1, h2, h3⟩
      · obtain ⟨h1, h2, h3⟩ := ih _ _ _ _ _ _ r e
        exact ⟨h1, h2, h3⟩
    rw [s_X4_pass_b68]
    exact ok_ite (ok_some ⟨rfl, rfl, rfl⟩) (ok_bind (fun _ _ => ok_ite (hb _ _ _) (hb _ _ _)))
theorem fr_pass {x : XS} {a1 : Int32} : Okk (Fr x) (s_X4_pass x a1) := by
  unfold s_X4_pass
  have t : ∀ k, Okk (Fr x) (some (k + 1, (0 : Int32), x)) := fun k => ok_some ⟨fun _ => rfl, rfl, rfl⟩
  exact ok_ite (t 1) (ok_ite (ok_ite (ok_bind (fun _ _ => ok_bind (fun _ _ => ok_bind (fun _ _ => ok_bind (fun _ _ => fun r e => by
    obtain ⟨h1, h2⟩ := pass_fr a1 _ _ _ _ _ _ _ r e
    exact ⟨fun h => absurd h1 h, h2⟩))))) (t 2)) (t 1))
theorem f56_of {x x' y : XS} (h1 : Rel x y) (h2 : Rel x' y) : F56 x x' := by
  obtain ⟨d, -, p1, p2⟩ := nee_e h1
  obtain ⟨d', -, q1, q2⟩ := nee_e h2
  exact ⟨by rw [q1, p1, ← q2, ← p2], by rw [lev_e h2, lev_e h1]⟩
theorem set_no {x y : XS} (hR : Rel x y) (a : Int32) : (∃ k, k < 2 ^ x.2.2 ∧ a = nI k ∧ s_X4_isSetOfProjectors x a = some 1) ∨ s_X4_isSetOfProjectors x a = some 0 := by
  rcases set_c hR a with ⟨k, hk, e, q1, -⟩ | ⟨q1, -⟩
  · exact Or.inl ⟨k, hk, e, q1⟩
  · exact Or.inr q1
/-- covered, bears, least, leastAnew: the survey is made anew, the rest stays -/
theorem cov_e {x y : XS} (hR : Rel x y) {k : Nat} (hk : k < 2 ^ x.2.2) : ∃ M x', s_X4_covered x (nI k) = some (0, nI M, x') ∧ M < 2 ^ 16 ∧ (∀ i, i < 16 → M.testBit i = Wq y x.2.2 k i) ∧ Rel x' y ∧ x'.2.2 = x.2.2 := by
  have p2 := p2_le hR.1.1
  obtain ⟨x', g1, g2, g3, g4⟩ := surv_c hR
  obtain ⟨M, m1, m2, m3⟩ := cov_y g2 (show k < 1024 by omega)
  rcases set_no hR (nI k) with ⟨k', hk', e, q1⟩ | q1
  · refine ⟨M, x', ?_, m1, fun i hi => by rw [m3 i hi, g3], g2, g3⟩
    unfold s_X4_covered
    rw [q1, Option.bind_some, if_neg one_ne, g1, Option.bind_some, cov_x ⟨g2, g3.symm ▸ g4⟩ (by omega) m1 m3]
  · exfalso
    obtain ⟨hn, h2, -⟩ := hR.1
    unfold s_X4_isSetOfProjectors at q1
    rw [if_neg (nI_pos (by omega)), h2, p2_n x.2.2 (by omega), if_neg (nI_ge hk (by omega))] at q1
    exact absurd (Option.some.inj q1) (by decide)
theorem bea_e {x y : XS} (hR : Rel x y) {k d : Nat} (hk : k < 2 ^ x.2.2) (hd : d < 2 ^ 16) (e : x.1 0 5 = nI d) : ∃ x', s_X4_bears x (nI k) = some (0, b2i (en y x.2.2 d k && al (br y x.2.2 d k) x.2.2), x') ∧ Rel x' y ∧ x'.2.2 = x.2.2 := by
  have p2 := p2_le hR.1.1
  obtain ⟨x', g1, g2, g3, g4⟩ := surv_c hR
  have hS : Srv x' y := ⟨g2, g3.symm ▸ g4⟩
  have e' : x'.1 0 5 = nI d := (f56_of hR g2).1.trans e
  rcases set_no hR (nI k) with ⟨k', hk', ek, q1⟩ | q1
  · refine ⟨x', ?_, g2, g3⟩
    unfold s_X4_bears
    rw [q1, Option.bind_some, if_neg one_ne, g1, Option.bind_some, all_x hS (by omega) hd e', Option.bind_some, bea_x hS (g3.symm ▸ hk) hd e', g3]
  · exfalso
    obtain ⟨hn, h2, -⟩ := hR.1
    unfold s_X4_isSetOfProjectors at q1
    rw [if_neg (nI_pos (by omega)), h2, p2_n x.2.2 (by omega), if_neg (nI_ge hk (by omega))] at q1
    exact absurd (Option.some.inj q1) (by decide)
theorem lea_e {x y : XS} (hR : Rel x y) {d : Nat} (hd : d < 2 ^ 16) (e : x.1 0 5 = nI d) : ∃ x', s_X4_least x = some (ov (rn (vd y x.2.2 d) (2 ^ x.2.2)), x') ∧ Rel x' y ∧ x'.2.2 = x.2.2 := by
  obtain ⟨x', g1, g2, g3, g4⟩ := surv_c hR
  have hS : Srv x' y := ⟨g2, g3.symm ▸ g4⟩
  have e' : x'.1 0 5 = nI d := (f56_of hR g2).1.trans e
  obtain ⟨u, u1, u2, u3⟩ := unf_x g2
  refine ⟨x', ?_, g2, g3⟩
  unfold s_X4_least
  rw [g1, Option.bind_some, u2, Option.bind_some, lst_x hS hd e' u1 u3, g3]
theorem anw_e {x y : XS} (hR : Rel x y) {d : Nat} (hd : d < 2 ^ 16) (e : x.1 0 5 = nI d) : ∃ x', s_X4_leastAnew x = some (aw (rn (vd y x.2.2 d) (2 ^ x.2.2)), x') ∧ Rel x' y ∧ x'.2.2 = x.2.2 := by
  obtain ⟨x', g1, g2, g3, g4⟩ := surv_c hR
  have hS : Srv x' y := ⟨g2, g3.symm ▸ g4⟩
  have e' : x'.1 0 5 = nI d := (f56_of hR g2).1.trans e
  obtain ⟨u, u1, u2, u3⟩ := unf_x g2
  refine ⟨x', ?_, g2, g3⟩
  unfold s_X4_leastAnew
  rw [g1, Option.bind_some, u2, Option.bind_some, anw_x hS hd e' u1 u3, g3]
theorem fr_covered {x y : XS} (hR : Rel x y) {a1 : Int32} : Okk (Fr x) (s_X4_covered x a1) := by
  rcases set_no hR a1 with ⟨k, hk, rfl, -⟩ | q1
  · obtain ⟨M, x', h1, -, -, h2, -⟩ := cov_e hR hk
    rw [h1]
    exact ok_some ⟨fun h => absurd rfl h, f56_of hR h2⟩
  · unfold s_X4_covered
    rw [q1, Option.bind_some, if_pos rfl]
    exact ok_some ⟨fun _ => rfl, rfl, rfl⟩
theorem fr_bears {x y : XS} (hR : Rel x y) {a1 : Int32} : Okk (Fr x) (s_X4_bears x a1) := by
  obtain ⟨d, d1, d2, -⟩ := nee_e hR
  rcases set_no hR a1 with ⟨k, hk, rfl, -⟩ | q1
  · obtain ⟨x', h1, h2, -⟩ := bea_e hR hk d1 d2
    rw [h1]
    exact ok_some ⟨fun h => absurd rfl h, f56_of hR h2⟩
  · unfold s_X4_bears
    rw [q1, Option.bind_some, if_pos rfl]
    exact ok_some ⟨fun _ => rfl, rfl, rfl⟩
/-! low, and what goes through act -/
def lw (a n : Int32) : Int32 := (a &&& 2147483647) - (a &&& 2147483647) / n * n
theorem low_e {a n : Int32} (h : ¬ n = 0) : s_L_low a n = some (lw a n) := dvz_ne h
theorem low_CC {α : Type} {C : Option α → Prop} {a n : Int32} {k : Int32 → Option α} (hn : ¬ n = 0) (h : ∀ v, s_L_low a n = some v → C (k v)) : C ((s_L_low a n).bind k) := by
  rw [low_e hn]
  exact h _ (low_e hn)
theorem ite_CC {α : Type} {C : Option α → Prop} {c : Prop} {ic : Decidable c} {X Y : Option α} (h1 : c → C X) (h2 : ¬ c → C Y) : C (@ite _ c ic X Y) := by
  by_cases h : c
  · rw [if_pos h]; exact h1 h
  · rw [if_neg h]; exact h2 h
theorem lw_nat (a : Int32) {n : Nat} (h0 : 0 < n) (hn : n < 2 ^ 31) : ∃ j, j < n ∧ lw a (nI n) = nI j := by
  obtain ⟨j, hj, e⟩ := pk_andE a 31 (m := 2147483647) (by decide)
  unfold lw
  rw [e]
  refine ⟨j % n, Nat.mod_lt _ h0, ?_⟩
  exact pk_rem (by omega) h0 hn
theorem low_16 {a v : Int32} (e : s_L_low a 16 = some v) : ¬ 16 - v = 0 := by
  rw [low_e (by decide)] at e
  obtain ⟨j, hj, q⟩ := lw_nat a (n := 16) (by decide) (by decide)
  cases e
  rw [show (16 : Int32) = nI 16 from rfl, q, pk_sub (by omega)]
  exact nI_ne0 (by omega) (by omega)
theorem i64_ne (a : Int32) : ¬ a.toInt64 = N9 := by
  intro h
  have h1 := congrArg Int64.toInt h
  rw [Int32.toInt_toInt64, show N9.toInt = -9000000000000000 from rfl] at h1
  have := Int32.le_toInt a
  omega
/-- what is kept of an act -/
def Gd (x : XS) (v : Int32) (r : Int64 × XS) : Prop := (r.1 = N9 → r.2 = x) ∧ (∃ y', Rel r.2 y') ∧ (¬ s_L_low v 38 = some 4 ∨ ¬ r.1 = 0 → F56 x r.2)
theorem gd_of {α : Type} {x : XS} {v : Int32} {r : Nat × α × XS} {w : Int64} (hf : Fr x r) (hR : ∃ y', Rel r.2.2 y') (hw : r.1 = 0 → ¬ w = N9 ∨ r.2.2 = x) : Gd x v (wv r.1 w, r.2.2) := by
  refine ⟨fun h => ?_, hR, fun _ => hf.2⟩
  by_cases h0 : r.1 = 0
  · rcases hw h0 with h1 | h1
    · exact absurd (by unfold wv at h; rw [if_pos h0] at h; exact h) h1
    · exact h1
  · exact hf.1 h0
theorem lf_column {x y : XS} (hR : Rel x y) (v : Int32) (a1 a2 a3 : Int32) : ∃ r, s_L_column x a1 a2 a3 = some r ∧ Gd x v r := by
  obtain ⟨r, y', q1, -, q3⟩ := rel_column hR a1 a2 a3
  unfold s_L_column
  rw [q1, Option.bind_some, if_pos q3.1]
  exact ⟨_, rfl, gd_of (fr_column r q1) ⟨_, q3.2.2.2⟩ (fun _ => Or.inl (by decide))⟩
theorem lf_tells {x y : XS} (hR : Rel x y) (v : Int32) (a1 a2 a3 : Int32) : ∃ r, s_L_tells x a1 a2 a3 = some r ∧ Gd x v r := by
  obtain ⟨r, v', y', q1, -, q3⟩ := rel_cell hR a1 a2 a3
  unfold s_L_tells
  rw [q1, Option.bind_some, if_pos q3.1]
  exact ⟨_, rfl, gd_of (fr_cell r q1) ⟨_, q3.2.2.2⟩ (fun _ => Or.inl (i64_ne _))⟩
theorem lf_projector {x y : XS} (hR : Rel x y) (v : Int32) (a1 a2 a3 a4 a5 : Int32) : ∃ r, s_L_projector x a1 a2 a3 a4 a5 = some r ∧ Gd x v r := by
  obtain ⟨r, v', y', q1, -, q3⟩ := rel_projector hR a1 a2 a3 a4 a5
  unfold s_L_projector
  rw [q1, Option.bind_some, if_pos q3.1]
  exact ⟨_, rfl, gd_of (fr_projector r q1) ⟨_, q3.2.2.2⟩ (fun _ => Or.inl (i64_ne _))⟩
theorem lf_aim {x y : XS} (hR : Rel x y) (v : Int32) (a1 a2 a3 : Int32) : ∃ r, s_L_aim x a1 a2 a3 = some r ∧ Gd x v r := by
  obtain ⟨r, y', q1, -, q3⟩ := rel_aim hR a1 a2 a3
  unfold s_L_aim
  rw [q1, Option.bind_some, if_pos q3.1]
  exact ⟨_, rfl, gd_of (fr_aim r q1) ⟨_, q3.2.2.2⟩ (fun _ => Or.inl (by decide))⟩
theorem lf_turn {x y : XS} (hR : Rel x y) (v : Int32) (a1 : Int32) (q : Bool) : ∃ r, s_L_turn x a1 (b2i q) = some r ∧ Gd x v r := by
  obtain ⟨r, v', y', q1, -, q3⟩ := rel_turn hR a1 q
  unfold s_L_turn
  rw [q1, Option.bind_some, if_pos q3.1]
  exact ⟨_, rfl, gd_of (fr_turn r q1) ⟨_, q3.2.2.2⟩ (fun _ => Or.inl (by split <;> decide))⟩
theorem lf_fail {x y : XS} (hR : Rel x y) (v : Int32) (a1 : Int32) (q : Bool) : ∃ r, s_L_fail x a1 (b2i q) = some r ∧ Gd x v r := by
  obtain ⟨r, v', y', q1, -, q3⟩ := rel_fail hR a1 q
  unfold s_L_fail
  rw [q1, Option.bind_some, if_pos q3.1]
  exact ⟨_, rfl, gd_of (fr_fail r q1) ⟨_, q3.2.2.2⟩ (fun _ => Or.inl (by split <;> decide))⟩
theorem lf_phase {x y : XS} (hR : Rel x y) (v : Int32) (a1 a2 : Int32) : ∃ r, s_L_phase x a1 a2 = some r ∧ Gd x v r := by
  obtain ⟨r, v', y', q1, -, q3⟩ := rel_phase hR a1 a2
  unfold s_L_phase
  rw [q1, Option.bind_some, if_pos q3.1]
  exact ⟨_, rfl, gd_of (fr_phase r q1) ⟨_, q3.2.2.2⟩ (fun _ => Or.inl (i64_ne _))⟩
theorem lf_wind {x y : XS} (hR : Rel x y) (v : Int32) (a1 : Int32) : ∃ r, s_L_wind x a1 = some r ∧ Gd x v r := by
  obtain ⟨r, v', y', q1, -, q3⟩ := rel_wind hR a1
  unfold s_L_wind
  rw [q1, Option.bind_some, if_pos q3.1]
  exact ⟨_, rfl, gd_of (fr_wind r q1) ⟨_, q3.2.2.2⟩ (fun _ => Or.inl (i64_ne _))⟩
theorem lf_through {x y : XS} (hR : Rel x y) (v : Int32) (a1 a2 a3 : Int32) : ∃ r, s_L_through x a1 a2 a3 = some r ∧ Gd x v r := by
  obtain ⟨r, v', y', q1, -, q3⟩ := rel_through hR a1 a2 a3
  unfold s_L_through
  rw [q1, Option.bind_some, if_pos q3.1]
  exact ⟨_, rfl, gd_of (fr_through r q1) ⟨_, q3.2.2.2⟩ (fun _ => Or.inl (i64_ne _))⟩
theorem lf_gives {x y : XS} (hR : Rel x y) (v : Int32) (a1 a2 : Int32) : ∃ r, s_L_gives x a1 a2 = some r ∧ Gd x v r := by
  obtain ⟨r, v', y', q1, -, q3⟩ := rel_gives hR a1 a2
  unfold s_L_gives
  rw [q1, Option.bind_some, if_pos q3.1]
  exact ⟨_, rfl, gd_of (fr_gives r q1) ⟨_, q3.2.2.2⟩ (fun _ => Or.inl (i64_ne _))⟩
theorem lf_sharp {x y : XS} (hR : Rel x y) (v : Int32) (a1 a2 : Int32) : ∃ r, s_L_sharp x a1 a2 = some r ∧ Gd x v r := by
  obtain ⟨r, v', y', q1, -, q3⟩ := rel_isSharp hR a1 a2
  unfold s_L_sharp
  rw [q1, Option.bind_some, if_pos q3.1]
  exact ⟨_, rfl, gd_of (fr_isSharp r q1) ⟨_, q3.2.2.2⟩ (fun _ => Or.inl (by split <;> decide))⟩
theorem lf_light {x y : XS} (hR : Rel x y) (v : Int32) (a1 : Int32) : ∃ r, s_L_light x a1 = some r ∧ Gd x v r := by
  obtain ⟨r, v', y', q1, -, q3⟩ := rel_light hR a1
  unfold s_L_light
  rw [q1, Option.bind_some, if_pos q3.1]
  exact ⟨_, rfl, gd_of (fr_light r q1) ⟨_, q3.2.2.2⟩ (fun _ => Or.inl (i64_ne _))⟩
theorem lf_blended {x y : XS} (hR : Rel x y) (v : Int32) (a1 a2 : Int32) : ∃ r, s_L_blended x a1 a2 = some r ∧ Gd x v r := by
  obtain ⟨r, v', y', q1, -, q3⟩ := rel_blended hR a1 a2
  unfold s_L_blended
  rw [q1, Option.bind_some, if_pos q3.1]
  exact ⟨_, rfl, gd_of (fr_blended r q1) ⟨_, q3.2.2.2⟩ (fun _ => Or.inl (i64_ne _))⟩
theorem lf_covered {x y : XS} (hR : Rel x y) (v : Int32) (a1 : Int32) : ∃ r, s_L_covered x a1 = some r ∧ Gd x v r := by
  obtain ⟨r, v', y', q1, -, q3⟩ := rel_covered hR a1
  unfold s_L_covered
  rw [q1, Option.bind_some, if_pos q3.1]
  exact ⟨_, rfl, gd_of (fr_covered hR r q1) ⟨_, q3.2.2.2⟩ (fun _ => Or.inl (i64_ne _))⟩
theorem lf_bears {x y : XS} (hR : Rel x y) (v : Int32) (a1 : Int32) : ∃ r, s_L_bears x a1 = some r ∧ Gd x v r := by
  obtain ⟨r, v', y', q1, -, q3⟩ := rel_bears hR a1
  unfold s_L_bears
  rw [q1, Option.bind_some, if_pos q3.1]
  exact ⟨_, rfl, gd_of (fr_bears hR r q1) ⟨_, q3.2.2.2⟩ (fun _ => Or.inl (by split <;> decide))⟩
theorem lf_curfew {x y : XS} (hR : Rel x y) (v : Int32) (a1 a2 : Int32) : ∃ r, s_L_curfew x a1 a2 = some r ∧ Gd x v r := by
  obtain ⟨r, y', q1, -, q3⟩ := rel_curfew hR a1 a2
  unfold s_L_curfew
  rw [q1, Option.bind_some, if_pos q3.1]
  exact ⟨_, rfl, gd_of (fr_curfew r q1) ⟨_, q3.2.2.2⟩ (fun _ => Or.inl (by decide))⟩
theorem lf_ready {x y : XS} (hR : Rel x y) (v : Int32) (a1 a2 : Int32) : ∃ r, s_L_ready x a1 a2 = some r ∧ Gd x v r := by
  obtain ⟨r, v', y', q1, -, q3⟩ := rel_ready hR a1 a2
  unfold s_L_ready
  rw [q1, Option.bind_some, if_pos q3.1]
  exact ⟨_, rfl, gd_of (fr_ready r q1) ⟨_, q3.2.2.2⟩ (fun _ => Or.inl (i64_ne _))⟩
theorem lf_propose {x y : XS} (hR : Rel x y) (v : Int32) (a1 a2 : Int32) : ∃ r, s_L_propose x a1 a2 = some r ∧ Gd x v r := by
  obtain ⟨r, v', y', q1, -, q3⟩ := rel_propose hR a1 a2
  unfold s_L_propose
  rw [q1, Option.bind_some, if_pos q3.1]
  exact ⟨_, rfl, gd_of (fr_propose r q1) ⟨_, q3.2.2.2⟩ (fun _ => Or.inl (i64_ne _))⟩
theorem lf_answer {x y : XS} (hR : Rel x y) (v : Int32) (a1 : Int32) (q : Bool) : ∃ r, s_L_answer x a1 (b2i q) = some r ∧ Gd x v r := by
  obtain ⟨r, v', y', q1, -, q3⟩ := rel_answer hR a1 q
  unfold s_L_answer
  rw [q1, Option.bind_some, if_pos q3.1]
  exact ⟨_, rfl, gd_of (fr_answer r q1) ⟨_, q3.2.2.2⟩ (fun _ => Or.inl (i64_ne _))⟩
theorem lf_scene {x y : XS} (hR : Rel x y) (v : Int32) (a1 : Int32) (q : Bool) : ∃ r, s_L_scene x a1 (b2i q) = some r ∧ Gd x v r := by
  obtain ⟨r, v', y', q1, -, q3⟩ := rel_scene hR a1 q
  unfold s_L_scene
  rw [q1, Option.bind_some, if_pos q3.1]
  exact ⟨_, rfl, gd_of (fr_scene r q1) ⟨_, q3.2.2.2⟩ (fun _ => Or.inl (i64_ne _))⟩
theorem lf_pass {x y : XS} (hR : Rel x y) (v : Int32) (a1 : Int32) : ∃ r, s_L_pass x a1 = some r ∧ Gd x v r := by
  obtain ⟨r, v', y', q1, -, q3⟩ := rel_pass hR a1
  unfold s_L_pass
  rw [q1, Option.bind_some, if_pos q3.1]
  exact ⟨_, rfl, gd_of (fr_pass r q1) ⟨_, q3.2.2.2⟩ (fun _ => Or.inl (i64_ne _))⟩
theorem show_same {x : XS} {a1 : Int32} : Okk (fun r => r.2.2 = x) (s_X4_show x a1) := by
  unfold s_X4_show
  exact ok_ite (ok_some rfl) (ok_ite (ok_some rfl) (ok_ite (ok_some rfl) (ok_ite (ok_some rfl) (ok_ite (ok_some rfl) (ok_ite (ok_bind (fun _ _ => ok_some rfl)) (ok_some rfl))))))
theorem lf_show {x y : XS} (hR : Rel x y) (v a1 : Int32) : ∃ r, s_L_show x a1 = some r ∧ Gd x v r := by
  obtain ⟨r, v', y', q1, -, q3⟩ := rel_show hR a1
  unfold s_L_show
  rw [q1, Option.bind_some, if_pos q3.1]
  refine ⟨_, rfl, gd_of (fr_show r q1) ⟨_, q3.2.2.2⟩ (fun _ => Or.inr ?_)⟩
  exact show_same r q1
theorem lf_need {x y : XS} (hR : Rel x y) (v a1 a2 : Int32) (hv : s_L_low v 38 = some 4) : ∃ r, s_L_need x a1 a2 = some r ∧ Gd x v r := by
  obtain ⟨r, y', q1, -, q3⟩ := rel_need hR a1 a2
  unfold s_L_need
  rw [q1, Option.bind_some, if_pos q3.1]
  have hf := fr_need r q1
  refine ⟨_, rfl, fun h => ?_, ⟨_, q3.2.2.2⟩, fun h => ?_⟩
  · by_cases h0 : r.1 = 0
    · have h : wv r.1 0 = N9 := h
      unfold wv at h
      rw [if_pos h0] at h
      exact absurd h (by decide)
    · exact hf.1 h0
  · rcases h with h | h
    · exact absurd hv h
    · by_cases h0 : r.1 = 0
      · exact absurd (show wv r.1 0 = 0 by unfold wv; rw [if_pos h0]) h
      · rw [hf.1 h0]; exact ⟨rfl, rfl⟩
theorem lf_least {x y : XS} (hR : Rel x y) (v : Int32) : ∃ r, ((s_X4_least x).bind fun v => some (v.1.toInt64, v.2)) = some r ∧ Gd x v r := by
  obtain ⟨d, d1, d2, -⟩ := nee_e hR
  obtain ⟨x', h1, h2, -⟩ := lea_e hR d1 d2
  rw [h1, Option.bind_some]
  exact ⟨_, rfl, fun h => absurd h (i64_ne _), ⟨_, h2⟩, fun _ => f56_of hR h2⟩
theorem lf_breaches {x y : XS} (hR : Rel x y) (v : Int32) : ∃ r, ((s_X4_breaches x).bind fun v => some (v.toInt64, x)) = some r ∧ Gd x v r := by
  obtain ⟨w, -, h1, -⟩ := bre_c hR
  rw [h1, Option.bind_some]
  exact ⟨_, rfl, fun _ => rfl, ⟨_, hR⟩, fun _ => ⟨rfl, rfl⟩⟩
set_option maxHeartbeats 4000000 in
set_option maxRecDepth 100000 in
theorem act_C {x : XS} {a1 : Int32} {C : Option (Int64 × XS) → Prop} (h_column : ∀ b0 b1 b2 : Int32, C (s_L_column x b0 b1 b2)) (h_tells : ∀ b0 b1 b2 : Int32, C (s_L_tells x b0 b1 b2)) (h_need : s_L_low a1 38 = some 4 → ∀ a b : Int32, C (s_L_need x a b)) (h_projector : ∀ b0 b1 b2 b3 b4 : Int32, C (s_L_projector x b0 b1 b2 b3 b4)) (h_aim : ∀ b0 b1 b2 : Int32, C (s_L_aim x b0 b1 b2)) (h_turn : ∀ (a : Int32) (q : Bool), C (s_L_turn x a (b2i q))) (h_fail : ∀ (a : Int32) (q : Bool), C (s_L_fail x a (b2i q))) (h_phase : ∀ b0 b1 : Int32, C (s_L_phase x b0 b1)) (h_wind : ∀ b0 : Int32, C (s_L_wind x b0)) (h_through : ∀ b0 b1 b2 : Int32, C (s_L_through x b0 b1 b2)) (h_gives : ∀ b0 b1 : Int32, C (s_L_gives x b0 b1)) (h_sharp : ∀ b0 b1 : Int32, C (s_L_sharp x b0 b1)) (h_light : ∀ b0 : Int32, C (s_L_light x b0)) (h_blended : ∀ b0 b1 : Int32, C (s_L_blended x b0 b1)) (h_covered : ∀ b0 : Int32, C (s_L_covered x b0)) (h_bears : ∀ b0 : Int32, C (s_L_bears x b0)) (h_curfew : ∀ b0 b1 : Int32, C (s_L_curfew x b0 b1)) (h_ready : ∀ b0 b1 : Int32, C (s_L_ready x b0 b1)) (h_propose : ∀ b0 b1 : Int32, C (s_L_propose x b0 b1)) (h_answer : ∀ (a : Int32) (q : Bool), C (s_L_answer x a (b2i q))) (h_scene : ∀ (a : Int32) (q : Bool), C (s_L_scene x a (b2i q))) (h_show : ∀ b0 : Int32, C (s_L_show x b0)) (h_pass : ∀ b0 : Int32, C (s_L_pass x b0)) (h_least : C ((s_X4_least x).bind fun v => some (v.1.toInt64, v.2))) (h_breaches : C ((s_X4_breaches x).bind fun v => some (v.toInt64, x))) : C (s_L_act x a1) :=
  low_CC (by decide) (fun v_1 e_v_1 =>
    ite_CC (fun c2 =>
      low_CC (by decide) (fun v_48 e_v_48 =>
        low_CC (by decide) (fun v_49 e_v_49 =>
          low_CC (by decide) (fun v_50 e_v_50 =>
            low_CC (by decide) (fun v_51 e_v_51 =>
              low_CC (by decide) (fun v_52 e_v_52 =>
                ite_CC (fun c8 =>
                  h_column _ _ _) (fun c8 =>
                  ite_CC (fun c9 =>
                    h_column _ _ _) (fun c9 =>
                    ite_CC (fun c10 =>
                      h_tells _ _ _) (fun c10 =>
                      ite_CC (fun c11 =>
                        h_tells _ _ _) (fun c11 =>
                        ite_CC (fun c12 =>
                          h_need (by rw [e_v_52, c12]) _ _) (fun c12 =>
                          ite_CC (fun c13 =>
                            low_CC (by decide) (fun v_54 e_v_54 =>
                              h_projector _ _ _ _ _)) (fun c13 =>
                            ite_CC (fun c14 =>
                              low_CC (by decide) (fun v_55 e_v_55 =>
                                h_projector _ _ _ _ _)) (fun c14 =>
                              ite_CC (fun c15 =>
                                low_CC (by decide) (fun v_56 e_v_56 =>
                                  h_projector _ _ _ _ _)) (fun c15 =>
                                ite_CC (fun c16 =>
                                  low_CC (by decide) (fun v_57 e_v_57 =>
                                    h_projector _ _ _ _ _)) (fun c16 =>
                                  ite_CC (fun c17 =>
                                    low_CC (by decide) (fun v_58 e_v_58 =>
                                      h_projector _ _ _ _ _)) (fun c17 =>
                                    ite_CC (fun c18 =>
                                      h_aim _ _ _) (fun c18 =>
                                      ite_CC (fun c19 =>
                                        h_aim _ _ _) (fun c19 =>
                                        ite_CC (fun c20 =>
                                          h_aim _ _ _) (fun c20 =>
                                          ite_CC (fun c21 =>
                                            low_CC (by decide) (fun v_59 e_v_59 =>
                                              ite_CC (fun c23 =>
                                                h_turn _ false) (fun c23 =>
                                                h_turn _ true))) (fun c21 =>
                                            ite_CC (fun c22 =>
                                              low_CC (by decide) (fun v_61 e_v_61 =>
                                                ite_CC (fun c24 =>
                                                  h_turn _ false) (fun c24 =>
                                                  h_turn _ true))) (fun c22 =>
                                              ite_CC (fun c23 =>
                                                low_CC (by decide) (fun v_63 e_v_63 =>
                                                  ite_CC (fun c25 =>
                                                    h_turn _ false) (fun c25 =>
                                                    h_turn _ true))) (fun c23 =>
                                                ite_CC (fun c24 =>
                                                  low_CC (by decide) (fun v_65 e_v_65 =>
                                                    ite_CC (fun c26 =>
                                                      h_turn _ false) (fun c26 =>
                                                      h_turn _ true))) (fun c24 =>
                                                  ite_CC (fun c25 =>
                                                    h_fail _ _) (fun c25 =>
                                                    ite_CC (fun c26 =>
                                                      h_phase _ _) (fun c26 =>
                                                      ite_CC (fun c27 =>
                                                        h_wind _) (fun c27 =>
                                                        ite_CC (fun c28 =>
                                                          h_through _ _ _) (fun c28 =>
                                                          ite_CC (fun c29 =>
                                                            h_gives _ _) (fun c29 =>
                                                            ite_CC (fun c30 =>
                                                              h_sharp _ _) (fun c30 =>
                                                              ite_CC (fun c31 =>
                                                                h_light _) (fun c31 =>
                                                                ite_CC (fun c32 =>
                                                                  h_blended _ _) (fun c32 =>
                                                                  ite_CC (fun c33 =>
                                                                    h_covered _) (fun c33 =>
                                                                    ite_CC (fun c34 =>
                                                                      low_CC (by decide) (fun v_67 e_v_67 =>
                                                                        ite_CC (fun c36 =>
                                                                          h_least) (fun c36 =>
                                                                          h_bears _))) (fun c34 =>
                                                                      ite_CC (fun c35 =>
                                                                        h_breaches) (fun c35 =>
                                                                        ite_CC (fun c36 =>
                                                                          h_curfew _ _) (fun c36 =>
                                                                          ite_CC (fun c37 =>
                                                                            h_ready _ _) (fun c37 =>
                                                                            ite_CC (fun c38 =>
                                                                              h_ready _ _) (fun c38 =>
                                                                              ite_CC (fun c39 =>
                                                                                h_propose _ _) (fun c39 =>
                                                                                ite_CC (fun c40 =>
                                                                                  h_answer _ _) (fun c40 =>
                                                                                  ite_CC (fun c41 =>
                                                                                    h_scene _ _) (fun c41 =>
                                                                                    ite_CC (fun c42 =>
                                                                                      h_show _) (fun c42 =>
                                                                                      h_pass _))))))))))))))))))))))))))))))))))))))))) (fun c2 =>
      low_CC (by decide) (fun v_3 e_v_3 =>
        low_CC (by decide) (fun v_4 e_v_4 =>
          low_CC (by decide) (fun v_5 e_v_5 =>
            low_CC (by decide) (fun v_6 e_v_6 =>
              low_CC (by decide) (fun v_7 e_v_7 =>
                low_CC (by decide) (fun v_8 e_v_8 =>
                  ite_CC (fun c9 =>
                    low_CC (by decide) (fun v_10 e_v_10 =>
                      h_column _ _ _)) (fun c9 =>
                    ite_CC (fun c10 =>
                      low_CC (by decide) (fun v_11 e_v_11 =>
                        h_column _ _ _)) (fun c10 =>
                      ite_CC (fun c11 =>
                        low_CC (by decide) (fun v_12 e_v_12 =>
                          h_tells _ _ _)) (fun c11 =>
                        ite_CC (fun c12 =>
                          low_CC (by decide) (fun v_13 e_v_13 =>
                            h_tells _ _ _)) (fun c12 =>
                          ite_CC (fun c13 =>
                            low_CC (by decide) (fun v_14 e_v_14 =>
                              h_need (by rw [e_v_8, c13]) _ _)) (fun c13 =>
                            ite_CC (fun c14 =>
                              low_CC (by decide) (fun v_15 e_v_15 =>
                                h_projector _ _ _ _ _)) (fun c14 =>
                              ite_CC (fun c15 =>
                                low_CC (by decide) (fun v_16 e_v_16 =>
                                  h_projector _ _ _ _ _)) (fun c15 =>
                                ite_CC (fun c16 =>
                                  low_CC (by decide) (fun v_17 e_v_17 =>
                                    h_projector _ _ _ _ _)) (fun c16 =>
                                  ite_CC (fun c17 =>
                                    low_CC (by decide) (fun v_18 e_v_18 =>
                                      h_projector _ _ _ _ _)) (fun c17 =>
                                    ite_CC (fun c18 =>
                                      low_CC (by decide) (fun v_19 e_v_19 =>
                                        h_projector _ _ _ _ _)) (fun c18 =>
                                      ite_CC (fun c19 =>
                                        ite_CC (fun c20 =>
                                          low_CC (low_16 e_v_4) (fun v_21 e_v_21 =>
                                            h_aim _ _ _)) (fun c20 =>
                                          low_CC (by decide) (fun v_22 e_v_22 =>
                                            h_aim _ _ _))) (fun c19 =>
                                        ite_CC (fun c20 =>
                                          ite_CC (fun c21 =>
                                            low_CC (low_16 e_v_4) (fun v_24 e_v_24 =>
                                              h_aim _ _ _)) (fun c21 =>
                                            low_CC (by decide) (fun v_25 e_v_25 =>
                                              h_aim _ _ _))) (fun c20 =>
                                          ite_CC (fun c21 =>
                                            ite_CC (fun c22 =>
                                              low_CC (low_16 e_v_4) (fun v_27 e_v_27 =>
                                                h_aim _ _ _)) (fun c22 =>
                                              low_CC (by decide) (fun v_28 e_v_28 =>
                                                h_aim _ _ _))) (fun c21 =>
                                            ite_CC (fun c22 =>
                                              low_CC (by decide) (fun v_29 e_v_29 =>
                                                ite_CC (fun c24 =>
                                                  h_turn _ false) (fun c24 =>
                                                  h_turn _ true))) (fun c22 =>
                                              ite_CC (fun c23 =>
                                                low_CC (by decide) (fun v_31 e_v_31 =>
                                                  ite_CC (fun c25 =>
                                                    h_turn _ false) (fun c25 =>
                                                    h_turn _ true))) (fun c23 =>
                                                ite_CC (fun c24 =>
                                                  low_CC (by decide) (fun v_33 e_v_33 =>
                                                    ite_CC (fun c26 =>
                                                      h_turn _ false) (fun c26 =>
                                                      h_turn _ true))) (fun c24 =>
                                                  ite_CC (fun c25 =>
                                                    low_CC (by decide) (fun v_35 e_v_35 =>
                                                      ite_CC (fun c27 =>
                                                        h_turn _ false) (fun c27 =>
                                                        h_turn _ true))) (fun c25 =>
                                                    ite_CC (fun c26 =>
                                                      h_fail _ _) (fun c26 =>
                                                      ite_CC (fun c27 =>
                                                        h_phase _ _) (fun c27 =>
                                                        ite_CC (fun c28 =>
                                                          low_CC (by decide) (fun v_37 e_v_37 =>
                                                            h_wind _)) (fun c28 =>
                                                          ite_CC (fun c29 =>
                                                            low_CC (by decide) (fun v_38 e_v_38 =>
                                                              h_through _ _ _)) (fun c29 =>
                                                            ite_CC (fun c30 =>
                                                              h_gives _ _) (fun c30 =>
                                                              ite_CC (fun c31 =>
                                                                h_sharp _ _) (fun c31 =>
                                                                ite_CC (fun c32 =>
                                                                  h_light _) (fun c32 =>
                                                                  ite_CC (fun c33 =>
                                                                    h_blended _ _) (fun c33 =>
                                                                    ite_CC (fun c34 =>
                                                                      low_CC (by decide) (fun v_39 e_v_39 =>
                                                                        h_covered _)) (fun c34 =>
                                                                      ite_CC (fun c35 =>
                                                                        low_CC (by decide) (fun v_40 e_v_40 =>
                                                                          ite_CC (fun c37 =>
                                                                            h_least) (fun c37 =>
                                                                            low_CC (by decide) (fun v_42 e_v_42 =>
                                                                              h_bears _)))) (fun c35 =>
                                                                        ite_CC (fun c36 =>
                                                                          h_breaches) (fun c36 =>
                                                                          ite_CC (fun c37 =>
                                                                            low_CC (by decide) (fun v_45 e_v_45 =>
                                                                              h_curfew _ _)) (fun c37 =>
                                                                            ite_CC (fun c38 =>
                                                                              h_ready _ _) (fun c38 =>
                                                                              ite_CC (fun c39 =>
                                                                                h_ready _ _) (fun c39 =>
                                                                                ite_CC (fun c40 =>
                                                                                  h_propose _ _) (fun c40 =>
                                                                                  ite_CC (fun c41 =>
                                                                                    h_answer _ _) (fun c41 =>
                                                                                    ite_CC (fun c42 =>
                                                                                      h_scene _ _) (fun c42 =>
                                                                                      ite_CC (fun c43 =>
                                                                                        low_CC (by decide) (fun v_46 e_v_46 =>
                                                                                          h_show _)) (fun c43 =>
                                                                                        low_CC (by decide) (fun v_47 e_v_47 =>
                                                                                          h_pass _))))))))))))))))))))))))))))))))))))))))))))
theorem act_e {x y : XS} (hR : Rel x y) (a1 : Int32) : ∃ r, s_L_act x a1 = some r ∧ Gd x a1 r :=
  act_C (C := fun o => ∃ r, o = some r ∧ Gd x a1 r) (fun b0 b1 b2 => lf_column hR a1 b0 b1 b2) (fun b0 b1 b2 => lf_tells hR a1 b0 b1 b2) (fun h a b => lf_need hR a1 a b h) (fun b0 b1 b2 b3 b4 => lf_projector hR a1 b0 b1 b2 b3 b4) (fun b0 b1 b2 => lf_aim hR a1 b0 b1 b2) (fun a q => lf_turn hR a1 a q) (fun a q => lf_fail hR a1 a q) (fun b0 b1 => lf_phase hR a1 b0 b1) (fun b0 => lf_wind hR a1 b0) (fun b0 b1 b2 => lf_through hR a1 b0 b1 b2) (fun b0 b1 => lf_gives hR a1 b0 b1) (fun b0 b1 => lf_sharp hR a1 b0 b1) (fun b0 => lf_light hR a1 b0) (fun b0 b1 => lf_blended hR a1 b0 b1) (fun b0 => lf_covered hR a1 b0) (fun b0 => lf_bears hR a1 b0) (fun b0 b1 => lf_curfew hR a1 b0 b1) (fun b0 b1 => lf_ready hR a1 b0 b1) (fun b0 b1 => lf_propose hR a1 b0 b1) (fun a q => lf_answer hR a1 a q) (fun a q => lf_scene hR a1 a q) (fun b0 => lf_show hR a1 b0) (fun b0 => lf_pass hR a1 b0) (lf_least hR a1) (lf_breaches hR a1)
/-- what a 'need' among the acts tells -/
def nA (v : Int32) : Int32 := if lw (v >>> (26 &&& 31)) 14 = 0 then v else ((1 : Int32) <<< (lw (v >>> (7 &&& 31)) 16 &&& 31)) ||| ((1 : Int32) <<< (lw (v >>> (3 &&& 31)) 16 &&& 31))
def nB (v : Int32) : Int32 := if lw (v >>> (26 &&& 31)) 14 = 0 then v >>> (9 &&& 31) else (1 : Int32) + (2 : Int32) * lw (v >>> (9 &&& 31)) 90
theorem act_need {x : XS} {v : Int32} (h : s_L_low v 38 = some 4) : s_L_act x v = s_L_need x (nA v) (nB v) := by
  unfold s_L_act nA nB
  rw [low_e (by decide), Option.bind_some]
  by_cases odd : lw (v >>> (26 &&& 31)) 14 = 0
  · rw [if_pos odd, if_pos odd, if_pos odd, low_e (by decide), Option.bind_some, low_e (by decide), Option.bind_some, low_e (by decide), Option.bind_some, low_e (by decide), Option.bind_some, h, Option.bind_some, if_neg (by decide), if_neg (by decide), if_neg (by decide), if_neg (by decide), if_pos rfl]
  · rw [if_neg odd, if_neg odd, if_neg odd, low_e (by decide), Option.bind_some, low_e (by decide), Option.bind_some, low_e (by decide), Option.bind_some, low_e (by decide), Option.bind_some, low_e (by decide), Option.bind_some, h, Option.bind_some, if_neg (by decide), if_neg (by decide), if_neg (by decide), if_neg (by decide), if_pos rfl, low_e (by decide), Option.bind_some]
/-- behind an act that told 'need' -/
theorem act_tells {x : XS} {v : Int32} {r : Int64 × XS} (h : s_L_low v 38 = some 4) (hr : s_L_act x v = some r) (h0 : r.1 = 0) : r.2.1 0 5 = nA v ∧ r.2.1 0 6 = nB v := by
  rw [act_need h] at hr
  unfold s_L_need at hr
  obtain ⟨r0, q0, hr⟩ := sp_b hr
  obtain ⟨hk, hr⟩ := sp_i hr
  cases hr
  refine (fr_need r0 q0).2 ?_
  by_cases g : r0.1 = 0
  · exact g
  · have h0 : wv r0.1 0 = 0 := h0
    unfold wv at h0
    rw [if_neg g] at h0
    exact absurd h0 (by decide)
