/-! the worlds of the class and of the reference, as functions of plain numbers; what every method needs of the machine; derived rows -/
abbrev XS : Type := (Nat → Nat → Int32) × (Nat → Int64) × Nat
def si (x : XS) (a k : Nat) (v : Int32) : XS := (fun a' => if a' = a then upd (x.1 a) k v else x.1 a', x.2)
def sl (x : XS) (k : Nat) (v : Int64) : XS := (x.1, vp_updL x.2.1 k v, x.2.2)
abbrev tyA (ca : Nat → ClassId) : List (ClassId × FieldType) := [(ca 0, .int), (ca 0, .int), (ca 0, .int), (ca 3, .object "FacadeShow$Projector"), (ca 4, .object "FacadeShow$Scene")]
def adP (g : Nat → Nat) : Nat → Nat := fun j => g (15 + j)
def adS (g : Nat → Nat) : Nat → Nat := fun j => g (11 + j)
def fsX (g : Nat → Nat) (x : XS) : List Value := [.ref (g 1), .ref (g 2), .int (x.1 0 2), .ref (g 3), .int (x.1 0 4), .int (x.1 0 5), .int (x.1 0 6), .ref (g 4), .int (x.1 0 8), .int (x.1 0 9), .ref (g 5), .int (x.1 0 11), .int (x.1 0 12), .long (x.2.1 0), .long (x.2.1 1), .int (x.1 0 15)]
def fsS (x : XS) (j : Nat) : List Value := [.int (x.1 11 j), .int (x.1 12 j)]
def fsP (x : XS) (j : Nat) : List Value := [.int (x.1 20 j), .int (x.1 21 j), .int (x.1 22 j), .int (x.1 23 j), .int (x.1 24 j), .int (x.1 25 j), .int (x.1 26 j), .int (x.1 27 j), .int (x.1 28 j), .int (x.1 29 j)]
def plX (g : Nat → Nat) (n : Nat) : Nat → Option Nat := fun j => if j < n then some (adP g j) else none
def plS (g : Nat → Nat) : Nat → Option Nat := fun j => if j < 4 then some (adS g j) else none
def wXf (g : Nat → Nat) (ca : Nat → ClassId) (x : XS) : va_W := [
  (g 0, .inr (4, fsX g x)),
  (g 1, .inr (2, [.ref (g 6), .ref (g 7), .ref (g 8)])),
  (g 6, .inl (ca 0, 16, .inl (x.1 6))),
  (g 7, .inl (ca 0, 16, .inl (x.1 7))),
  (g 8, .inl (ca 0, 192, .inl (x.1 8))),
  (g 2, .inl (ca 3, 10, .inr (.inr (.inr (.inr (plX g x.2.2)))))),
  (g 3, .inl (ca 0, 3, .inl (x.1 3))),
  (g 4, .inr (3, [.ref (g 9), .ref (g 10)])),
  (g 9, .inl (ca 0, 160, .inl (x.1 9))),
  (g 10, .inl (ca 0, 16, .inl (x.1 10))),
  (g 5, .inl (ca 4, 4, .inr (.inr (.inr (.inr (plS g))))))]
def wXs (g : Nat → Nat) (x : XS) : va_W := (List.range 4).map (fun j => (adS g j, .inr (1, fsS x j)))
def wXp (g : Nat → Nat) (x : XS) : va_W := (List.range x.2.2).map (fun j => (adP g j, .inr (0, fsP x j)))
def wX (g : Nat → Nat) (ca : Nat → ClassId) (x : XS) : va_W := wXf g ca x ++ (wXs g x ++ wXp g x)
theorem wX_scene {g : Nat → Nat} {ca : Nat → ClassId} {x : XS} {j : Nat} (h : j < 4) : (wX g ca x)[11 + j]? = some (adS g j, .inr (1, fsS x j)) := by
  unfold wX
  rw [List.getElem?_append_right (by simp [wXf]), List.getElem?_append_left (by simp [wXf, wXs]; omega)]
  simp [wXf, wXs, h]
theorem wX_proj {g : Nat → Nat} {ca : Nat → ClassId} {x : XS} {j : Nat} (h : j < x.2.2) : (wX g ca x)[15 + j]? = some (adP g j, .inr (0, fsP x j)) := by
  unfold wX
  rw [List.getElem?_append_right (by simp [wXf]; omega), List.getElem?_append_right (by simp [wXf, wXs]; omega)]
  rw [show 15 + j - (wXf g ca x).length - (wXs g x).length = j by simp [wXf, wXs]; omega]
  simp [wXp, h]
theorem si_other {x : XS} {a k : Nat} {v : Int32} {b : Nat} (h : b ≠ a) : (si x a k v).1 b = x.1 b := by simp [si, h]
theorem si_same {x : XS} {a k : Nat} {v : Int32} : (si x a k v).1 a = upd (x.1 a) k v := by simp [si]
theorem si_2 {x : XS} {a k : Nat} {v : Int32} : (si x a k v).2 = x.2 := rfl
theorem si_get {x : XS} {a k : Nat} {v : Int32} {b j : Nat} : (si x a k v).1 b j = if b = a ∧ j = k then v else x.1 b j := by
  by_cases h : b = a
  · subst h; rw [si_same]; by_cases q : j = k <;> simp [upd, q]
  · rw [si_other h]; simp [h]
theorem wX_f2 {g : Nat → Nat} {ca : Nat → ClassId} {x : XS} {v : Int32} : (wX g ca x).set 0 (g 0, .inr (4, (fsX g x).set 2 (.int v))) = wX g ca (si x 0 2 v) := by
  simp [wX, wXf, wXs, wXp, fsX, fsS, fsP, si, upd]
theorem wX_f4 {g : Nat → Nat} {ca : Nat → ClassId} {x : XS} {v : Int32} : (wX g ca x).set 0 (g 0, .inr (4, (fsX g x).set 4 (.int v))) = wX g ca (si x 0 4 v) := by
  simp [wX, wXf, wXs, wXp, fsX, fsS, fsP, si, upd]
theorem wX_f5 {g : Nat → Nat} {ca : Nat → ClassId} {x : XS} {v : Int32} : (wX g ca x).set 0 (g 0, .inr (4, (fsX g x).set 5 (.int v))) = wX g ca (si x 0 5 v) := by
  simp [wX, wXf, wXs, wXp, fsX, fsS, fsP, si, upd]
theorem wX_f6 {g : Nat → Nat} {ca : Nat → ClassId} {x : XS} {v : Int32} : (wX g ca x).set 0 (g 0, .inr (4, (fsX g x).set 6 (.int v))) = wX g ca (si x 0 6 v) := by
  simp [wX, wXf, wXs, wXp, fsX, fsS, fsP, si, upd]
theorem wX_f8 {g : Nat → Nat} {ca : Nat → ClassId} {x : XS} {v : Int32} : (wX g ca x).set 0 (g 0, .inr (4, (fsX g x).set 8 (.int v))) = wX g ca (si x 0 8 v) := by
  simp [wX, wXf, wXs, wXp, fsX, fsS, fsP, si, upd]
theorem wX_f9 {g : Nat → Nat} {ca : Nat → ClassId} {x : XS} {v : Int32} : (wX g ca x).set 0 (g 0, .inr (4, (fsX g x).set 9 (.int v))) = wX g ca (si x 0 9 v) := by
  simp [wX, wXf, wXs, wXp, fsX, fsS, fsP, si, upd]
theorem wX_f11 {g : Nat → Nat} {ca : Nat → ClassId} {x : XS} {v : Int32} : (wX g ca x).set 0 (g 0, .inr (4, (fsX g x).set 11 (.int v))) = wX g ca (si x 0 11 v) := by
  simp [wX, wXf, wXs, wXp, fsX, fsS, fsP, si, upd]
theorem wX_f12 {g : Nat → Nat} {ca : Nat → ClassId} {x : XS} {v : Int32} : (wX g ca x).set 0 (g 0, .inr (4, (fsX g x).set 12 (.int v))) = wX g ca (si x 0 12 v) := by
  simp [wX, wXf, wXs, wXp, fsX, fsS, fsP, si, upd]
theorem wX_f15 {g : Nat → Nat} {ca : Nat → ClassId} {x : XS} {v : Int32} : (wX g ca x).set 0 (g 0, .inr (4, (fsX g x).set 15 (.int v))) = wX g ca (si x 0 15 v) := by
  simp [wX, wXf, wXs, wXp, fsX, fsS, fsP, si, upd]
theorem wX_f13 {g : Nat → Nat} {ca : Nat → ClassId} {x : XS} {v : Int64} : (wX g ca x).set 0 (g 0, .inr (4, (fsX g x).set 13 (.long v))) = wX g ca (sl x 0 v) := by
  simp [wX, wXf, wXs, wXp, fsX, fsS, fsP, sl, vp_updL]
theorem wX_f14 {g : Nat → Nat} {ca : Nat → ClassId} {x : XS} {v : Int64} : (wX g ca x).set 0 (g 0, .inr (4, (fsX g x).set 14 (.long v))) = wX g ca (sl x 1 v) := by
  simp [wX, wXf, wXs, wXp, fsX, fsS, fsP, sl, vp_updL]
theorem wX_a3 {g : Nat → Nat} {ca : Nat → ClassId} {x : XS} {i : Nat} {v : Int32} : (wX g ca x).set 6 (g 3, .inl (ca 0, 3, .inl (upd (x.1 3) i v))) = wX g ca (si x 3 i v) := by
  simp [wX, wXf, wXs, wXp, fsX, fsS, fsP, si]
theorem wX_a6 {g : Nat → Nat} {ca : Nat → ClassId} {x : XS} {i : Nat} {v : Int32} : (wX g ca x).set 2 (g 6, .inl (ca 0, 16, .inl (upd (x.1 6) i v))) = wX g ca (si x 6 i v) := by
  simp [wX, wXf, wXs, wXp, fsX, fsS, fsP, si]
theorem wX_a7 {g : Nat → Nat} {ca : Nat → ClassId} {x : XS} {i : Nat} {v : Int32} : (wX g ca x).set 3 (g 7, .inl (ca 0, 16, .inl (upd (x.1 7) i v))) = wX g ca (si x 7 i v) := by
  simp [wX, wXf, wXs, wXp, fsX, fsS, fsP, si]
theorem wX_a8 {g : Nat → Nat} {ca : Nat → ClassId} {x : XS} {i : Nat} {v : Int32} : (wX g ca x).set 4 (g 8, .inl (ca 0, 192, .inl (upd (x.1 8) i v))) = wX g ca (si x 8 i v) := by
  simp [wX, wXf, wXs, wXp, fsX, fsS, fsP, si]
theorem wX_a9 {g : Nat → Nat} {ca : Nat → ClassId} {x : XS} {i : Nat} {v : Int32} : (wX g ca x).set 8 (g 9, .inl (ca 0, 160, .inl (upd (x.1 9) i v))) = wX g ca (si x 9 i v) := by
  simp [wX, wXf, wXs, wXp, fsX, fsS, fsP, si]
theorem wX_a10 {g : Nat → Nat} {ca : Nat → ClassId} {x : XS} {i : Nat} {v : Int32} : (wX g ca x).set 9 (g 10, .inl (ca 0, 16, .inl (upd (x.1 10) i v))) = wX g ca (si x 10 i v) := by
  simp [wX, wXf, wXs, wXp, fsX, fsS, fsP, si]
theorem map_range_set {α : Type} {f h : Nat → α} {n j : Nat} {e : α} (hj : h j = e) (ho : ∀ i, i ≠ j → h i = f i) : ((List.range n).map f).set j e = (List.range n).map h := by
  apply List.ext_getElem?
  intro i
  rw [List.getElem?_set]
  by_cases q : j = i
  · subst q
    by_cases r : j < n <;> simp [r, hj]
  · rw [if_neg q]
    by_cases r : i < n <;> simp [r, ho i (Ne.symm q)]
theorem wX_s0 {g : Nat → Nat} {ca : Nat → ClassId} {x : XS} {j : Nat} {v : Int32} (h : j < 4) : (wX g ca x).set (11 + j) (adS g j, .inr (1, (fsS x j).set 0 (.int v))) = wX g ca (si x 11 j v) := by
  unfold wX
  rw [List.set_append_right _ _ (by simp [wXf]), List.set_append_left _ _ (by simp [wXf, wXs]; omega)]
  have e1 : wXf g ca (si x 11 j v) = wXf g ca x := by simp [wXf, fsX, si]
  have e2 : wXp g (si x 11 j v) = wXp g x := by simp [wXp, fsP, si]
  rw [e1, e2]
  congr 2
  unfold wXs
  rw [show 11 + j - (wXf g ca x).length = j by simp [wXf]]
  exact map_range_set (by simp [fsS, si, upd]) (fun i hi => by simp [fsS, si, upd, hi])
theorem wX_s1 {g : Nat → Nat} {ca : Nat → ClassId} {x : XS} {j : Nat} {v : Int32} (h : j < 4) : (wX g ca x).set (11 + j) (adS g j, .inr (1, (fsS x j).set 1 (.int v))) = wX g ca (si x 12 j v) := by
  unfold wX
  rw [List.set_append_right _ _ (by simp [wXf]), List.set_append_left _ _ (by simp [wXf, wXs]; omega)]
  have e1 : wXf g ca (si x 12 j v) = wXf g ca x := by simp [wXf, fsX, si]
  have e2 : wXp g (si x 12 j v) = wXp g x := by simp [wXp, fsP, si]
  rw [e1, e2]
  congr 2
  unfold wXs
  rw [show 11 + j - (wXf g ca x).length = j by simp [wXf]]
  exact map_range_set (by simp [fsS, si, upd]) (fun i hi => by simp [fsS, si, upd, hi])
theorem wX_p5 {g : Nat → Nat} {ca : Nat → ClassId} {x : XS} {j : Nat} {v : Int32} (h : j < x.2.2) : (wX g ca x).set (15 + j) (adP g j, .inr (0, (fsP x j).set 5 (.int v))) = wX g ca (si x 25 j v) := by
  unfold wX
  rw [List.set_append_right _ _ (by simp [wXf]; omega), List.set_append_right _ _ (by simp [wXf, wXs]; omega)]
  have e1 : wXf g ca (si x 25 j v) = wXf g ca x := by simp [wXf, fsX, si]
  have e2 : wXs g (si x 25 j v) = wXs g x := by simp [wXs, fsS, si]
  rw [e1, e2]
  congr 2
  unfold wXp
  rw [show 15 + j - (wXf g ca x).length - (wXs g x).length = j by simp [wXf, wXs]; omega]
  exact map_range_set (by simp [fsP, si, upd]) (fun i hi => by simp [fsP, si, upd, hi])
theorem wX_p6 {g : Nat → Nat} {ca : Nat → ClassId} {x : XS} {j : Nat} {v : Int32} (h : j < x.2.2) : (wX g ca x).set (15 + j) (adP g j, .inr (0, (fsP x j).set 6 (.int v))) = wX g ca (si x 26 j v) := by
  unfold wX
  rw [List.set_append_right _ _ (by simp [wXf]; omega), List.set_append_right _ _ (by simp [wXf, wXs]; omega)]
  have e1 : wXf g ca (si x 26 j v) = wXf g ca x := by simp [wXf, fsX, si]
  have e2 : wXs g (si x 26 j v) = wXs g x := by simp [wXs, fsS, si]
  rw [e1, e2]
  congr 2
  unfold wXp
  rw [show 15 + j - (wXf g ca x).length - (wXs g x).length = j by simp [wXf, wXs]; omega]
  exact map_range_set (by simp [fsP, si, upd]) (fun i hi => by simp [fsP, si, upd, hi])
theorem wX_p7 {g : Nat → Nat} {ca : Nat → ClassId} {x : XS} {j : Nat} {v : Int32} (h : j < x.2.2) : (wX g ca x).set (15 + j) (adP g j, .inr (0, (fsP x j).set 7 (.int v))) = wX g ca (si x 27 j v) := by
  unfold wX
  rw [List.set_append_right _ _ (by simp [wXf]; omega), List.set_append_right _ _ (by simp [wXf, wXs]; omega)]
  have e1 : wXf g ca (si x 27 j v) = wXf g ca x := by simp [wXf, fsX, si]
  have e2 : wXs g (si x 27 j v) = wXs g x := by simp [wXs, fsS, si]
  rw [e1, e2]
  congr 2
  unfold wXp
  rw [show 15 + j - (wXf g ca x).length - (wXs g x).length = j by simp [wXf, wXs]; omega]
  exact map_range_set (by simp [fsP, si, upd]) (fun i hi => by simp [fsP, si, upd, hi])
theorem wX_p8 {g : Nat → Nat} {ca : Nat → ClassId} {x : XS} {j : Nat} {v : Int32} (h : j < x.2.2) : (wX g ca x).set (15 + j) (adP g j, .inr (0, (fsP x j).set 8 (.int v))) = wX g ca (si x 28 j v) := by
  unfold wX
  rw [List.set_append_right _ _ (by simp [wXf]; omega), List.set_append_right _ _ (by simp [wXf, wXs]; omega)]
  have e1 : wXf g ca (si x 28 j v) = wXf g ca x := by simp [wXf, fsX, si]
  have e2 : wXs g (si x 28 j v) = wXs g x := by simp [wXs, fsS, si]
  rw [e1, e2]
  congr 2
  unfold wXp
  rw [show 15 + j - (wXf g ca x).length - (wXs g x).length = j by simp [wXf, wXs]; omega]
  exact map_range_set (by simp [fsP, si, upd]) (fun i hi => by simp [fsP, si, upd, hi])
theorem wX_p9 {g : Nat → Nat} {ca : Nat → ClassId} {x : XS} {j : Nat} {v : Int32} (h : j < x.2.2) : (wX g ca x).set (15 + j) (adP g j, .inr (0, (fsP x j).set 9 (.int v))) = wX g ca (si x 29 j v) := by
  unfold wX
  rw [List.set_append_right _ _ (by simp [wXf]; omega), List.set_append_right _ _ (by simp [wXf, wXs]; omega)]
  have e1 : wXf g ca (si x 29 j v) = wXf g ca x := by simp [wXf, fsX, si]
  have e2 : wXs g (si x 29 j v) = wXs g x := by simp [wXs, fsS, si]
  rw [e1, e2]
  congr 2
  unfold wXp
  rw [show 15 + j - (wXf g ca x).length - (wXs g x).length = j by simp [wXf, wXs]; omega]
  exact map_range_set (by simp [fsP, si, upd]) (fun i hi => by simp [fsP, si, upd, hi])
def nests : List Cond := [(.methodLinkNest RX4 9 yX2_init "FacadeShow"), (.methodLinkNest RX4 41 yX3_init "FacadeShow"), (.methodLinkNest RX4 54 yX1_init "FacadeShow"), (.fieldLinkNest RX4 247 "FacadeShow$Scene" "version" "I" "FacadeShow"), (.fieldLinkNest RX4 242 "FacadeShow$Scene" "proposed" "I" "FacadeShow"), (.methodLinkNest RX4 93 yX2_build "FacadeShow"), (.methodLinkNest RX2 21 yX4_isColumn "FacadeShow"), (.methodLinkNest RX4 104 yX2_contentOf "FacadeShow"), (.methodLinkNest RX4 113 yX2_put "FacadeShow"), (.methodLinkNest RX4 134 yX0_init "FacadeShow"), (.fieldLinkNest RX4 275 "FacadeShow$Projector" "column" "I" "FacadeShow"), (.fieldLinkNest RX4 272 "FacadeShow$Projector" "row" "I" "FacadeShow"), (.fieldLinkNest RX4 162 "FacadeShow$Projector" "power" "I" "FacadeShow"), (.fieldLinkNest RX4 155 "FacadeShow$Projector" "phase" "I" "FacadeShow"), (.fieldLinkNest RX4 297 "FacadeShow$Projector" "focus" "I" "FacadeShow"), (.fieldLinkNest RX4 145 "FacadeShow$Projector" "from" "I" "FacadeShow"), (.fieldLinkNest RX4 148 "FacadeShow$Projector" "to" "I" "FacadeShow"), (.fieldLinkNest RX4 151 "FacadeShow$Projector" "isOn" "Z" "FacadeShow"), (.fieldLinkNest RX4 170 "FacadeShow$Projector" "hasFailed" "Z" "FacadeShow"), (.fieldLinkNest RX4 231 "FacadeShow$Projector" "readyUpTo" "I" "FacadeShow"), (.methodLinkNest RX4 269 yX2_reliefOf "FacadeShow"), (.methodLinkNest RX4 278 yX2_stopsRays "FacadeShow"), (.methodLinkNest RX4 294 yX2_hundredthsOf "FacadeShow"), (.methodLinkNest RX4 193 yX0_shines "FacadeShow"), (.methodLinkNest RX4 300 yX3_note "FacadeShow"), (.methodLinkNest RX3 18 yX4_isColumn "FacadeShow"), (.methodLinkNest RX4 205 yX3_isWellCovered "FacadeShow"), (.methodLinkNest RX4 218 yX3_coversAll "FacadeShow"), (.methodLinkNest RX4 282 yX2_hasTheLiving "FacadeShow"), (.declares ⟨"java/lang/RuntimeException", "<init>", "(Ljava/lang/String;)V"⟩), (.declares ⟨"java/lang/Exception", "<init>", "(Ljava/lang/String;)V"⟩), (.declares ⟨"java/lang/Throwable", "<init>", "(Ljava/lang/String;)V"⟩), (.castable "java/lang/IndexOutOfBoundsException" "java/lang/IndexOutOfBoundsException"), (.castable "java/lang/IllegalArgumentException" "java/lang/IllegalArgumentException"), (.castable "java/lang/IllegalStateException" "java/lang/IllegalStateException")]
def ncs : List (String × String) := [("java/lang/IllegalArgumentException", "java/lang/IndexOutOfBoundsException"), ("java/lang/IllegalStateException", "java/lang/IndexOutOfBoundsException"), ("java/lang/IllegalStateException", "java/lang/IllegalArgumentException")]
def texts : List (Nat × String) := [(81, "no such column"), (88, "relief is out of range"), (91, "surface is out of range"), (100, "no such cell"), (102, "what is out of range"), (110, "the cell has a mast"), (117, "columns is out of range"), (119, "level is out of range"), (121, "power is out of range"), (126, "phase is out of range"), (128, "focus is out of range"), (130, "the cell is not empty"), (132, "there are as many projectors as there may be"), (141, "no such projector"), (143, "to is below from, or too far"), (168, "its phase would bear more than it may"), (174, "wind is out of range"), (176, "no such row"), (200, "projectors has others"), (225, "from is out of range"), (227, "to is out of range"), (229, "frame is out of range"), (238, "no such scene"), (240, "version is out of range"), (245, "nothing is proposed"), (253, "minutes is out of range"), (255, "the minute would be above the last one")]
/-! what every method of the class needs of the machine -/
def isNest (w : Cond) : Bool := match w with
  | .fieldLinkNest _ _ _ _ _ _ => true
  | .methodLinkNest _ _ _ _ => true
  | .declares _ => true
  | .castable _ _ => true
  | _ => false
theorem nests_ok : nests.all isNest = true := by decide +kernel
theorem isNest_warm {w : Cond} (h : isNest w = true) {s U : State} (hW : s.WarmedH U.vm) (hZ : va_Nw w s) : va_Nw w U := by
  unfold isNest at h
  split at h
  · exact va_Nw.warmF hW hZ
  · exact va_Nw.warmM hW hZ
  · exact va_Nw.warmD hW hZ
  · exact va_Nw.warmC hW hZ
  · cases h
theorem isNest_tab {w : Cond} (h : isNest w = true) : w.onTables = true := by
  unfold isNest at h
  split at h
  · rfl
  · rfl
  · rfl
  · rfl
  · cases h
def aos : List String := ["FacadeShow$Projector", "FacadeShow$Scene"]
def cx (D : va_G) (ca : Nat → ClassId) (U : State) : Prop := va_K D vwCl (tyA ca) U ∧ (∀ w ∈ nests, va_Nw w U) ∧ (∀ q ∈ texts, ∃ a, vk_R RX4 q.1 q.2 a U) ∧ (∀ q ∈ ncs, va_Nc q.1 q.2 U) ∧ ∀ C ∈ aos, va_AO C U
theorem cx.warm {D : va_G} {ca : Nat → ClassId} {s U : State} (hW : s.WarmedH U.vm) (h : cx D ca s) : cx D ca U :=
  ⟨va_K.moved hW.alike h.1, fun w hw => isNest_warm (List.all_eq_true.mp nests_ok w hw) hW (h.2.1 w hw), fun q hq => by obtain ⟨a, ha⟩ := h.2.2.1 q hq; exact ⟨a, vk_R.warm hW ha⟩, fun q hq => va_Nc.moved hW.alike (h.2.2.2.1 q hq), fun C hq => va_AO.moved hW.alike (h.2.2.2.2 C hq)⟩
theorem cx.use {D : va_G} {ca : Nat → ClassId} {s : State} {args : Array Value} (h : cx D ca s) : ∀ w ∈ nests, w.before args s = true := fun w hw => va_Nw.use (isNest_tab (List.all_eq_true.mp nests_ok w hw)) (h.2.1 w hw)
/-! readers -/
def rP (av : List Value) (D : va_G) (ca : Nat → ClassId) (w : va_W) : Array Value → State → Prop := va_Pc av (fun U => va_P D vwCl w U.heap ∧ cx D ca U)
theorem rP_blind {av : List Value} {D : va_G} {ca : Nat → ClassId} {w : va_W} : FrameBlind (rP av D ca w) := by
  intro a U g mk h
  obtain ⟨h1, h2, h3⟩ := h
  exact ⟨h1, h2, cx.warm (s := U) (U := U.calling g mk a) (State.WarmedH.refl U) h3⟩
theorem rP_V {D : va_G} {ca : Nat → ClassId} {w : va_W} {H : Heap} {s : State} (hP : va_P D vwCl w H) (hC : cx D ca s) (q0 : Nat) {b ci : Nat} {fs : List Value} {q : vw_C} {As : List Value} (he : w[q0]? = some (b, .inr (ci, fs))) (hc : vwCl[ci]? = some q) : PreV s H q.1 b (rP (.ref b :: As) D ca w) As :=
  ⟨rP_blind, va_recv hC.1 hP hc he, fun U hU hW => ⟨rfl, by rw [hU]; exact hP, hC.warm hW⟩⟩
theorem rP_S {D : va_G} {ca : Nat → ClassId} {w : va_W} {H : Heap} {s : State} (hP : va_P D vwCl w H) (hC : cx D ca s) {As : List Value} : PreS s H (rP As D ca w) As :=
  ⟨rP_blind, fun U hU hW => ⟨rfl, by rw [hU]; exact hP, hC.warm hW⟩⟩
theorem va_P_nil {D : va_G} {H : Heap} : va_P D vwCl [] H := fun k q h => by simp at h
section RDR
variable {p : Program} {l : Launch} {e : Env} {R : Room} {s : State} {m : MethodId} {args : Array Value} {below : List Frame} {meth : Method} {c : Code} {H : Heap} {locs : List Loc} {cells slots : Nat} {Q : State → Prop}
variable {cc : ByteArray} {pc : Nat} {ls : Array Slot} {rest st0 : List Value} {a : Array Value}
theorem rd_i {v : Int32} (hr : va_Run p l e R s m args below meth c H locs cells slots 0 0 (F0 m pc ls st0) rest (vp_Si (fun z => z = v) a) (fun _ => False))
    (kk : W p l e R s m args below meth c H locs cells slots Q (F0 m (pc + 3) ls (.int v :: rest))) : W p l e R s m args below meth c H locs cells slots Q (F0 m pc ls st0) :=
  vp_callSi hr.run (fun z h => by rw [h]; exact kk)
theorem rd_q {o : Option Nat} {ad : Nat → Nat} (hr : va_Run p l e R s m args below meth c H locs cells slots 0 0 (F0 m pc ls st0) rest (va_Se ad (fun z => z = o) a) (fun _ => False))
    (kn : o = none → W p l e R s m args below meth c H locs cells slots Q (F0 m (pc + 3) ls (.null :: rest)))
    (ks : ∀ j : Nat, o = some j → W p l e R s m args below meth c H locs cells slots Q (F0 m (pc + 3) ls (.ref (ad j) :: rest))) : W p l e R s m args below meth c H locs cells slots Q (F0 m pc ls st0) :=
  va_cse hr.run (fun z h => by
    subst h
    cases z with
    | none => exact kn rfl
    | some j => exact ks j rfl)
theorem rt_i {v r : Int32} (hx : p.tables.exec = Jvm.exec) (hb : c.code = cc) (hr : meth.sig.returnType = some .int) (he : some v = some r) (hdg : decode cc pc = .ok (.ireturn, 1)) (hlocks : meth.locks = false) :
    W p l e R s m args below meth c s.heap [] 0 0 (MQ below (vp_Si (fun z => z = r)) args s 0 0 (fun _ => False)) (F0 m pc ls [.int v]) :=
  W.iret (v := v) hx hb hr (fun _ ht _ => ⟨v, rfl, Option.some.inj he, ht⟩) (fun _ h => nomatch h) hdg hlocks
theorem nz_b {v : Int32} (h : v = 0 ∨ v = 1) : narrow .boolean (.int v) = .int v := by
  rcases h with rfl | rfl <;> decide +kernel
theorem fit_b {v : Int32} (h : v = 0 ∨ v = 1) : fits .boolean (.int v) = true := by
  rcases h with rfl | rfl <;> decide +kernel
theorem nar_b {v : Int32} (h : v = 0 ∨ v = 1) : vp_nar .boolean v = v := by
  rcases h with rfl | rfl <;> decide +kernel
theorem rt_z {v r : Int32} (hx : p.tables.exec = Jvm.exec) (hb : c.code = cc) (hr : meth.sig.returnType = some .boolean) (hz : v = 0 ∨ v = 1) (he : some v = some r) (hdg : decode cc pc = .ok (.ireturn, 1)) (hlocks : meth.locks = false) :
    W p l e R s m args below meth c s.heap [] 0 0 (MQ below (vp_Si (fun z => z = r)) args s 0 0 (fun _ => False)) (F0 m pc ls [.int v]) :=
  W.zret (v := v) hx hb hr (nz_b hz) (fun _ ht _ => ⟨v, rfl, Option.some.inj he, ht⟩) (fun _ h => nomatch h) hdg hlocks
theorem rt_qn {r : Option Nat} {ad : Nat → Nat} {rt : FieldType} (hx : p.tables.exec = Jvm.exec) (hb : c.code = cc) (hr : meth.sig.returnType = some rt) (hrt : (∃ n, rt = .object n) ∨ ∃ t, rt = .array t) (he : (some none : Option (Option Nat)) = some r) (hdg : decode cc pc = .ok (.areturn, 1)) (hlocks : meth.locks = false) :
    W p l e R s m args below meth c s.heap [] 0 0 (MQ below (va_Se ad (fun z => z = r)) args s 0 0 (fun _ => False)) (F0 m pc ls [.null]) :=
  W.aret (v := .null) hx hb hr hrt (Or.inl rfl) (fun _ ht _ => ⟨none, rfl, Option.some.inj he, ht⟩) (fun _ h => nomatch h) hdg hlocks
theorem rt_qs {r : Option Nat} {j : Nat} {ad : Nat → Nat} {rt : FieldType} (hx : p.tables.exec = Jvm.exec) (hb : c.code = cc) (hr : meth.sig.returnType = some rt) (hrt : (∃ n, rt = .object n) ∨ ∃ t, rt = .array t) (he : some (some j) = some r) (hdg : decode cc pc = .ok (.areturn, 1)) (hlocks : meth.locks = false) :
    W p l e R s m args below meth c s.heap [] 0 0 (MQ below (va_Se ad (fun z => z = r)) args s 0 0 (fun _ => False)) (F0 m pc ls [.ref (ad j)]) :=
  W.aret (v := .ref (ad j)) hx hb hr hrt (Or.inr ⟨_, rfl⟩) (fun _ ht _ => ⟨some j, rfl, Option.some.inj he, ht⟩) (fun _ h => nomatch h) hdg hlocks
/-! writers -/
def wP (av : List Value) (D : va_G) (ca : Nat → ClassId) (w : va_W) (sz : Nat) : Array Value → State → Prop := va_Pc av (fun U => U.heap.size = sz ∧ va_P D vwCl w U.heap ∧ cx D ca U ∧ va_D (fun _ => True) w)
theorem wP_blind {av : List Value} {D : va_G} {ca : Nat → ClassId} {w : va_W} {sz : Nat} : FrameBlind (wP av D ca w sz) := by
  intro a U g mk h
  obtain ⟨h1, h0, h2, h3, h4⟩ := h
  exact ⟨h1, h0, h2, cx.warm (s := U) (U := U.calling g mk a) (State.WarmedH.refl U) h3, h4⟩
theorem wP_V {D : va_G} {ca : Nat → ClassId} {w : va_W} {A : Nat → Prop} (hP : va_P D vwCl w H) (hC : cx D ca s) (hD : va_D A w) (q0 : Nat) {b ci : Nat} {fs : List Value} {q : vw_C} {As : List Value} (he : w[q0]? = some (b, .inr (ci, fs))) (hc : vwCl[ci]? = some q) : PreV s H q.1 b (wP (.ref b :: As) D ca w H.size) As :=
  ⟨wP_blind, va_recv hC.1 hP hc he, fun U hU hW => ⟨rfl, by rw [hU], by rw [hU]; exact hP, hC.warm hW, hD.weaken (fun _ _ _ _ => trivial)⟩⟩
theorem wP_S {D : va_G} {ca : Nat → ClassId} {w : va_W} {A : Nat → Prop} (hP : va_P D vwCl w H) (hC : cx D ca s) (hD : va_D A w) {As : List Value} : PreS s H (wP As D ca w H.size) As :=
  ⟨wP_blind, fun U hU hW => ⟨rfl, by rw [hU], by rw [hU]; exact hP, hC.warm hW, hD.weaken (fun _ _ _ _ => trivial)⟩⟩
def wB (D : va_G) (w w' : va_W) (sz : Nat) : Unit → State → Prop := fun _ t => va_P D vwCl w' t.heap ∧ va_D (va_A w sz) w'
def wQi (v : Int32) (D : va_G) (w w' : va_W) (sz : Nat) : Array Value → State → Outcome → State → Prop := va_Qi (S := Unit) (fun z _ => z = v) (wB D w w' sz) (va_A w sz)
def wQl (v : Int64) (D : va_G) (w w' : va_W) (sz : Nat) : Array Value → State → Outcome → State → Prop := va_Ql (S := Unit) (fun z _ => z = v) (wB D w w' sz) (va_A w sz)
def wQv (D : va_G) (w w' : va_W) (sz : Nat) : Array Value → State → Outcome → State → Prop := va_Qv (S := Unit) (fun _ => True) (wB D w w' sz) (va_A w sz)
theorem va_A_in {A0 A1 : Nat → Prop} {w : va_W} {H0 : Heap} (hD : va_D A0 w) (hS : va_S A1 H0 H locs) (hA : ∀ q, H0.size ≤ q → A0 q) : ∀ q, va_A w H.size q → A0 q := by
  intro q h
  rcases h with ⟨k, e, h⟩ | h
  · exact hD.2 k (q, e) h
  · exact hA q (Nat.le_trans hS.1 h)
theorem wr_i {v : Int32} {D : va_G} {w w' : va_W} {A : Nat → Prop} {H0 : Heap} {mc ms : Nat} (hr : va_Run p l e R s m args below meth c H locs cells slots mc ms (F0 m pc ls st0) rest (wQi v D w w' H.size a) (va_A w H.size)) (hD : va_D A w) (hS : va_S A H0 H locs) (hA : ∀ q, H0.size ≤ q → A q)
    (kk : ∀ (H1 : Heap) (locs1 : List Loc), va_P D vwCl w' H1 → va_D A w' → va_S A H0 H1 locs1 → W p l e R s m args below meth c H1 locs1 (cells + mc) (slots + ms) Q (F0 m (pc + 3) ls (.int v :: rest))) : W p l e R s m args below meth c H locs cells slots Q (F0 m pc ls st0) :=
  va_calli hr hS (fun q _ h => va_A_in hD hS hA q h) (va_A_in hD hS hA) (fun z u t H1 locs1 ht _ hp hB _ _ hS1 => by
    rw [hp]
    exact kk H1 locs1 (ht ▸ hB.1) (hB.2.weaken (fun _ _ _ h => va_A_in hD hS hA _ h)) hS1)
theorem wr_v {D : va_G} {w w' : va_W} {A : Nat → Prop} {H0 : Heap} {mc ms : Nat} (hr : va_Run p l e R s m args below meth c H locs cells slots mc ms (F0 m pc ls st0) rest (wQv D w w' H.size a) (va_A w H.size)) (hD : va_D A w) (hS : va_S A H0 H locs) (hA : ∀ q, H0.size ≤ q → A q)
    (kk : ∀ (H1 : Heap) (locs1 : List Loc), va_P D vwCl w' H1 → va_D A w' → va_S A H0 H1 locs1 → W p l e R s m args below meth c H1 locs1 (cells + mc) (slots + ms) Q (F0 m (pc + 3) ls rest)) : W p l e R s m args below meth c H locs cells slots Q (F0 m pc ls st0) :=
  va_callv hr hS (fun q _ h => va_A_in hD hS hA q h) (va_A_in hD hS hA) (fun u t H1 locs1 ht _ _ hB _ _ hS1 =>
    kk H1 locs1 (ht ▸ hB.1) (hB.2.weaken (fun _ _ _ h => va_A_in hD hS hA _ h)) hS1)
theorem wt_i {v : Int32} {xe : XS} {r : Int32 × XS} {f : XS → va_W} {D : va_G} {w : va_W} {A : Nat → Prop} (hx : p.tables.exec = Jvm.exec) (hb : c.code = cc) (hr : meth.sig.returnType = some .int) (hA : va_A w s.heap.size = A) (hv : some (v, xe) = some r) (hP : va_P D vwCl (f xe) H) (hD : va_D A (f xe)) (hS : va_S A s.heap H locs) (hdg : decode cc pc = .ok (.ireturn, 1)) (hlocks : meth.locks = false) :
    W p l e R s m args below meth c H locs cells slots (MQ below (wQi r.1 D w (f r.2) s.heap.size) args s cells slots A) (F0 m pc ls [.int v]) := by
  subst hA
  cases hv
  exact W.iret (v := v) hx hb hr (fun t ht _ => ⟨⟨v, (), rfl, rfl, by rw [ht]; exact hP, hD⟩, hS.F ht⟩) hS.2.2 hdg hlocks
theorem wt_z {v : Int32} {xe : XS} {r : Int32 × XS} {f : XS → va_W} {D : va_G} {w : va_W} {A : Nat → Prop} (hx : p.tables.exec = Jvm.exec) (hb : c.code = cc) (hr : meth.sig.returnType = some .boolean) (hA : va_A w s.heap.size = A) (hz : v = 0 ∨ v = 1) (hv : some (v, xe) = some r) (hP : va_P D vwCl (f xe) H) (hD : va_D A (f xe)) (hS : va_S A s.heap H locs) (hdg : decode cc pc = .ok (.ireturn, 1)) (hlocks : meth.locks = false) :
    W p l e R s m args below meth c H locs cells slots (MQ below (wQi r.1 D w (f r.2) s.heap.size) args s cells slots A) (F0 m pc ls [.int v]) := by
  subst hA
  cases hv
  exact W.zret (v := v) hx hb hr (nz_b hz) (fun t ht _ => ⟨⟨v, (), rfl, rfl, by rw [ht]; exact hP, hD⟩, hS.F ht⟩) hS.2.2 hdg hlocks
theorem wt_l {v : Int64} {xe : XS} {r : Int64 × XS} {f : XS → va_W} {D : va_G} {w : va_W} {A : Nat → Prop} (hx : p.tables.exec = Jvm.exec) (hb : c.code = cc) (hr : meth.sig.returnType = some .long) (hA : va_A w s.heap.size = A) (hv : some (v, xe) = some r) (hP : va_P D vwCl (f xe) H) (hD : va_D A (f xe)) (hS : va_S A s.heap H locs) (hdg : decode cc pc = .ok (.lreturn, 1)) (hlocks : meth.locks = false) :
    W p l e R s m args below meth c H locs cells slots (MQ below (wQl r.1 D w (f r.2) s.heap.size) args s cells slots A) (F0 m pc ls [.long v]) := by
  subst hA
  cases hv
  exact W.lret (v := v) hx hb hr (fun t ht _ => ⟨⟨v, (), rfl, rfl, by rw [ht]; exact hP, hD⟩, hS.F ht⟩) hS.2.2 hdg hlocks
theorem wt_v {xe : XS} {r : XS} {f : XS → va_W} {D : va_G} {w : va_W} {A : Nat → Prop} (hx : p.tables.exec = Jvm.exec) (hb : c.code = cc) (hr : meth.sig.returnType = none) (hA : va_A w s.heap.size = A) (hv : some xe = some r) (hP : va_P D vwCl (f xe) H) (hD : va_D A (f xe)) (hS : va_S A s.heap H locs) (hdg : decode cc pc = .ok (.return_, 1)) (hlocks : meth.locks = false) :
    W p l e R s m args below meth c H locs cells slots (MQ below (wQv D w (f r) s.heap.size) args s cells slots A) (F0 m pc ls []) := by
  subst hA
  cases hv
  exact W.vret hx hb hr (fun t ht _ => ⟨⟨(), rfl, trivial, by rw [ht]; exact hP, hD⟩, hS.F ht⟩) hS.2.2 hdg hlocks
end RDR
/-! a method's own meaning, as a partial function: what a step of it asks for -/
def chk {α : Type} (n : Nat) (i : Int32) (B : Option α) : Option α := if i < 0 ∨ n ≤ i.toNatClampNeg then none else B
def dvz {α : Type} (d : Int32) (B : Option α) : Option α := if d = 0 then none else B
def dvzL {α : Type} (d : Int64) (B : Option α) : Option α := if d = 0 then none else B
def grd {α : Type} (j n : Nat) (B : Option α) : Option α := if j < n then B else none
def zb {α : Type} (v : Int32) (B : Option α) : Option α := if v = 0 ∨ v = 1 then B else none
def opq {α : Type} (o : Option Nat) (A : Option α) (B : Nat → Option α) : Option α := match o with
  | none => A
  | some j => B j
theorem sp_t {α : Type} {c : Prop} {ic : Decidable c} {A B : Option α} {r : α} (h : c) (hs : (@ite _ c ic A B) = some r) : A = some r := by rw [if_pos h] at hs; exact hs
theorem sp_f {α : Type} {c : Prop} {ic : Decidable c} {A B : Option α} {r : α} (h : ¬ c) (hs : (@ite _ c ic A B) = some r) : B = some r := by rw [if_neg h] at hs; exact hs
theorem sp_b {α β : Type} {A : Option α} {k : α → Option β} {r : β} (hs : A.bind k = some r) : ∃ v, A = some v ∧ k v = some r := Option.bind_eq_some_iff.mp hs
theorem sp_c {α : Type} {n : Nat} {i : Int32} {B : Option α} {r : α} (hs : chk n i B = some r) : vp_in i n ∧ B = some r := by
  unfold chk at hs
  by_cases h : i < 0 ∨ n ≤ i.toNatClampNeg
  · rw [if_pos h] at hs; cases hs
  · rw [if_neg h] at hs; exact ⟨h, hs⟩
theorem sp_d {α : Type} {d : Int32} {B : Option α} {r : α} (hs : dvz d B = some r) : ¬ d = 0 ∧ B = some r := by
  unfold dvz at hs
  by_cases h : d = 0
  · rw [if_pos h] at hs; cases hs
  · rw [if_neg h] at hs; exact ⟨h, hs⟩
theorem sp_dL {α : Type} {d : Int64} {B : Option α} {r : α} (hs : dvzL d B = some r) : ¬ d = 0 ∧ B = some r := by
  unfold dvzL at hs
  by_cases h : d = 0
  · rw [if_pos h] at hs; cases hs
  · rw [if_neg h] at hs; exact ⟨h, hs⟩
theorem sp_g {α : Type} {j n : Nat} {B : Option α} {r : α} (hs : grd j n B = some r) : j < n ∧ B = some r := by
  unfold grd at hs
  by_cases h : j < n
  · rw [if_pos h] at hs; exact ⟨h, hs⟩
  · rw [if_neg h] at hs; cases hs
theorem sp_z {α : Type} {v : Int32} {B : Option α} {r : α} (hs : zb v B = some r) : (v = 0 ∨ v = 1) ∧ B = some r := by
  unfold zb at hs
  by_cases h : v = 0 ∨ v = 1
  · rw [if_pos h] at hs; exact ⟨h, hs⟩
  · rw [if_neg h] at hs; cases hs
theorem sp_on {α : Type} {o : Option Nat} {A : Option α} {B : Nat → Option α} {r : α} (h : o = none) (hs : opq o A B = some r) : A = some r := by subst h; exact hs
theorem sp_os {α : Type} {o : Option Nat} {A : Option α} {B : Nat → Option α} {r : α} {j : Nat} (h : o = some j) (hs : opq o A B = some r) : B j = some r := by subst h; exact hs
theorem nk_X4_9 : (.methodLinkNest RX4 9 yX2_init "FacadeShow" : Cond) ∈ nests := by decide +kernel
theorem nk_X4_41 : (.methodLinkNest RX4 41 yX3_init "FacadeShow" : Cond) ∈ nests := by decide +kernel
theorem nk_X4_54 : (.methodLinkNest RX4 54 yX1_init "FacadeShow" : Cond) ∈ nests := by decide +kernel
theorem nk_X4_247 : (.fieldLinkNest RX4 247 "FacadeShow$Scene" "version" "I" "FacadeShow" : Cond) ∈ nests := by decide +kernel
theorem nk_X4_242 : (.fieldLinkNest RX4 242 "FacadeShow$Scene" "proposed" "I" "FacadeShow" : Cond) ∈ nests := by decide +kernel
theorem nk_X4_93 : (.methodLinkNest RX4 93 yX2_build "FacadeShow" : Cond) ∈ nests := by decide +kernel
theorem nk_X2_21 : (.methodLinkNest RX2 21 yX4_isColumn "FacadeShow" : Cond) ∈ nests := by decide +kernel
theorem nk_X4_104 : (.methodLinkNest RX4 104 yX2_contentOf "FacadeShow" : Cond) ∈ nests := by decide +kernel
theorem nk_X4_113 : (.methodLinkNest RX4 113 yX2_put "FacadeShow" : Cond) ∈ nests := by decide +kernel
theorem nk_X4_134 : (.methodLinkNest RX4 134 yX0_init "FacadeShow" : Cond) ∈ nests := by decide +kernel
theorem nk_X4_275 : (.fieldLinkNest RX4 275 "FacadeShow$Projector" "column" "I" "FacadeShow" : Cond) ∈ nests := by decide +kernel
theorem nk_X4_272 : (.fieldLinkNest RX4 272 "FacadeShow$Projector" "row" "I" "FacadeShow" : Cond) ∈ nests := by decide +kernel
theorem nk_X4_162 : (.fieldLinkNest RX4 162 "FacadeShow$Projector" "power" "I" "FacadeShow" : Cond) ∈ nests := by decide +kernel
theorem nk_X4_155 : (.fieldLinkNest RX4 155 "FacadeShow$Projector" "phase" "I" "FacadeShow" : Cond) ∈ nests := by decide +kernel
theorem nk_X4_297 : (.fieldLinkNest RX4 297 "FacadeShow$Projector" "focus" "I" "FacadeShow" : Cond) ∈ nests := by decide +kernel
theorem nk_X4_145 : (.fieldLinkNest RX4 145 "FacadeShow$Projector" "from" "I" "FacadeShow" : Cond) ∈ nests := by decide +kernel
theorem nk_X4_148 : (.fieldLinkNest RX4 148 "FacadeShow$Projector" "to" "I" "FacadeShow" : Cond) ∈ nests := by decide +kernel
theorem nk_X4_151 : (.fieldLinkNest RX4 151 "FacadeShow$Projector" "isOn" "Z" "FacadeShow" : Cond) ∈ nests := by decide +kernel
theorem nk_X4_170 : (.fieldLinkNest RX4 170 "FacadeShow$Projector" "hasFailed" "Z" "FacadeShow" : Cond) ∈ nests := by decide +kernel
theorem nk_X4_231 : (.fieldLinkNest RX4 231 "FacadeShow$Projector" "readyUpTo" "I" "FacadeShow" : Cond) ∈ nests := by decide +kernel
theorem nk_X4_269 : (.methodLinkNest RX4 269 yX2_reliefOf "FacadeShow" : Cond) ∈ nests := by decide +kernel
theorem nk_X4_278 : (.methodLinkNest RX4 278 yX2_stopsRays "FacadeShow" : Cond) ∈ nests := by decide +kernel
theorem nk_X4_294 : (.methodLinkNest RX4 294 yX2_hundredthsOf "FacadeShow" : Cond) ∈ nests := by decide +kernel
theorem nk_X4_193 : (.methodLinkNest RX4 193 yX0_shines "FacadeShow" : Cond) ∈ nests := by decide +kernel
theorem nk_X4_300 : (.methodLinkNest RX4 300 yX3_note "FacadeShow" : Cond) ∈ nests := by decide +kernel
theorem nk_X3_18 : (.methodLinkNest RX3 18 yX4_isColumn "FacadeShow" : Cond) ∈ nests := by decide +kernel
theorem nk_X4_205 : (.methodLinkNest RX4 205 yX3_isWellCovered "FacadeShow" : Cond) ∈ nests := by decide +kernel
theorem nk_X4_218 : (.methodLinkNest RX4 218 yX3_coversAll "FacadeShow" : Cond) ∈ nests := by decide +kernel
theorem nk_X4_282 : (.methodLinkNest RX4 282 yX2_hasTheLiving "FacadeShow" : Cond) ∈ nests := by decide +kernel
section LDR
variable {p : Program} {l : Launch} {e : Env} {R : Room} {s : State} {m : MethodId} {args : Array Value} {below : List Frame} {meth : Method} {c : Code} {H : Heap} {locs : List Loc} {cells slots : Nat} {Q : State → Prop}
variable {cc : ByteArray} {pc : Nat} {ls : Array Slot} {rest : List Value}
theorem ld_P {D : va_G} {ca g : Nat → Nat} {x : XS} {i : Int32} (hx : p.tables.exec = Jvm.exec) (hb : c.code = cc) (hK : va_K D vwCl (tyA ca) s) (hP : va_P D vwCl (wX g ca x) H) (hin : vp_in i 10) (hdg : decode cc pc = .ok (.aaload, 1))
    (kt : i.toNatClampNeg < x.2.2 → W p l e R s m args below meth c H locs cells slots Q (F0 m (pc + 1) ls (.ref (adP g i.toNatClampNeg) :: rest)))
    (kf : ¬ i.toNatClampNeg < x.2.2 → W p l e R s m args below meth c H locs cells slots Q (F0 m (pc + 1) ls (.null :: rest))) :
    W p l e R s m args below meth c H locs cells slots Q (F0 m pc ls (.int i :: .ref (g 2) :: rest)) := by
  refine va_aldq (cA := ca 3) (n := 10) (f := plX g x.2.2) hx hb hK hP 5 3 rfl rfl hin hdg ?_
  by_cases h : i.toNatClampNeg < x.2.2
  · have e : plX g x.2.2 i.toNatClampNeg = some (adP g i.toNatClampNeg) := by simp [plX, h]
    rw [e]
    exact kt h
  · have e : plX g x.2.2 i.toNatClampNeg = none := by simp [plX, h]
    rw [e]
    exact kf h
theorem ld_S {D : va_G} {ca g : Nat → Nat} {x : XS} {i : Int32} (hx : p.tables.exec = Jvm.exec) (hb : c.code = cc) (hK : va_K D vwCl (tyA ca) s) (hP : va_P D vwCl (wX g ca x) H) (hin : vp_in i 4) (hdg : decode cc pc = .ok (.aaload, 1))
    (kk : W p l e R s m args below meth c H locs cells slots Q (F0 m (pc + 1) ls (.ref (adS g i.toNatClampNeg) :: rest))) :
    W p l e R s m args below meth c H locs cells slots Q (F0 m pc ls (.int i :: .ref (g 5) :: rest)) :=
  by
  refine va_aldq (cA := ca 4) (n := 4) (f := plS g) hx hb hK hP 10 4 rfl rfl hin hdg ?_
  have e : plS g i.toNatClampNeg = some (adS g i.toNatClampNeg) := by
    have hlt : i.toNatClampNeg < 4 := Nat.not_le.mp fun q => hin (Or.inr q)
    simp [plS, hlt]
  rw [e]
  exact kk
end LDR
def FU : Nat := 2000
