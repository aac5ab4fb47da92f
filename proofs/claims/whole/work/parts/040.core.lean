/-! THE PICTURE OF THE HEAP BY NUMBERS. A cell has a number; a reference in the picture is .ref of a number; 'ad' says at which address each lies. sh: the shapes (an object: its class' number, its fields: none is an int, some v a reference; an array of ints (0) or bytes (1) and its length; an array of Streets); M: the ints, M a k is field or element k of cell a. -/
abbrev gS : Type := (Nat × List (Option Value)) ⊕ ((Nat × Nat) ⊕ List (Option Nat))
abbrev gM : Type := Nat → Nat → Int32
def gv (ad : Nat → Nat) (v : Value) : Value := match v with
  | .ref k => .ref (ad k)
  | w => w
def gfo (ad : Nat → Nat) (row : Nat → Int32) (k : Nat) (o : Option Value) : Value := match o with
  | none => .int (row k)
  | some v => gv ad v
def gfv (ad : Nat → Nat) (row : Nat → Int32) (fs : List (Option Value)) : List Value := fs.mapIdx (fun k o => gfo ad row k o)
def gcell (cy : Nat → ClassId) (ad : Nat → Nat) (row : Nat → Int32) (e : gS) : va_E := match e with
  | .inl q => .inr (q.1, gfv ad row q.2)
  | .inr (.inl q) => .inl (cy q.1, q.2, .inl row)
  | .inr (.inr l) => .inl (cy 2, l.length, .inr (.inr (.inr (.inr (fun j => (l.getD j none).map ad)))))
def gW (cy : Nat → ClassId) (ad : Nat → Nat) (sh : List gS) (M : gM) : va_W := sh.mapIdx (fun a e => (ad a, gcell cy ad (M a) e))
def gtys (cy : Nat → ClassId) : List (ClassId × FieldType) := [(cy 0, .int), (cy 1, .byte), (cy 2, .object "GreyByFriday$Street")]
/-- a row set -/
def gsr (M : gM) (a : Nat) (f : Nat → Int32) : gM := fun c => if c = a then f else M c
theorem gsr_s (M : gM) (a : Nat) (f : Nat → Int32) : gsr M a f a = f := by simp [gsr]
theorem gsr_n (M : gM) {a b : Nat} (f : Nat → Int32) (h : b ≠ a) : gsr M a f b = M b := by simp [gsr, h]
theorem gv_cat (ad : Nat → Nat) (v : Value) : (gv ad v).category = v.category := by cases v <;> rfl
theorem gW_get {cy : Nat → ClassId} {ad : Nat → Nat} {sh : List gS} {M : gM} {a : Nat} {e : gS} (h : sh[a]? = some e) : (gW cy ad sh M)[a]? = some (ad a, gcell cy ad (M a) e) := by
  simp [gW, List.getElem?_mapIdx, h]
theorem gW_row {cy : Nat → ClassId} {ad : Nat → Nat} {sh : List gS} {M : gM} {a : Nat} {e : gS} (f : Nat → Int32) (h : sh[a]? = some e) : (gW cy ad sh M).set a (ad a, gcell cy ad f e) = gW cy ad sh (gsr M a f) := by
  have hl : a < (gW cy ad sh M).length := by
    rw [gW, List.length_mapIdx]; exact (List.getElem?_eq_some_iff.mp h).1
  refine List.ext_getElem? fun j => ?_
  by_cases hj : a = j
  · subst hj
    rw [List.getElem?_set_self hl, gW_get h, gsr_s]
  · rw [List.getElem?_set_ne hj]
    simp only [gW, List.getElem?_mapIdx]
    rw [gsr_n M f (fun z => hj z.symm)]
theorem gW_shape {cy : Nat → ClassId} {ad : Nat → Nat} {sh : List gS} {M : gM} {a : Nat} (e : gS) (h : a < sh.length) : (gW cy ad sh M).set a (ad a, gcell cy ad (M a) e) = gW cy ad (sh.set a e) M := by
  have hl : a < (gW cy ad sh M).length := by
    rw [gW, List.length_mapIdx]; exact h
  refine List.ext_getElem? fun j => ?_
  by_cases hj : a = j
  · subst hj
    rw [List.getElem?_set_self hl]
    exact (gW_get (List.getElem?_set_self h)).symm
  · rw [List.getElem?_set_ne hj]
    simp only [gW, List.getElem?_mapIdx, List.getElem?_set_ne hj]
theorem gfv_put {ad : Nat → Nat} {row : Nat → Int32} {fs : List (Option Value)} {k : Nat} (x : Int32) (h : fs[k]? = some none) : (gfv ad row fs).set k (.int x) = gfv ad (upd row k x) fs := by
  have hl : k < (gfv ad row fs).length := by
    rw [gfv, List.length_mapIdx]; exact (List.getElem?_eq_some_iff.mp h).1
  refine List.ext_getElem? fun j => ?_
  by_cases hj : k = j
  · subst hj
    rw [List.getElem?_set_self hl]
    simp [gfv, List.getElem?_mapIdx, h, gfo, upd]
  · rw [List.getElem?_set_ne hj]
    simp only [gfv, List.getElem?_mapIdx]
    cases hq : fs[j]? with
    | none => rfl
    | some o => cases o with
      | none =>
        show some (Value.int (row j)) = some (Value.int (upd row k x j))
        rw [show upd row k x j = row j from if_neg (fun z => hj z.symm)]
      | some v => rfl
theorem gfv_ref {ad : Nat → Nat} {row : Nat → Int32} {fs : List (Option Value)} {k : Nat} (v : Value) (h : k < fs.length) : (gfv ad row fs).set k (gv ad v) = gfv ad row (fs.set k (some v)) := by
  have hl : k < (gfv ad row fs).length := by
    rw [gfv, List.length_mapIdx]; exact h
  refine List.ext_getElem? fun j => ?_
  by_cases hj : k = j
  · subst hj
    rw [List.getElem?_set_self hl, gfv, List.getElem?_mapIdx, List.getElem?_set_self h]
    rfl
  · rw [List.getElem?_set_ne hj]
    simp only [gfv, List.getElem?_mapIdx, List.getElem?_set_ne hj]
theorem gfv_get {ad : Nat → Nat} {row : Nat → Int32} {fs : List (Option Value)} {k : Nat} {o : Option Value} (h : fs[k]? = some o) : (gfv ad row fs)[k]? = some (gfo ad row k o) := by
  simp [gfv, List.getElem?_mapIdx, h]
/-! locals -/
def gl (ad : Nat → Nat) (q : Nat × Value) : Nat × Value := (q.1, gv ad q.2)
def lget : List (Nat × Value) → Nat → Option Value
  | [], _ => none
  | q :: l, i => if q.1 = i then some q.2 else lget l i
def isL (v : Value) : Bool := match v with
  | .long _ => true
  | .double _ => true
  | _ => false
theorem isL_cat (v : Value) : isL v = true ↔ v.category = 2 := by cases v <;> simp [isL, Value.category]
def ldel : List (Nat × Value) → Nat → List (Nat × Value)
  | [], _ => []
  | q :: l, i => if q.1 = i then ldel l i else if q.1 + 1 = i ∧ isL q.2 = true then ldel l i else q :: ldel l i
def lput : List (Nat × Value) → Nat → Value → List (Nat × Value)
  | [], i, v => [(i, v)]
  | q :: l, i, v => if q.1 = i then (i, v) :: ldel l i else if q.1 + 1 = i ∧ isL q.2 = true then lput l i v else if i < q.1 then (i, v) :: q :: ldel l i else q :: lput l i v
/-- a long takes two -/
def lputL (l : List (Nat × Value)) (i : Nat) (v : Value) : List (Nat × Value) := (lput (l.filter (fun q => !(q.1 == i + 1))) i v)
theorem lget_mem : ∀ {l : List (Nat × Value)} {i : Nat} {v : Value}, lget l i = some v → (i, v) ∈ l
  | [], i, v, h => by cases h
  | q :: l, i, v, h => by
    unfold lget at h
    by_cases hq : q.1 = i
    · rw [if_pos hq] at h
      cases h
      subst hq
      exact List.mem_cons_self
    · rw [if_neg hq] at h
      exact List.mem_cons_of_mem _ (lget_mem h)
theorem ldel_mem : ∀ {l : List (Nat × Value)} {i : Nat} {q : Nat × Value}, q ∈ ldel l i → q ∈ l ∧ q.1 ≠ i ∧ ¬ (q.1 + 1 = i ∧ isL q.2 = true)
  | [], i, q, h => by cases h
  | r :: l, i, q, h => by
    unfold ldel at h
    by_cases h1 : r.1 = i
    · rw [if_pos h1] at h
      obtain ⟨a, b⟩ := ldel_mem h
      exact ⟨List.mem_cons_of_mem _ a, b⟩
    · rw [if_neg h1] at h
      by_cases h2 : r.1 + 1 = i ∧ isL r.2 = true
      · rw [if_pos h2] at h
        obtain ⟨a, b⟩ := ldel_mem h
        exact ⟨List.mem_cons_of_mem _ a, b⟩
      · rw [if_neg h2] at h
        rcases List.mem_cons.mp h with rfl | h
        · exact ⟨List.mem_cons_self, h1, h2⟩
        · obtain ⟨a, b⟩ := ldel_mem h
          exact ⟨List.mem_cons_of_mem _ a, b⟩
theorem lput_mem : ∀ {l : List (Nat × Value)} {i : Nat} {v : Value} {q : Nat × Value}, q ∈ lput l i v → q = (i, v) ∨ (q ∈ l ∧ q.1 ≠ i ∧ ¬ (q.1 + 1 = i ∧ isL q.2 = true))
  | [], i, v, q, h => by
    rcases List.mem_cons.mp h with h | h
    · exact Or.inl h
    · cases h
  | r :: l, i, v, q, h => by
    unfold lput at h
    by_cases h1 : r.1 = i
    · rw [if_pos h1] at h
      rcases List.mem_cons.mp h with h | h
      · exact Or.inl h
      · obtain ⟨a, b⟩ := ldel_mem h
        exact Or.inr ⟨List.mem_cons_of_mem _ a, b⟩
    · rw [if_neg h1] at h
      by_cases h2 : r.1 + 1 = i ∧ isL r.2 = true
      · rw [if_pos h2] at h
        rcases lput_mem h with h | ⟨a, b⟩
        · exact Or.inl h
        · exact Or.inr ⟨List.mem_cons_of_mem _ a, b⟩
      · rw [if_neg h2] at h
        by_cases h3 : i < r.1
        · rw [if_pos h3] at h
          rcases List.mem_cons.mp h with h | h
          · exact Or.inl h
          · rcases List.mem_cons.mp h with rfl | h
            · exact Or.inr ⟨List.mem_cons_self, h1, h2⟩
            · obtain ⟨a, b⟩ := ldel_mem h
              exact Or.inr ⟨List.mem_cons_of_mem _ a, b⟩
        · rw [if_neg h3] at h
          rcases List.mem_cons.mp h with rfl | h
          · exact Or.inr ⟨List.mem_cons_self, h1, h2⟩
          · rcases lput_mem h with h | ⟨a, b⟩
            · exact Or.inl h
            · exact Or.inr ⟨List.mem_cons_of_mem _ a, b⟩
theorem lget_has {ls : Array Slot} {nL : Nat} {lv : List (Nat × Value)} {ad : Nat → Nat} {i : Nat} {v : Value} (h : lv_has ls nL (lv.map (gl ad))) (hg : lget lv i = some v) : ls[i]? = some (.val (gv ad v)) :=
  h.2.2 (gl ad (i, v)) (List.mem_map_of_mem (lget_mem hg))
theorem lv_mono {ls : Array Slot} {nL : Nat} {l l' : List (Nat × Value)} (h : lv_has ls nL l) (hs : ∀ q ∈ l', q ∈ l) : lv_has ls nL l' := ⟨h.1, h.2.1, fun q hq => h.2.2 q (hs q hq)⟩
theorem lput_has {ls : Array Slot} {nL : Nat} {lv : List (Nat × Value)} {ad : Nat → Nat} {i : Nat} {v : Value} (h : lv_has ls nL ((i, gv ad v) :: (lv.map (gl ad)).filter (fun q => !(q.1 == i) && !(q.1 + 1 == i && q.2.category == 2)))) : lv_has ls nL ((lput lv i v).map (gl ad)) := by
  refine lv_mono h fun q0 hq0 => ?_
  obtain ⟨q, hq, rfl⟩ := List.mem_map.mp hq0
  rcases lput_mem hq with rfl | ⟨a, b, c⟩
  · exact List.mem_cons_self
  · refine List.mem_cons_of_mem _ (List.mem_filter.mpr ⟨List.mem_map_of_mem a, ?_⟩)
    have c' : ¬ (q.1 + 1 = i ∧ q.2.category = 2) := fun z => c ⟨z.1, (isL_cat _).mpr z.2⟩
    simp only [gl, gv_cat, Bool.and_eq_true, Bool.not_eq_true', beq_eq_false_iff_ne, ne_eq, Bool.and_eq_false_iff]
    refine ⟨b, ?_⟩
    by_cases z : q.1 + 1 = i
    · exact Or.inr (fun w => c' ⟨z, w⟩)
    · exact Or.inl z
theorem lputL_has {ls : Array Slot} {nL : Nat} {lv : List (Nat × Value)} {ad : Nat → Nat} {i : Nat} {v : Value} (h : lv_has ls nL ((i, gv ad v) :: (lv.map (gl ad)).filter (fun q => !(q.1 == i) && (!(q.1 == i + 1) && !(q.1 + 1 == i && q.2.category == 2))))) : lv_has ls nL ((lputL lv i v).map (gl ad)) := by
  refine lv_mono h fun q0 hq0 => ?_
  obtain ⟨q, hq, rfl⟩ := List.mem_map.mp hq0
  rcases lput_mem hq with rfl | ⟨a, b, c⟩
  · exact List.mem_cons_self
  · obtain ⟨a1, a2⟩ := List.mem_filter.mp a
    refine List.mem_cons_of_mem _ (List.mem_filter.mpr ⟨List.mem_map_of_mem a1, ?_⟩)
    have c' : ¬ (q.1 + 1 = i ∧ q.2.category = 2) := fun z => c ⟨z.1, (isL_cat _).mpr z.2⟩
    simp only [Bool.not_eq_true', beq_eq_false_iff_ne, ne_eq] at a2
    simp only [gl, gv_cat, Bool.and_eq_true, Bool.not_eq_true', beq_eq_false_iff_ne, ne_eq, Bool.and_eq_false_iff]
    refine ⟨b, a2, ?_⟩
    by_cases z : q.1 + 1 = i
    · exact Or.inr (fun w => c' ⟨z, w⟩)
    · exact Or.inl z
