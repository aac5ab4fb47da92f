/-! A METHOD BY ITS BODY: X is any judgement that is closed under the steps -/
/-- closed under steps, under forgetting locals, under what a cell doesn't show -/
def gsame (e : gS) (f g : Nat → Int32) : Prop := match e with
  | .inl q => ∀ k, q.2[k]? = some none → f k = g k
  | .inr (.inl q) => ∀ k, k < q.2 → f k = g k
  | .inr (.inr _) => True
def gCl (cc : ByteArray) (o nL d MC MS rt : Nat) (ini : Bool) (sc : Option (Nat × (Nat → Int32))) (Rt : gRt) (X : gX) : Prop :=
  (∀ (pc : Nat) (lv : List (Nat × Value)) (st : List Value) (sh : List gS) (M : gM) (kc ks : Nat) (ins : Instr) (len : Nat), decode cc pc = .ok (ins, len) → gx o nL d MC MS rt ini sc X Rt ins len pc lv st sh M kc ks → X pc lv st sh M kc ks) ∧
  (∀ (pc : Nat) (lv lv' : List (Nat × Value)) (st : List Value) (sh : List gS) (M : gM) (kc ks : Nat), (∀ q ∈ lv', q ∈ lv) → X pc lv' st sh M kc ks → X pc lv st sh M kc ks) ∧
  (∀ (pc : Nat) (lv : List (Nat × Value)) (st : List Value) (sh : List gS) (M M' : gM) (kc ks : Nat), (∀ a e, sh[a]? = some e → gsame e (M a) (M' a)) → X pc lv st sh M' kc ks → X pc lv st sh M kc ks)
theorem garrV {cA : ClassId} {n : Nat} {f g : Nat → Int32} (h : ∀ k, k < n → f k = g k) : vp_cell cA (n, .inl f) = vp_cell cA (n, .inl g) := by
  show arrV cA n (fun j => .int (f j)) = arrV cA n (fun j => .int (g j))
  unfold arrV
  congr 1
  congr 1
  funext j
  show Value.int (f j.val) = Value.int (g j.val)
  rw [h j.val j.isLt]
theorem gP_same {D : va_G} {cy : Nat → ClassId} {ad : Nat → Nat} {sh : List gS} {M M' : gM} {H : Heap} (hs : ∀ a e, sh[a]? = some e → gsame e (M a) (M' a)) (hP : va_P D vwCl (gW cy ad sh M) H) : va_P D vwCl (gW cy ad sh M') H := by
  intro k q hk
  cases he : sh[k]? with
  | none =>
    rw [gW, List.getElem?_mapIdx, he] at hk
    cases hk
  | some e =>
    have h0 := hP k _ (gW_get he)
    rw [gW_get he] at hk
    cases hk
    have hs0 := hs k e he
    match e, hs0, h0 with
    | .inl q, hs0, h0 =>
      obtain ⟨r, h1, h2⟩ := h0
      refine ⟨r, h1, ?_⟩
      obtain ⟨cell, c1, c2, c3, c4⟩ := h2
      refine ⟨cell, c1, c2, c3, fun j hj => ?_⟩
      have := c4 j hj
      rw [this]
      show some (vp_V (gfv ad (M k) q.2) j) = some (vp_V (gfv ad (M' k) q.2) j)
      congr 1
      unfold vp_V
      rw [List.getD_eq_getElem?_getD, List.getD_eq_getElem?_getD, gfv, gfv, List.getElem?_mapIdx, List.getElem?_mapIdx]
      cases hq : q.2[j]? with
      | none => rfl
      | some o =>
        cases o with
        | none =>
          show Value.int (M k j) = Value.int (M' k j)
          rw [hs0 j hq]
        | some v => rfl
    | .inr (.inl q), hs0, h0 =>
      show H[ad k]? = some (vp_cell (cy q.1) (q.2, .inl (M' k)))
      rw [← garrV hs0]
      exact h0
    | .inr (.inr l), _, h0 => exact h0
theorem gD_same {A : Nat → Prop} {cy : Nat → ClassId} {ad : Nat → Nat} {sh : List gS} {M M' : gM} (hD : va_D A (gW cy ad sh M)) : va_D A (gW cy ad sh M') := by
  have key : ∀ (k : Nat) (q : Nat × va_E), (gW cy ad sh M')[k]? = some q → ∃ q0, (gW cy ad sh M)[k]? = some q0 ∧ q0.1 = q.1 := by
    intro k q hk
    cases he : sh[k]? with
    | none => rw [gW, List.getElem?_mapIdx, he] at hk; cases hk
    | some e =>
      rw [gW_get he] at hk
      cases hk
      exact ⟨_, gW_get he, rfl⟩
  refine ⟨fun i j x y hi hj hxy => ?_, fun k q hk => ?_⟩
  · obtain ⟨x0, h1, h2⟩ := key i x hi
    obtain ⟨y0, h3, h4⟩ := key j y hj
    exact hD.1 i j x0 y0 h1 h3 (h2.trans (hxy.trans h4.symm))
  · obtain ⟨q0, h1, h2⟩ := key k q hk
    rw [← h2]
    exact hD.2 k q0 h1
section GSe
variable {p : Program} {l : Launch} {e : Env} {R : Room} {s : State} {m : MethodId} {args : Array Value} {below : List Frame} {meth : Method} {c : Code} {A : Nat → Prop} {D : va_G} {cy : Nat → ClassId} {o nL d MC MS : Nat} {cc : ByteArray} {ret : Option FieldType} {ini : Bool} {Z : State → Prop} {n0 : Nat} {ad0 : Nat → Nat} {pc : Nat} {lv : List (Nat × Value)} {st : List Value} {sh : List gS} {M : gM} {kc ks : Nat}
theorem gG_lv {lv' : List (Nat × Value)} (hs : ∀ q ∈ lv', q ∈ lv) (h : gG p l e R s m args below meth c A D cy nL MC Z n0 ad0 pc lv' st sh M kc ks) : gG p l e R s m args below meth c A D cy nL MC Z n0 ad0 pc lv st sh M kc ks :=
  fun ad H locs ls h1 h2 h3 hP hD hS hl => h ad H locs ls h1 h2 h3 hP hD hS (lv_mono hl (fun q hq => by
    obtain ⟨r, hr, rfl⟩ := List.mem_map.mp hq
    exact List.mem_map_of_mem (hs r hr)))
theorem gG_M {M' : gM} (hs : ∀ a e, sh[a]? = some e → gsame e (M a) (M' a)) (h : gG p l e R s m args below meth c A D cy nL MC Z n0 ad0 pc lv st sh M' kc ks) : gG p l e R s m args below meth c A D cy nL MC Z n0 ad0 pc lv st sh M kc ks :=
  fun ad H locs ls h1 h2 h3 hP hD hS hl => h ad H locs ls h1 h2 h3 (gP_same hs hP) (gD_same hD) hS hl
end GSe
theorem glv_args (ad : Nat → Nat) : ∀ (vs : List Value) (k : Nat), lv_args k (vs.map (gv ad)) = (lv_args k vs).map (gl ad)
  | [], k => rfl
  | v :: vs, k => by
    show lv_args k (gv ad v :: vs.map (gv ad)) = _
    unfold lv_args
    rw [List.map_cons, glv_args ad vs, gv_cat]
    rfl
theorem glg_sl (ad : Nat → Nat) (vs : List Value) : (lg_sl (vs.map (gv ad))).length = (lg_sl vs).length := by
  unfold lg_sl
  rw [List.length_flatMap, List.length_flatMap, List.map_map]
  congr 1
  refine List.map_congr_left fun v _ => ?_
  show (if (gv ad v).category = 2 then [Slot.val (gv ad v), Slot.second] else [Slot.val (gv ad v)]).length = (if v.category = 2 then [Slot.val v, Slot.second] else [Slot.val v]).length
  rw [gv_cat]
  split <;> rfl
def grk (rt : Nat) (ret : Option FieldType) : Prop := match ret with
  | none => rt = 0
  | some .int => rt = 1
  | some .boolean => rt = 2
  | some .long => rt = 3
  | _ => False
theorem gC_of {mi : Nat} {y : MethodName} {cc : ByteArray} {nL : Nat} {ret : Option FieldType} {o : Nat} (hm : gmt[mi]? = some (y, cc, nL, ret, o)) {d mc ms rt : Nat} {ini : Bool} (hrt : grk rt ret) (hini : ini = true → y.name = "<init>") {avs : List Value} {sh : List gS} {M : gM} {Q : Option Value → List gS → gM → Prop} (hlen : (lg_sl avs).length ≤ nL)
    (body : ∀ X : gX, gCl cc o nL d mc ms rt ini none (fun v sh' M' kc ks => kc ≤ mc ∧ ks ≤ ms ∧ sh.length ≤ sh'.length ∧ Q v sh' M') X → X 0 (lv_args 0 avs) [] sh M 0 0) : gC mi d mc ms avs sh M Q := by
  intro q hq l D cy ad sz
  rw [hm] at hq
  cases hq
  obtain ⟨g1, g2, g3, g4, g5⟩ := gmt_spec hm
  dsimp only at g1 g2 g3 g4 g5 ⊢
  refine va_MetF (cc := cc) (maxL := nL) (ret := ret) g4 rfl ?_
  intro p e s m args below meth c s₁ B hml hv
  obtain ⟨rfl, hsz, hP, hK, hD0, hX⟩ := hv
  have hx := B.exec
  have hb := B.bytes
  have hr := B.returns
  have hts0 := atoms_spec (ws := .code y cc nL ret :: gwl) B.pre
  have hts : ∀ w ∈ gwl, w.before ((avs.map (gv ad)).toArray) s = true := fun w hw => hts0 w (List.mem_cons_of_mem _ hw)
  have hown : s.vm.findClass (gown o) = some m.cls := by rw [← g1]; exact findClass_of_methodNamed B.named
  have hlocks := B.notSynchronized
  have hnm : meth.name = y.name := (name_of_methodNamed B.named B.method).1
  subst hsz
  have hD := hD0.self (sz := s.heap.size)
  have hA : ∀ q : Nat, s.heap.size ≤ q → va_A (gW cy ad sh M) s.heap.size q := fun q h => Or.inr h
  have hS : va_S (va_A (gW cy ad sh M) s.heap.size) s.heap s.heap [] := va_S.rf
  have hl := lv_entry (avs.map (gv ad)) (n := nL) (by rw [glg_sl]; exact hlen)
  rw [lg_entry_eq]
  generalize (lg_sl (avs.map (gv ad)) ++ List.replicate (nL - (lg_sl (avs.map (gv ad))).length) Slot.unset).toArray = ls at hl ⊢
  rw [glv_args] at hl
  have S : gSt p (headSpec (.code y cc nL ret :: gwl) (grm d mc ms)).room s m ((avs.map (gv ad)).toArray) meth c (va_A (gW cy ad sh M) s.heap.size) D cy o nL d mc ms cc ret ini :=
    ⟨hx, hb, hr, hml, hown, hts, hlocks, hK, hA, ⟨Nat.le_refl _, Nat.le_refl _, rfl, rfl⟩, fun z => by rw [hnm]; exact hini z, hX⟩
  have fin : ∀ {v : Option Value} {sh' : List gS} {M' : gM} {kc ks : Nat} {ad' : Nat → Nat} {H : Heap} {locs : List Loc}, (sh.length ≤ sh'.length ∧ Q v sh' M') → (∀ k, k < sh.length ∨ 1000000 ≤ k → ad' k = ad k) → (mc = 0 → ad' = ad) → va_P D vwCl (gW cy ad' sh' M') H → va_D (va_A (gW cy ad sh M) s.heap.size) (gW cy ad' sh' M') → va_S (va_A (gW cy ad sh M) s.heap.size) s.heap H locs → v.map (gv ad') = v →
      ∀ t : State, t.heap = H → s.WarmedH t.vm → gQ Q D cy ad sh.length mc (va_A (gW cy ad sh M) s.heap.size) ((avs.map (gv ad)).toArray) s (.returned v) t := by
    intro v sh' M' kc ks ad' H locs hQ k1 k2 k3 k4 k5 hv t ht _
    exact ⟨⟨v, sh', M', ad', by rw [hv], hQ.2, k1, k2, hQ.1, by rw [ht]; exact k3, k4⟩, k5.F ht⟩
  have hX := body (gG p l e (headSpec (.code y cc nL ret :: gwl) (grm d mc ms)).room s m ((avs.map (gv ad)).toArray) below meth c (va_A (gW cy ad sh M) s.heap.size) D cy nL mc (MQ below (gQ Q D cy ad sh.length mc (va_A (gW cy ad sh M) s.heap.size)) ((avs.map (gv ad)).toArray) s mc ms (va_A (gW cy ad sh M) s.heap.size)) sh.length ad) ⟨?_, fun _ _ _ _ _ _ _ _ h1 h2 => gG_lv h1 h2, fun _ _ _ _ _ _ _ _ h1 h2 => gG_M h1 h2⟩
  · exact hX ad s.heap [] ls (fun _ _ => rfl) (fun _ => rfl) (Nat.le_refl _) hP hD hS hl
  · intro pc lv st sh1 M1 kc ks ins len hd hg
    refine gx_sound S (fun q hq => by cases hq) ?_ ?_ ?_ hd hg
    · intro pc lv sh2 M2 kc ks x hrt2 hd hR ad' H locs ls k1 k2 k3 kP kD kS kl
      refine W.widen (k := mc) (n := ms) hR.1 hR.2.1 ?_
      have hq := fin (kc := 0) (ks := 0) hR.2.2 k1 k2 kP kD kS rfl
      cases ret with
      | none => unfold grk at hrt; dsimp only at hrt; omega
      | some ty =>
        refine W.zret (ty := ty) hx hb hr ?_ hq kS.2.2 hd hlocks
        cases ty with
        | int => rfl
        | boolean =>
          have h2 : rt = 2 := hrt
          have h3 : x = 0 ∨ x = 1 := by
            rcases hrt2 with z | z
            · omega
            · exact z.2
          rcases h3 with rfl | rfl <;> rfl
        | long => have h2 : rt = 3 := hrt; omega
        | _ => exact hrt.elim
    · intro pc lv sh2 M2 kc ks x hrt2 hd hR ad' H locs ls k1 k2 k3 kP kD kS kl
      refine W.widen (k := mc) (n := ms) hR.1 hR.2.1 ?_
      have hq := fin (kc := 0) (ks := 0) hR.2.2 k1 k2 kP kD kS rfl
      have hret : ret = some .long := by
        cases ret with
        | none => unfold grk at hrt; dsimp only at hrt; omega
        | some ty =>
          cases ty with
          | long => rfl
          | int => have h2 : rt = 1 := hrt; omega
          | boolean => have h2 : rt = 2 := hrt; omega
          | _ => exact hrt.elim
      exact W.lret hx hb (by rw [hr]; exact hret) hq kS.2.2 hd hlocks
    · intro pc lv sh2 M2 kc ks hrt2 hd hR ad' H locs ls k1 k2 k3 kP kD kS kl
      refine W.widen (k := mc) (n := ms) hR.1 hR.2.1 ?_
      have hq := fin (kc := 0) (ks := 0) hR.2.2 k1 k2 kP kD kS rfl
      have hret : ret = none := by
        cases ret with
        | none => rfl
        | some ty =>
          cases ty with
          | long => have h2 : rt = 3 := hrt; omega
          | int => have h2 : rt = 1 := hrt; omega
          | boolean => have h2 : rt = 2 := hrt; omega
          | _ => exact hrt.elim
      exact W.vret hx hb (by rw [hr]; exact hret) hq kS.2.2 hd hlocks
/-! MANY STEPS -/
def gw (cc : ByteArray) (o nL d MC MS rt : Nat) (ini : Bool) (sc : Option (Nat × (Nat → Int32))) (Rt : gRt) (X : gX) (cuts : List Nat) : Nat → gX
  | 0 => X
  | n + 1 => fun pc lv st sh M kc ks => match decode cc pc with
    | .ok (ins, len) => gx o nL d MC MS rt ini sc (fun pc' lv' st' sh' M' kc' ks' => if cuts.elem pc' = true then X pc' lv' st' sh' M' kc' ks' else gw cc o nL d MC MS rt ini sc Rt X cuts n pc' lv' st' sh' M' kc' ks') Rt ins len pc lv st sh M kc ks
    | .error _ => False
