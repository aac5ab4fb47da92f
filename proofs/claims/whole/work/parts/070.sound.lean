/-! THE RULES HOLD OVER THE MACHINE -/
theorem glook {β : Type} : ∀ {l : List ((Nat × Nat) × β)} {k : Nat × Nat} {b : β}, l.lookup k = some b → (k, b) ∈ l
  | [], k, b, h => by cases h
  | (k', b') :: l, k, b, h => by
    rw [List.lookup_cons] at h
    by_cases hk : k = k'
    · subst hk
      simp at h
      subst h
      exact List.mem_cons_self
    · have hb : (k == k') = false := beq_eq_false_iff_ne.mpr hk
      rw [hb] at h
      exact List.mem_cons_of_mem _ (glook h)
def gdl (c : Nat) : List Value := (gdef c).map (fun o => match o with
  | none => .int 0
  | some v => v)
theorem gdl_g (ad : Nat → Nat) (fs : List (Option Value)) (h : fs.all (fun o => match o with
  | none => true
  | some v => decide (v = .null)) = true) : gfv ad (fun _ => 0) fs = fs.map (fun o => match o with
  | none => .int 0
  | some v => v) := by
  refine List.ext_getElem? fun j => ?_
  rw [gfv, List.getElem?_mapIdx, List.getElem?_map]
  cases hj : fs[j]? with
  | none => rfl
  | some o =>
    have ho := List.all_eq_true.mp h o (List.mem_of_getElem? hj)
    cases o with
    | none => rfl
    | some v =>
      have hv : v = .null := by simpa using ho
      subst hv
      rfl
theorem gdl_e0 (ad : Nat → Nat) : gfv ad (fun _ => 0) (gdef 0) = gdl 0 := gdl_g ad _ (by decide)
theorem gdl_v0 : ∀ j, j < 6 → defaultValue (tyX0 j) = vp_V (gdl 0) j := by decide +kernel
theorem gdl_e1 (ad : Nat → Nat) : gfv ad (fun _ => 0) (gdef 1) = gdl 1 := gdl_g ad _ (by decide)
theorem gdl_v1 : ∀ j, j < 4 → defaultValue (tyX1 j) = vp_V (gdl 1) j := by decide +kernel
theorem gdl_e2 (ad : Nat → Nat) : gfv ad (fun _ => 0) (gdef 2) = gdl 2 := gdl_g ad _ (by decide)
theorem gdl_v2 : ∀ j, j < 3 → defaultValue (tyX2 j) = vp_V (gdl 2) j := by decide +kernel
theorem gdl_e3 (ad : Nat → Nat) : gfv ad (fun _ => 0) (gdef 3) = gdl 3 := gdl_g ad _ (by decide)
theorem gdl_v3 : ∀ j, j < 4 → defaultValue (tyX3 j) = vp_V (gdl 3) j := by decide +kernel
theorem gdl_e4 (ad : Nat → Nat) : gfv ad (fun _ => 0) (gdef 4) = gdl 4 := gdl_g ad _ (by decide)
theorem gdl_v4 : ∀ j, j < 9 → defaultValue (tyX4 j) = vp_V (gdl 4) j := by decide +kernel
theorem gdl_e5 (ad : Nat → Nat) : gfv ad (fun _ => 0) (gdef 5) = gdl 5 := gdl_g ad _ (by decide)
theorem gdl_v5 : ∀ j, j < 8 → defaultValue (tyX5 j) = vp_V (gdl 5) j := by decide +kernel
theorem gdl_e6 (ad : Nat → Nat) : gfv ad (fun _ => 0) (gdef 6) = gdl 6 := gdl_g ad _ (by decide)
theorem gdl_v6 : ∀ j, j < 10 → defaultValue (tyX6 j) = vp_V (gdl 6) j := by decide +kernel
theorem gdl_e7 (ad : Nat → Nat) : gfv ad (fun _ => 0) (gdef 7) = gdl 7 := gdl_g ad _ (by decide)
theorem gdl_v7 : ∀ j, j < 23 → defaultValue (tyX7 j) = vp_V (gdl 7) j := by decide +kernel
theorem gvcls {ci : Nat} {C : String} {T : u_T} {N : Nat} (h : vwCl[ci]? = some (C, T, N)) : (∃ ty : Nat → FieldType, (∀ k, k < N → parseFieldDescriptor (T k).2.2.1 = some (ty k)) ∧ ∀ ad : Nat → Nat, ∀ j, j < N → defaultValue (ty j) = vp_V (gfv ad (fun _ => 0) (gdef ci)) j) ∧ (∀ a, a < N → ∀ b, b < N → a ≠ b → (T a).2.1 ≠ (T b).2.1) ∧ gown ci = C ∧ (gdef ci).length = N ∧ ∀ w ∈ u_ws C T N, w ∈ gwl := by
  have hin : ∀ w ∈ u_ws C T N, w ∈ gwl := fun w hw => gws_in w (List.mem_flatMap.mpr ⟨(C, T, N), List.mem_of_getElem? h, hw⟩)
  match ci, h with
  | 0, h => cases h; exact ⟨⟨tyX0, tyX0_ok, fun ad j hj => by rw [gdl_e0]; exact gdl_v0 j hj⟩, nmX0, rfl, rfl, hin⟩
  | 1, h => cases h; exact ⟨⟨tyX1, tyX1_ok, fun ad j hj => by rw [gdl_e1]; exact gdl_v1 j hj⟩, nmX1, rfl, rfl, hin⟩
  | 2, h => cases h; exact ⟨⟨tyX2, tyX2_ok, fun ad j hj => by rw [gdl_e2]; exact gdl_v2 j hj⟩, nmX2, rfl, rfl, hin⟩
  | 3, h => cases h; exact ⟨⟨tyX3, tyX3_ok, fun ad j hj => by rw [gdl_e3]; exact gdl_v3 j hj⟩, nmX3, rfl, rfl, hin⟩
  | 4, h => cases h; exact ⟨⟨tyX4, tyX4_ok, fun ad j hj => by rw [gdl_e4]; exact gdl_v4 j hj⟩, nmX4, rfl, rfl, hin⟩
  | 5, h => cases h; exact ⟨⟨tyX5, tyX5_ok, fun ad j hj => by rw [gdl_e5]; exact gdl_v5 j hj⟩, nmX5, rfl, rfl, hin⟩
  | 6, h => cases h; exact ⟨⟨tyX6, tyX6_ok, fun ad j hj => by rw [gdl_e6]; exact gdl_v6 j hj⟩, nmX6, rfl, rfl, hin⟩
  | 7, h => cases h; exact ⟨⟨tyX7, tyX7_ok, fun ad j hj => by rw [gdl_e7]; exact gdl_v7 j hj⟩, nmX7, rfl, rfl, hin⟩
  | ci + 8, h => simp [vwCl] at h
theorem gfl_spec {o i : Nat} {q : Nat × Nat × Nat} (h : gfl o i = some q) : ∃ (C : String) (T : u_T) (N : Nat), vwCl[q.1]? = some (C, T, N) ∧ q.2.1 < N ∧ Jvm.Cond.fieldLink (gown o) i (T q.2.1).1 (T q.2.1).2.1 (T q.2.1).2.2.1 ∈ gwl ∧ (T q.2.1).2.2.2 = (q.2.2 == 3) ∧ gtyB q.2.2 (parseFieldDescriptor (T q.2.1).2.2.1) = true ∧ (T q.2.1).1 = C := by
  have hm := glook (show gflT.lookup (o, i) = some q from h)
  have hb := List.all_eq_true.mp gflT_ok _ hm
  have hw : ∀ w ∈ gflW ((o, i), q), w ∈ gwl := fun w hw => gflT_in w (List.mem_flatMap.mpr ⟨_, hm, hw⟩)
  unfold gflB at hb
  unfold gflW at hw
  cases hv : vwCl[q.1]? with
  | none => simp only [hv] at hb; cases hb
  | some r =>
    simp only [hv] at hb hw
    obtain ⟨C, T, N⟩ := r
    simp only [Bool.and_eq_true, decide_eq_true_eq, beq_iff_eq] at hb
    exact ⟨C, T, N, rfl, hb.1.1.1, hw _ List.mem_cons_self, hb.1.1.2, hb.1.2, hb.2⟩
section GSa
variable {p : Program} {l : Launch} {e : Env} {R : Room} {s : State} {m : MethodId} {args : Array Value} {below : List Frame} {meth : Method} {c : Code} {A : Nat → Prop} {D : va_G} {cy : Nat → ClassId} {o nL d MC MS : Nat} {cc : ByteArray} {ret : Option FieldType} {ini : Bool} {Z : State → Prop} {n0 : Nat} {ad0 : Nat → Nat} {pc : Nat} {lv : List (Nat × Value)} {st : List Value} {sh : List gS} {M : gM} {kc ks : Nat}
theorem gs_get (S : gSt p R s m args meth c A D cy o nL d MC MS cc ret ini) {i ci k t a : Nat} {fs : List (Option Value)} {f : Option Value} (hq : gfl o i = some (ci, k, t)) (hd : decode cc pc = .ok (.getfield i, 3)) (ha : sh[a]? = some (.inl (ci, fs))) (hf : fs[k]? = some f)
    (h : gG p l e R s m args below meth c A D cy nL MC Z n0 ad0 (pc + 3) lv (gof (M a k) f :: st) sh M kc ks) : gG p l e R s m args below meth c A D cy nL MC Z n0 ad0 pc lv (.ref a :: st) sh M kc ks := by
  obtain ⟨hx, hb, hr, hml, hown, hts, hlocks, hK, hA, hR, hini, hX⟩ := S
  obtain ⟨C, T, N, hv, hkN, hw, -, -, -⟩ := gfl_spec hq
  intro ad H locs ls h1 h2 h3 hP hD hS hl
  refine va_get (D := D) (ci := ci) (C := C) (T := T) (N := N) hx hb hts (gvcls hv).2.2.2.2 hown hK hP a (gW_get ha) hv k hkN (hts _ hw) (fun _ z => z) (gfv_get hf) hd ?_
  have hk := h ad H locs ls h1 h2 h3 hP hD hS hl
  cases f with
  | none => exact hk
  | some v => exact hk
theorem gs_puti (S : gSt p R s m args meth c A D cy o nL d MC MS cc ret ini) {i ci k t a : Nat} {x : Int32} {fs : List (Option Value)} (hq : gfl o i = some (ci, k, t)) (ht : t < 2) (hbit : t = 1 → x = 0 ∨ x = 1) (hd : decode cc pc = .ok (.putfield i, 3)) (ha : sh[a]? = some (.inl (ci, fs))) (hf : fs[k]? = some none)
    (h : gG p l e R s m args below meth c A D cy nL MC Z n0 ad0 (pc + 3) lv st sh (gsr M a (upd (M a) k x)) kc ks) : gG p l e R s m args below meth c A D cy nL MC Z n0 ad0 pc lv (.int x :: .ref a :: st) sh M kc ks := by
  obtain ⟨hx, hb, hr, hml, hown, hts, hlocks, hK, hA, hR, hini, hX⟩ := S
  obtain ⟨C, T, N, hv, hkN, hw, hfin, hty, hdecl⟩ := gfl_spec hq
  obtain ⟨⟨ty0, hty0, -⟩, hnm, -, -, hin⟩ := gvcls hv
  have hfin : (T k).2.2.2 = false := by
    rw [hfin]
    show (t == 3) = false
    exact beq_eq_false_iff_ne.mpr (by omega)
  obtain ⟨ty, hp, hn, hft⟩ : ∃ ty, parseFieldDescriptor (T k).2.2.1 = some ty ∧ narrow ty (.int x) = .int x ∧ fits ty (.int x) = true := by
    dsimp only at hty
    cases hp : parseFieldDescriptor (T k).2.2.1 with
    | none => rw [hp] at hty; cases hty
    | some ty =>
      rw [hp] at hty
      cases ty with
      | int => exact ⟨.int, rfl, rfl, rfl⟩
      | boolean =>
        have h1 : t = 1 := by simpa [gtyB] using hty
        rcases hbit h1 with rfl | rfl
        · exact ⟨.boolean, rfl, rfl, rfl⟩
        · exact ⟨.boolean, rfl, rfl, rfl⟩
      | object n => simp [gtyB] at hty; omega
      | array n => simp [gtyB] at hty; omega
      | _ => simp [gtyB] at hty
  intro ad H locs ls h1 h2 h3 hP hD hS hl
  refine va_put (D := D) (ci := ci) (C := C) (T := T) (N := N) hx hb hts hin ty0 hty0 hnm hown hK hP hD hS a (gW_get ha) hv k hkN (hts _ hw) (fun _ z => z) hfin hp hn hft (by rw [gfv, List.length_mapIdx]; exact (List.getElem?_eq_some_iff.mp hf).1) hd (fun H1 locs1 hP1 hD1 hS1 => ?_)
  have hP1 : va_P D vwCl ((gW cy ad sh M).set a (ad a, .inr (ci, (gfv ad (M a) fs).set k (.int x)))) H1 := hP1
  have hD1 : va_D A ((gW cy ad sh M).set a (ad a, .inr (ci, (gfv ad (M a) fs).set k (.int x)))) := hD1
  rw [gfv_put x hf] at hP1 hD1
  rw [show (.inr (ci, gfv ad (upd (M a) k x) fs) : va_E) = gcell cy ad (upd (M a) k x) (.inl (ci, fs)) from rfl, gW_row (upd (M a) k x) ha] at hP1 hD1
  exact h ad H1 locs1 ls h1 h2 h3 hP1 hD1 hS1 hl
theorem gs_putr (S : gSt p R s m args meth c A D cy o nL d MC MS cc ret ini) {i ci k t a b : Nat} {fs : List (Option Value)} {f : Option Value} (hq : gfl o i = some (ci, k, t)) (ht : ¬ t < 2) (h3i : t = 3 → ini = true ∧ ci = o) (hd : decode cc pc = .ok (.putfield i, 3)) (ha : sh[a]? = some (.inl (ci, fs))) (hf : fs[k]? = some f)
    (h : gG p l e R s m args below meth c A D cy nL MC Z n0 ad0 (pc + 3) lv st (sh.set a (.inl (ci, fs.set k (some (.ref b))))) M kc ks) : gG p l e R s m args below meth c A D cy nL MC Z n0 ad0 pc lv (.ref b :: .ref a :: st) sh M kc ks := by
  obtain ⟨hx, hb, hr, hml, hown, hts, hlocks, hK, hA, hR, hini, hX⟩ := S
  obtain ⟨C, T, N, hv, hkN, hw, hfin, hty, hdecl⟩ := gfl_spec hq
  obtain ⟨⟨ty0, hty0, -⟩, hnm, hoC, -, hin⟩ := gvcls hv
  have hkl : k < fs.length := (List.getElem?_eq_some_iff.mp hf).1
  intro ad H locs ls h1 h2 h3 hP hD hS hl
  obtain ⟨ty, hp, hn, hft⟩ : ∃ ty, parseFieldDescriptor (T k).2.2.1 = some ty ∧ narrow ty (.ref (ad b)) = .ref (ad b) ∧ fits ty (.ref (ad b)) = true := by
    dsimp only at hty
    cases hp : parseFieldDescriptor (T k).2.2.1 with
    | none => rw [hp] at hty; cases hty
    | some ty =>
      rw [hp] at hty
      cases ty with
      | int => simp [gtyB] at hty; omega
      | boolean => simp [gtyB] at hty; omega
      | object n => exact ⟨_, rfl, rfl, rfl⟩
      | array n => exact ⟨_, rfl, rfl, rfl⟩
      | _ => simp [gtyB] at hty
  have key : ∀ (H1 : Heap) (locs1 : List Loc), va_P D vwCl ((gW cy ad sh M).set a (ad a, .inr (ci, (gfv ad (M a) fs).set k (.ref (ad b))))) H1 → va_D A ((gW cy ad sh M).set a (ad a, .inr (ci, (gfv ad (M a) fs).set k (.ref (ad b))))) → va_S A s.heap H1 locs1 → W p l e R s m args below meth c H1 locs1 kc ks Z (F0 m (pc + 3) ls (st.map (gv ad))) := by
    intro H1 locs1 hP1 hD1 hS1
    rw [show (Value.ref (ad b)) = gv ad (.ref b) from rfl, gfv_ref (.ref b) hkl] at hP1 hD1
    rw [show (.inr (ci, gfv ad (M a) (fs.set k (some (.ref b)))) : va_E) = gcell cy ad (M a) (.inl (ci, fs.set k (some (.ref b)))) from rfl, gW_shape _ (List.getElem?_eq_some_iff.mp ha).1] at hP1 hD1
    exact h ad H1 locs1 ls h1 h2 (by rw [List.length_set]; exact h3) hP1 hD1 hS1 hl
  have hlen : k < (gfv ad (M a) fs).length := by rw [gfv, List.length_mapIdx]; exact hkl
  by_cases ht3 : t = 3
  · obtain ⟨g1, g2⟩ := h3i ht3
    subst g2
    have hfin : (T k).2.2.2 = true := by rw [hfin]; show (t == 3) = true; exact beq_iff_eq.mpr ht3
    exact va_putF (D := D) (ci := ci) (C := C) (T := T) (N := N) hx hb hts hin ty0 hty0 hnm hown hK hP hD hS a (gW_get ha) hv k hkN (hts _ hw) (fun _ z => z) hfin (hini g1) (by rw [hoC]; exact hdecl) hp hn hft hlen hd key
  · have hfin : (T k).2.2.2 = false := by rw [hfin]; show (t == 3) = false; exact beq_eq_false_iff_ne.mpr ht3
    exact va_put (D := D) (ci := ci) (C := C) (T := T) (N := N) hx hb hts hin ty0 hty0 hnm hown hK hP hD hS a (gW_get ha) hv k hkN (hts _ hw) (fun _ z => z) hfin hp hn hft hlen hd key
theorem gs_iald (S : gSt p R s m args meth c A D cy o nL d MC MS cc ret ini) {a n : Nat} {i : Int32} (hd : decode cc pc = .ok (.iaload, 1)) (ha : sh[a]? = some (.inr (.inl (0, n)))) (hi : vp_in i n) (h : gG p l e R s m args below meth c A D cy nL MC Z n0 ad0 (pc + 1) lv (.int (M a i.toNatClampNeg) :: st) sh M kc ks) : gG p l e R s m args below meth c A D cy nL MC Z n0 ad0 pc lv (.int i :: .ref a :: st) sh M kc ks :=
  fun ad H locs ls h1 h2 h3 hP hD hS hl => va_iald S.1 S.2.1 S.2.2.2.2.2.2.2.1 hP a 0 (gW_get ha) rfl hi hd (h ad H locs ls h1 h2 h3 hP hD hS hl)
theorem gs_bald (S : gSt p R s m args meth c A D cy o nL d MC MS cc ret ini) {a n : Nat} {i : Int32} (hd : decode cc pc = .ok (.baload, 1)) (ha : sh[a]? = some (.inr (.inl (1, n)))) (hi : vp_in i n) (h : gG p l e R s m args below meth c A D cy nL MC Z n0 ad0 (pc + 1) lv (.int (M a i.toNatClampNeg) :: st) sh M kc ks) : gG p l e R s m args below meth c A D cy nL MC Z n0 ad0 pc lv (.int i :: .ref a :: st) sh M kc ks :=
  fun ad H locs ls h1 h2 h3 hP hD hS hl => va_bald S.1 S.2.1 S.2.2.2.2.2.2.2.1 hP a 1 (gW_get ha) rfl hi hd (h ad H locs ls h1 h2 h3 hP hD hS hl)
theorem gs_aald (S : gSt p R s m args meth c A D cy o nL d MC MS cc ret ini) {a q : Nat} {l' : List (Option Nat)} {i : Int32} (hd : decode cc pc = .ok (.aaload, 1)) (ha : sh[a]? = some (.inr (.inr l'))) (hi : vp_in i l'.length) (hq : l'.getD i.toNatClampNeg none = some q) (h : gG p l e R s m args below meth c A D cy nL MC Z n0 ad0 (pc + 1) lv (.ref q :: st) sh M kc ks) : gG p l e R s m args below meth c A D cy nL MC Z n0 ad0 pc lv (.int i :: .ref a :: st) sh M kc ks := by
  intro ad H locs ls h1 h2 h3 hP hD hS hl
  refine va_aldq S.1 S.2.1 S.2.2.2.2.2.2.2.1 hP a 2 (gW_get ha) rfl hi hd ?_
  have hk := h ad H locs ls h1 h2 h3 hP hD hS hl
  rw [hq]
  exact hk
theorem gs_iast (S : gSt p R s m args meth c A D cy o nL d MC MS cc ret ini) {a n : Nat} {i x : Int32} (hd : decode cc pc = .ok (.iastore, 1)) (ha : sh[a]? = some (.inr (.inl (0, n)))) (hi : vp_in i n) (h : gG p l e R s m args below meth c A D cy nL MC Z n0 ad0 (pc + 1) lv st sh (gsr M a (upd (M a) i.toNatClampNeg x)) kc ks) : gG p l e R s m args below meth c A D cy nL MC Z n0 ad0 pc lv (.int x :: .int i :: .ref a :: st) sh M kc ks := by
  intro ad H locs ls h1 h2 h3 hP hD hS hl
  refine va_iast S.1 S.2.1 S.2.2.2.2.2.2.2.1 hP hD hS a 0 (gW_get ha) rfl hi hd (fun H1 locs1 hP1 hD1 hS1 => ?_)
  rw [show (.inl (cy 0, n, .inl (upd (M a) i.toNatClampNeg x)) : va_E) = gcell cy ad (upd (M a) i.toNatClampNeg x) (.inr (.inl (0, n))) from rfl, gW_row _ ha] at hP1 hD1
  exact h ad H1 locs1 ls h1 h2 h3 hP1 hD1 hS1 hl
theorem gs_bast (S : gSt p R s m args meth c A D cy o nL d MC MS cc ret ini) {a n : Nat} {i x : Int32} (hd : decode cc pc = .ok (.bastore, 1)) (ha : sh[a]? = some (.inr (.inl (1, n)))) (hi : vp_in i n) (h : gG p l e R s m args below meth c A D cy nL MC Z n0 ad0 (pc + 1) lv st sh (gsr M a (upd (M a) i.toNatClampNeg x.toInt8.toInt32)) kc ks) : gG p l e R s m args below meth c A D cy nL MC Z n0 ad0 pc lv (.int x :: .int i :: .ref a :: st) sh M kc ks := by
  intro ad H locs ls h1 h2 h3 hP hD hS hl
  refine va_bast S.1 S.2.1 S.2.2.2.2.2.2.2.1 hP hD hS a 1 (gW_get ha) rfl hi hd (fun H1 locs1 hP1 hD1 hS1 => ?_)
  rw [vp_nar_byte] at hP1 hD1
  rw [show (.inl (cy 1, n, .inl (upd (M a) i.toNatClampNeg x.toInt8.toInt32)) : va_E) = gcell cy ad (upd (M a) i.toNatClampNeg x.toInt8.toInt32) (.inr (.inl (1, n))) from rfl, gW_row _ ha] at hP1 hD1
  exact h ad H1 locs1 ls h1 h2 h3 hP1 hD1 hS1 hl
theorem gs_aast (S : gSt p R s m args meth c A D cy o nL d MC MS cc ret ini) {a v : Nat} {l' : List (Option Nat)} {fs : List (Option Value)} {i : Int32} (hd : decode cc pc = .ok (.aastore, 1)) (ha : sh[a]? = some (.inr (.inr l'))) (hi : vp_in i l'.length) (hv : sh[v]? = some (.inl (3, fs))) (h : gG p l e R s m args below meth c A D cy nL MC Z n0 ad0 (pc + 1) lv st (sh.set a (.inr (.inr (l'.set i.toNatClampNeg (some v))))) M kc ks) : gG p l e R s m args below meth c A D cy nL MC Z n0 ad0 pc lv (.ref v :: .int i :: .ref a :: st) sh M kc ks := by
  intro ad H locs ls h1 h2 h3 hP hD hS hl
  refine va_astq S.1 S.2.1 S.2.2.2.2.2.2.2.1 hP hD hS a 2 v 3 (r := (RX3, TX3, 4)) (gW_get ha) rfl (gW_get hv) rfl hi hd (fun H1 locs1 hP1 hD1 hS1 => ?_)
  have hlt : i.toNatClampNeg < l'.length := Nat.not_le.mp fun q => hi (Or.inr q)
  have he : (va_up (fun j => (l'.getD j none).map ad) i.toNatClampNeg (some (ad v))) = (fun j => ((l'.set i.toNatClampNeg (some v)).getD j none).map ad) := by
    funext j
    by_cases hj : j = i.toNatClampNeg
    · subst hj
      simp [va_up, List.getD, List.getElem?_set_self hlt]
    · simp [va_up, hj, List.getD, List.getElem?_set_ne (Ne.symm hj)]
  rw [he] at hP1 hD1
  rw [show (.inl (cy 2, l'.length, .inr (.inr (.inr (.inr (fun j => ((l'.set i.toNatClampNeg (some v)).getD j none).map ad))))) : va_E) = gcell cy ad (M a) (.inr (.inr (l'.set i.toNatClampNeg (some v)))) from by show _ = (Sum.inl (cy 2, (l'.set i.toNatClampNeg (some v)).length, _) : va_E); rw [List.length_set], gW_shape _ (List.getElem?_eq_some_iff.mp ha).1] at hP1 hD1
  exact h ad H1 locs1 ls h1 h2 (by rw [List.length_set]; exact h3) hP1 hD1 hS1 hl
theorem gs_alen (S : gSt p R s m args meth c A D cy o nL d MC MS cc ret ini) {a kd n : Nat} (hd : decode cc pc = .ok (.arraylength, 1)) (ha : sh[a]? = some (.inr (.inl (kd, n)))) (hk : kd < 2) (h : gG p l e R s m args below meth c A D cy nL MC Z n0 ad0 (pc + 1) lv (.int (nI n) :: st) sh M kc ks) : gG p l e R s m args below meth c A D cy nL MC Z n0 ad0 pc lv (.ref a :: st) sh M kc ks := by
  intro ad H locs ls h1 h2 h3 hP hD hS hl
  rcases (show kd = 0 ∨ kd = 1 by omega) with rfl | rfl
  · exact va_alen S.1 S.2.1 S.2.2.2.2.2.2.2.1 hP a 0 (gW_get ha) rfl rfl hd (h ad H locs ls h1 h2 h3 hP hD hS hl)
  · exact va_alen S.1 S.2.1 S.2.2.2.2.2.2.2.1 hP a 1 (gW_get ha) rfl rfl hd (h ad H locs ls h1 h2 h3 hP hD hS hl)
theorem gs_qlen (S : gSt p R s m args meth c A D cy o nL d MC MS cc ret ini) {a : Nat} {l' : List (Option Nat)} (hd : decode cc pc = .ok (.arraylength, 1)) (ha : sh[a]? = some (.inr (.inr l'))) (h : gG p l e R s m args below meth c A D cy nL MC Z n0 ad0 (pc + 1) lv (.int (nI l'.length) :: st) sh M kc ks) : gG p l e R s m args below meth c A D cy nL MC Z n0 ad0 pc lv (.ref a :: st) sh M kc ks := by
  intro ad H locs ls h1 h2 h3 hP hD hS hl
  exact va_alen S.1 S.2.1 S.2.2.2.2.2.2.2.1 hP a 2 (gW_get ha) rfl rfl hd (h ad H locs ls h1 h2 h3 hP hD hS hl)
theorem gs_cpy (S : gSt p R s m args meth c A D cy o nL d MC MS cc ret ini) {i a0 a1 n0' n1 : Nat} {q : Nat × Nat × Nat × Nat} {sp dp k : Int32} (hq : glk o i = some (6, q)) (hd1 : 1 ≤ d) (hst : gcat st ≤ 8) (hd : decode cc pc = .ok (.invokestatic i, 3)) (ha0 : sh[a0]? = some (.inr (.inl (0, n0')))) (ha1 : sh[a1]? = some (.inr (.inl (0, n1)))) (g1 : ¬ sp < 0) (g2 : ¬ dp < 0) (g3 : ¬ k < 0) (g4 : sp.toNatClampNeg + k.toNatClampNeg ≤ n0') (g5 : dp.toNatClampNeg + k.toNatClampNeg ≤ n1)
    (h : gG p l e R s m args below meth c A D cy nL MC Z n0 ad0 (pc + 3) lv st sh (gsr M a1 (va_cpy (M a0) (M a1) sp.toNatClampNeg dp.toNatClampNeg k.toNatClampNeg)) kc ks) : gG p l e R s m args below meth c A D cy nL MC Z n0 ad0 pc lv (.int k :: .int dp :: .ref a1 :: .int sp :: .ref a0 :: st) sh M kc ks := by
  obtain ⟨hx, hb, hr, hml, hown, hts, hlocks, hK, hA, hR, hini, hX⟩ := S
  have hm := glook (show glkT.lookup (o, i) = some (6, q) from hq)
  have hw : ∀ w ∈ glkW ((o, i), (6, q)), w ∈ gwl := fun w hw => glkT_in w (List.mem_flatMap.mpr ⟨_, hm, hw⟩)
  have hw : ∀ w ∈ [Jvm.Cond.methodLink (gown o) i arraycopyName, .native arraycopyName, .static arraycopyName, .initialized "java/lang/System"], w ∈ gwl := hw
  intro ad H locs ls h1 h2 h3 hP hD hS hl
  refine va_copyi hx hb (by rw [hml]; exact hl.1.symm) hown (hts _ (hw _ (by simp))) (hts _ (hw _ (by simp))) (hts _ (hw _ (by simp))) (hts _ (hw _ (by simp))) hK hP hD hS a0 a1 0 0 (gW_get ha0) (gW_get ha1) rfl rfl rfl g1 g2 g3 g4 g5 (fun _ _ => rfl) (Nat.le_trans hd1 hR.1) ?_ hd (fun H1 locs1 hP1 hD1 hS1 => ?_)
  · have e : ((st.map (gv ad)).map fun v => v.category) = st.map (fun v => v.category) := by
      rw [List.map_map]; exact List.map_congr_left (fun v _ => gv_cat ad v)
    have e2 : nativeFrameWords "java/lang/System" "arraycopy" 5 = 7 := by decide
    rw [e, e2]
    have := hR.2.1
    have h8 : (st.map (fun v => v.category)).sum ≤ 8 := hst
    omega
  · rw [show (.inl (cy 0, n1, .inl (va_cpy (M a0) (M a1) sp.toNatClampNeg dp.toNatClampNeg k.toNatClampNeg)) : va_E) = gcell cy ad (va_cpy (M a0) (M a1) sp.toNatClampNeg dp.toNatClampNeg k.toNatClampNeg) (.inr (.inl (0, n1))) from rfl, gW_row _ ha1] at hP1 hD1
    exact h ad H1 locs1 ls h1 h2 h3 hP1 hD1 hS1 hl
end GSa
