/-! NEW CELLS AND CALLS -/
theorem gv_ok {ad ad' : Nat → Nat} {n : Nat} (hk : ∀ k, k < n ∨ 1000000 ≤ k → ad' k = ad k) {v : Value} (h : gokV n v = true) : gv ad' v = gv ad v := by
  cases v with
  | ref k =>
    simp only [gokV, Bool.or_eq_true, decide_eq_true_eq] at h
    show Value.ref (ad' k) = Value.ref (ad k)
    rw [hk k h]
  | _ => rfl
theorem gcell_ok {cy : Nat → ClassId} {ad ad' : Nat → Nat} {n : Nat} {row : Nat → Int32} (hk : ∀ k, k < n ∨ 1000000 ≤ k → ad' k = ad k) {e : gS} (h : gokS n e = true) : gcell cy ad' row e = gcell cy ad row e := by
  match e, h with
  | .inl q, h =>
    show (Sum.inr (q.1, gfv ad' row q.2) : va_E) = Sum.inr (q.1, gfv ad row q.2)
    have : gfv ad' row q.2 = gfv ad row q.2 := by
      refine List.ext_getElem? fun j => ?_
      simp only [gfv, List.getElem?_mapIdx]
      cases hj : q.2[j]? with
      | none => rfl
      | some o =>
        have ho := List.all_eq_true.mp h o (List.mem_of_getElem? hj)
        cases o with
        | none => rfl
        | some v =>
          show some (gv ad' v) = some (gv ad v)
          rw [gv_ok hk ho]
    rw [this]
  | .inr (.inl q), _ => rfl
  | .inr (.inr l), h =>
    show (Sum.inl (cy 2, l.length, .inr (.inr (.inr (.inr (fun j => (l.getD j none).map ad'))))) : va_E) = Sum.inl (cy 2, l.length, .inr (.inr (.inr (.inr (fun j => (l.getD j none).map ad)))))
    have : (fun j => (l.getD j none).map ad') = (fun j => (l.getD j none).map ad) := by
      funext j
      rw [List.getD_eq_getElem?_getD]
      cases hj : l[j]? with
      | none => rfl
      | some o =>
        have ho := List.all_eq_true.mp h o (List.mem_of_getElem? hj)
        cases o with
        | none => rfl
        | some v =>
          have hv : v < n := by simpa using ho
          show some (ad' v) = some (ad v)
          rw [hk v (Or.inl hv)]
    rw [this]
theorem gW_push {cy : Nat → ClassId} {ad : Nat → Nat} {sh : List gS} {M : gM} {q : Nat} {e : gS} (hs : sh.all (gokS sh.length) = true) (h6 : sh.length < 1000000) : gW cy (va_up ad sh.length q) (sh ++ [e]) (gsr M sh.length (fun _ => 0)) = gW cy ad sh M ++ [(q, gcell cy (va_up ad sh.length q) (fun _ => 0) e)] := by
  have hk : ∀ k, k < sh.length ∨ 1000000 ≤ k → va_up ad sh.length q k = ad k := by
    intro k hk
    have : k ≠ sh.length := by omega
    simp [va_up, this]
  have hl : (gW cy ad sh M).length = sh.length := by rw [gW, List.length_mapIdx]
  refine List.ext_getElem? fun j => ?_
  rw [gW, List.getElem?_mapIdx]
  by_cases hj : j < sh.length
  · rw [List.getElem?_append_left hj, List.getElem?_append_left (by rw [hl]; exact hj)]
    simp only [gW, List.getElem?_mapIdx]
    rw [List.getElem?_eq_getElem hj]
    have hne : j ≠ sh.length := by omega
    show some (va_up ad sh.length q j, gcell cy (va_up ad sh.length q) (gsr M sh.length (fun _ => 0) j) sh[j]) = some (ad j, gcell cy ad (M j) sh[j])
    rw [hk j (Or.inl hj), gsr_n M _ hne, gcell_ok hk (List.all_eq_true.mp hs _ (List.getElem_mem hj))]
  · rw [List.getElem?_append_right (by omega), List.getElem?_append_right (by rw [hl]; omega), hl]
    by_cases hj2 : j = sh.length
    · subst hj2
      simp [va_up, gsr]
    · have : j - sh.length ≠ 0 := by omega
      cases hz : j - sh.length with
      | zero => omega
      | succ z => rfl
theorem gl_ok {ad ad' : Nat → Nat} {n : Nat} (hk : ∀ k, k < n ∨ 1000000 ≤ k → ad' k = ad k) {lv : List (Nat × Value)} (h : lv.all (fun q => gokV n q.2) = true) : lv.map (gl ad') = lv.map (gl ad) :=
  List.map_congr_left fun q hq => by
    show (q.1, gv ad' q.2) = (q.1, gv ad q.2)
    rw [gv_ok hk (List.all_eq_true.mp h q hq)]
theorem gst_ok {ad ad' : Nat → Nat} {n : Nat} (hk : ∀ k, k < n ∨ 1000000 ≤ k → ad' k = ad k) {st : List Value} (h : st.all (gokV n) = true) : st.map (gv ad') = st.map (gv ad) :=
  List.map_congr_left fun v hv => gv_ok hk (List.all_eq_true.mp h v hv)
theorem gokA_e {sh : List gS} {lv : List (Nat × Value)} {st : List Value} (h : gokA sh lv st = true) : sh.all (gokS sh.length) = true ∧ lv.all (fun q => gokV sh.length q.2) = true ∧ st.all (gokV sh.length) = true ∧ sh.length < 1000000 := by
  simp only [gokA, Bool.and_eq_true, decide_eq_true_eq] at h
  exact ⟨h.1.1.1, h.1.1.2, h.1.2, h.2⟩
theorem gcat_map (ad : Nat → Nat) (st : List Value) : ((st.map (gv ad)).map fun v => v.category).sum = gcat st := by
  rw [List.map_map, gcat]
  congr 1
  exact List.map_congr_left (fun v _ => gv_cat ad v)
section GSb
variable {p : Program} {l : Launch} {e : Env} {R : Room} {s : State} {m : MethodId} {args : Array Value} {below : List Frame} {meth : Method} {c : Code} {A : Nat → Prop} {D : va_G} {cy : Nat → ClassId} {o nL d MC MS : Nat} {cc : ByteArray} {ret : Option FieldType} {ini : Bool} {Z : State → Prop} {n0 : Nat} {ad0 : Nat → Nat} {pc : Nat} {lv : List (Nat × Value)} {st : List Value} {sh : List gS} {M : gM} {kc ks : Nat}
/-- a new cell behind the picture -/
theorem gs_push {H1 : Heap} {locs1 : List Loc} {ad : Nat → Nat} {ls : Array Slot} {q kc' ks' : Nat} {x : gS} {pc' : Nat} (hMC : MC ≠ 0) (hok : gokA sh lv st = true) (h1 : ∀ k, k < n0 ∨ 1000000 ≤ k → ad k = ad0 k) (h3 : n0 ≤ sh.length)
    (hP : va_P D vwCl (gW cy ad sh M ++ [(q, gcell cy (va_up ad sh.length q) (fun _ => 0) x)]) H1) (hD : va_D A (gW cy ad sh M ++ [(q, gcell cy (va_up ad sh.length q) (fun _ => 0) x)])) (hS : va_S A s.heap H1 locs1) (hl : lv_has ls nL (lv.map (gl ad)))
    (h : gG p l e R s m args below meth c A D cy nL MC Z n0 ad0 pc' lv (.ref sh.length :: st) (sh ++ [x]) (gsr M sh.length (fun _ => 0)) kc' ks') : W p l e R s m args below meth c H1 locs1 kc' ks' Z (F0 m pc' ls (.ref q :: st.map (gv ad))) := by
  obtain ⟨g1, g2, g3, g4⟩ := gokA_e hok
  have hk : ∀ k, k < sh.length ∨ 1000000 ≤ k → va_up ad sh.length q k = ad k := by
    intro k hk
    have : k ≠ sh.length := by omega
    simp [va_up, this]
  rw [← gW_push g1 g4] at hP hD
  have hw := h (va_up ad sh.length q) H1 locs1 ls (fun k hk' => by rw [hk k (by omega), h1 k hk']) (fun z => absurd z hMC) (by rw [List.length_append]; omega) hP hD hS (by rw [gl_ok hk g2]; exact hl)
  have e : (Value.ref sh.length :: st).map (gv (va_up ad sh.length q)) = .ref q :: st.map (gv ad) := by
    show Value.ref (va_up ad sh.length q sh.length) :: st.map (gv (va_up ad sh.length q)) = _
    rw [gst_ok hk g3]
    simp [va_up]
  rw [e] at hw
  exact hw
theorem gs_new (S : gSt p R s m args meth c A D cy o nL d MC MS cc ret ini) {i ci : Nat} (hq : gnw o i = some ci) (hd : decode cc pc = .ok (.new i, 3)) (hc : kc + 1 ≤ MC) (hs : ks + (gdef ci).length ≤ MS) (hok : gokA sh lv st = true)
    (h : gG p l e R s m args below meth c A D cy nL MC Z n0 ad0 (pc + 3) lv (.ref sh.length :: st) (sh ++ [.inl (ci, gdef ci)]) (gsr M sh.length (fun _ => 0)) (kc + 1) (ks + (gdef ci).length)) : gG p l e R s m args below meth c A D cy nL MC Z n0 ad0 pc lv st sh M kc ks := by
  obtain ⟨hx, hb, hr, hml, hown, hts, hlocks, hK, hA, hR, hini, hX⟩ := S
  have hm := glook (show gnwT.lookup (o, i) = some ci from hq)
  have h8 : ci < 8 := by simpa using List.all_eq_true.mp gnwT_ok _ hm
  have hw : ∀ w ∈ gnwW ((o, i), ci), w ∈ gwl := fun w hw => gnwT_in w (List.mem_flatMap.mpr ⟨_, hm, hw⟩)
  obtain ⟨⟨C, T, N⟩, hv⟩ : ∃ r, vwCl[ci]? = some r := ⟨vwCl[ci]'h8, List.getElem?_eq_getElem h8⟩
  unfold gnwW at hw
  simp only [hv] at hw
  obtain ⟨⟨ty0, hty0, hdv⟩, hnm, hoC, hlen, hin⟩ := gvcls hv
  intro ad H locs ls h1 h2 h3 hP hD hS hl
  refine va_new (ci := ci) (fs := gfv ad (fun _ => 0) (gdef ci)) (C := C) (T := T) (N := N) hx hb hts hin ty0 hty0 hown (hts _ (hw _ (by simp))) (hts _ (hw _ (by simp))) (hts _ (hw _ (by simp))) hK hP hD hS hA hv (hdv ad) (by rw [hR.2.2.1]; exact hc) (by rw [hR.2.2.2, ← hlen]; exact hs) hd (fun q H1 hP1 hD1 hS1 => ?_)
  rw [← hlen]
  have e : (.inr (ci, gfv ad (fun _ => 0) (gdef ci)) : va_E) = gcell cy (va_up ad sh.length q) (fun _ => 0) (.inl (ci, gdef ci)) := by
    show (.inr (ci, gfv ad (fun _ => 0) (gdef ci)) : va_E) = .inr (ci, gfv (va_up ad sh.length q) (fun _ => 0) (gdef ci))
    have hz : ∀ c, c < 8 → (gdef c).all (fun o => match o with
      | none => true
      | some v => decide (v = .null)) = true := by decide
    rw [gdl_g ad _ (hz ci h8), gdl_g _ _ (hz ci h8)]
  rw [e] at hP1 hD1
  exact gs_push (by omega) hok h1 h3 hP1 hD1 hS1 hl h
theorem gs_newa (S : gSt p R s m args meth c A D cy o nL d MC MS cc ret ini) {t : ArrayType} {n : Int32} (ht : t = .int ∨ t = .byte) (hd : decode cc pc = .ok (.newarray t, 2)) (hn : ¬ n < 0) (h1000 : n.toNatClampNeg ≤ 1000) (hc : kc + 1 ≤ MC) (hs : ks + n.toNatClampNeg ≤ MS) (hok : gokA sh lv st = true)
    (h : gG p l e R s m args below meth c A D cy nL MC Z n0 ad0 (pc + 2) lv (.ref sh.length :: st) (sh ++ [.inr (.inl (if t = .int then 0 else 1, n.toNatClampNeg))]) (gsr M sh.length (fun _ => 0)) (kc + 1) (ks + n.toNatClampNeg)) : gG p l e R s m args below meth c A D cy nL MC Z n0 ad0 pc lv (.int n :: st) sh M kc ks := by
  obtain ⟨hx, hb, hr, hml, hown, hts, hlocks, hK, hA, hR, hini, hX⟩ := S
  intro ad H locs ls h1 h2 h3 hP hD hS hl
  rcases ht with rfl | rfl
  · refine va_newa (ty := .int) (a0 := (n.toNatClampNeg, .inl (fun _ => 0))) hx hb (hts _ (garr_in _ (by simp [newarray.typeOf]))) rfl hK hP hD hS hA (fun _ => rfl) hn rfl (by show _ * 4 ≤ _; omega) (by rw [hR.2.2.1]; exact hc) (by rw [hR.2.2.2]; exact hs) hd (fun q cA H1 hK1 hP1 hD1 hS1 => ?_)
    have e1 : s.vm.findClass ("[" ++ FieldType.int.toString) = some cA := (hK1.2 3 (cA, .int) rfl).2
    have e2 : s.vm.findClass ("[" ++ FieldType.int.toString) = some (cy 0) := (hK.2 0 (cy 0, .int) rfl).2
    have e3 : cA = cy 0 := Option.some.inj (e1.symm.trans e2)
    subst e3
    exact gs_push (x := .inr (.inl (0, n.toNatClampNeg))) (by omega) hok h1 h3 hP1 hD1 hS1 hl h
  · refine va_newa (ty := .byte) (a0 := (n.toNatClampNeg, .inl (fun _ => 0))) hx hb (hts _ (garr_in _ (by simp [newarray.typeOf]))) rfl hK hP hD hS hA (fun _ => rfl) hn rfl (by show _ * 1 ≤ _; omega) (by rw [hR.2.2.1]; exact hc) (by rw [hR.2.2.2]; exact hs) hd (fun q cA H1 hK1 hP1 hD1 hS1 => ?_)
    have e1 : s.vm.findClass ("[" ++ FieldType.byte.toString) = some cA := (hK1.2 3 (cA, .byte) rfl).2
    have e2 : s.vm.findClass ("[" ++ FieldType.byte.toString) = some (cy 1) := (hK.2 1 (cy 1, .byte) rfl).2
    have e3 : cA = cy 1 := Option.some.inj (e1.symm.trans e2)
    subst e3
    exact gs_push (x := .inr (.inl (1, n.toNatClampNeg))) (by omega) hok h1 h3 hP1 hD1 hS1 hl h
theorem gs_newq (S : gSt p R s m args meth c A D cy o nL d MC MS cc ret ini) {i : Nat} {n : Int32} (hq : gnw o i = some 3) (hd : decode cc pc = .ok (.anewarray i, 3)) (hn : ¬ n < 0) (h1000 : n.toNatClampNeg ≤ 1000) (hc : kc + 1 ≤ MC) (hs : ks + n.toNatClampNeg ≤ MS) (hok : gokA sh lv st = true)
    (h : gG p l e R s m args below meth c A D cy nL MC Z n0 ad0 (pc + 3) lv (.ref sh.length :: st) (sh ++ [.inr (.inr (List.replicate n.toNatClampNeg none))]) (gsr M sh.length (fun _ => 0)) (kc + 1) (ks + n.toNatClampNeg)) : gG p l e R s m args below meth c A D cy nL MC Z n0 ad0 pc lv (.int n :: st) sh M kc ks := by
  obtain ⟨hx, hb, hr, hml, hown, hts, hlocks, hK, hA, hR, hini, hX⟩ := S
  have hm := glook (show gnwT.lookup (o, i) = some 3 from hq)
  have hw : ∀ w ∈ gnwW ((o, i), 3), w ∈ gwl := fun w hw => gnwT_in w (List.mem_flatMap.mpr ⟨_, hm, hw⟩)
  have hw : ∀ w ∈ [Jvm.Cond.classLink (gown o) i "GreyByFriday$Street", .instantiable "GreyByFriday$Street" 4, .initialized "GreyByFriday$Street"], w ∈ gwl := hw
  intro ad H locs ls h1 h2 h3 hP hD hS hl
  refine va_newq (C := "GreyByFriday$Street") hx hb hown (hts _ (hw _ (by simp))) hX.2 hK hP hD hS hA hn rfl (by omega) (by rw [hR.2.2.1]; exact hc) (by rw [hR.2.2.2]; exact hs) hd (fun q cA H1 hK1 hP1 hD1 hS1 => ?_)
  obtain ⟨kA, comp, -, -, -, e1⟩ := (hK1.2 3 (cA, .object "GreyByFriday$Street") rfl).2
  obtain ⟨kA', comp', -, -, -, e2⟩ := (hK.2 2 (cy 2, .object "GreyByFriday$Street") rfl).2
  have e3 : cA = cy 2 := Option.some.inj (e1.symm.trans e2)
  subst e3
  have e : (.inl (cy 2, n.toNatClampNeg, .inr (.inr (.inr (.inr (fun _ => none))))) : va_E) = gcell cy (va_up ad sh.length q) (fun _ => 0) (.inr (.inr (List.replicate n.toNatClampNeg none))) := by
    show _ = (Sum.inl (cy 2, (List.replicate n.toNatClampNeg (none : Option Nat)).length, .inr (.inr (.inr (.inr (fun j => ((List.replicate n.toNatClampNeg (none : Option Nat)).getD j none).map (va_up ad sh.length q)))))) : va_E)
    rw [List.length_replicate]
    congr 7
    funext j
    rw [List.getD_eq_getElem?_getD, List.getElem?_replicate]
    split <;> rfl
  rw [e] at hP1 hD1
  exact gs_push (by omega) hok h1 h3 hP1 hD1 hS1 hl h
theorem gs_obj (S : gSt p R s m args meth c A D cy o nL d MC MS cc ret ini) {i a : Nat} {q : Nat × Nat × Nat × Nat} (hq : glk o i = some (5, q)) (hd : decode cc pc = .ok (.invokespecial i, 3)) (hst : gcat st ≤ 8) (hd1 : 1 ≤ d) (h : gG p l e R s m args below meth c A D cy nL MC Z n0 ad0 (pc + 3) lv st sh M kc ks) : gG p l e R s m args below meth c A D cy nL MC Z n0 ad0 pc lv (.ref a :: st) sh M kc ks := by
  obtain ⟨hx, hb, hr, hml, hown, hts, hlocks, hK, hA, hR, hini, hX⟩ := S
  have hm := glook (show glkT.lookup (o, i) = some (5, q) from hq)
  have hw : ∀ w ∈ glkW ((o, i), (5, q)), w ∈ gwl := fun w hw => glkT_in w (List.mem_flatMap.mpr ⟨_, hm, hw⟩)
  have hw : ∀ w ∈ [Jvm.Cond.methodLink (gown o) i objectInit, .instanceMethod objectInit, .code objectInit ⟨#[0xb1]⟩ 1 none], w ∈ gwl := hw
  intro ad H locs ls h1 h2 h3 hP hD hS hl
  refine W.objInit hx hb hown (hts _ (hw _ (by simp))) (hts _ (hw _ (by simp))) (hts _ (hw _ (by simp))) rfl (by rw [hml]; exact hl.1) rfl hd (by have := hR.1; omega) ?_ ?_
  · have e := gcat_map ad st
    have h40 := hR.2.1
    show 2 * 0 + ((st.map (gv ad)).map fun v => v.category).sum + 12 ≤ R.locals
    omega
  · exact h ad H locs ls h1 h2 h3 hP hD hS hl
theorem gs_run {a : Array Value} {ad : Nat → Nat} {H : Heap} {locs : List Loc} {ls : Array Slot} {st0 rest' : List Value} {mc ms : Nat} {Q : Option Value → List gS → gM → Prop} {A1 : Nat → Prop}
    (hr : va_Run p l e R s m args below meth c H locs kc ks mc ms (F0 m pc ls st0) rest' (gQ Q D cy ad sh.length mc A1 a) A1) (hS : va_S A s.heap H locs) (hA1 : ∀ q, A1 q → A q)
    (kk : ∀ (v : Option Value) (sh' : List gS) (M' : gM) (ad' : Nat → Nat) (H1 : Heap) (locs1 : List Loc), Q v sh' M' → (∀ k, k < sh.length ∨ 1000000 ≤ k → ad' k = ad k) → (mc = 0 → ad' = ad) → sh.length ≤ sh'.length → va_P D vwCl (gW cy ad' sh' M') H1 → va_D A1 (gW cy ad' sh' M') → va_S A s.heap H1 locs1 → W p l e R s m args below meth c H1 locs1 (kc + mc) (ks + ms) Z (F0 m (pc + 3) ls ((v.map (gv ad')).toList ++ rest'))) : W p l e R s m args below meth c H locs kc ks Z (F0 m pc ls st0) := by
  intro T hT X
  obtain ⟨v, st₀, t, T', L, h0, X', hL, e1, e2, ⟨⟨w, sh', M', ad', hv, hQ, g1, g2, g3, g4, g5⟩, hz, hk⟩, st⟩ := hr T hT X
  cases hv
  rw [h0] at hz hk
  obtain ⟨t2, a1, b1⟩ := kk w sh' M' ad' T'.heap (locs ++ L) hQ g1 g2 g3 (by rw [e1]; exact g4) g5
    ⟨Nat.le_trans hS.1 (by rw [e1]; exact hz), fun q h1 h2 => by rw [e1, hk q (Nat.lt_of_lt_of_le h1 hS.1) (fun z => h2 (hA1 q z))]; exact hS.2.1 q h1 h2, fun q hq => by
      rcases List.mem_append.mp hq with h | h
      · exact hS.2.2 q h
      · exact hA1 _ (hL q h)⟩ T' rfl X'
  exact ⟨t2, st t2 a1, b1⟩
theorem gblind (avs : List Value) (ad : Nat → Nat) (sz : Nat) : FrameBlind (gPc avs D cy ad sz sh M) := by
  intro a U g mk q
  obtain ⟨q0, q1, qP, qK, qD, qX⟩ := q
  exact ⟨q0, q1, qP, va_K.moved (u := U) (U := U.calling g mk a) (Vm.Alike.refl U.vm) qK, qD, ⟨fun z hz => va_Nw.same rfl rfl (qX.1 z hz), qX.2.moved (Vm.Alike.refl U.vm)⟩⟩
theorem ggood {q : MethodName × ByteArray × Nat × Option FieldType × Nat} {mi : Nat} (hm : gmt[mi]? = some q) : GoodIn gwl (.code q.1 q.2.1 q.2.2.1 q.2.2.2.1 :: gwl) := by
  have hc : Jvm.Cond.code q.1 q.2.1 q.2.2.1 q.2.2.2.1 ∈ gwl := gmt_in _ (List.mem_flatMap.mpr ⟨q, List.mem_of_getElem? hm, List.mem_cons_self⟩)
  intro w hw
  have hw' : w ∈ gwl := by
    rcases List.mem_cons.mp hw with rfl | h
    · exact hc
    · exact h
  exact ⟨hw', good_of_word (gwl_good w hw')⟩
theorem gmt_spec {q : MethodName × ByteArray × Nat × Option FieldType × Nat} {mi : Nat} (hm : gmt[mi]? = some q) : q.1.cls = gown q.2.2.2.2 ∧ q.1.cls ≠ "java/lang/invoke/MethodHandle" ∧ q.1.cls ≠ "java/lang/invoke/VarHandle" ∧ plainFor q.1 = true ∧ q.2.2.1 ≤ 21 := by
  have h := List.all_eq_true.mp gmt_ok q (List.mem_of_getElem? hm)
  simp only [gmtB, Bool.and_eq_true, decide_eq_true_eq] at h
  exact ⟨h.1.1.1.1, h.1.1.1.2, h.1.1.2, h.1.2, h.2⟩
/-- what a call has in common -/
theorem gs_after {ad : Nat → Nat} {H1 : Heap} {locs1 : List Loc} {ls : Array Slot} {mc ms r : Nat} {rest : List Value} {v : Option Value} {sh' : List gS} {M' : gM} {ad' : Nat → Nat} {A1 : Nat → Prop} (hmc : kc + mc ≤ MC) (hoth : mc = 0 ∨ (lv.map Prod.snd ++ rest).all (gokV sh.length) = true)
    (h1 : ∀ k, k < n0 ∨ 1000000 ≤ k → ad k = ad0 k) (h2 : MC = 0 → ad = ad0) (h3 : n0 ≤ sh.length) (hl : lv_has ls nL (lv.map (gl ad))) (hA1 : ∀ q, A1 q → A q)
    (g1 : ∀ k, k < sh.length ∨ 1000000 ≤ k → ad' k = ad k) (g2 : mc = 0 → ad' = ad) (g3 : sh.length ≤ sh'.length) (g4 : va_P D vwCl (gW cy ad' sh' M') H1) (g5 : va_D A1 (gW cy ad' sh' M')) (hS : va_S A s.heap H1 locs1)
    (h : gret r v (fun w => gG p l e R s m args below meth c A D cy nL MC Z n0 ad0 (pc + 3) lv (w ++ rest) sh' M' (kc + mc) (ks + ms))) : W p l e R s m args below meth c H1 locs1 (kc + mc) (ks + ms) Z (F0 m (pc + 3) ls ((v.map (gv ad')).toList ++ rest.map (gv ad))) := by
  obtain ⟨hg, hv⟩ := gret_e h
  have e1 : lv.map (gl ad') = lv.map (gl ad) ∧ rest.map (gv ad') = rest.map (gv ad) := by
    rcases hoth with z | z
    · rw [g2 z]; exact ⟨rfl, rfl⟩
    · rw [List.all_append, Bool.and_eq_true] at z
      refine ⟨gl_ok g1 ?_, gst_ok g1 z.2⟩
      rw [List.all_eq_true]
      intro q hq
      exact List.all_eq_true.mp z.1 q.2 (List.mem_map_of_mem hq)
  have hw := hg ad' H1 locs1 ls (fun k hk => by rw [g1 k (by omega), h1 k hk]) (fun z => by rw [g2 (by omega)]; exact h2 z) (Nat.le_trans h3 g3) g4 (g5.weaken (fun _ _ _ z => hA1 _ z)) hS (by rw [e1.1]; exact hl)
  rw [List.map_append, e1.2] at hw
  rw [hv]
  have e2 : v.toList.map (gv ad') = v.toList := by
    have := hv ad'
    cases v with
    | none => rfl
    | some w =>
      have h' : gv ad' w = w := Option.some.inj this
      show [gv ad' w] = [w]
      rw [h']
  rw [e2] at hw
  exact hw
end GSb
