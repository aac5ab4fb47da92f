/-! THE TEXT IN THE WALK, AND THE CONSTRUCTOR THAT READS IT -/
section GSS
variable {p : Program} {l : Launch} {e : Env} {R : Room} {s : State} {m : MethodId} {args : Array Value} {below : List Frame} {meth : Method} {c : Code} {A : Nat → Prop} {D : va_G} {cy : Nat → ClassId} {nL d MC MS : Nat} {cc : ByteArray} {ret : Option FieldType} {ini : Bool} {Z : State → Prop} {n0 : Nat} {ad0 : Nat → Nat} {pc : Nat} {lv : List (Nat × Value)} {st : List Value} {sh : List gS} {M : gM} {kc ks : Nat}
theorem gs_slen (S : gSt p R s m args meth c A D cy 6 nL d MC MS cc ret ini) {a v : Nat} (hR9 : vk_R RX6 66 txS a s) (hH : strH a v A s s.heap) (hd4 : 4 ≤ d) (hd1 : decode cc pc = .ok (.ldc 66, 2)) (hd2 : decode cc (pc + 2) = .ok (.invokevirtual 68, 3)) (hcat : gcat st ≤ 8) (hk0 : kc ≤ MC ∧ ks ≤ MS) (h : gG p l e R s m args below meth c A D cy nL MC Z n0 ad0 (pc + 5) lv (.int (nI 108) :: st) sh M kc ks) : gG p l e R s m args below meth c A D cy nL MC Z n0 ad0 pc lv st sh M kc ks := by
  obtain ⟨hx, hb, hr, hml, hown, hts, hlocks, hK, hA, hR, hini, hX⟩ := S
  intro ad H locs ls h1 h2 h3 hP hD hS hl
  refine va_ldcS hx hb hown hR9 hd1 ?_
  refine va_calli (va_runV (C := RJ0) (b := a) (As := []) (rest := st.map (gv ad)) (Pc := jPc [.ref a] a v) ⟨hx, hb, hml, hown, hts⟩ (j_length (d := 1) (Nat.le_refl _) l) ⟨callB_of 0 hts (jgood (List.mem_of_getElem? (i := 0) rfl)) rfl rfl rfl (hts _ (jws_in _ (List.mem_of_getElem? (i := 29) rfl))) (hts _ (jws_in _ (List.mem_of_getElem? (i := 23) rfl))) ⟨by decide, by decide, by decide⟩ ⟨by show 1 + 1 ≤ R.frames; have := hR.1; omega, by show 8 + (1 + 11) + 40 * 1 ≤ R.locals; have := hR.2.1; omega⟩, (hts _ (jws_in _ (List.mem_of_getElem? (i := 24) rfl))), (hts _ (jws_in _ (List.mem_of_getElem? (i := 25) rfl)))⟩ ⟨jblind _ _ _, strRecv hH hS, fun U hU hWm => ⟨rfl, by show strH a v jN U U.heap; rw [hU]; exact strH.moved hWm.alike ((hH.kept hS.2.1).narrow (fun _ z => z.elim))⟩⟩ rfl rfl hl.1 rfl (lv_room (by rw [gcat_map]; exact hcat)) hd2 ⟨by rw [hR.2.2.1]; exact hk0.1, by rw [hR.2.2.2]; exact hk0.2⟩) hS (fun q _ z => z.elim) (fun q z => z.elim) (fun r u t H1 locs1 ht _ hp _ hsz hkk hS1 => ?_)
  rw [hp]
  exact h ad H1 locs1 ls h1 h2 h3 (hP.kept (fun k q hk => hkk q.1 (hP k q hk).lt (fun z => z))) hD hS1 hl
theorem gs_schr (S : gSt p R s m args meth c A D cy 6 nL d MC MS cc ret ini) {a v k : Nat} (hR9 : vk_R RX6 66 txS a s) (hH : strH a v A s s.heap) (hd4 : 4 ≤ d) (hd1 : decode cc pc = .ok (.ldc 66, 2)) (hd2 : decode cc (pc + 2) = .ok (.iload_n 1, 1)) (hd3 : decode cc (pc + 3) = .ok (.invokevirtual 74, 3)) (hcat : gcat st ≤ 8) (hk0 : kc ≤ MC ∧ ks ≤ MS) (hk : k < 108) (hg : lget lv 1 = some (.int (nI k))) (h : gG p l e R s m args below meth c A D cy nL MC Z n0 ad0 (pc + 6) lv (.int (nI (tx0 k)) :: st) sh M kc ks) : gG p l e R s m args below meth c A D cy nL MC Z n0 ad0 pc lv st sh M kc ks := by
  obtain ⟨hx, hb, hr, hml, hown, hts, hlocks, hK, hA, hR, hini, hX⟩ := S
  intro ad H locs ls h1 h2 h3 hP hD hS hl
  refine va_ldcS hx hb hown hR9 hd1 ?_
  refine lv_iload_n hx hb hd2 rfl (lget_has hl hg) ?_
  refine va_calli (va_runV (C := RJ0) (b := a) (As := [.int (nI k)]) (rest := st.map (gv ad)) (Pc := jPc [.ref a, .int (nI k)] a v) ⟨hx, hb, hml, hown, hts⟩ (j_charAt (d := 3) (Nat.le_refl _) hk l) ⟨callB_of 1 hts (jgood (List.mem_of_getElem? (i := 3) rfl)) rfl rfl rfl (hts _ (jws_in _ (List.mem_of_getElem? (i := 29) rfl))) (hts _ (jws_in _ (List.mem_of_getElem? (i := 26) rfl))) ⟨by decide, by decide, by decide⟩ ⟨by show 3 + 1 ≤ R.frames; have := hR.1; omega, by show 8 + (2 + 11) + 40 * 3 ≤ R.locals; have := hR.2.1; omega⟩, (hts _ (jws_in _ (List.mem_of_getElem? (i := 27) rfl))), (hts _ (jws_in _ (List.mem_of_getElem? (i := 28) rfl)))⟩ ⟨jblind _ _ _, strRecv hH hS, fun U hU hWm => ⟨rfl, by show strH a v jN U U.heap; rw [hU]; exact strH.moved hWm.alike ((hH.kept hS.2.1).narrow (fun _ z => z.elim))⟩⟩ rfl rfl hl.1 rfl (lv_room (by rw [gcat_map]; exact hcat)) hd3 ⟨by rw [hR.2.2.1]; exact hk0.1, by rw [hR.2.2.2]; exact hk0.2⟩) hS (fun q _ z => z.elim) (fun q z => z.elim) (fun r u t H1 locs1 ht _ hp _ hsz hkk hS1 => ?_)
  rw [hp]
  exact h ad H1 locs1 ls h1 h2 h3 (hP.kept (fun k q hk => hkk q.1 (hP k q hk).lt (fun z => z))) hD hS1 hl
end GSS
def gPcE (a v : Nat) (avs : List Value) (D : va_G) (cy : Nat → ClassId) (ad : Nat → Nat) (sz : Nat) (sh : List gS) (M : gM) : Array Value → State → Prop := va_Pc (avs.map (gv ad)) (fun U => (U.heap.size = sz ∧ va_P D vwCl (gW cy ad sh M) U.heap ∧ va_K D vwCl (gtys cy) U ∧ va_D (fun _ => True) (gW cy ad sh M) ∧ gXt U) ∧ vk_R RX6 66 txS a U ∧ strH a v (va_A (gW cy ad sh M) sz) U U.heap)
/-- the walk may ask the text for its length, and for a letter -/
def gStr (mc ms : Nat) (X : gX) : Prop := (∀ (pc : Nat) (lv : List (Nat × Value)) (st : List Value) (sh : List gS) (M : gM) (kc ks : Nat), decode cX6_init pc = .ok (.ldc 66, 2) → decode cX6_init (pc + 2) = .ok (.invokevirtual 68, 3) → gcat st ≤ 8 → (kc ≤ mc ∧ ks ≤ ms) → X (pc + 5) lv (.int (nI 108) :: st) sh M kc ks → X pc lv st sh M kc ks) ∧
  ∀ (pc : Nat) (lv : List (Nat × Value)) (st : List Value) (sh : List gS) (M : gM) (kc ks k : Nat), decode cX6_init pc = .ok (.ldc 66, 2) → decode cX6_init (pc + 2) = .ok (.iload_n 1, 1) → decode cX6_init (pc + 3) = .ok (.invokevirtual 74, 3) → gcat st ≤ 8 → (kc ≤ mc ∧ ks ≤ ms) → k < 108 → lget lv 1 = some (.int (nI k)) → X (pc + 6) lv (.int (nI (tx0 k)) :: st) sh M kc ks → X pc lv st sh M kc ks
theorem gCE_of {d mc ms a v : Nat} (hd4 : 4 ≤ d) {avs : List Value} {sh : List gS} {M : gM} {Q : Option Value → List gS → gM → Prop} (hlen : (lg_sl avs).length ≤ 2)
    (body : ∀ X : gX, gCl cX6_init 6 2 d mc ms 0 true none (fun v sh' M' kc ks => kc ≤ mc ∧ ks ≤ ms ∧ sh.length ≤ sh'.length ∧ Q v sh' M') X → gStr mc ms X → X 0 (lv_args 0 avs) [] sh M 0 0) (l : Launch) (D : va_G) (cy : Nat → ClassId) (ad : Nat → Nat) (sz : Nat) : Met l yX6_init (.code yX6_init cX6_init 2 none :: gwl) (grm d mc ms) (gPcE a v avs D cy ad sz sh M) (gQ Q D cy ad sh.length mc (va_A (gW cy ad sh M) sz)) mc ms (va_A (gW cy ad sh M) sz) := by
  obtain ⟨g1, g2, g3, g4, g5⟩ := gmt_spec gm_X6_init
  dsimp only at g1 g2 g3 g4 g5
  refine va_MetF (cc := cX6_init) (maxL := 2) (ret := none) g4 rfl ?_
  intro p e s m args below meth c s₁ B hml hv
  obtain ⟨rfl, ⟨hsz, hP, hK, hD0, hX⟩, hR9, hH⟩ := hv
  have hx := B.exec
  have hb := B.bytes
  have hr := B.returns
  have hts0 := atoms_spec (ws := .code yX6_init cX6_init 2 none :: gwl) B.pre
  have hts : ∀ w ∈ gwl, w.before ((avs.map (gv ad)).toArray) s = true := fun w hw => hts0 w (List.mem_cons_of_mem _ hw)
  have hown : s.vm.findClass (gown 6) = some m.cls := by rw [← g1]; exact findClass_of_methodNamed B.named
  have hlocks := B.notSynchronized
  have hnm : meth.name = yX6_init.name := (name_of_methodNamed B.named B.method).1
  subst hsz
  have hD := hD0.self (sz := s.heap.size)
  have hA : ∀ q : Nat, s.heap.size ≤ q → va_A (gW cy ad sh M) s.heap.size q := fun q h => Or.inr h
  have hS : va_S (va_A (gW cy ad sh M) s.heap.size) s.heap s.heap [] := va_S.rf
  have hl := lv_entry (avs.map (gv ad)) (n := 2) (by rw [glg_sl]; exact hlen)
  rw [lg_entry_eq]
  generalize (lg_sl (avs.map (gv ad)) ++ List.replicate (2 - (lg_sl (avs.map (gv ad))).length) Slot.unset).toArray = ls at hl ⊢
  rw [glv_args] at hl
  have S : gSt p (headSpec (.code yX6_init cX6_init 2 none :: gwl) (grm d mc ms)).room s m ((avs.map (gv ad)).toArray) meth c (va_A (gW cy ad sh M) s.heap.size) D cy 6 2 d mc ms cX6_init none true :=
    ⟨hx, hb, hr, hml, hown, hts, hlocks, hK, hA, ⟨Nat.le_refl _, Nat.le_refl _, rfl, rfl⟩, fun _ => by rw [hnm]; rfl, hX⟩
  have fin : ∀ {v : Option Value} {sh' : List gS} {M' : gM} {ad' : Nat → Nat} {H : Heap} {locs : List Loc}, (sh.length ≤ sh'.length ∧ Q v sh' M') → (∀ k, k < sh.length ∨ 1000000 ≤ k → ad' k = ad k) → (mc = 0 → ad' = ad) → va_P D vwCl (gW cy ad' sh' M') H → va_D (va_A (gW cy ad sh M) s.heap.size) (gW cy ad' sh' M') → va_S (va_A (gW cy ad sh M) s.heap.size) s.heap H locs → v.map (gv ad') = v →
      ∀ t : State, t.heap = H → s.WarmedH t.vm → gQ Q D cy ad sh.length mc (va_A (gW cy ad sh M) s.heap.size) ((avs.map (gv ad)).toArray) s (.returned v) t := by
    intro v sh' M' ad' H locs hQ k1 k2 k3 k4 k5 hv t ht _
    exact ⟨⟨v, sh', M', ad', by rw [hv], hQ.2, k1, k2, hQ.1, by rw [ht]; exact k3, k4⟩, k5.F ht⟩
  have hXX := body (gG p l e (headSpec (.code yX6_init cX6_init 2 none :: gwl) (grm d mc ms)).room s m ((avs.map (gv ad)).toArray) below meth c (va_A (gW cy ad sh M) s.heap.size) D cy 2 mc (MQ below (gQ Q D cy ad sh.length mc (va_A (gW cy ad sh M) s.heap.size)) ((avs.map (gv ad)).toArray) s mc ms (va_A (gW cy ad sh M) s.heap.size)) sh.length ad) ⟨?_, fun _ _ _ _ _ _ _ _ h1 h2 => gG_lv h1 h2, fun _ _ _ _ _ _ _ _ h1 h2 => gG_M h1 h2⟩ ⟨fun _ _ _ _ _ _ _ q1 q2 q3 q4 q5 => gs_slen S hR9 hH hd4 q1 q2 q3 q4 q5, fun _ _ _ _ _ _ _ _ q1 q2 q3 q4 q5 q6 q7 q8 => gs_schr S hR9 hH hd4 q1 q2 q3 q4 q5 q6 q7 q8⟩
  · exact hXX ad s.heap [] ls (fun _ _ => rfl) (fun _ => rfl) (Nat.le_refl _) hP hD hS hl
  · intro pc lv st sh1 M1 kc ks ins len hd hg
    refine gx_sound S (fun q hq => by cases hq) ?_ ?_ ?_ hd hg
    · intro pc lv sh2 M2 kc ks x hrt2 hd hR; omega
    · intro pc lv sh2 M2 kc ks x hrt2 hd hR; omega
    · intro pc lv sh2 M2 kc ks hrt2 hd hR ad' H locs ls k1 k2 k3 kP kD kS kl
      refine W.widen (k := mc) (n := ms) hR.1 hR.2.1 ?_
      exact W.vret hx hb hr (fin hR.2.2 k1 k2 kP kD kS rfl) kS.2.2 hd hlocks
