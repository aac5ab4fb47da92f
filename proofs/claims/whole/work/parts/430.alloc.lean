/-! ROWS THAT MAKE CELLS -/
def gOK (sh : List gS) : Prop := sh.all (gokS sh.length) = true
theorem gokV_up {n m : Nat} {v : Value} (h : gokV n v = true) (hm : n ≤ m) : gokV m v = true := by
  cases v with
  | ref k =>
    simp only [gokV, Bool.or_eq_true, decide_eq_true_eq] at h ⊢
    rcases h with h | h
    · exact Or.inl (Nat.lt_of_lt_of_le h hm)
    · exact Or.inr h
  | _ => rfl
theorem gov {n k : Nat} (h : k < n ∨ 1000000 ≤ k) : gokV n (.ref k) = true := by
  simp only [gokV, Bool.or_eq_true, decide_eq_true_eq]
  exact h
theorem gal_c {α : Type} {p : α → Bool} {a : α} {l : List α} (h : p a = true) (hl : l.all p = true) : (a :: l).all p = true := by
  rw [List.all_cons, h, hl]
  rfl
theorem gokS_up {n m : Nat} {e : gS} (h : gokS n e = true) (hm : n ≤ m) : gokS m e = true := by
  match e, h with
  | .inl q, h =>
    simp only [gokS, List.all_eq_true] at h ⊢
    intro o ho
    have := h o ho
    cases o with
    | none => rfl
    | some v => exact gokV_up this hm
  | .inr (.inl q), _ => rfl
  | .inr (.inr l), h =>
    simp only [gokS, List.all_eq_true] at h ⊢
    intro o ho
    have := h o ho
    cases o with
    | none => rfl
    | some k =>
      simp only [decide_eq_true_eq] at this ⊢
      omega
theorem gOK.app {sh : List gS} {e : gS} (h : gOK sh) (he : gokS (sh.length + 1) e = true) : gOK (sh ++ [e]) := by
  unfold gOK
  rw [List.all_append, List.length_append]
  have h1 : sh.all (gokS (sh.length + [e].length)) = true := List.all_eq_true.mpr (fun x hx => gokS_up (List.all_eq_true.mp h x hx) (by omega))
  rw [h1]
  show (true && (gokS (sh.length + 1) e && true)) = true
  rw [he]
  rfl
theorem gOK.set {sh : List gS} {a : Nat} {e : gS} (h : gOK sh) (he : gokS sh.length e = true) : gOK (sh.set a e) := by
  unfold gOK
  rw [List.length_set]
  refine List.all_eq_true.mpr (fun x hx => ?_)
  rcases List.mem_or_eq_of_mem_set hx with z | z
  · exact List.all_eq_true.mp h x z
  · rw [z]; exact he
theorem gOK.at_ {sh : List gS} {a : Nat} {e : gS} (h : gOK sh) (ha : sh[a]? = some e) : gokS sh.length e = true := List.all_eq_true.mp h e (List.mem_of_getElem? ha)
theorem gokA_i {sh : List gS} {lv : List (Nat × Value)} {st : List Value} (h1 : gOK sh) (h2 : lv.all (fun q => gokV sh.length q.2) = true) (h3 : st.all (gokV sh.length) = true) (h4 : sh.length < 1000000) : gokA sh lv st = true := by
  unfold gokA
  rw [h1, h2, h3, decide_eq_true h4]
  rfl
theorem gdef_ok (n ci : Nat) : gokS n (.inl (ci, gdef ci)) = true := by
  unfold gdef
  split <;> rfl
section SAL
variable {cc : ByteArray} {o nL d MC MS rt : Nat} {ini : Bool} {sc : Option (Nat × (Nat → Int32))} {Rt : gRt} {X : gX} {pc q : Nat} {lv : List (Nat × Value)} {st : List Value} {sh : List gS} {M : gM} {kc ks : Nat} {x y v : Int32} {L : Nat}
theorem s_oinit {i mi n r ci a : Nat} (hX : gCl cc o nL d MC MS rt ini sc Rt X) (hd : decode cc pc = .ok (.invokespecial i, 3)) (hp : pc + 3 = q) (hq : glk o i = some (5, mi, n, r, ci)) (hc : gcat st ≤ 8) (hd1 : 1 ≤ d) (h : X q lv st sh M kc ks) : X pc lv (.ref a :: st) sh M kc ks := by
  subst hp
  refine hX.1 _ _ _ _ _ _ _ _ _ hd ⟨rfl, glc_i hq ?_⟩
  show if (5 : Nat) = 5 then _ else _
  rw [if_pos rfl]
  exact gpr_i ⟨hc, hd1, h⟩
theorem s_newc {e : gS} (hL : sh.length = L) (hG : gOK sh) (he : gokS (L + 1) e = true) (h : ∀ sh1 M1, sh1.length = L + 1 → gOK sh1 → (∀ c, c < L → sh1[c]? = sh[c]?) → sh1[L]? = some e → (∀ c, c ≠ L → M1 c = M c) → (M1 L = fun _ => 0) → X q lv (.ref L :: st) sh1 M1 kc ks) : X q lv (.ref sh.length :: st) (sh ++ [e]) (gsr M sh.length (fun _ => 0)) kc ks := by
  subst hL
  refine h _ _ (by rw [List.length_append]; rfl) (hG.app he) (fun c hc => ?_) ?_ (fun c hc => gsr_n _ _ hc) (gsr_s _ _ _)
  · exact List.getElem?_append_left hc
  · rw [List.getElem?_append_right (Nat.le_refl _), Nat.sub_self]; rfl
theorem s_newI {n : Nat} (hX : gCl cc o nL d MC MS rt ini sc Rt X) (hd : decode cc pc = .ok (.newarray .int, 2)) (hp : pc + 2 = q) (hv : v = nI n) (hn : n ≤ 1000) (hL : sh.length = L) (hkc : kc + 1 ≤ MC) (hks : ks + n ≤ MS) (hG : gOK sh) (hok : gokA sh lv st = true) (h : ∀ sh1 M1, sh1.length = L + 1 → gOK sh1 → (∀ c, c < L → sh1[c]? = sh[c]?) → sh1[L]? = some (.inr (.inl (0, n))) → (∀ c, c ≠ L → M1 c = M c) → (M1 L = fun _ => 0) → X q lv (.ref L :: st) sh1 M1 (kc + 1) (ks + n)) : X pc lv (.int v :: st) sh M kc ks := by
  subst hp hv
  have e := nI_clamp (n := n) (by omega)
  refine hX.1 _ _ _ _ _ _ _ _ _ hd ⟨rfl, ?_⟩
  show (_ ∨ _) ∧ ¬ nI n < 0 ∧ (nI n).toNatClampNeg ≤ 1000 ∧ kc + 1 ≤ MC ∧ ks + (nI n).toNatClampNeg ≤ MS ∧ gokA sh lv st = true ∧ X (pc + 2) lv (.ref sh.length :: st) (sh ++ [.inr (.inl (_, (nI n).toNatClampNeg))]) (gsr M sh.length (fun _ => 0)) (kc + 1) (ks + (nI n).toNatClampNeg)
  rw [e]
  exact ⟨Or.inl rfl, nI_pos (by omega), hn, hkc, hks, hok, s_newc hL hG rfl h⟩
theorem s_newB {n : Nat} (hX : gCl cc o nL d MC MS rt ini sc Rt X) (hd : decode cc pc = .ok (.newarray .byte, 2)) (hp : pc + 2 = q) (hv : v = nI n) (hn : n ≤ 1000) (hL : sh.length = L) (hkc : kc + 1 ≤ MC) (hks : ks + n ≤ MS) (hG : gOK sh) (hok : gokA sh lv st = true) (h : ∀ sh1 M1, sh1.length = L + 1 → gOK sh1 → (∀ c, c < L → sh1[c]? = sh[c]?) → sh1[L]? = some (.inr (.inl (1, n))) → (∀ c, c ≠ L → M1 c = M c) → (M1 L = fun _ => 0) → X q lv (.ref L :: st) sh1 M1 (kc + 1) (ks + n)) : X pc lv (.int v :: st) sh M kc ks := by
  subst hp hv
  have e := nI_clamp (n := n) (by omega)
  refine hX.1 _ _ _ _ _ _ _ _ _ hd ⟨rfl, ?_⟩
  show (_ ∨ _) ∧ ¬ nI n < 0 ∧ (nI n).toNatClampNeg ≤ 1000 ∧ kc + 1 ≤ MC ∧ ks + (nI n).toNatClampNeg ≤ MS ∧ gokA sh lv st = true ∧ X (pc + 2) lv (.ref sh.length :: st) (sh ++ [.inr (.inl (_, (nI n).toNatClampNeg))]) (gsr M sh.length (fun _ => 0)) (kc + 1) (ks + (nI n).toNatClampNeg)
  rw [e]
  exact ⟨Or.inr rfl, nI_pos (by omega), hn, hkc, hks, hok, s_newc hL hG rfl h⟩
theorem s_newA {i n : Nat} (hX : gCl cc o nL d MC MS rt ini sc Rt X) (hd : decode cc pc = .ok (.anewarray i, 3)) (hp : pc + 3 = q) (hq : gnw o i = some 3) (hv : v = nI n) (hn : n ≤ 1000) (hL : sh.length = L) (hkc : kc + 1 ≤ MC) (hks : ks + n ≤ MS) (hG : gOK sh) (hok : gokA sh lv st = true) (h : ∀ sh1 M1, sh1.length = L + 1 → gOK sh1 → (∀ c, c < L → sh1[c]? = sh[c]?) → sh1[L]? = some (.inr (.inr (List.replicate n none))) → (∀ c, c ≠ L → M1 c = M c) → (M1 L = fun _ => 0) → X q lv (.ref L :: st) sh1 M1 (kc + 1) (ks + n)) : X pc lv (.int v :: st) sh M kc ks := by
  subst hp hv
  have e := nI_clamp (n := n) (by omega)
  refine hX.1 _ _ _ _ _ _ _ _ _ hd ⟨rfl, hq, ?_⟩
  show ¬ nI n < 0 ∧ (nI n).toNatClampNeg ≤ 1000 ∧ kc + 1 ≤ MC ∧ ks + (nI n).toNatClampNeg ≤ MS ∧ gokA sh lv st = true ∧ X (pc + 3) lv (.ref sh.length :: st) (sh ++ [.inr (.inr (List.replicate (nI n).toNatClampNeg none))]) (gsr M sh.length (fun _ => 0)) (kc + 1) (ks + (nI n).toNatClampNeg)
  rw [e]
  refine ⟨nI_pos (by omega), hn, hkc, hks, hok, s_newc hL hG ?_ h⟩
  show (List.replicate n none).all _ = true
  refine List.all_eq_true.mpr (fun z hz => ?_)
  rw [(List.mem_replicate.mp hz).2]
theorem s_newO {i ci : Nat} (hX : gCl cc o nL d MC MS rt ini sc Rt X) (hd : decode cc pc = .ok (.new i, 3)) (hp : pc + 3 = q) (hq : gnw o i = some ci) (hL : sh.length = L) (hkc : kc + 1 ≤ MC) (hks : ks + (gdef ci).length ≤ MS) (hG : gOK sh) (hok : gokA sh lv st = true) (h : ∀ sh1 M1, sh1.length = L + 1 → gOK sh1 → (∀ c, c < L → sh1[c]? = sh[c]?) → sh1[L]? = some (.inl (ci, gdef ci)) → (∀ c, c ≠ L → M1 c = M c) → (M1 L = fun _ => 0) → X q lv (.ref L :: st) sh1 M1 (kc + 1) (ks + (gdef ci).length)) : X pc lv st sh M kc ks := by
  subst hp
  refine hX.1 _ _ _ _ _ _ _ _ _ hd ⟨rfl, ?_⟩
  unfold gnc
  rw [hq]
  exact ⟨hkc, hks, hok, s_newc hL hG (gdef_ok _ _) h⟩
theorem s_putN {i ci k t a b : Nat} {fs fs' : List (Option Value)} {f : Option Value} (hX : gCl cc o nL d MC MS rt ini sc Rt X) (hd : decode cc pc = .ok (.putfield i, 3)) (hp : pc + 3 = q) (hq : gfl o i = some (ci, k, t)) (ht : t = 2 ∨ (t = 3 ∧ ini = true ∧ ci = o)) (hL : sh.length = L) (hG : gOK sh) (ha : sh[a]? = some (.inl (ci, fs))) (hf : fs[k]? = some f) (hfs : fs.set k (some (.ref b)) = fs') (hb : b < L) (h : ∀ sh1, sh1.length = L → gOK sh1 → (∀ c, c ≠ a → sh1[c]? = sh[c]?) → sh1[a]? = some (.inl (ci, fs')) → X q lv st sh1 M kc ks) : X pc lv (.ref b :: .ref a :: st) sh M kc ks := by
  subst hL hfs
  have hal : a < sh.length := (List.getElem?_eq_some_iff.mp ha).1
  refine s_putr hX hd hp hq ht ha hf rfl (h _ (List.length_set ..) (hG.set ?_) (fun c hc => ?_) ?_)
  · have h1 := hG.at_ ha
    simp only [gokS, List.all_eq_true] at h1 ⊢
    intro z hz
    rcases List.mem_or_eq_of_mem_set hz with w | w
    · exact h1 z w
    · rw [w]
      simp only [gokV, Bool.or_eq_true, decide_eq_true_eq]
      exact Or.inl hb
  · exact List.getElem?_set_ne (fun z => hc z.symm)
  · exact List.getElem?_set_self hal
theorem s_aastN {a b k : Nat} {l : List (Option Nat)} {fs : List (Option Value)} (hX : gCl cc o nL d MC MS rt ini sc Rt X) (hd : decode cc pc = .ok (.aastore, 1)) (hp : pc + 1 = q) (hL : sh.length = L) (hG : gOK sh) (ha : sh[a]? = some (.inr (.inr l))) (hv : v = nI k) (hk : k < l.length) (hk9 : l.length ≤ 1000) (hb : sh[b]? = some (.inl (3, fs))) (h : ∀ sh1, sh1.length = L → gOK sh1 → (∀ c, c ≠ a → sh1[c]? = sh[c]?) → sh1[a]? = some (.inr (.inr (l.set k (some b)))) → X q lv st sh1 M kc ks) : X pc lv (.ref b :: .int v :: .ref a :: st) sh M kc ks := by
  subst hp hv hL
  have hal : a < sh.length := (List.getElem?_eq_some_iff.mp ha).1
  have hbl : b < sh.length := (List.getElem?_eq_some_iff.mp hb).1
  refine hX.1 _ _ _ _ _ _ _ _ _ hd ⟨rfl, ?_⟩
  show gaq sh a (fun l => vp_in (nI k) l.length ∧ grc sh b 3 ∧ X (pc + 1) lv st (sh.set a (.inr (.inr (l.set (nI k).toNatClampNeg (some b))))) M kc ks)
  refine gaq_i ha ⟨vp_in_nI hk (by omega), grc_i hb, ?_⟩
  rw [nI_clamp (by omega)]
  refine h _ (List.length_set ..) (hG.set ?_) (fun c hc => List.getElem?_set_ne (fun z => hc z.symm)) (List.getElem?_set_self hal)
  have h1 := hG.at_ ha
  simp only [gokS, List.all_eq_true] at h1 ⊢
  intro z hz
  rcases List.mem_or_eq_of_mem_set hz with w | w
  · exact h1 z w
  · rw [w]
    simp only [decide_eq_true_eq]
    exact hbl
theorem s_invc0 {i mi ci d' b mc ms kd : Nat} (hX : gCl cc o nL d MC MS rt ini sc Rt X) (hd : decode cc pc = .ok (.invokespecial i, 3)) (hp : pc + 3 = q) (hq : glk o i = some (kd, mi, 0, 0, ci)) (hkd : kd = 2 ∨ kd = 4) (hc : gcat st ≤ 8) (hd' : d' + 1 ≤ d) (hkc : kc + mc ≤ MC) (hks : ks + ms ≤ MS) (hok : (lv.map Prod.snd ++ st).all (gokV sh.length) = true) (h : gC mi d' mc ms [.ref b] sh M (fun v sh' M' => v = none ∧ X q lv st sh' M' (kc + mc) (ks + ms))) : X pc lv (.ref b :: st) sh M kc ks := by
  subst hp
  refine hX.1 _ _ _ _ _ _ _ _ _ hd ⟨rfl, glc_i hq ?_⟩
  rw [if_neg (by omega)]
  refine ⟨hkd, by simp, ?_⟩
  show gcat st ≤ 8 ∧ gCall d mi [.ref b] sh M kc ks MC MS (lv.map Prod.snd ++ st) (fun v sh' M' kc' ks' => gret 0 v (fun w => X (pc + 3) lv (w ++ st) sh' M' kc' ks'))
  exact ⟨hc, ⟨d', mc, ms, hd', hkc, hks, Or.inr hok, gC_mono (fun v sh' M' z => by obtain ⟨rfl, z⟩ := z; exact ⟨rfl, z⟩) h⟩⟩
theorem s_invc1 {i mi ci d' b mc ms kd : Nat} {a0 : Value} (hX : gCl cc o nL d MC MS rt ini sc Rt X) (hd : decode cc pc = .ok (.invokespecial i, 3)) (hp : pc + 3 = q) (hq : glk o i = some (kd, mi, 1, 0, ci)) (hkd : kd = 2 ∨ kd = 4) (hc : gcat st ≤ 8) (hd' : d' + 1 ≤ d) (hkc : kc + mc ≤ MC) (hks : ks + ms ≤ MS) (hok : (lv.map Prod.snd ++ st).all (gokV sh.length) = true) (h : gC mi d' mc ms [.ref b, a0] sh M (fun v sh' M' => v = none ∧ X q lv st sh' M' (kc + mc) (ks + ms))) : X pc lv (a0 :: .ref b :: st) sh M kc ks := by
  subst hp
  refine hX.1 _ _ _ _ _ _ _ _ _ hd ⟨rfl, glc_i hq ?_⟩
  rw [if_neg (by omega)]
  refine ⟨hkd, by simp, ?_⟩
  show gcat st ≤ 8 ∧ gCall d mi [.ref b, a0] sh M kc ks MC MS (lv.map Prod.snd ++ st) (fun v sh' M' kc' ks' => gret 0 v (fun w => X (pc + 3) lv (w ++ st) sh' M' kc' ks'))
  exact ⟨hc, ⟨d', mc, ms, hd', hkc, hks, Or.inr hok, gC_mono (fun v sh' M' z => by obtain ⟨rfl, z⟩ := z; exact ⟨rfl, z⟩) h⟩⟩
/-- a constructor under way: arrays made so far -/
def CS (sh0 : List gS) (M0 : gM) (b ci L : Nat) (fs : List (Option Value)) (szs : List (Nat × Nat)) (sh : List gS) (M : gM) : Prop := (sh.length = L + szs.length ∧ gOK sh) ∧ ((∀ c, c < L → c ≠ b → sh[c]? = sh0[c]?) ∧ sh[b]? = some (.inl (ci, fs)) ∧ ∀ j q, szs[j]? = some q → sh[L + j]? = some (.inr (.inl q))) ∧ (∀ c, c < L → M c = M0 c) ∧ ∀ c, L ≤ c → c < L + szs.length → M c = fun _ => 0
theorem CS.i {sh0 : List gS} {M0 : gM} {b ci L : Nat} {fs : List (Option Value)} (hL : sh0.length = L) (hG : gOK sh0) (h0 : sh0[b]? = some (.inl (ci, fs))) : CS sh0 M0 b ci L fs [] sh0 M0 :=
  ⟨⟨hL, hG⟩, ⟨fun _ _ _ => rfl, h0, fun j q h => by cases h⟩, fun _ _ => rfl, fun c h1 h2 => absurd h2 (by show ¬ c < L + 0; omega)⟩
theorem CS.nx {sh0 : List gS} {M0 : gM} {b ci L kd n : Nat} {fs fs' : List (Option Value)} {szs : List (Nat × Nat)} {s1 s2 : List gS} {M1 : gM} (hb : b < L) (hS : CS sh0 M0 b ci L fs szs sh M) (h1 : s1.length = L + szs.length + 1) (h3 : ∀ c, c < L + szs.length → s1[c]? = sh[c]?) (h4 : s1[L + szs.length]? = some (.inr (.inl (kd, n)))) (h5 : ∀ c, c ≠ L + szs.length → M1 c = M c) (h6 : M1 (L + szs.length) = fun _ => 0) (g1 : s2.length = L + szs.length + 1) (g2 : gOK s2) (g3 : ∀ c, c ≠ b → s2[c]? = s1[c]?) (g4 : s2[b]? = some (.inl (ci, fs'))) : CS sh0 M0 b ci L fs' (szs ++ [(kd, n)]) s2 M1 := by
  obtain ⟨⟨a1, a2⟩, ⟨b1, b2, b3⟩, c1, c2⟩ := hS
  have el : (szs ++ [(kd, n)]).length = szs.length + 1 := by rw [List.length_append]; rfl
  refine ⟨⟨by rw [el]; exact g1, g2⟩, ⟨fun c hc hn => ?_, g4, fun j q hj => ?_⟩, fun c hc => ?_, fun c hc1 hc2 => ?_⟩
  · rw [g3 c hn, h3 c (by omega)]; exact b1 c hc hn
  · rw [g3 _ (by omega)]
    by_cases e : j < szs.length
    · rw [List.getElem?_append_left e] at hj
      rw [h3 _ (by omega)]
      exact b3 j q hj
    · have e2 : j = szs.length := by
        have := (List.getElem?_eq_some_iff.mp hj).1
        omega
      subst e2
      rw [List.getElem?_append_right (Nat.le_refl _), Nat.sub_self] at hj
      have e3 : (kd, n) = q := Option.some.inj hj
      rw [h4, e3]
  · rw [h5 c (by omega)]; exact c1 c hc
  · by_cases e : c = L + szs.length
    · rw [e]; exact h6
    · rw [h5 c e]; exact c2 c hc1 (by omega)
theorem s_mkI {sh0 : List gS} {M0 : gM} {b ci n i k t : Nat} {fs fs' : List (Option Value)} {f : Option Value} {szs : List (Nat × Nat)} (hX : gCl cc o nL d MC MS rt ini sc Rt X) (hd : decode cc pc = .ok (.newarray .int, 2)) (hd2 : decode cc (pc + 2) = .ok (.putfield i, 3)) (hp : pc + 5 = q) (hv : v = nI n) (hn : n ≤ 1000) (hq : gfl o i = some (ci, k, t)) (ht : t = 2 ∨ (t = 3 ∧ ini = true ∧ ci = o)) (hS : CS sh0 M0 b ci L fs szs sh M) (hb : b < L) (hL9 : L + szs.length < 900000) (hf : fs[k]? = some f) (hfs : fs.set k (some (.ref (L + szs.length))) = fs') (hkc : kc + 1 ≤ MC) (hks : ks + n ≤ MS) (h : ∀ sh' M', CS sh0 M0 b ci L fs' (szs ++ [(0, n)]) sh' M' → X q [(0, .ref b)] [] sh' M' (kc + 1) (ks + n)) : X pc [(0, .ref b)] [.int v, .ref b] sh M kc ks := by
  have hl := hS.1.1
  refine s_newI (L := L + szs.length) hX hd rfl hv hn hl hkc hks hS.1.2 (gokA_i hS.1.2 (gal_c (gov (Or.inl (by omega))) rfl) (gal_c (gov (Or.inl (by omega))) rfl) (by omega)) (fun s1 m1 h1 h2 h3 h4 h5 h6 => ?_)
  refine s_putN (L := L + szs.length + 1) hX hd2 (by omega) hq ht h1 h2 ((h3 b (by omega)).trans hS.2.1.2.1) hf hfs (by omega) (fun s2 g1 g2 g3 g4 => h s2 m1 (CS.nx hb hS h1 h3 h4 h5 h6 g1 g2 g3 g4))
theorem s_mkB {sh0 : List gS} {M0 : gM} {b ci n i k t : Nat} {fs fs' : List (Option Value)} {f : Option Value} {szs : List (Nat × Nat)} (hX : gCl cc o nL d MC MS rt ini sc Rt X) (hd : decode cc pc = .ok (.newarray .byte, 2)) (hd2 : decode cc (pc + 2) = .ok (.putfield i, 3)) (hp : pc + 5 = q) (hv : v = nI n) (hn : n ≤ 1000) (hq : gfl o i = some (ci, k, t)) (ht : t = 2 ∨ (t = 3 ∧ ini = true ∧ ci = o)) (hS : CS sh0 M0 b ci L fs szs sh M) (hb : b < L) (hL9 : L + szs.length < 900000) (hf : fs[k]? = some f) (hfs : fs.set k (some (.ref (L + szs.length))) = fs') (hkc : kc + 1 ≤ MC) (hks : ks + n ≤ MS) (h : ∀ sh' M', CS sh0 M0 b ci L fs' (szs ++ [(1, n)]) sh' M' → X q [(0, .ref b)] [] sh' M' (kc + 1) (ks + n)) : X pc [(0, .ref b)] [.int v, .ref b] sh M kc ks := by
  have hl := hS.1.1
  refine s_newB (L := L + szs.length) hX hd rfl hv hn hl hkc hks hS.1.2 (gokA_i hS.1.2 (gal_c (gov (Or.inl (by omega))) rfl) (gal_c (gov (Or.inl (by omega))) rfl) (by omega)) (fun s1 m1 h1 h2 h3 h4 h5 h6 => ?_)
  refine s_putN (L := L + szs.length + 1) hX hd2 (by omega) hq ht h1 h2 ((h3 b (by omega)).trans hS.2.1.2.1) hf hfs (by omega) (fun s2 g1 g2 g3 g4 => h s2 m1 (CS.nx hb hS h1 h3 h4 h5 h6 g1 g2 g3 g4))
end SAL
