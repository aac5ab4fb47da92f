/-! A STREET: thimbles, coins, worth, days -/
abbrev gU : Type := (Nat → Nat) × (Nat → Int32) × (Nat → Int32) × Nat
def gU.h (U : gU) : Nat → Nat := U.1
def gU.c (U : gU) : Nat → Int32 := U.2.1
def gU.w (U : gU) : Nat → Int32 := U.2.2.1
def gU.d (U : gU) : Nat := U.2.2.2
def gU.tr (U : gU) (i : Nat) : Nat → Nat := fun s => U.h (3 * i + s)
def gU.ok (U : gU) (P : Nat) : Prop := (∀ j, j < 3 * P → U.h j ≤ 99) ∧ U.d ≤ 100000
def isStreet (sh : List gS) (s : Nat) : Prop := sh[s]? = some (.inl (3, [some (.ref (s + 1)), some (.ref (s + 2)), some (.ref (s + 3)), none])) ∧ sh[s + 1]? = some (.inr (.inl (0, 18))) ∧ sh[s + 2]? = some (.inr (.inl (0, 6))) ∧ sh[s + 3]? = some (.inr (.inl (0, 6)))
def STR (M : gM) (s P : Nat) (U : gU) : Prop := M s 3 = nI U.d ∧ (∀ j, j < 3 * P → M (s + 1) j = nI (U.h j)) ∧ (∀ i, i < P → M (s + 2) i = U.c i) ∧ (∀ i, i < P → M (s + 3) i = U.w i)
theorem STR.keep {M M' : gM} {s P : Nat} {U : gU} (h : STR M s P U) (hM : ∀ c, s ≤ c → c ≤ s + 3 → M' c = M c) : STR M' s P U := by
  obtain ⟨h1, h2, h3, h4⟩ := h
  unfold STR
  rw [hM s (by omega) (by omega), hM (s + 1) (by omega) (by omega), hM (s + 2) (by omega) (by omega), hM (s + 3) (by omega) (by omega)]
  exact ⟨h1, h2, h3, h4⟩
/-- town and street lie apart -/
def apart (t s : Nat) : Prop := t + 6 < s ∨ s + 3 < t
/-- only the street at s and the bill of the town at t have changed -/
def FR (M M' : gM) (t s : Nat) : Prop := ∀ c, c ≠ t + 6 → (c < s ∨ s + 3 < c) → M' c = M c
theorem FR.rf {M : gM} {t s : Nat} : FR M M t s := fun _ _ _ => rfl
theorem FR.tr {M M1 M2 : gM} {t s : Nat} (h1 : FR M M1 t s) (h2 : FR M1 M2 t s) : FR M M2 t s := fun c a b => (h2 c a b).trans (h1 c a b)
theorem FR.twn {M M' : gM} {t s : Nat} {T : gT} (h : FR M M' t s) (ha : apart t s) (hW : TWN M t T) : TWN M' t T := hW.keep (fun c h1 h2 => h c (by omega) (by unfold apart at ha; omega))
def gT.act (T : gT) (i k : Nat) (U : gU) : gU := if T.can i k (U.tr i) = true then (fun j => if j / 3 = i then U.h j - T.pay i k (U.tr i) (j % 3) else U.h j, U.c, upd U.w i (U.w i + nI (T.wo k)), U.d) else U
def gT.told1 (T : gT) (i : Nat) (U : gU) : gU := if T.pl (7 * i + U.d % 7) = -4 then U else T.act i (T.pl (7 * i + U.d % 7)).toNatClampNeg U
def gT.told (T : gT) : Nat → gU → gU
  | 0, U => U
  | n + 1, U => T.told1 n (T.told n U)
def gT.sea (T : gT) (U : gU) : gU := (fun j => if T.kd (j / 3) = 2 ∧ j % 3 = 2 then U.h j - 1 else U.h j, U.c, U.w, U.d)
def gT.rn (T : gT) (i : Nat) (h : Nat → Nat) (s : Nat) : Nat := min 99 ((if T.kd i = 1 then h s else 0) + T.ra (3 * i + s))
def gT.over (T : gT) (U : gU) : gU := (if U.d % 7 = 6 then (fun j => T.rn (j / 3) (U.tr (j / 3)) (j % 3)) else U.h, U.c, U.w, U.d + 1)
def gT.day (T : gT) (U : gU) : gU := T.over (T.sea (T.told T.P U))
def gT.days (T : gT) : Nat → gU → gU
  | 0, U => U
  | n + 1, U => T.days n (T.day U)
def hueN (h : Nat → Nat) : Nat := (if 0 < h 0 then 1 else 0) + (if 0 < h 1 then 2 else 0) + (if 0 < h 2 then 4 else 0)
theorem hueN_lt (h : Nat → Nat) : hueN h < 8 := by unfold hueN; (repeat' split) <;> omega
theorem gmin {a b : Nat} (ha : a < 2 ^ 31) (hb : b < 2 ^ 31) : (if nI a ≤ nI b then nI a else nI b) = nI (min a b) := by
  by_cases h : a ≤ b
  · rw [if_pos ((nI_leI ha hb).mpr h), Nat.min_eq_left h]
  · rw [if_neg (fun z => h ((nI_leI ha hb).mp z)), Nat.min_eq_right (by omega)]
theorem payC_le {kd : Nat} {c h : Nat → Nat} (hc : canC kd c h = true) : ∀ s, s < 3 → payC c h s ≤ h s := by
  intro s hs
  unfold payC
  by_cases h0 : lck c h 3 = 0
  · rw [if_pos h0]
    have h1 : 0 + (c 0 - h 0) + (c 1 - h 1) + (c 2 - h 2) = 0 := h0
    rcases (show s = 0 ∨ s = 1 ∨ s = 2 by omega) with rfl | rfl | rfl <;> omega
  · rw [if_neg h0]
    simp only [canC, Bool.or_eq_true, Bool.and_eq_true, decide_eq_true_eq] at hc
    have hc := (hc.resolve_left h0).2
    have hm : mnc c h s ≤ h s := by unfold mnc; split <;> omega
    split
    · next e => rw [e]; rw [e] at hm; omega
    · exact hm
theorem pay3_rep {f b : Nat → Int32} {h p : Nat → Nat} {i P : Nat} (hf : ∀ j, j < 3 * P → f j = nI (h j)) (hb : ∀ s, s < 3 → b s = nI (p s)) (hp : ∀ s, s < 3 → p s ≤ h (3 * i + s)) (hi : i < P) {j : Nat} (hj : j < 3 * P) : pay3 f b (i * 3) j = nI (if j / 3 = i then h j - p (j % 3) else h j) := by
  unfold pay3
  have key : ∀ s, s < 3 → f (i * 3 + s) - b s = nI (h (3 * i + s) - p s) := by
    intro s hs
    rw [hf (i * 3 + s) (by omega), hb s hs, show i * 3 + s = 3 * i + s by omega]
    exact pk_sub (hp s hs)
  by_cases e0 : j = i * 3
  · rw [if_pos e0, if_pos (by omega), show f (i * 3) = f (i * 3 + 0) from rfl, key 0 (by omega), show j % 3 = 0 by omega, show j = 3 * i + 0 by omega]
  · rw [if_neg e0]
    by_cases e1 : j = i * 3 + 1
    · rw [if_pos e1, if_pos (by omega), key 1 (by omega), show j % 3 = 1 by omega, show j = 3 * i + 1 by omega]
    · rw [if_neg e1]
      by_cases e2 : j = i * 3 + 2
      · rw [if_pos e2, if_pos (by omega), key 2 (by omega), show j % 3 = 2 by omega, show j = 3 * i + 2 by omega]
      · rw [if_neg e2, if_neg (by omega)]
        exact hf j hj
theorem gT.act_ok {T : gT} {i k P : Nat} {U : gU} (h : U.ok P) : (T.act i k U).ok P ∧ (T.act i k U).d = U.d := by
  unfold gT.act
  split
  · refine ⟨⟨fun j hj => ?_, h.2⟩, rfl⟩
    show (if j / 3 = i then U.h j - _ else U.h j) ≤ 99
    have := h.1 j hj
    split <;> omega
  · exact ⟨h, rfl⟩
theorem gT.told1_ok {T : gT} {i P : Nat} {U : gU} (h : U.ok P) : (T.told1 i U).ok P ∧ (T.told1 i U).d = U.d := by
  unfold gT.told1
  split
  · exact ⟨h, rfl⟩
  · exact T.act_ok h
theorem gT.told_ok {T : gT} {P : Nat} {U : gU} (h : U.ok P) : ∀ n, (T.told n U).ok P ∧ (T.told n U).d = U.d
  | 0 => ⟨h, rfl⟩
  | n + 1 => by
    obtain ⟨h1, h2⟩ := T.told_ok h n
    obtain ⟨h3, h4⟩ := T.told1_ok (i := n) h1
    exact ⟨h3, h4.trans h2⟩
theorem gT.sea_ok {T : gT} {P : Nat} {U : gU} (h : U.ok P) : (T.sea U).ok P := by
  refine ⟨fun j hj => ?_, h.2⟩
  have h0 := h.1 j hj
  show (if T.kd (j / 3) = 2 ∧ j % 3 = 2 then U.h j - 1 else U.h j) ≤ 99
  split
  · exact Nat.le_trans (Nat.sub_le _ _) h0
  · exact h0
theorem gT.over_h {T : gT} {P : Nat} {U : gU} (h : U.ok P) : ∀ j, j < 3 * P → (T.over U).h j ≤ 99 := by
  intro j hj
  show (if U.d % 7 = 6 then (fun j => T.rn (j / 3) (U.tr (j / 3)) (j % 3)) else U.h) j ≤ 99
  split
  · show min 99 _ ≤ 99
    exact Nat.min_le_left _ _
  · exact h.1 j hj
theorem gT.day_ok {T : gT} {P : Nat} {U : gU} (h : U.ok P) (hd : U.d < 100000) : (T.day U).ok P ∧ (T.day U).d = U.d + 1 := by
  obtain ⟨h1, h2⟩ := T.told_ok h T.P
  have h3 := T.sea_ok h1
  have e : (T.day U).d = U.d + 1 := by
    show (T.told T.P U).d + 1 = _
    rw [h2]
  exact ⟨⟨T.over_h h3, by rw [e]; omega⟩, e⟩
theorem gT.days_ok {T : gT} {P : Nat} : ∀ (n : Nat) {U : gU}, U.ok P → U.d + n ≤ 100000 → (T.days n U).ok P ∧ (T.days n U).d = U.d + n
  | 0, U, h, _ => ⟨h, rfl⟩
  | n + 1, U, h, hd => by
    obtain ⟨h1, h2⟩ := T.day_ok h (by omega)
    obtain ⟨h3, h4⟩ := T.days_ok n h1 (by omega)
    exact ⟨h3, by show (T.days n (T.day U)).d = _; rw [h4, h2]; omega⟩
