/-! A STREET: thimbles, coins, worth, days -/
abbrev gU : Type := (Nat → Nat) × (Nat → Int32) × (Nat → Int32) × Nat
def gU.h (U : gU) : Nat → Nat := U.1
def gU.c (U : gU) : Nat → Int32 := U.2.1
def gU.w (U : gU) : Nat → Int32 := U.2.2.1
def gU.d (U : gU) : Nat := U.2.2.2
def gU.tr (U : gU) (i : Nat) : Nat → Nat := fun s => U.h (3 * i + s)
def gU.ok (U : gU) (P : Nat) : Prop := (∀ j, j < 3 * P → U.h j ≤ 99) ∧ U.d ≤ 100000
def isStreet (sh : List gS) (s : Nat) : Prop := sh[s]? = some (.inl (3, [some (.ref (s + 1)), some (.ref (s + 2)), some (.ref (s + 3)), none])) ∧ sh[s + 1]? = some (.inr (.inl (0, 18))) ∧ sh[s + 2]? = some (.inr (.inl (0, 6))) ∧ sh[s + 3]? = some (.inr (.inl (0, 6)))
def STR (M : gM) (s P : Nat) (U : gU) : Prop := M s 3 = nI U.d ∧ (∀ j, j < 3 * P → M (s + 1) j = nI (U.h j)) ∧ (∀ i, i < P → M (s + 2) i = U.c i) ∧ (∀ i, i < P → M (s + 3) i = U.w i)
theorem STR.keep {M M' : gM} {s P : Nat} {U : gU} (h : STR M s P U) (hM : ∀ c, s ≤ c → c ≤ s + 3 → M' c = M c) : STR M' s P U := by
  obtain ⟨h1, h2, h3, h4⟩ := h
  unfold STR
  rw [hM s (by omega) (by omega), hM (s + 1) (by omega) (by omega), hM (s + 2) (by omega) (by omega), hM (s + 3) (by omega) (by omega)]
  exact ⟨h1, h2, h3, h4⟩
/-- town and street lie apart -/
def apart (t s : Nat) : Prop := t + 6 < s ∨ s + 3 < t
/-- only the street at s and the bill of the town at t have changed -/
def FR (M M' : gM) (t s : Nat) : Prop := ∀ c, c ≠ t + 6 → (c < s ∨ s + 3 < c) → M' c = M c
theorem FR.rf {M : gM} {t s : Nat} : FR M M t s := fun _ _ _ => rfl
theorem FR.tr {M M1 M2 : gM} {t s : Nat} (h1 : FR M M1 t s) (h2 : FR M1 M2 t s) : FR M M2 t s := fun c a b => (h2 c a b).trans (h1 c a b)
theorem FR.twn {M M' : gM} {t s : Nat} {T : gT} (h : FR M M' t s) (ha : apart t s) (hW : TWN M t T) : TWN M' t T := hW.keep (fun c h1 h2 => h c (by omega) (by unfold apart at ha; omega))
def gT.act (T : gT) (i k : Nat) (U : gU) : gU := if T.can i k (U.tr i) = true then (fun j => if j / 3 = i then U.h j - T.pay i k (U.tr i) (j % 3) else U.h j, U.c, upd U.w i (U.w i + nI (T.wo k)), U.d) else U
def gT.told1 (T : gT) (i : Nat) (U : gU) : gU := if T.pl (7 * i + U.d % 7) = -4 then U else T.act i (T.pl (7 * i + U.d % 7)).toNatClampNeg U
def gT.told (T : gT) : Nat → gU → gU
  | 0, U => U
  | n + 1, U => T.told1 n (T.told n U)
def gT.sea (T : gT) (U : gU) : gU := (fun j => if T.kd (j / 3) = 2 ∧ j % 3 = 2 then U.h j - 1 else U.h j, U.c, U.w, U.d)
def gT.rn (T : gT) (i : Nat) (h : Nat → Nat) (s : Nat) : Nat := min 99 ((if T.kd i = 1 then h s else 0) + T.ra (3 * i + s))
def gT.over (T : gT) (U : gU) : gU := (if U.d % 7 = 6 then (fun j => T.rn (j / 3) (U.tr (j / 3)) (j % 3)) else U.h, U.c, U.w, U.d + 1)
def gT.day (T : gT) (U : gU) : gU := T.over (T.sea (T.told T.P U))
def gT.days (T : gT) : Nat → gU → gU
  | 0, U => U
  | n + 1, U => T.days n (T.day U)
def hueN (h : Nat → Nat) : Nat := (if 0 < h 0 then 1 else 0) + (if 0 < h 1 then 2 else 0) + (if 0 < h 2 then 4 else 0)
theorem hueN_lt (h : Nat → Nat) : hueN h < 8 := by unfold hueN; (repeat' split) <;> omega
theorem gmin {a b : Nat} (ha : a < 2 ^ 31) (hb : b < 2 ^ 31) : (if nI a ≤ nI b then nI a else nI b) = nI (min a b) := by
  by_cases h : a ≤ b
  · rw [if_pos ((nI_leI ha hb).mpr h), Nat.min_eq_left h]
  · rw [if_neg (fun z => h ((nI_leI ha hb).mp z)), Nat.min_eq_right (by omega)]
theorem payC_le {kd : Nat} {c h : Nat → Nat} (hc : canC kd c h = true) : ∀ s, s < 3 → payC c h s ≤ h s := by
  intro s hs
  unfold payC
  by_cases h0 : lck c h 3 = 0
  · rw [if_pos h0]
    have h1 : 0 + (c 0 - h 0) + (c 1 - h 1) + (c 2 - h 2) = 0 := h0
    rcases (show s = 0 ∨ s = 1 ∨ s = 2 by omega) with rfl | rfl | rfl <;> omega
  · rw [if_neg h0]
    simp only [canC, Bool.or_eq_true, Bool.and_eq_true, decide_eq_true_eq] at hc
    have hc := (hc.resolve_left h0).2
    have hm : mnc c h s ≤ h s := by unfold mnc; split <;> omega
    split
    · next e => rw [e]; rw [e] at hm; omega
    · exact hm
theorem pay3_rep {f b : Nat → Int32} {h p : Nat → Nat} {i P : Nat} (hf : ∀ j, j < 3 * P → f j = nI (h j)) (hb : ∀ s, s < 3 → b s = nI (p s)) (hp : ∀ s, s < 3 → p s ≤ h (3 * i + s)) (hi : i < P) {j : Nat} (hj : j < 3 * P) : pay3 f b (i * 3) j = nI (if j / 3 = i then h j - p (j % 3) else h j) := by
  unfold pay3
  have key : ∀ s, s < 3 → f (i * 3 + s) - b s = nI (h (3 * i + s) - p s) := by
    intro s hs
    rw [hf (i * 3 + s) (by omega), hb s hs, show i * 3 + s = 3 * i + s by omega]
    exact pk_sub (hp s hs)
  by_cases e0 : j = i * 3
  · rw [if_pos e0, if_pos (by omega), show f (i * 3) = f (i * 3 + 0) from rfl, key 0 (by omega), show j % 3 = 0 by omega, show j = 3 * i + 0 by omega]
  · rw [if_neg e0]
    by_cases e1 : j = i * 3 + 1
    · rw [if_pos e1, if_pos (by omega), key 1 (by omega), show j % 3 = 1 by omega, show j = 3 * i + 1 by omega]
    · rw [if_neg e1]
      by_cases e2 : j = i * 3 + 2
      · rw [if_pos e2, if_pos (by omega), key 2 (by omega), show j % 3 = 2 by omega, show j = 3 * i + 2 by omega]
      · rw [if_neg e2, if_neg (by omega)]
        exact hf j hj
theorem gT.act_ok {T : gT} {i k P : Nat} {U : gU} (h : U.ok P) : (T.act i k U).ok P ∧ (T.act i k U).d = U.d := by
  unfold gT.act
  split
  · refine ⟨⟨fun j hj => ?_, h.2⟩, rfl⟩
    show (if j / 3 = i then U.h j - _ else U.h j) ≤ 99
    have := h.1 j hj
    split <;> omega
  · exact ⟨h, rfl⟩
theorem gT.told1_ok {T : gT} {i P : Nat} {U : gU} (h : U.ok P) : (T.told1 i U).ok P ∧ (T.told1 i U).d = U.d := by
  unfold gT.told1
  split
  · exact ⟨h, rfl⟩
  · exact T.act_ok h
theorem gT.told_ok {T : gT} {P : Nat} {U : gU} (h : U.ok P) : ∀ n, (T.told n U).ok P ∧ (T.told n U).d = U.d
  | 0 => ⟨h, rfl⟩
  | n + 1 => by
    obtain ⟨h1, h2⟩ := T.told_ok h n
    obtain ⟨h3, h4⟩ := T.told1_ok (i := n) h1
    exact ⟨h3, h4.trans h2⟩
theorem gT.sea_ok {T : gT} {P : Nat} {U : gU} (h : U.ok P) : (T.sea U).ok P := by
  refine ⟨fun j hj => ?_, h.2⟩
  have h0 := h.1 j hj
  show (if T.kd (j / 3) = 2 ∧ j % 3 = 2 then U.h j - 1 else U.h j) ≤ 99
  split
  · exact Nat.le_trans (Nat.sub_le _ _) h0
  · exact h0
theorem gT.over_h {T : gT} {P : Nat} {U : gU} (h : U.ok P) : ∀ j, j < 3 * P → (T.over U).h j ≤ 99 := by
  intro j hj
  show (if U.d % 7 = 6 then (fun j => T.rn (j / 3) (U.tr (j / 3)) (j % 3)) else U.h) j ≤ 99
  split
  · show min 99 _ ≤ 99
    exact Nat.min_le_left _ _
  · exact h.1 j hj
theorem gT.day_ok {T : gT} {P : Nat} {U : gU} (h : U.ok P) (hd : U.d < 100000) : (T.day U).ok P ∧ (T.day U).d = U.d + 1 := by
  obtain ⟨h1, h2⟩ := T.told_ok h T.P
  have h3 := T.sea_ok h1
  have e : (T.day U).d = U.d + 1 := by
    show (T.told T.P U).d + 1 = _
    rw [h2]
  exact ⟨⟨T.over_h h3, by rw [e]; omega⟩, e⟩
theorem gT.days_ok {T : gT} {P : Nat} : ∀ (n : Nat) {U : gU}, U.ok P → U.d + n ≤ 100000 → (T.days n U).ok P ∧ (T.days n U).d = U.d + n
  | 0, U, h, _ => ⟨h, rfl⟩
  | n + 1, U, h, hd => by
    obtain ⟨h1, h2⟩ := T.day_ok h (by omega)
    obtain ⟨h3, h4⟩ := T.days_ok n h1 (by omega)
    exact ⟨h3, by show (T.days n (T.day U)).d = _; rw [h4, h2]; omega⟩
/-- the first n persons, sea and ration -/
def gT.seaN (T : gT) (n : Nat) (U : gU) : gU := (fun j => if j / 3 < n ∧ T.kd (j / 3) = 2 ∧ j % 3 = 2 then U.h j - 1 else U.h j, U.c, U.w, U.d)
def gT.ovrN (T : gT) (n : Nat) (U : gU) : gU := (fun j => if j / 3 < n then T.rn (j / 3) (U.tr (j / 3)) (j % 3) else U.h j, U.c, U.w, U.d)
def gT.U0 (T : gT) : gU := (T.ra, fun _ => 0, fun _ => 0, 0)
def gU.gc (U : gU) : Nat → Nat
  | 0 => 0
  | n + 1 => U.gc n + (if hueN (U.tr n) = 0 then 1 else 0)
theorem gU.gc_le (U : gU) : ∀ n, U.gc n ≤ n
  | 0 => Nat.le_refl 0
  | n + 1 => by
    have := U.gc_le n
    show U.gc n + (if hueN (U.tr n) = 0 then 1 else 0) ≤ n + 1
    split <;> omega
/-- the first of n who is grey -/
def gU.fg (U : gU) : Nat → Option Nat
  | 0 => none
  | n + 1 => match U.fg n with
    | some i => some i
    | none => if hueN (U.tr n) = 0 then some n else none
theorem gU.fg_up (U : gU) {i : Nat} : ∀ {n m : Nat}, U.fg n = some i → n ≤ m → U.fg m = some i := by
  intro n m h hm
  induction m with
  | zero =>
    have : n = 0 := by omega
    subst this; exact h
  | succ m ih =>
    by_cases e : n = m + 1
    · subst e; exact h
    · show (match U.fg m with
        | some i => some i
        | none => if hueN (U.tr m) = 0 then some m else none) = some i
      rw [ih (by omega)]
def sumI (f : Nat → Int32) : Nat → Int32
  | 0 => 0
  | n + 1 => sumI f n + f n
/-- who of the first n has most of a sort, of several the lowest -/
def gU.mx (U : gU) (s : Nat) : Nat → Nat
  | 0 => 0
  | n + 1 => if n = 0 then 0 else if U.h (3 * U.mx s n + s) < U.h (3 * n + s) then n else U.mx s n
theorem gU.mx_lt (U : gU) (s : Nat) : ∀ n, 0 < n → U.mx s n < n := by
  intro n
  induction n with
  | zero => intro h; omega
  | succ n ih =>
    intro _
    show (if n = 0 then 0 else if U.h (3 * U.mx s n + s) < U.h (3 * n + s) then n else U.mx s n) < n + 1
    split
    · omega
    · next h =>
      have := ih (by omega)
      split <;> omega
def gU.tk (U : gU) (j0 : Nat) : gU := (fun j => if j = j0 then U.h j - 1 else U.h j, U.c, U.w, U.d)
def drawN (z k i : Nat) : Nat := (7919 * z + 6151 * k + 331 * i + 1) * (7919 * z + 6151 * k + 331 * i + 1) % 65521 / 8
def gT.drw1 (T : gT) (z k i : Nat) (U : gU) : gU := if drawN z k i % (T.D + 1) < T.D then T.act i (drawN z k i % (T.D + 1)) U else U
def gT.drw (T : gT) (z k : Nat) : Nat → gU → gU
  | 0, U => U
  | n + 1, U => T.drw1 z k n (T.drw z k n U)
theorem gT.drw_ok {T : gT} {P z k : Nat} {U : gU} (h : U.ok P) : ∀ n, (T.drw z k n U).ok P ∧ (T.drw z k n U).d = U.d
  | 0 => ⟨h, rfl⟩
  | n + 1 => by
    obtain ⟨h1, h2⟩ := T.drw_ok (z := z) (k := k) h n
    show (T.drw1 z k n (T.drw z k n U)).ok P ∧ (T.drw1 z k n (T.drw z k n U)).d = U.d
    unfold gT.drw1
    split
    · obtain ⟨h3, h4⟩ := T.act_ok (i := n) (k := drawN z k n % (T.D + 1)) h1
      exact ⟨h3, h4.trans h2⟩
    · exact ⟨h1, h2⟩
theorem drawN_lt (z k i : Nat) : drawN z k i < 8191 := by
  unfold drawN
  have : (7919 * z + 6151 * k + 331 * i + 1) * (7919 * z + 6151 * k + 331 * i + 1) % 65521 < 65521 := Nat.mod_lt _ (by decide)
  omega
theorem gif_f2 {p : Prop} [Decidable p] (h : ¬ ¬ (if p then (1 : Int32) else 0) = 0) : ¬ p := by
  intro z; rw [if_pos z] at h; exact h (by decide)
theorem gnI4 {k : Nat} (h : k < 100) : ¬ nI k = -4 := by
  intro z
  have h1 := congrArg Int32.toInt z
  rw [nI_toInt (by omega)] at h1
  have h2 : (-4 : Int32).toInt = -4 := by decide
  rw [h2] at h1
  omega
theorem gdraw {z k i : Nat} (hz : z ≤ 9999) (hk : k ≤ 60) (hi : i ≤ 6) : (lrm ((7919 * lN z + 6151 * lN k + 331 * lN i + 1) * (7919 * lN z + 6151 * lN k + 331 * lN i + 1)) 65521 / 8).toInt32 = nI (drawN z k i) := by
  have e : (7919 * lN z + 6151 * lN k + 331 * lN i + 1 : Int64) = lN (7919 * z + 6151 * k + 331 * i + 1) := by
    rw [show (7919 : Int64) = lN 7919 from rfl, show (6151 : Int64) = lN 6151 from rfl, show (331 : Int64) = lN 331 from rfl, show (1 : Int64) = lN 1 from rfl, lN_mul, lN_mul, lN_mul, lN_add, lN_add, lN_add]
  have hb : 7919 * z + 6151 * k + 331 * i + 1 ≤ 80000000 := by omega
  have hb2 : (7919 * z + 6151 * k + 331 * i + 1) * (7919 * z + 6151 * k + 331 * i + 1) ≤ 80000000 * 80000000 := Nat.mul_le_mul hb hb
  have hr : ∀ n : Nat, n % 65521 < 65521 := fun n => Nat.mod_lt _ (by decide)
  rw [e, lN_mul, lrm, show (65521 : Int64) = lN 65521 from rfl, show (8 : Int64) = lN 8 from rfl]
  rw [pk_lRem (Nat.lt_of_le_of_lt hb2 (by decide)) (by decide) (by decide), pk_lDiv (Nat.lt_trans (hr _) (by decide)) (by decide) (by decide), lN_i]
  rfl
