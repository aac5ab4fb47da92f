/-! THE NUMBERS: a town, what a deed costs a person, over Nat -/
/-- persons, deeds, price; kinds, rations, costs, worths, the plan -/
abbrev gT : Type := Nat × Nat × Nat × (Nat → Nat) × (Nat → Nat) × (Nat → Nat) × (Nat → Nat) × (Nat → Int32)
def gT.P (T : gT) : Nat := T.1
def gT.D (T : gT) : Nat := T.2.1
def gT.pr (T : gT) : Nat := T.2.2.1
def gT.kd (T : gT) : Nat → Nat := T.2.2.2.1
def gT.ra (T : gT) : Nat → Nat := T.2.2.2.2.1
def gT.co (T : gT) : Nat → Nat := T.2.2.2.2.2.1
def gT.wo (T : gT) : Nat → Nat := T.2.2.2.2.2.2.1
def gT.pl (T : gT) : Nat → Int32 := T.2.2.2.2.2.2.2
/-- a good town -/
def gT.ok (T : gT) : Prop := T.P ≤ 6 ∧ T.D ≤ 6 ∧ T.pr ≤ 9 ∧ (∀ i, i < T.P → T.kd i ≤ 4) ∧ (∀ j, j < 3 * T.P → T.ra j ≤ 9) ∧ (∀ j, j < 3 * T.D → T.co j ≤ 4) ∧ (∀ k, k < T.D → T.wo k ≤ 9) ∧ (∀ j, j < 7 * T.P → T.pl j = -4 ∨ ∃ k, k < T.D ∧ T.pl j = nI k)
/-- the shape of a Town at t -/
def isTown (sh : List gS) (t : Nat) : Prop := sh[t]? = some (.inl (4, [some (.ref (t + 1)), some (.ref (t + 2)), some (.ref (t + 3)), some (.ref (t + 4)), some (.ref (t + 5)), some (.ref (t + 6)), none, none, none])) ∧ sh[t + 1]? = some (.inr (.inl (0, 6))) ∧ sh[t + 2]? = some (.inr (.inl (0, 18))) ∧ sh[t + 3]? = some (.inr (.inl (0, 18))) ∧ sh[t + 4]? = some (.inr (.inl (0, 6))) ∧ sh[t + 5]? = some (.inr (.inl (0, 42))) ∧ sh[t + 6]? = some (.inr (.inl (0, 3)))
/-- what a Town at t holds -/
def TWN (M : gM) (t : Nat) (T : gT) : Prop := M t 6 = nI T.P ∧ M t 7 = nI T.D ∧ M t 8 = nI T.pr ∧ (∀ i, i < T.P → M (t + 1) i = nI (T.kd i)) ∧ (∀ j, j < 3 * T.P → M (t + 2) j = nI (T.ra j)) ∧ (∀ j, j < 3 * T.D → M (t + 3) j = nI (T.co j)) ∧ (∀ k, k < T.D → M (t + 4) k = nI (T.wo k)) ∧ (∀ j, j < 7 * T.P → M (t + 5) j = T.pl j)
theorem TWN.keep {M M' : gM} {t : Nat} {T : gT} (h : TWN M t T) (hM : ∀ c, t ≤ c → c ≤ t + 5 → M' c = M c) : TWN M' t T := by
  obtain ⟨h1, h2, h3, h4, h5, h6, h7, h8⟩ := h
  unfold TWN
  rw [hM t (by omega) (by omega), hM (t + 1) (by omega) (by omega), hM (t + 2) (by omega) (by omega), hM (t + 3) (by omega) (by omega), hM (t + 4) (by omega) (by omega), hM (t + 5) (by omega) (by omega)]
  exact ⟨h1, h2, h3, h4, h5, h6, h7, h8⟩
/-- the cost of a deed (of three sorts) for one of kind kd -/
def pcs (kd : Nat) (c : Nat → Nat) : Nat → Nat := fun s =>
  if kd = 3 ∧ 1 < c 0 + c 1 + c 2 then (if 0 < c 0 then (if s = 0 then c 0 - 1 else c s) else if 0 < c 1 then (if s = 1 then c 1 - 1 else c s) else (if s = 2 then c 2 - 1 else c s)) else c s
/-- how many are wanting, of the first n sorts -/
def lck (c h : Nat → Nat) : Nat → Nat
  | 0 => 0
  | n + 1 => lck c h n + (c n - h n)
/-- the richest sort behind the cost -/
def rich (c h : Nat → Nat) : Nat := if h 0 - c 0 < h 1 - c 1 then (if h 1 - c 1 < h 2 - c 2 then 2 else 1) else (if h 0 - c 0 < h 2 - c 2 then 2 else 0)
def mnc (c h : Nat → Nat) : Nat → Nat := fun s => if h s < c s then h s else c s
def canC (kd : Nat) (c h : Nat → Nat) : Bool := decide (lck c h 3 = 0) || (decide (lck c h 3 = 1) && decide (kd = 4) && decide (2 ≤ h (rich (mnc c h) h) - mnc c h (rich (mnc c h) h)))
def payC (c h : Nat → Nat) : Nat → Nat := fun s => if lck c h 3 = 0 then c s else if s = rich (mnc c h) h then mnc c h s + 2 else mnc c h s
/-- the cost of deed k to person i -/
def gT.cs (T : gT) (i k : Nat) : Nat → Nat := pcs (T.kd i) (fun s => T.co (3 * k + s))
/-- whether person i, who has h, can do deed k -/
def gT.can (T : gT) (i k : Nat) (h : Nat → Nat) : Bool := canC (T.kd i) (T.cs i k) h
def gT.pay (T : gT) (i k : Nat) (h : Nat → Nat) : Nat → Nat := payC (T.cs i k) h
theorem gsr_gsr (M : gM) (a : Nat) (f g : Nat → Int32) : gsr (gsr M a f) a g = gsr M a g := by
  funext c
  by_cases h : c = a <;> simp [gsr, h]
theorem gqe {Q : Option Value → List gS → gM → Prop} {v : Option Value} {sh : List gS} {M M' : gM} (h : Q v sh M') (e : M = M') : Q v sh M := e ▸ h
theorem gqv {Q : Option Value → List gS → gM → Prop} {v v' : Int32} {sh : List gS} {M M' : gM} (h : Q (some (.int v')) sh M') (ev : v = v') (e : M = M') : Q (some (.int v)) sh M := by rw [ev, e]; exact h
theorem gif_t {p : Prop} [Decidable p] (h : ¬ (if p then (1 : Int32) else 0) = 0) : p := by
  by_cases z : p
  · exact z
  · rw [if_neg z] at h; exact absurd rfl h
theorem gif_f {p : Prop} [Decidable p] (h : (if p then (1 : Int32) else 0) = 0) : ¬ p := by
  intro z; rw [if_pos z] at h; exact absurd h (by decide)
theorem gsub0 {a b : Nat} (ha : a < 1000000) (hb : b < 1000000) : nI a - nI b ≤ 0 ↔ a ≤ b := by
  rw [Int32.le_iff_toInt_le, pk_sub_toInt (by omega) (by omega)]
  show (a : Int) - b ≤ 0 ↔ _
  omega
theorem s_dl {cc : ByteArray} {o nL d MC MS rt : Nat} {ini : Bool} {sc : Option (Nat × (Nat → Int32))} {Rt : gRt} {X : gX} {pc : Nat} {lv : List (Nat × Value)} {st : List Value} {sh : List gS} {M : gM} {kc ks : Nat} (hX : gCl cc o nL d MC MS rt ini sc Rt X) (h : X pc lv.dropLast st sh M kc ks) : X pc lv st sh M kc ks := s_lv hX (fun _ hq => List.dropLast_subset lv hq) h
theorem lck_one {c h : Nat → Nat} (h1 : lck c h 3 = 1) : ∃ r, r < 3 ∧ c r = h r + 1 ∧ ∀ s, s < 3 → s ≠ r → c s ≤ h s := by
  have h2 : 0 + (c 0 - h 0) + (c 1 - h 1) + (c 2 - h 2) = 1 := h1
  rcases (show (c 0 = h 0 + 1 ∧ c 1 ≤ h 1 ∧ c 2 ≤ h 2) ∨ (c 1 = h 1 + 1 ∧ c 0 ≤ h 0 ∧ c 2 ≤ h 2) ∨ (c 2 = h 2 + 1 ∧ c 0 ≤ h 0 ∧ c 1 ≤ h 1) by omega) with z | z | z
  · refine ⟨0, by omega, z.1, fun s hs hn => ?_⟩
    rcases (show s = 1 ∨ s = 2 by omega) with rfl | rfl
    · exact z.2.1
    · exact z.2.2
  · refine ⟨1, by omega, z.1, fun s hs hn => ?_⟩
    rcases (show s = 0 ∨ s = 2 by omega) with rfl | rfl
    · exact z.2.1
    · exact z.2.2
  · refine ⟨2, by omega, z.1, fun s hs hn => ?_⟩
    rcases (show s = 0 ∨ s = 1 by omega) with rfl | rfl
    · exact z.2.1
    · exact z.2.2
def pay3 (f b : Nat → Int32) (a : Nat) : Nat → Int32 := fun j => if j = a then f a - b 0 else if j = a + 1 then f (a + 1) - b 1 else if j = a + 2 then f (a + 2) - b 2 else f j
