/-! WHAT IS SEEN: how many; who, on which day, of what hue -/
abbrev gN : Type := Nat × (Nat → Nat) × (Nat → Nat) × (Nat → Nat)
def gN.n (N : gN) : Nat := N.1
def gN.wh (N : gN) : Nat → Nat := N.2.1
def gN.wn (N : gN) : Nat → Nat := N.2.2.1
def gN.hu (N : gN) : Nat → Nat := N.2.2.2
def gN.ok (N : gN) : Prop := N.n ≤ 7 ∧ ∀ j, j < N.n → N.wh j < 6 ∧ (1 ≤ N.wn j ∧ N.wn j ≤ 4) ∧ N.hu j ≤ 7
def isWit (sh : List gS) (e : Nat) : Prop := sh[e]? = some (.inl (5, [some (.ref (e + 1)), some (.ref (e + 2)), some (.ref (e + 3)), some (.ref (e + 4)), some (.ref (e + 5)), some (.ref (e + 6)), none, none])) ∧ sh[e + 1]? = some (.inr (.inl (0, 7))) ∧ sh[e + 2]? = some (.inr (.inl (0, 7))) ∧ sh[e + 3]? = some (.inr (.inl (0, 7))) ∧ sh[e + 4]? = some (.inr (.inl (0, 15))) ∧ sh[e + 5]? = some (.inr (.inl (0, 4))) ∧ sh[e + 6]? = some (.inr (.inl (0, 4)))
def WIT (M : gM) (e : Nat) (N : gN) : Prop := M e 6 = nI N.n ∧ ∀ j, j < N.n → M (e + 1) j = nI (N.wh j) ∧ M (e + 2) j = nI (N.wn j) ∧ M (e + 3) j = nI (N.hu j)
theorem WIT.keep {M M' : gM} {e : Nat} {N : gN} (h : WIT M e N) (h0 : M' e 6 = M e 6) (h1 : M' (e + 1) = M (e + 1)) (h2 : M' (e + 2) = M (e + 2)) (h3 : M' (e + 3) = M (e + 3)) : WIT M' e N := by
  unfold WIT; rw [h0, h1, h2, h3]; exact h
def gN.add (N : gN) (i d u : Nat) : gN := (N.n + 1, fun j => if j = N.n then i else N.wh j, fun j => if j = N.n then d else N.wn j, fun j => if j = N.n then u else N.hu j)
/-- the last day on which i is seen, of the first n -/
def gN.la (N : gN) (i : Nat) : Nat → Nat
  | 0 => 0
  | n + 1 => if N.wh n = i then (if N.la i n < N.wn n then N.wn n else N.la i n) else N.la i n
theorem gN.la_le {N : gN} (h : N.ok) (i : Nat) : ∀ n, n ≤ N.n → N.la i n ≤ 4
  | 0, _ => by show (0 : Nat) ≤ 4; omega
  | n + 1, hn => by
    have ih := gN.la_le h i n (by omega)
    have := h.2 n (by omega)
    show (if N.wh n = i then (if N.la i n < N.wn n then N.wn n else N.la i n) else N.la i n) ≤ 4
    (repeat' split) <;> omega
/-- whether what is seen of i on day d, among the first n, is hue u -/
def gN.ag (N : gN) (i d u : Nat) : Nat → Bool
  | 0 => true
  | n + 1 => N.ag i d u n && !(decide (N.wh n = i) && decide (N.wn n = d) && !decide (N.hu n = u))
theorem gN.ag_no {N : gN} {i d u k : Nat} (h : N.wh k = i ∧ N.wn k = d ∧ ¬ N.hu k = u) : ∀ {n : Nat}, k < n → N.ag i d u n = false
  | 0, hk => by omega
  | n + 1, hk => by
    show (N.ag i d u n && !(decide (N.wh n = i) && decide (N.wn n = d) && !decide (N.hu n = u))) = false
    by_cases e : k = n
    · subst e; simp [h.1, h.2.1, h.2.2]
    · rw [gN.ag_no h (show k < n by omega)]; rfl
/-- one goes through a day: deed k (k = 0: none; k + 1: deed k), on weekday wd, to be seen as on day d -/
def gT.s1 (T : gT) (i : Nat) (h : Nat → Nat) : Nat → Option (Nat → Nat)
  | 0 => some h
  | k + 1 => if T.can i k h = true then some (fun s => h s - T.pay i k h s) else none
def gT.s2 (T : gT) (i : Nat) (h : Nat → Nat) : Nat → Nat := fun s => if T.kd i = 2 ∧ s = 2 then h s - 1 else h s
def gT.sd (T : gT) (N : gN) (i wd d : Nat) (h : Nat → Nat) (k : Nat) : Option (Nat → Nat) := match T.s1 i h k with
  | none => none
  | some h1 => if N.ag i d (hueN (T.s2 i h1)) N.n = true then some (if wd = 6 then T.rn i (T.s2 i h1) else T.s2 i h1) else none
theorem gmax {a b : Nat} (ha : a < 2 ^ 31) (hb : b < 2 ^ 31) : (if nI b ≤ nI a then nI a else nI b) = nI (if a < b then b else a) := by
  by_cases h : a < b
  · rw [if_neg (fun z => absurd ((nI_leI hb ha).mp z) (by omega)), if_pos h]
  · rw [if_pos ((nI_leI hb ha).mpr (by omega)), if_neg h]
