/-! WAYS: how many, the first -/
def sumN (f : Nat → Nat) : Nat → Nat
  | 0 => 0
  | n + 1 => sumN f n + f n
def fstN {α : Type} (f : Nat → Option α) : Nat → Option α
  | 0 => none
  | n + 1 => match fstN f n with
    | some a => some a
    | none => f n
theorem sumN_mono (f : Nat → Nat) {m n : Nat} (h : m ≤ n) : sumN f m ≤ sumN f n := by
  induction n with
  | zero =>
    have : m = 0 := by omega
    subst this; exact Nat.le_refl _
  | succ n ih =>
    by_cases e : m = n + 1
    · subst e; exact Nat.le_refl _
    · exact Nat.le_trans (ih (by omega)) (Nat.le_add_right _ _)
theorem sumN_bd {f : Nat → Nat} {c : Nat} : ∀ n, (∀ k, k < n → f k ≤ c) → sumN f n ≤ n * c
  | 0, _ => Nat.zero_le _
  | n + 1, h => by
    have h1 := sumN_bd n (fun k hk => h k (by omega))
    have h2 := h n (by omega)
    show sumN f n + f n ≤ (n + 1) * c
    rw [Nat.succ_mul]; omega
theorem sumN_fst {α : Type} {f : Nat → Nat} {g : Nat → Option α} : ∀ n, (∀ k, k < n → (f k = 0 ↔ g k = none)) → (sumN f n = 0 ↔ fstN g n = none)
  | 0, _ => ⟨fun _ => rfl, fun _ => rfl⟩
  | n + 1, h => by
    have h1 := sumN_fst n (fun k hk => h k (by omega))
    have h2 := h n (by omega)
    show sumN f n + f n = 0 ↔ (match fstN g n with
      | some a => some a
      | none => g n) = none
    cases hg : fstN g n with
    | some a =>
      have : ¬ sumN f n = 0 := fun z => by rw [h1.mp z] at hg; cases hg
      constructor
      · intro z; omega
      · intro z; cases z
    | none =>
      have : sumN f n = 0 := h1.mpr hg
      constructor
      · intro z; exact h2.mp (by omega)
      · intro z
        have := h2.mpr z
        omega
def gT.wy (T : gT) (N : gN) (i : Nat) : Nat → Nat → Nat → (Nat → Nat) → Nat
  | 0, _, _, _ => 1
  | r + 1, wd, dy, h => sumN (fun kk => match T.sd N i wd (dy + 1) h kk with
    | none => 0
    | some h' => T.wy N i r ((wd + 1) % 7) (dy + 1) h') (T.D + 1)
def gT.fp (T : gT) (N : gN) (i : Nat) : Nat → Nat → Nat → (Nat → Nat) → Option (Nat → Nat)
  | 0, _, _, _ => some (fun _ => 0)
  | r + 1, wd, dy, h => fstN (fun kk => match T.sd N i wd (dy + 1) h kk with
    | none => none
    | some h' => (T.fp N i r ((wd + 1) % 7) (dy + 1) h').map (fun p => fun x => if x = dy then kk else p x)) (T.D + 1)
theorem gT.wy_fp (T : gT) (N : gN) (i : Nat) : ∀ (r wd dy : Nat) (h : Nat → Nat), T.wy N i r wd dy h = 0 ↔ T.fp N i r wd dy h = none
  | 0, wd, dy, h => ⟨fun z => (by cases z), fun z => (by cases z)⟩
  | r + 1, wd, dy, h => by
    refine sumN_fst (T.D + 1) (fun kk _ => ?_)
    cases hs : T.sd N i wd (dy + 1) h kk with
    | none => exact ⟨fun _ => rfl, fun _ => rfl⟩
    | some h' =>
      have ih := T.wy_fp N i r ((wd + 1) % 7) (dy + 1) h'
      show T.wy N i r ((wd + 1) % 7) (dy + 1) h' = 0 ↔ (T.fp N i r ((wd + 1) % 7) (dy + 1) h').map _ = none
      rw [ih]
      cases T.fp N i r ((wd + 1) % 7) (dy + 1) h' with
      | none => exact ⟨fun _ => rfl, fun _ => rfl⟩
      | some p => exact ⟨fun z => (by cases z), fun z => (by cases z)⟩
theorem gT.wy_le (T : gT) (N : gN) (i : Nat) (hD : T.D ≤ 6) : ∀ (r wd dy : Nat) (h : Nat → Nat), T.wy N i r wd dy h ≤ 7 ^ r
  | 0, wd, dy, h => Nat.le_refl _
  | r + 1, wd, dy, h => by
    have h1 := sumN_bd (f := fun kk => match T.sd N i wd (dy + 1) h kk with
      | none => 0
      | some h' => T.wy N i r ((wd + 1) % 7) (dy + 1) h') (c := 7 ^ r) (T.D + 1) (fun kk _ => by
        split
        · exact Nat.zero_le _
        · exact T.wy_le N i hD r _ _ _)
    refine Nat.le_trans h1 ?_
    rw [Nat.pow_succ, Nat.mul_comm]
    exact Nat.mul_le_mul_left _ (by omega)
def chv (kk : Nat) : Int32 := if kk = 0 then -4 else nI (kk - 1)
def gkv (kk : Nat) : Int32 := if kk = 0 then -1 else nI (kk - 1)
theorem gkv_1 (kk : Nat) : gkv kk + 1 = gkv (kk + 1) := by
  unfold gkv
  rw [if_neg (by omega : ¬ kk + 1 = 0)]
  by_cases h : kk = 0
  · subst h; rw [if_pos rfl]; rfl
  · rw [if_neg h, show kk + 1 - 1 = (kk - 1) + 1 by omega, nI_succ]
theorem gkv_ge {kk D : Nat} (hD : D ≤ 6) : (nI D ≤ gkv kk ↔ D < kk) ∨ 100 < kk := by
  by_cases h100 : 100 < kk
  · exact Or.inr h100
  · refine Or.inl ?_
    unfold gkv
    by_cases h : kk = 0
    · subst h
      rw [if_pos rfl, Int32.le_iff_toInt_le, nI_toInt (by omega)]
      have : (-1 : Int32).toInt = -1 := by decide
      rw [this]
      omega
    · rw [if_neg h, nI_leI (by omega) (by omega)]
      omega
/-- what 'first' holds behind a search -/
def FSR (M M' : gM) (e w0 dy last : Nat) (q : Option (Nat → Nat)) : Prop := (w0 = 0 → ∀ p, q = some p → ∀ x, x < last → M' (e + 6) x = if x < dy then M (e + 5) x else chv (p x)) ∧ ((¬ w0 = 0 ∨ q = none) → M' (e + 6) = M (e + 6))
