/-! THE BEST WAY: worth + 1 (0: none yet), how many, the way as a number with digits of six -/
abbrev gB : Type := Nat × Nat × Nat
abbrev bet (w s : Nat) (B : gB) : Prop := B.1 < w + 1 ∨ (B.1 = w + 1 ∧ s < B.2.1)
/-- behind n times of deed k -/
def gT.rp (T : gT) (i k : Nat) (h : Nat → Nat) : Nat → Option (Nat → Nat)
  | 0 => some h
  | n + 1 => match T.rp i k h n with
    | none => none
    | some g => T.s1 i g (k + 1)
def dnB (r : Nat → Option (Nat → Nat)) (F : Nat → (Nat → Nat) → gB → gB) : Nat → gB → gB
  | 0, B => B
  | n + 1, B => dnB r F n (match r n with
    | none => B
    | some g => F n g B)
def gT.bs (T : gT) (i : Nat) : Nat → Nat → (Nat → Nat) → Nat → Nat → Nat → gB → gB
  | 0, _, _, w, s, c, B => if bet w s B then (w + 1, s, c) else B
  | r + 1, k, h, w, s, c, B => dnB (T.rp i k h) (fun n g B => T.bs i r (k + 1) g (w + n * T.wo k) (s + n) (c * 6 + n) B) 6 B
def gT.hp (T : gT) : Nat → Nat → Nat
  | 0, _ => 0
  | r + 1, k => T.hp r (k + 1) + 5 * T.wo k
theorem dnB_id {r : Nat → Option (Nat → Nat)} {F : Nat → (Nat → Nat) → gB → gB} {B : gB} : ∀ m, (∀ n g, n < m → F n g B = B) → dnB r F m B = B
  | 0, h => rfl
  | m + 1, h => by
    show dnB r F m (match r m with
      | none => B
      | some g => F m g B) = B
    have e : (match r m with
      | none => B
      | some g => F m g B) = B := by
      split
      · rfl
      · exact h m _ (by omega)
    rw [e]
    exact dnB_id m (fun n g hn => h n g (by omega))
theorem dnB_P {r : Nat → Option (Nat → Nat)} {F : Nat → (Nat → Nat) → gB → gB} {p : gB → Prop} : ∀ m B, p B → (∀ n g B, n < m → p B → p (F n g B)) → p (dnB r F m B)
  | 0, B, hB, h => hB
  | m + 1, B, hB, h => by
    show p (dnB r F m (match r m with
      | none => B
      | some g => F m g B))
    refine dnB_P m _ ?_ (fun n g B hn => h n g B (by omega))
    split
    · exact hB
    · exact h m _ B (by omega) hB
theorem gT.bs_cut (T : gT) (i : Nat) : ∀ (r k : Nat) (h : Nat → Nat) (w s c : Nat) (B : gB), ¬ bet (w + T.hp r k) s B → T.bs i r k h w s c B = B
  | 0, k, h, w, s, c, B, hb => if_neg hb
  | r + 1, k, h, w, s, c, B, hb => by
    refine dnB_id 6 (fun n g hn => ?_)
    refine T.bs_cut i r (k + 1) g _ _ _ B (fun z => hb ?_)
    have e : T.hp (r + 1) k = T.hp r (k + 1) + 5 * T.wo k := rfl
    have hm : n * T.wo k ≤ 5 * T.wo k := Nat.mul_le_mul_right _ (by omega)
    unfold bet at z ⊢
    rw [e]
    omega
theorem dnB_up {r : Nat → Option (Nat → Nat)} {F : Nat → (Nat → Nat) → gB → gB} {B : gB} {m : Nat} : ∀ j, (∀ n, m ≤ n → r n = none) → dnB r F (m + j) B = dnB r F m B
  | 0, _ => rfl
  | j + 1, h => by
    show dnB r F (m + j) (match r (m + j) with
      | none => B
      | some g => F (m + j) g B) = _
    rw [h (m + j) (by omega)]
    exact dnB_up j h
theorem gT.rp_none (T : gT) {i k : Nat} {h : Nat → Nat} {m : Nat} (hm : T.rp i k h m = none) : ∀ n, m ≤ n → T.rp i k h n = none := by
  intro n hn
  induction n with
  | zero =>
    have : m = 0 := by omega
    subst this; exact hm
  | succ n ih =>
    by_cases e : m = n + 1
    · subst e; exact hm
    · show (match T.rp i k h n with
        | none => none
        | some g => T.s1 i g (k + 1)) = none
      rw [ih (by omega)]
def isCho (sh : List gS) (e : Nat) : Prop := sh[e]? = some (.inl (0, [some (.ref (e + 1)), some (.ref (e + 2)), some (.ref (e + 3)), some (.ref (e + 4)), none, none])) ∧ sh[e + 1]? = some (.inr (.inl (0, 111))) ∧ sh[e + 2]? = some (.inr (.inl (0, 6))) ∧ sh[e + 3]? = some (.inr (.inl (0, 6))) ∧ sh[e + 4]? = some (.inr (.inl (0, 7)))
def CHO (M : gM) (e D : Nat) (B : gB) : Prop := M e 4 = gkv B.1 ∧ M e 5 = nI B.2.1 ∧ (0 < B.1 → ∀ x, x < D → M (e + 3) x = nI (B.2.2 / 6 ^ (D - 1 - x) % 6))
def gB.ok (B : gB) : Prop := B.1 ≤ 1000 ∧ B.2.1 ≤ 1000
theorem gkv_lt {w b : Nat} (hw : w ≤ 1000) (hb : b ≤ 1001) : gkv b < nI w ↔ b < w + 1 := by
  unfold gkv
  by_cases z : b = 0
  · subst z
    rw [if_pos rfl, Int32.lt_iff_toInt_lt, nI_toInt (by omega)]
    have : (-1 : Int32).toInt = -1 := by decide
    rw [this]; omega
  · rw [if_neg z, nI_ltI (by omega) (by omega)]; omega
theorem gkv_eq {w b : Nat} (hw : w ≤ 1000) (hb : b ≤ 1001) : nI w = gkv b ↔ b = w + 1 := by
  unfold gkv
  by_cases z : b = 0
  · subst z
    rw [if_pos rfl]
    constructor
    · intro e
      have h1 := congrArg Int32.toInt e
      rw [nI_toInt (by omega)] at h1
      have : (-1 : Int32).toInt = -1 := by decide
      rw [this] at h1; omega
    · intro e; omega
  · rw [if_neg z]
    constructor
    · intro e
      have h1 := congrArg Int32.toInt e
      rw [nI_toInt (by omega), nI_toInt (by omega)] at h1
      omega
    · intro e; rw [e]; rfl
theorem gT.rp_le {T : gT} {i k : Nat} {h : Nat → Nat} (hb : ∀ s, s < 3 → h s ≤ 99) : ∀ n g, T.rp i k h n = some g → ∀ s, s < 3 → g s ≤ 99
  | 0, g, e => by cases e; exact hb
  | n + 1, g, e => by
    have e2 : (match T.rp i k h n with
      | none => none
      | some g => T.s1 i g (k + 1)) = some g := e
    cases hq : T.rp i k h n with
    | none => rw [hq] at e2; cases e2
    | some g0 => rw [hq] at e2; exact gT.s1_le (gT.rp_le hb n g0 hq) e2
theorem gT.bs_ok (T : gT) (i : Nat) : ∀ (r k : Nat) (h : Nat → Nat) (w s c : Nat) (B : gB), gB.ok B → w + T.hp r k ≤ 900 → s + 5 * r ≤ 900 → gB.ok (T.bs i r k h w s c B)
  | 0, k, h, w, s, c, B, hB, h1, h2 => by
    have h3 : w + 0 ≤ 900 := h1
    show gB.ok (if bet w s B then (w + 1, s, c) else B)
    split
    · exact ⟨show w + 1 ≤ 1000 by omega, show s ≤ 1000 by omega⟩
    · exact hB
  | r + 1, k, h, w, s, c, B, hB, h1, h2 => by
    have e : w + (T.hp r (k + 1) + 5 * T.wo k) ≤ 900 := h1
    refine dnB_P (p := gB.ok) 6 B hB (fun n g B hn hB => T.bs_ok i r (k + 1) g _ _ _ B hB ?_ (by omega))
    have hm : n * T.wo k ≤ 5 * T.wo k := Nat.mul_le_mul_right _ (by omega)
    omega
theorem gdig {c n k x : Nat} (hn : n < 6) (hx : x < k) : (c * 6 + n) / 6 ^ (k - x) = c / 6 ^ (k - 1 - x) := by
  rw [show k - x = (k - 1 - x) + 1 by omega, Nat.pow_succ, Nat.mul_comm (6 ^ (k - 1 - x)) 6, ← Nat.div_div_eq_div_mul, show (c * 6 + n) / 6 = c by omega]
theorem gkv_m1 (n : Nat) : nI n + Int32.ofInt (-1) = gkv n := by
  have h := gkv_1 n
  have e : gkv (n + 1) = nI n := by unfold gkv; rw [if_neg (by omega)]; rfl
  rw [← e, ← h, Int32.add_assoc]
  show gkv n + 0 = _
  rw [Int32.add_zero]
theorem gT.hp_le {T : gT} (h : ∀ k, k < T.D → T.wo k ≤ 9) : ∀ r k, k + r = T.D → T.hp r k ≤ 45 * r
  | 0, k, _ => Nat.zero_le _
  | r + 1, k, hk => by
    have h1 := gT.hp_le h r (k + 1) (by omega)
    have h2 := h k (by omega)
    show T.hp r (k + 1) + 5 * T.wo k ≤ _
    omega
