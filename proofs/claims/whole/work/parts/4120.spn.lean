/-! SPENT, by codes -/
def gT.pvc (T : gT) (N : gN) (i : Nat) : Nat → Nat → Nat → (Nat → Nat) → Nat → Bool
  | 0, _, _, _, _ => true
  | r + 1, wd, dy, h, c => match T.sd N i wd (dy + 1) h (c / (T.D + 1) ^ r) with
    | none => false
    | some h' => T.pvc N i r ((wd + 1) % 7) (dy + 1) h' (c % (T.D + 1) ^ r)
theorem sumN_cgr {f g : Nat → Nat} : ∀ n, (∀ k, k < n → f k = g k) → sumN f n = sumN g n
  | 0, _ => rfl
  | n + 1, h => by
    show sumN f n + f n = sumN g n + g n
    rw [sumN_cgr n (fun k hk => h k (by omega)), h n (by omega)]
theorem sumN_app (f : Nat → Nat) (a : Nat) : ∀ b, sumN f (a + b) = sumN f a + sumN (fun s => f (a + s)) b
  | 0 => rfl
  | b + 1 => by
    show sumN f (a + b) + f (a + b) = sumN f a + (sumN (fun s => f (a + s)) b + f (a + b))
    rw [sumN_app f a b]; omega
theorem sumN_mull (f : Nat → Nat) (b : Nat) : ∀ a, sumN f (a * b) = sumN (fun q => sumN (fun s => f (q * b + s)) b) a
  | 0 => by rw [Nat.zero_mul]; rfl
  | a + 1 => by
    rw [Nat.succ_mul, sumN_app, sumN_mull f b a]; rfl
theorem fstN_suc {α : Type} (f : Nat → Option α) (n : Nat) : fstN f (n + 1) = (match fstN f n with
    | some a => some a
    | none => f n) := rfl
theorem fstN_cgr {α : Type} {f g : Nat → Option α} : ∀ n, (∀ k, k < n → f k = g k) → fstN f n = fstN g n
  | 0, _ => rfl
  | n + 1, h => by
    show (match fstN f n with
      | some a => some a
      | none => f n) = (match fstN g n with
      | some a => some a
      | none => g n)
    rw [fstN_cgr n (fun k hk => h k (by omega)), h n (by omega)]
theorem fstN_app {α : Type} (f : Nat → Option α) (a : Nat) : ∀ b, fstN f (a + b) = (match fstN f a with
    | some x => some x
    | none => fstN (fun s => f (a + s)) b)
  | 0 => by
    show fstN f a = _
    cases fstN f a <;> rfl
  | b + 1 => by
    show (match fstN f (a + b) with
      | some x => some x
      | none => f (a + b)) = _
    rw [fstN_app f a b]
    cases h : fstN f a with
    | some x => rfl
    | none => rfl
theorem fstN_mull {α : Type} (f : Nat → Option α) (b : Nat) : ∀ a, fstN f (a * b) = fstN (fun q => fstN (fun s => f (q * b + s)) b) a
  | 0 => by rw [Nat.zero_mul]; rfl
  | a + 1 => by
    rw [Nat.succ_mul, fstN_app, fstN_mull f b a]; rfl
theorem fstN_map {α β : Type} (f : Nat → Option α) (k : α → β) : ∀ n, fstN (fun s => (f s).map k) n = (fstN f n).map k
  | 0 => rfl
  | n + 1 => by
    show (match fstN (fun s => (f s).map k) n with
      | some a => some a
      | none => (f n).map k) = (match fstN f n with
      | some a => some a
      | none => f n).map k
    rw [fstN_map f k n]
    cases fstN f n <;> rfl
theorem fstN_nil {α : Type} : ∀ n, fstN (fun _ : Nat => (none : Option α)) n = none
  | 0 => rfl
  | n + 1 => by
    show (match fstN (fun _ : Nat => (none : Option α)) n with
      | some a => some a
      | none => none) = none
    rw [fstN_nil n]
theorem gqb {q b s : Nat} (h : s < b) : (q * b + s) / b = q ∧ (q * b + s) % b = s := by
  rw [Nat.add_comm]
  refine ⟨?_, ?_⟩
  · rw [Nat.add_mul_div_right _ _ (by omega), Nat.div_eq_of_lt h, Nat.zero_add]
  · rw [Nat.add_mul_mod_self_right, Nat.mod_eq_of_lt h]
theorem gT.pvc_s {T : gT} {N : gN} {i r wd dy q s : Nat} {h : Nat → Nat} (hs : s < (T.D + 1) ^ r) : T.pvc N i (r + 1) wd dy h (q * (T.D + 1) ^ r + s) = (match T.sd N i wd (dy + 1) h q with
    | none => false
    | some h' => T.pvc N i r ((wd + 1) % 7) (dy + 1) h' s) := by
  obtain ⟨e1, e2⟩ := gqb (q := q) hs
  show (match T.sd N i wd (dy + 1) h ((q * (T.D + 1) ^ r + s) / (T.D + 1) ^ r) with
    | none => false
    | some h' => T.pvc N i r ((wd + 1) % 7) (dy + 1) h' ((q * (T.D + 1) ^ r + s) % (T.D + 1) ^ r)) = _
  rw [e1, e2]
theorem sumN_zero : ∀ n, sumN (fun _ => 0) n = 0
  | 0 => rfl
  | n + 1 => by
    show sumN (fun _ => 0) n + 0 = 0
    rw [sumN_zero n]
theorem gT.wy_pvc (T : gT) (N : gN) (i : Nat) : ∀ (r wd dy : Nat) (h : Nat → Nat), T.wy N i r wd dy h = sumN (fun c => if T.pvc N i r wd dy h c = true then 1 else 0) ((T.D + 1) ^ r)
  | 0, wd, dy, h => rfl
  | r + 1, wd, dy, h => by
    rw [Nat.pow_succ, Nat.mul_comm, sumN_mull]
    refine sumN_cgr _ (fun q hq => ?_)
    have e : ∀ s, s < (T.D + 1) ^ r → (if T.pvc N i (r + 1) wd dy h (q * (T.D + 1) ^ r + s) = true then 1 else 0) = (match T.sd N i wd (dy + 1) h q with
      | none => 0
      | some h' => if T.pvc N i r ((wd + 1) % 7) (dy + 1) h' s = true then 1 else 0) := by
      intro s hs
      rw [T.pvc_s hs]
      cases T.sd N i wd (dy + 1) h q <;> rfl
    rw [sumN_cgr _ e]
    cases T.sd N i wd (dy + 1) h q with
    | none => exact (sumN_zero _).symm
    | some h' => exact T.wy_pvc N i r ((wd + 1) % 7) (dy + 1) h'
/-- the first code, and the first way -/
def gT.fcd (T : gT) (N : gN) (i r wd dy : Nat) (h : Nat → Nat) : Nat → Option Nat := fstN (fun c => if T.pvc N i r wd dy h c = true then some c else none)
def fpr (B r dy : Nat) (oc : Option Nat) (op : Option (Nat → Nat)) : Prop := (oc = none ∧ op = none) ∨ ∃ c p, oc = some c ∧ op = some p ∧ c < B ^ r ∧ ∀ x, dy ≤ x → x < dy + r → p x = c / B ^ (dy + r - 1 - x) % B
theorem gdgs {B r e q c : Nat} (he : e < r) : (q * B ^ r + c) / B ^ e % B = c / B ^ e % B := by
  by_cases hB : B = 0
  · subst hB
    rw [show (0 : Nat) ^ r = 0 from Nat.zero_pow (by omega), Nat.mul_zero, Nat.zero_add]
  · have hp : 0 < B ^ e := Nat.pow_pos (by omega)
    have e1 : q * B ^ r = (q * B ^ (r - e - 1) * B) * B ^ e := by
      rw [Nat.mul_assoc, Nat.mul_assoc, ← Nat.pow_succ', ← Nat.pow_add]
      congr 2
      omega
    rw [e1, Nat.add_comm, Nat.add_mul_div_right _ _ hp, Nat.add_mul_mod_self_right]
theorem gT.fp_fcd (T : gT) (N : gN) (i : Nat) : ∀ (r wd dy : Nat) (h : Nat → Nat), fpr (T.D + 1) r dy (T.fcd N i r wd dy h ((T.D + 1) ^ r)) (T.fp N i r wd dy h)
  | 0, wd, dy, h => Or.inr ⟨0, fun _ => 0, rfl, rfl, Nat.pow_pos (by omega), fun x h1 h2 => absurd h2 (by omega)⟩
  | r + 1, wd, dy, h => by
    unfold gT.fcd
    rw [Nat.pow_succ, Nat.mul_comm, fstN_mull]
    have key : ∀ a, a ≤ T.D + 1 → fpr (T.D + 1) (r + 1) dy (fstN (fun q => fstN (fun s => if T.pvc N i (r + 1) wd dy h (q * (T.D + 1) ^ r + s) = true then some (q * (T.D + 1) ^ r + s) else none) ((T.D + 1) ^ r)) a) (fstN (fun kk => match T.sd N i wd (dy + 1) h kk with
        | none => none
        | some h' => (T.fp N i r ((wd + 1) % 7) (dy + 1) h').map (fun p => fun x => if x = dy then kk else p x)) a) := by
      intro a
      induction a with
      | zero => intro _; exact Or.inl ⟨rfl, rfl⟩
      | succ a ih =>
        intro ha
        have ih := ih (by omega)
        rcases ih with ⟨e1, e2⟩ | ⟨c, p, e1, e2, e3, e4⟩
        · rw [fstN_suc, fstN_suc, e1, e2]
          dsimp only
          have e : ∀ s, s < (T.D + 1) ^ r → (if T.pvc N i (r + 1) wd dy h (a * (T.D + 1) ^ r + s) = true then some (a * (T.D + 1) ^ r + s) else none) = (match T.sd N i wd (dy + 1) h a with
            | none => none
            | some h' => (if T.pvc N i r ((wd + 1) % 7) (dy + 1) h' s = true then some s else none).map (fun s => a * (T.D + 1) ^ r + s)) := by
            intro s hs
            rw [T.pvc_s hs]
            cases T.sd N i wd (dy + 1) h a with
            | none => rfl
            | some h' =>
              dsimp only
              split <;> rfl
          rw [fstN_cgr _ e]
          cases T.sd N i wd (dy + 1) h a with
          | none => exact Or.inl ⟨fstN_nil _, rfl⟩
          | some h' =>
            dsimp only
            rw [fstN_map]
            rcases T.fp_fcd N i r ((wd + 1) % 7) (dy + 1) h' with ⟨f1, f2⟩ | ⟨c, p, f1, f2, f3, f4⟩
            · unfold gT.fcd at f1
              rw [f1, f2]
              exact Or.inl ⟨rfl, rfl⟩
            · unfold gT.fcd at f1
              rw [f1, f2]
              refine Or.inr ⟨_, _, rfl, rfl, ?_, fun x h1 h2 => ?_⟩
              · have : a * (T.D + 1) ^ r + (T.D + 1) ^ r ≤ (T.D + 1) * (T.D + 1) ^ r := by
                  rw [← Nat.succ_mul]; exact Nat.mul_le_mul_right _ (by omega)
                show a * (T.D + 1) ^ r + c < (T.D + 1) ^ (r + 1)
                rw [Nat.pow_succ, Nat.mul_comm ((T.D + 1) ^ r) (T.D + 1)]
                omega
              · show (if x = dy then a else p x) = _
                by_cases ex : x = dy
                · subst ex
                  rw [if_pos rfl, show x + (r + 1) - 1 - x = r by omega, (gqb f3).1, Nat.mod_eq_of_lt (by omega)]
                · rw [if_neg ex, f4 x (by omega) (by omega), show dy + (r + 1) - 1 - x = dy + 1 + r - 1 - x by omega, gdgs (by omega)]
        · refine Or.inr ⟨c, p, ?_, ?_, e3, e4⟩
          · rw [fstN_suc, e1]
          · rw [fstN_suc, e2]
    exact key _ (Nat.le_refl _)
theorem gN.ag_y {N : gN} {i d u n : Nat} (h : N.ag i d u n = true) (hn : ¬ (N.wh n = i ∧ N.wn n = d ∧ ¬ N.hu n = u)) : N.ag i d u (n + 1) = true := by
  show (N.ag i d u n && !(decide (N.wh n = i) && decide (N.wn n = d) && !decide (N.hu n = u))) = true
  rw [h]
  by_cases a : N.wh n = i <;> by_cases b : N.wn n = d <;> by_cases c : N.hu n = u <;> simp_all
theorem hueN_cg {h g : Nat → Nat} (e : ∀ s, s < 3 → h s = g s) : hueN h = hueN g := by
  unfold hueN; rw [e 0 (by decide), e 1 (by decide), e 2 (by decide)]
theorem gT.sea1_tr {T : gT} {i : Nat} {V : gU} {h : Nat → Nat} (e : ∀ s, s < 3 → h s = V.tr i s) : ∀ s, s < 3 → T.s2 i h s = (T.sea1 i V).tr i s := by
  intro s hs
  show (if T.kd i = 2 ∧ s = 2 then h s - 1 else h s) = (if 3 * i + s = 3 * i + 2 ∧ T.kd i = 2 then V.h (3 * i + s) - 1 else V.h (3 * i + s))
  have e1 : h s = V.h (3 * i + s) := e s hs
  rw [e1]
  by_cases a : T.kd i = 2 ∧ s = 2
  · rw [if_pos a, if_pos (by omega)]
  · rw [if_neg a, if_neg (by omega)]
theorem gT.over_tr {T : gT} {i : Nat} {V : gU} {h : Nat → Nat} (e : ∀ s, s < 3 → h s = V.tr i s) : ∀ s, s < 3 → (if V.d % 7 = 6 then T.rn i h else h) s = (T.over V).tr i s := by
  intro s hs
  show _ = (if V.d % 7 = 6 then (fun j => T.rn (j / 3) (V.tr (j / 3)) (j % 3)) else V.h) (3 * i + s)
  by_cases a : V.d % 7 = 6
  · rw [if_pos a, if_pos a]
    show _ = T.rn ((3 * i + s) / 3) (V.tr ((3 * i + s) / 3)) ((3 * i + s) % 3)
    rw [show (3 * i + s) / 3 = i by omega, show (3 * i + s) % 3 = s by omega]
    exact T.rn_cg (fun _ => e s hs)
  · rw [if_neg a, if_neg a]
    exact e s hs
theorem fstN_z9 {α : Type} {f : Nat → Option α} {n : Nat} (h : fstN f n = none) : fstN f (n + 1) = f n := by rw [fstN_suc, h]
theorem fstN_w9 {α : Type} {f : Nat → Option α} {n : Nat} {a : α} (h : fstN f n = some a) : fstN f (n + 1) = some a := by rw [fstN_suc, h]
theorem fstN_y9 {α : Type} {f : Nat → Option α} {n : Nat} (h : f n = none) : fstN f (n + 1) = fstN f n := by
  cases hf : fstN f n with
  | none => rw [fstN_z9 hf]; exact h
  | some a => rw [fstN_w9 hf]
