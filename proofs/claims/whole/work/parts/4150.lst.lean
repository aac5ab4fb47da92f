/-! LASTS, by sets -/
def prd (x set : Nat) : Nat → Nat
  | 0 => 1
  | t + 1 => prd x set t * (if set / 2 ^ t % 2 = 1 then x else 10 - x)
def upn (x c n : Nat) : Nat → Nat := sumN (fun set => if popc set ≤ c then prd x set n else 0)
theorem prd_le {x : Nat} (hx : x ≤ 10) (set : Nat) : ∀ t, prd x set t ≤ 10 ^ t
  | 0 => Nat.le_refl _
  | t + 1 => by
    show prd x set t * (if set / 2 ^ t % 2 = 1 then x else 10 - x) ≤ 10 ^ t * 10
    refine Nat.mul_le_mul (prd_le hx set t) ?_
    split <;> omega
theorem prd_up {x n s : Nat} : ∀ t, t ≤ n → prd x (2 ^ n + s) t = prd x s t
  | 0, _ => rfl
  | t + 1, h => by
    show prd x (2 ^ n + s) t * (if (2 ^ n + s) / 2 ^ t % 2 = 1 then x else 10 - x) = prd x s t * (if s / 2 ^ t % 2 = 1 then x else 10 - x)
    have e := gdgs (B := 2) (r := n) (e := t) (q := 1) (c := s) (by omega)
    rw [Nat.one_mul] at e
    rw [prd_up t (by omega), e]
theorem popc_up : ∀ n, n < 7 → ∀ s, s < 2 ^ n → popc (2 ^ n + s) = popc s + 1 := by decide +kernel
theorem sumN_mulr (f : Nat → Nat) (y : Nat) : ∀ n, sumN (fun s => f s * y) n = sumN f n * y
  | 0 => (Nat.zero_mul _).symm
  | n + 1 => by
    show sumN (fun s => f s * y) n + f n * y = (sumN f n + f n) * y
    rw [sumN_mulr f y n, Nat.add_mul]
theorem bin_z9 : ∀ n w, n < w → bin n w = 0
  | _, 0, h => absurd h (by omega)
  | 0, w + 1, _ => rfl
  | n + 1, w + 1, h => by
    show bin n w + bin n (w + 1) = 0
    rw [bin_z9 n w (by omega), bin_z9 n (w + 1) (by omega)]
def btm (n x w : Nat) : Nat := bin n w * x ^ w * (10 - x) ^ (n - w)
theorem bin_0 (n : Nat) : bin n 0 = 1 := by cases n <;> rfl
theorem btm_0 (n x : Nat) : btm (n + 1) x 0 = btm n x 0 * (10 - x) := by
  unfold btm
  rw [bin_0, bin_0, Nat.pow_zero, Nat.sub_zero, Nat.sub_zero, Nat.pow_succ, Nat.mul_one, Nat.one_mul, Nat.one_mul]
theorem btm_s (n x w : Nat) : btm (n + 1) x (w + 1) = btm n x w * x + btm n x (w + 1) * (10 - x) := by
  unfold btm
  show (bin n w + bin n (w + 1)) * x ^ (w + 1) * (10 - x) ^ (n + 1 - (w + 1)) = _
  rw [show n + 1 - (w + 1) = n - w by omega, Nat.add_mul, Nat.add_mul]
  congr 1
  · rw [Nat.pow_succ]; ac_rfl
  · by_cases h : w + 1 ≤ n
    · rw [show n - w = (n - (w + 1)) + 1 by omega, Nat.pow_succ (n := 10 - x), Nat.mul_assoc (bin n (w + 1) * x ^ (w + 1))]
    · rw [bin_z9 n (w + 1) (by omega)]; simp
theorem abv_btm (n x c : Nat) : abv n x c = sumN (btm n x) (c + 1) := rfl
theorem abv_0 (n x : Nat) : abv (n + 1) x 0 = abv n x 0 * (10 - x) := by
  rw [abv_btm, abv_btm]
  show 0 + btm (n + 1) x 0 = (0 + btm n x 0) * (10 - x)
  rw [Nat.zero_add, Nat.zero_add, btm_0]
theorem abv_s (n x : Nat) : ∀ c, abv (n + 1) x (c + 1) = abv n x c * x + abv n x (c + 1) * (10 - x)
  | 0 => by
    rw [abv_btm, abv_btm, abv_btm]
    show 0 + btm (n + 1) x 0 + btm (n + 1) x 1 = (0 + btm n x 0) * x + (0 + btm n x 0 + btm n x 1) * (10 - x)
    rw [btm_0, btm_s]
    simp only [Nat.zero_add, Nat.add_mul]
    omega
  | c + 1 => by
    have ih := abv_s n x c
    rw [abv_btm, abv_btm, abv_btm] at ih
    rw [abv_btm, abv_btm, abv_btm]
    show sumN (btm (n + 1) x) (c + 1 + 1) + btm (n + 1) x (c + 1 + 1) = (sumN (btm n x) (c + 1) + btm n x (c + 1)) * x + (sumN (btm n x) (c + 1 + 1) + btm n x (c + 1 + 1)) * (10 - x)
    rw [ih, btm_s, Nat.add_mul, Nat.add_mul]
    omega
theorem abv_z (x : Nat) : ∀ c, abv 0 x c = 1
  | 0 => by
    rw [abv_btm]
    show 0 + btm 0 x 0 = 1
    rfl
  | c + 1 => by
    have ih := abv_z x c
    rw [abv_btm] at ih
    rw [abv_btm]
    show sumN (btm 0 x) (c + 1) + btm 0 x (c + 1) = 1
    rw [ih, show btm 0 x (c + 1) = 0 from by unfold btm; rw [bin_z9 0 (c + 1) (by omega), Nat.zero_mul, Nat.zero_mul]]
theorem upn_abv (x : Nat) : ∀ n c, n ≤ 7 → upn x c n (2 ^ n) = abv n x c
  | 0, c, _ => by
    rw [abv_z]
    show 0 + (if popc 0 ≤ c then prd x 0 0 else 0) = 1
    rw [if_pos (by have : popc 0 = 0 := by decide
                   omega)]
    rfl
  | n + 1, c, hn => by
    unfold upn
    rw [show 2 ^ (n + 1) = 2 ^ n + 2 ^ n by rw [Nat.pow_succ]; omega, sumN_app]
    have e1 : sumN (fun set => if popc set ≤ c then prd x set (n + 1) else 0) (2 ^ n) = upn x c n (2 ^ n) * (10 - x) := by
      unfold upn
      rw [← sumN_mulr]
      refine sumN_cgr _ (fun s hs => ?_)
      split
      · show prd x s n * (if s / 2 ^ n % 2 = 1 then x else 10 - x) = _
        rw [Nat.div_eq_of_lt hs, if_neg (by decide)]
      · rw [Nat.zero_mul]
    have e2 : ∀ s, s < 2 ^ n → (if popc (2 ^ n + s) ≤ c then prd x (2 ^ n + s) (n + 1) else 0) = (if popc s + 1 ≤ c then prd x s n * x else 0) := by
      intro s hs
      rw [popc_up n (by omega) s hs]
      split
      · show prd x (2 ^ n + s) n * (if (2 ^ n + s) / 2 ^ n % 2 = 1 then x else 10 - x) = _
        have e := (gqb (q := 1) hs).1
        rw [Nat.one_mul] at e
        rw [e, if_pos (by decide), prd_up n (Nat.le_refl _)]
      · rfl
    rw [e1, sumN_cgr _ e2, upn_abv x n c (by omega)]
    cases c with
    | zero =>
      rw [abv_0, sumN_cgr (g := fun _ => 0) _ (fun s _ => if_neg (by omega)), sumN_zero]
      rfl
    | succ c =>
      have e3 : sumN (fun s => if popc s + 1 ≤ c + 1 then prd x s n * x else 0) (2 ^ n) = upn x c n (2 ^ n) * x := by
        unfold upn
        rw [← sumN_mulr]
        refine sumN_cgr _ (fun s hs => ?_)
        by_cases h : popc s ≤ c
        · rw [if_pos (by omega), if_pos h]
        · rw [if_neg (by omega), if_neg h, Nat.zero_mul]
      rw [e3, upn_abv x n c (by omega), abv_s]
      omega
theorem gT.row_cg {T : gT} {i k : Nat} : ∀ (m : Nat) {h g : Nat → Nat}, (∀ s, s < 3 → h s = g s) → T.row i k m h = T.row i k m g
  | 0, h, g, _ => rfl
  | m + 1, h, g, e => by
    show (if T.can i k h = true then T.row i k m (fun s => h s - T.pay i k h s) + 1 else 0) = (if T.can i k g = true then T.row i k m (fun s => g s - T.pay i k g s) + 1 else 0)
    rw [T.can_cg e, T.row_cg m (g := fun s => g s - T.pay i k g s) (fun s hs => by show h s - T.pay i k h s = g s - T.pay i k g s; rw [e s hs, T.pay_cg e hs])]
theorem popc_b9 (n : Nat) (h : n < 1000) : popc n ≤ 8 := by
  refine Nat.le_trans (sumN_bd (c := 1) 8 (fun k _ => ?_)) (Nat.le_refl _)
  have := Nat.mod_lt (n / 2 ^ k) (show 2 > 0 by decide)
  omega
