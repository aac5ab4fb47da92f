/-! A SHELF at e: n streets in a ring -/
def gslots (e n : Nat) : List (Option Nat) := (List.range n).map (fun i => some (e + 2 + 4 * i))
theorem gslots_len (e n : Nat) : (gslots e n).length = n := by simp [gslots]
theorem gslots_at {e n k : Nat} (h : k < n) : (gslots e n).getD k none = some (e + 2 + 4 * k) := by
  simp [gslots, List.getD_eq_getElem?_getD, List.getElem?_map, List.getElem?_range h]
def isShelf (sh : List gS) (e n : Nat) : Prop := sh[e]? = some (.inl (2, [some (.ref (e + 1)), none, none])) ∧ sh[e + 1]? = some (.inr (.inr (gslots e n))) ∧ ∀ k, k < n → isStreet sh (e + 2 + 4 * k)
def SHF (M : gM) (e n nw sz P : Nat) (us : Nat → gU) : Prop := M e 1 = nI nw ∧ M e 2 = nI sz ∧ nw < n ∧ sz ≤ n ∧ ∀ k, k < sz → STR M (e + 2 + 4 * ((nw + n - k) % n)) P (us k)
theorem gmodlt {a n : Nat} (h : 0 < n) : a % n < n := Nat.mod_lt _ h
/-- the place before, in the ring -/
theorem gring1 {nw n k : Nat} (h1 : nw < n) (hk : 0 < k) (hk2 : k < n) : ((nw + 1) % n + n - k) % n = (nw + n - (k - 1)) % n ∧ (nw + n - (k - 1)) % n ≠ (nw + 1) % n := by
  by_cases e : nw + 1 = n
  · have e1 : (nw + 1) % n = 0 := by rw [e]; exact Nat.mod_self n
    rw [e1]
    have e2 : (0 + n - k) % n = n - k := by rw [Nat.zero_add]; exact Nat.mod_eq_of_lt (by omega)
    have e3 : (nw + n - (k - 1)) % n = n - k := by
      rw [show nw + n - (k - 1) = (n - k) + n by omega, Nat.add_mod_right]; exact Nat.mod_eq_of_lt (by omega)
    exact ⟨by rw [e2, e3], by rw [e3]; omega⟩
  · have e1 : (nw + 1) % n = nw + 1 := Nat.mod_eq_of_lt (by omega)
    rw [e1]
    refine ⟨by congr 1; omega, ?_⟩
    by_cases h : k - 1 ≤ nw
    · rw [show nw + n - (k - 1) = (nw - (k - 1)) + n by omega, Nat.add_mod_right, Nat.mod_eq_of_lt (by omega)]; omega
    · rw [Nat.mod_eq_of_lt (by omega)]; omega
theorem gring2 {nw n k : Nat} (h1 : nw < n) (hk2 : k + 1 < n + 1) (hn : 0 < n) : ((nw + n - 1) % n + n - k) % n = (nw + n - (k + 1)) % n := by
  by_cases e : nw = 0
  · subst e
    rw [show (0 + n - 1) % n = n - 1 from by rw [Nat.zero_add]; exact Nat.mod_eq_of_lt (by omega)]
    rw [show n - 1 + n - k = (0 + n - (k + 1)) + n by omega, Nat.add_mod_right]
  · rw [show nw + n - 1 = (nw - 1) + n by omega, Nat.add_mod_right, Nat.mod_eq_of_lt (show nw - 1 < n by omega)]
    congr 1; omega
