theorem seaN_row (T : gT) (U : gU) (i j : Nat) : (T.seaN (i + 1) U).h j = if j = 3 * i + 2 ∧ T.kd i = 2 then U.h j - 1 else (T.seaN i U).h j := by
  show (if j / 3 < i + 1 ∧ T.kd (j / 3) = 2 ∧ j % 3 = 2 then U.h j - 1 else U.h j) = if j = 3 * i + 2 ∧ T.kd i = 2 then U.h j - 1 else if j / 3 < i ∧ T.kd (j / 3) = 2 ∧ j % 3 = 2 then U.h j - 1 else U.h j
  by_cases e : j / 3 = i
  · subst e
    by_cases e3 : T.kd (j / 3) = 2
    · by_cases e4 : j % 3 = 2
      · rw [if_pos (show j / 3 < j / 3 + 1 ∧ T.kd (j / 3) = 2 ∧ j % 3 = 2 from ⟨by omega, e3, e4⟩), if_pos (show j = 3 * (j / 3) + 2 ∧ T.kd (j / 3) = 2 from ⟨by omega, e3⟩)]
      · rw [if_neg (show ¬ (j / 3 < j / 3 + 1 ∧ T.kd (j / 3) = 2 ∧ j % 3 = 2) from fun z => e4 z.2.2), if_neg (show ¬ (j = 3 * (j / 3) + 2 ∧ T.kd (j / 3) = 2) from fun z => e4 (by omega)), if_neg (show ¬ (j / 3 < j / 3 ∧ T.kd (j / 3) = 2 ∧ j % 3 = 2) from fun z => e4 z.2.2)]
    · rw [if_neg (show ¬ (j / 3 < j / 3 + 1 ∧ T.kd (j / 3) = 2 ∧ j % 3 = 2) from fun z => e3 z.2.1), if_neg (show ¬ (j = 3 * (j / 3) + 2 ∧ T.kd (j / 3) = 2) from fun z => e3 z.2), if_neg (show ¬ (j / 3 < j / 3 ∧ T.kd (j / 3) = 2 ∧ j % 3 = 2) from fun z => e3 z.2.1)]
  · rw [if_neg (show ¬ (j = 3 * i + 2 ∧ T.kd i = 2) from fun z => e (by omega))]
    by_cases e2 : j / 3 < i ∧ T.kd (j / 3) = 2 ∧ j % 3 = 2
    · rw [if_pos (show j / 3 < i + 1 ∧ T.kd (j / 3) = 2 ∧ j % 3 = 2 from ⟨by omega, e2.2⟩), if_pos e2]
    · rw [if_neg (show ¬ (j / 3 < i + 1 ∧ T.kd (j / 3) = 2 ∧ j % 3 = 2) from fun z => e2 ⟨by omega, z.2⟩), if_neg e2]
