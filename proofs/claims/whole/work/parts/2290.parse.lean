/-! HOW A TEXT IS READ -/
def gT.tkP (T : gT) (v : Nat → Nat) : Option gT := if T.P < 6 ∧ v 0 ≤ 4 ∧ v 1 ≤ 9 ∧ v 2 ≤ 9 ∧ v 3 ≤ 9 then some (T.P + 1, T.D, T.pr, fun i => if i = T.P then v 0 else T.kd i, fun j => if j / 3 = T.P then v (j % 3 + 1) else T.ra j, T.co, T.wo, T.pl) else none
def gT.tkD (T : gT) (v : Nat → Nat) : Option gT := if T.D < 6 ∧ v 0 ≤ 4 ∧ v 1 ≤ 4 ∧ v 2 ≤ 4 ∧ v 3 ≤ 9 ∧ 1 ≤ v 0 + v 1 + v 2 then some (T.P, T.D + 1, T.pr, T.kd, T.ra, fun j => if j / 3 = T.D then v (j % 3) else T.co j, fun k => if k = T.D then v 3 else T.wo k, T.pl) else none
def gT.tkH (T : gT) (v : Nat → Nat) : Option gT := if v 0 < T.P ∧ v 1 < 7 ∧ v 2 < T.D then some (T.P, T.D, T.pr, T.kd, T.ra, T.co, T.wo, fun j => if j = 7 * v 0 + v 1 then nI (v 2) else T.pl j) else none
def gT.tkC (T : gT) (v : Nat → Nat) : Option gT := if v 0 ≤ 9 then some (T.P, T.D, v 0, T.kd, T.ra, T.co, T.wo, T.pl) else none
def gT.tk (T : gT) (c : Nat) (v : Nat → Nat) : Option gT := if c = 112 then T.tkP v else if c = 100 then T.tkD v else if c = 104 then T.tkH v else if c = 99 then T.tkC v else none
/-- a draft: who isn't told yet has no deeds -/
def gT.dr (T : gT) : Prop := T.ok ∧ ∀ j, 7 * T.P ≤ j → j < 42 → T.pl j = -4
def DRF (M : gM) (t : Nat) (T : gT) : Prop := TWN M t T ∧ ∀ j, 7 * T.P ≤ j → j < 42 → M (t + 5) j = -4
theorem gT.tk_dr {T T' : gT} {c : Nat} {v : Nat → Nat} (h : T.dr) (ht : T.tk c v = some T') : T'.dr := by
  obtain ⟨⟨o1, o2, o3, o4, o5, o6, o7, o8⟩, hp⟩ := h
  unfold gT.tk at ht
  by_cases c1 : c = 112
  · rw [if_pos c1] at ht
    unfold gT.tkP at ht
    by_cases hc : T.P < 6 ∧ v 0 ≤ 4 ∧ v 1 ≤ 9 ∧ v 2 ≤ 9 ∧ v 3 ≤ 9
    · rw [if_pos hc] at ht
      cases ht
      refine ⟨⟨?_, o2, o3, fun i hi => ?_, fun j hj => ?_, o6, o7, fun j hj => ?_⟩, fun j h1 h2 => hp j (by have : 7 * (T.P + 1) ≤ j := h1; omega) h2⟩
      · show T.P + 1 ≤ 6; omega
      · show (if i = T.P then v 0 else T.kd i) ≤ 4
        have hi : i < T.P + 1 := hi
        split
        · omega
        · exact o4 i (by omega)
      · show (if j / 3 = T.P then v (j % 3 + 1) else T.ra j) ≤ 9
        have hj : j < 3 * (T.P + 1) := hj
        split
        · rcases (show j % 3 = 0 ∨ j % 3 = 1 ∨ j % 3 = 2 by omega) with z | z | z <;> rw [z]
          · exact hc.2.2.1
          · exact hc.2.2.2.1
          · exact hc.2.2.2.2
        · exact o5 j (by omega)
      · have hj : j < 7 * (T.P + 1) := hj
        show T.pl j = -4 ∨ _
        rcases Nat.lt_or_ge j (7 * T.P) with z | z
        · exact o8 j z
        · exact Or.inl (hp j z (by omega))
    · rw [if_neg hc] at ht; cases ht
  · rw [if_neg c1] at ht
    by_cases c2 : c = 100
    · rw [if_pos c2] at ht
      unfold gT.tkD at ht
      by_cases hc : T.D < 6 ∧ v 0 ≤ 4 ∧ v 1 ≤ 4 ∧ v 2 ≤ 4 ∧ v 3 ≤ 9 ∧ 1 ≤ v 0 + v 1 + v 2
      · rw [if_pos hc] at ht
        cases ht
        refine ⟨⟨o1, ?_, o3, o4, o5, fun j hj => ?_, fun k hk => ?_, fun j hj => ?_⟩, hp⟩
        · show T.D + 1 ≤ 6; omega
        · show (if j / 3 = T.D then v (j % 3) else T.co j) ≤ 4
          have hj : j < 3 * (T.D + 1) := hj
          split
          · rcases (show j % 3 = 0 ∨ j % 3 = 1 ∨ j % 3 = 2 by omega) with z | z | z <;> rw [z]
            · exact hc.2.1
            · exact hc.2.2.1
            · exact hc.2.2.2.1
          · exact o6 j (by omega)
        · show (if k = T.D then v 3 else T.wo k) ≤ 9
          have hk : k < T.D + 1 := hk
          split
          · omega
          · exact o7 k (by omega)
        · rcases o8 j hj with z | ⟨k, hk, z⟩
          · exact Or.inl z
          · exact Or.inr ⟨k, by show k < T.D + 1; omega, z⟩
      · rw [if_neg hc] at ht; cases ht
    · rw [if_neg c2] at ht
      by_cases c3 : c = 104
      · rw [if_pos c3] at ht
        unfold gT.tkH at ht
        by_cases hc : v 0 < T.P ∧ v 1 < 7 ∧ v 2 < T.D
        · rw [if_pos hc] at ht
          cases ht
          refine ⟨⟨o1, o2, o3, o4, o5, o6, o7, fun j hj => ?_⟩, fun j h1 h2 => ?_⟩
          · show (if j = 7 * v 0 + v 1 then nI (v 2) else T.pl j) = -4 ∨ ∃ k, k < T.D ∧ (if j = 7 * v 0 + v 1 then nI (v 2) else T.pl j) = nI k
            split
            · exact Or.inr ⟨v 2, hc.2.2, rfl⟩
            · exact o8 j hj
          · show (if j = 7 * v 0 + v 1 then nI (v 2) else T.pl j) = -4
            have h1 : 7 * T.P ≤ j := h1
            rw [if_neg (by omega)]; exact hp j h1 h2
        · rw [if_neg hc] at ht; cases ht
      · rw [if_neg c3] at ht
        by_cases c4 : c = 99
        · rw [if_pos c4] at ht
          unfold gT.tkC at ht
          by_cases hc : v 0 ≤ 9
          · rw [if_pos hc] at ht
            cases ht
            exact ⟨⟨o1, o2, hc, o4, o5, o6, o7, o8⟩, hp⟩
          · rw [if_neg hc] at ht; cases ht
        · rw [if_neg c4] at ht; cases ht
def gT.e0 : gT := (0, 0, 1, fun _ => 0, fun _ => 0, fun _ => 0, fun _ => 0, fun _ => -4)
theorem gT.e0_dr : gT.e0.dr := ⟨⟨by decide, by decide, by decide, (fun i hi => by cases hi), (fun j hj => by cases hj), (fun j hj => by cases hj), (fun k hk => by cases hk), (fun j hj => by cases hj)⟩, fun _ _ _ => rfl⟩
