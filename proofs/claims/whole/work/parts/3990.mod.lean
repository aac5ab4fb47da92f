/-! THE REFERENCE: its object at 83 -/
def isMod (sh : List gS) : Prop := sh[83]? = some (.inl (7, [some (.ref 84), none, some (.ref 85), some (.ref 86), some (.ref 87), some (.ref 88), some (.ref 89), some (.ref 90), some (.ref 91), some (.ref 92), none, none, some (.ref 93), none, none, some (.ref 94), some (.ref 95), none, none, some (.ref 96), some (.ref 97), some (.ref 98), none])) ∧ sh[84]? = some (.inr (.inl (1, 200))) ∧ sh[85]? = some (.inr (.inl (0, 2))) ∧ sh[86]? = some (.inr (.inl (0, 12))) ∧ sh[87]? = some (.inr (.inl (0, 36))) ∧ sh[88]? = some (.inr (.inl (0, 2))) ∧ sh[89]? = some (.inr (.inl (0, 36))) ∧ sh[90]? = some (.inr (.inl (0, 12))) ∧ sh[91]? = some (.inr (.inl (0, 84))) ∧ sh[92]? = some (.inr (.inl (0, 2))) ∧ sh[93]? = some (.inr (.inl (0, 372))) ∧ sh[94]? = some (.inr (.inl (0, 3))) ∧ sh[95]? = some (.inr (.inl (0, 6))) ∧ sh[96]? = some (.inr (.inl (0, 7))) ∧ sh[97]? = some (.inr (.inl (0, 7))) ∧ sh[98]? = some (.inr (.inl (0, 7)))
/-- its town -/
def TWM (M : gM) (T : gT) : Prop := M 85 0 = nI T.P ∧ M 88 0 = nI T.D ∧ M 92 0 = nI T.pr ∧ (∀ i, i < T.P → M 86 i = nI (T.kd i)) ∧ (∀ j, j < 3 * T.P → M 87 j = nI (T.ra j)) ∧ (∀ j, j < 3 * T.D → M 89 j = nI (T.co j)) ∧ (∀ k, k < T.D → M 90 k = nI (T.wo k)) ∧ (∀ j, j < 7 * T.P → M 91 j = T.pl j)
/-- its draft -/
def TWX (M : gM) (T : gT) : Prop := M 85 1 = nI T.P ∧ M 88 1 = nI T.D ∧ M 92 1 = nI T.pr ∧ (∀ i, i < T.P → M 86 (6 + i) = nI (T.kd i)) ∧ (∀ j, j < 3 * T.P → M 87 (18 + j) = nI (T.ra j)) ∧ (∀ j, j < 3 * T.D → M 89 (18 + j) = nI (T.co j)) ∧ (∀ k, k < T.D → M 90 (6 + k) = nI (T.wo k)) ∧ (∀ j, j < 7 * T.P → M 91 (42 + j) = T.pl j)
/-- a street at place a of 'now' -/
def STM (M : gM) (a P : Nat) (U : gU) : Prop := M 93 a = nI U.d ∧ (∀ j, j < 3 * P → M 93 (a + 1 + j) = nI (U.h j)) ∧ (∀ i, i < P → M 93 (a + 19 + i) = U.c i) ∧ (∀ i, i < P → M 93 (a + 25 + i) = U.w i)
theorem STM.mv {M M' : gM} {a c P : Nat} {U : gU} (h : STM M a P U) (hP : P ≤ 6) (hM : ∀ k, k < 31 → M' 93 (c + k) = M 93 (a + k)) : STM M' c P U := by
  obtain ⟨h1, h2, h3, h4⟩ := h
  refine ⟨?_, fun j hj => ?_, fun i hi => ?_, fun i hi => ?_⟩
  · have := hM 0 (by omega); rw [Nat.add_zero, Nat.add_zero] at this; rw [this]; exact h1
  · rw [Nat.add_assoc, hM (1 + j) (by omega), ← Nat.add_assoc]; exact h2 j hj
  · rw [Nat.add_assoc, hM (19 + i) (by omega), ← Nat.add_assoc]; exact h3 i hi
  · rw [Nat.add_assoc, hM (25 + i) (by omega), ← Nat.add_assoc]; exact h4 i hi
theorem STM.kp {M M' : gM} {a P : Nat} {U : gU} (h : STM M a P U) (hP : P ≤ 6) (hM : ∀ j, a ≤ j → j < a + 31 → M' 93 j = M 93 j) : STM M' a P U := h.mv hP (fun k hk => hM (a + k) (by omega) (by omega))
theorem TWM.kp {M M' : gM} {T : gT} (h : TWM M T) (hM : ∀ c, 85 ≤ c → c ≤ 92 → M' c = M c) : TWM M' T := by
  unfold TWM; rw [hM 85 (by omega) (by omega), hM 86 (by omega) (by omega), hM 87 (by omega) (by omega), hM 88 (by omega) (by omega), hM 89 (by omega) (by omega), hM 90 (by omega) (by omega), hM 91 (by omega) (by omega), hM 92 (by omega) (by omega)]; exact h
/-- what is seen, in the reference -/
def WIM (M : gM) (N : gN) : Prop := M 83 22 = nI N.n ∧ ∀ j, j < N.n → M 96 j = nI (N.wh j) ∧ M 97 j = nI (N.wn j) ∧ M 98 j = nI (N.hu j)
def MOD (M : gM) (S : gA) : Prop := (M 83 1 = nI S.tx.1 ∧ ∀ j, j < S.tx.1 → M 84 j = nI (S.tx.2 j)) ∧ TWM M S.T ∧ STM M 0 S.T.P S.U ∧ (M 83 13 = nI S.un.1 ∧ ∀ k, k < S.un.1 → STM M (31 + 31 * (S.un.1 - 1 - k)) S.T.P (S.un.2 k)) ∧ (M 83 14 = nI S.kp.1 ∧ ∀ k, k < S.kp.1 → STM M (279 + 31 * (S.kp.1 - 1 - k)) S.T.P (S.kp.2 k)) ∧ WIM M S.N
/-- only the street at a and what is paid have changed -/
def FRM (M M' : gM) (a : Nat) : Prop := (∀ c, c ≠ 93 → c ≠ 94 → M' c = M c) ∧ ∀ j, (j < a ∨ a + 31 ≤ j) → M' 93 j = M 93 j
theorem FRM.rf {M : gM} {a : Nat} : FRM M M a := ⟨fun _ _ _ => rfl, fun _ _ => rfl⟩
theorem FRM.tr {M M1 M2 : gM} {a : Nat} (h1 : FRM M M1 a) (h2 : FRM M1 M2 a) : FRM M M2 a := ⟨fun c a b => (h2.1 c a b).trans (h1.1 c a b), fun j h => (h2.2 j h).trans (h1.2 j h)⟩
theorem FRM.tw {M M' : gM} {a : Nat} {T : gT} (h : FRM M M' a) (hT : TWM M T) : TWM M' T := hT.kp (fun c h1 h2 => h.1 c (by omega) (by omega))
theorem MOD.kp {M M' : gM} {S : gA} (h : MOD M S) (hP : S.T.P ≤ 6) (hu : S.un.1 ≤ 8) (hk : S.kp.1 ≤ 2) (h3 : ∀ k, k = 1 ∨ k = 13 ∨ k = 14 ∨ k = 22 → M' 83 k = M 83 k) (hf : ∀ c, 84 ≤ c → c ≤ 98 → c ≠ 93 → c ≠ 94 → c ≠ 95 → M' c = M c) (hn : ∀ j, j < 341 → M' 93 j = M 93 j) : MOD M' S := by
  obtain ⟨⟨a1, a2⟩, a3, a4, ⟨a5, a6⟩, ⟨a7, a8⟩, ⟨a9, a10⟩⟩ := h
  refine ⟨⟨by rw [h3 1 (by omega)]; exact a1, fun j hj => by rw [hf 84 (by omega) (by omega) (by omega) (by omega) (by omega)]; exact a2 j hj⟩, a3.kp (fun c h1 h2 => hf c (by omega) (by omega) (by omega) (by omega) (by omega)), a4.kp hP (fun j h1 h2 => hn j (by omega)), ⟨by rw [h3 13 (by omega)]; exact a5, fun k hk => (a6 k hk).kp hP (fun j h1 h2 => hn j (by omega))⟩, ⟨by rw [h3 14 (by omega)]; exact a7, fun k hk => (a8 k hk).kp hP (fun j h1 h2 => hn j (by omega))⟩, ⟨by rw [h3 22 (by omega)]; exact a9, fun j hj => ?_⟩⟩
  rw [hf 96 (by omega) (by omega) (by omega) (by omega) (by omega), hf 97 (by omega) (by omega) (by omega) (by omega) (by omega), hf 98 (by omega) (by omega) (by omega) (by omega) (by omega)]
  exact a10 j hj
def kM (sh : List gS) (M : gM) (O : gO) (Q : Option Value → List gS → gM → Prop) : Prop := ∀ M', MOD M' O.2 → (∀ c, c < 83 → M' c = M c) → Q (some (.int O.1)) sh M'
theorem kM.ret {sh : List gS} {M M' : gM} {O : gO} {Q : Option Value → List gS → gM → Prop} {v : Int32} {S' : gA} (h : kM sh M O Q) (e : O = (v, S')) (hS : MOD M' S') (hf : ∀ c, c < 83 → M' c = M c) : Q (some (.int v)) sh M' := by
  have := h M' (by rw [e]; exact hS) hf
  rw [e] at this
  exact this
