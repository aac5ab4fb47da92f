/-! EVERY CALL KEEPS A GOOD STATE -/
theorem flt_dr {tx : Nat → Nat} {len : Nat} : ∀ (n pl : Nat) (T T' : gT), T.dr → flt tx len n pl T = .inr T' → T'.dr
  | 0, pl, T, T', h, e => by
    have e : (Sum.inr T : Nat ⊕ gT) = .inr T' := e
    cases e
    exact h
  | n + 1, pl, T, T', h, e => by
    have e : (if pl < len then (match itm T tx len pl with
      | none => (Sum.inl pl : Nat ⊕ gT)
      | some q => flt tx len n q.2 q.1) else Sum.inr T) = .inr T' := e
    by_cases hp : pl < len
    · rw [if_pos hp] at e
      cases hi : itm T tx len pl with
      | none => rw [hi] at e; cases e
      | some q =>
        rw [hi] at e
        exact flt_dr n q.2 q.1 T' (itm_dr (q := q.2) h (by rw [hi])) e
    · rw [if_neg hp] at e
      cases e
      exact h
theorem lev_ok {T : gT} {s P : Nat} : ∀ (n : Nat) (U : gU), U.ok P → (T.lev s n U).2.ok P ∧ (T.lev s n U).2.d = U.d
  | 0, U, h => ⟨h, rfl⟩
  | n + 1, U, h => by
    unfold gT.lev
    split
    · exact ⟨h, rfl⟩
    · obtain ⟨h1, h2⟩ := lev_ok n (U.tk (3 * U.mx s T.P + s)) (tk_ok h)
      exact ⟨h1, h2⟩
theorem ok_write {S : gA} {b : Nat} {x : Int32} (h : S.ok b) : (S.write x).2.ok (b + 30) := by
  refine gA.ok_up (b := b) ?_ (by omega)
  unfold gA.write
  split
  · exact h
  · next c hc =>
    obtain ⟨a1, a2, -⟩ := rng_s hc
    split
    · next hl =>
      obtain ⟨h1, h2, h3, h4, h5, h6, h7⟩ := h
      refine ⟨h1, h2, h3, h4, h5, h6, ⟨?_, fun j hj => ?_⟩⟩
      · show S.tx.1 + 1 ≤ 200; omega
      · show 32 ≤ (if j = S.tx.1 then c else S.tx.2 j) ∧ (if j = S.tx.1 then c else S.tx.2 j) ≤ 126
        have hj : j < S.tx.1 + 1 := hj
        split
        · omega
        · exact h7.2 j (by omega)
    · exact h
theorem ok_wipe {S : gA} {b : Nat} (h : S.ok b) : (S.wipe).2.ok (b + 30) := by
  refine gA.ok_up (b := b) ?_ (by omega)
  obtain ⟨h1, h2, h3, h4, h5, h6, h7⟩ := h
  exact ⟨h1, h2, h3, h4, h5, h6, ⟨Nat.zero_le _, fun j hj => absurd hj (Nat.not_lt_zero j)⟩⟩
theorem ok_lay {S : gA} {b : Nat} (h : S.ok b) : (S.lay).2.ok (b + 30) := by
  refine gA.ok_up (b := b) ?_ (by omega)
  unfold gA.lay
  split
  · exact h
  · next T hT =>
    split
    · exact h
    · next hP =>
      have hd := flt_dr 200 0 gT.e0 T gT.e0_dr hT
      obtain ⟨h1, h2, h3, h4, h5, h6, h7⟩ := h
      obtain ⟨u1, u2⟩ := U0_ok9 T hd.1
      exact ⟨hd.1, by show 0 < T.P; omega, ⟨u1, Nat.le_trans u2 (Nat.zero_le _)⟩, ⟨Nat.zero_le _, fun k hk => absurd hk (Nat.not_lt_zero k)⟩, ⟨Nat.zero_le _, fun k hk => absurd hk (Nat.not_lt_zero k)⟩, ⟨Nat.zero_le _, fun j hj => absurd hj (Nat.not_lt_zero j)⟩, h7⟩
theorem ok_pass {S : gA} {b : Nat} {x : Int32} (h : S.ok b) (hb : b ≤ 20000) : (S.pass x).2.ok (b + 30) := by
  unfold gA.pass
  split
  · exact gA.ok_up h (by omega)
  · next n hn =>
    obtain ⟨a1, a2, -⟩ := rng_s hn
    have h3 := h.2.2.1
    obtain ⟨e1, e2⟩ := S.T.days_ok n h3.1 (by omega)
    exact gA.setU_ok (gA.ok_up (gA.know_ok h) (by omega)) e1 (by rw [e2]; omega)
theorem ok_act {S : gA} {b : Nat} {x y : Int32} (h : S.ok b) : (S.act x y).2.ok (b + 30) := by
  refine gA.ok_up (b := b) ?_ (by omega)
  unfold gA.act
  split
  · exact h
  · next i hi =>
    split
    · exact h
    · next k hk =>
      split
      · obtain ⟨e1, e2⟩ := S.T.act_ok (i := i) (k := k) h.2.2.1.1
        exact gA.setU_ok (gA.know_ok h) e1 (by rw [e2]; exact h.2.2.1.2)
      · exact h
theorem ok_lend {S : gA} {b : Nat} {x y z w : Int32} (h : S.ok b) : (S.lend x y z w).2.ok (b + 30) := by
  refine gA.ok_up (b := b) ?_ (by omega)
  unfold gA.lend
  split
  · exact h
  · next i hi =>
    split
    · exact h
    · next j hj =>
      split
      · exact h
      · split
        · exact h
        · next s hs =>
          split
          · exact h
          · next n hn =>
            split
            · exact h
            · split
              · exact h
              · next h9 =>
                refine gA.setU_ok (gA.know_ok h) ⟨fun q hq => ?_, h.2.2.1.1.2⟩ h.2.2.1.2
                have h0 := h.2.2.1.1.1 q hq
                show (if q = 3 * j + s then S.U.h q + n else if q = 3 * i + s then S.U.h q - n else S.U.h q) ≤ 99
                split
                · next e => rw [e]; omega
                · split <;> omega
theorem ok_sell {S : gA} {b : Nat} {x z w : Int32} (h : S.ok b) : (S.sell x z w).2.ok (b + 30) := by
  refine gA.ok_up (b := b) ?_ (by omega)
  unfold gA.sell
  split
  · exact h
  · next i hi =>
    split
    · exact h
    · next s hs =>
      split
      · exact h
      · next n hn =>
        split
        · exact h
        · refine gA.setU_ok (gA.know_ok h) ⟨fun q hq => ?_, h.2.2.1.1.2⟩ h.2.2.1.2
          have h0 := h.2.2.1.1.1 q hq
          show (if q = 3 * i + s then S.U.h q - n else S.U.h q) ≤ 99
          split <;> omega
theorem ok_levy {S : gA} {b : Nat} {z w : Int32} (h : S.ok b) : (S.levy z w).2.ok (b + 30) := by
  refine gA.ok_up (b := b) ?_ (by omega)
  unfold gA.levy
  split
  · exact h
  · next s hs =>
    split
    · exact h
    · next n hn =>
      obtain ⟨e1, e2⟩ := lev_ok (T := S.T) (s := s) n S.U h.2.2.1.1
      exact gA.setU_ok (gA.know_ok h) e1 (by rw [e2]; exact h.2.2.1.2)
theorem ok_undo {S : gA} {b : Nat} (h : S.ok b) : (S.undo).2.ok (b + 30) := by
  refine gA.ok_up (b := b) ?_ (by omega)
  unfold gA.undo
  split
  · exact h
  · next hn =>
    obtain ⟨h1, h2, h3, h4, h5, h6, h7⟩ := h
    refine ⟨h1, h2, h4.2 0 (by omega), ⟨?_, fun k hk => ?_⟩, h5, h6, h7⟩
    · show S.un.1 - 1 ≤ 8; omega
    · have hk : k < S.un.1 - 1 := hk
      exact h4.2 (k + 1) (by omega)
theorem ok_keep {S : gA} {b : Nat} (h : S.ok b) : (S.keep).2.ok (b + 30) := by
  refine gA.ok_up (b := b) ?_ (by omega)
  unfold gA.keep
  split
  · next hn =>
    obtain ⟨h1, h2, h3, h4, h5, h6, h7⟩ := h
    refine ⟨h1, h2, h3, h4, ⟨?_, fun k hk => ?_⟩, h6, h7⟩
    · show S.kp.1 + 1 ≤ 2; omega
    · have hk : k < S.kp.1 + 1 := hk
      show (if k = 0 then S.U else S.kp.2 (k - 1)).ok S.T.P ∧ (if k = 0 then S.U else S.kp.2 (k - 1)).d ≤ b
      split
      · exact h3
      · exact h5.2 (k - 1) (by omega)
  · exact h
theorem ok_back {S : gA} {b : Nat} (h : S.ok b) : (S.back).2.ok (b + 30) := by
  refine gA.ok_up (b := b) ?_ (by omega)
  unfold gA.back
  split
  · exact h
  · next hn =>
    obtain ⟨h1, h2, h3, h4, h5, h6, h7⟩ := h
    refine ⟨h1, h2, h5.2 0 (by omega), ⟨Nat.zero_le _, fun k hk => absurd hk (Nat.not_lt_zero k)⟩, ⟨?_, fun k hk => ?_⟩, h6, h7⟩
    · show S.kp.1 - 1 ≤ 2; omega
    · have hk : k < S.kp.1 - 1 := hk
      exact h5.2 (k + 1) (by omega)
theorem ok_seen {S : gA} {b : Nat} {x y z : Int32} (h : S.ok b) : (S.seen x y z).2.ok (b + 30) := by
  refine gA.ok_up (b := b) ?_ (by omega)
  unfold gA.seen
  split
  · exact h
  · next i hi =>
    split
    · exact h
    · next d hd =>
      split
      · exact h
      · next u hu =>
        split
        · next hn =>
          obtain ⟨a1, a2, -⟩ := rng_s hi
          obtain ⟨b1, b2, -⟩ := rng_s hd
          obtain ⟨c1, c2, -⟩ := rng_s hu
          have hP6 := h.1.1
          obtain ⟨h1, h2, h3, h4, h5, h6, h7⟩ := h
          refine ⟨h1, h2, h3, h4, h5, ⟨?_, fun j hj => ?_⟩, h7⟩
          · show S.N.n + 1 ≤ 7; omega
          · have hj : j < S.N.n + 1 := hj
            show (if j = S.N.n then i else S.N.wh j) < 6 ∧ (1 ≤ (if j = S.N.n then d else S.N.wn j) ∧ (if j = S.N.n then d else S.N.wn j) ≤ 4) ∧ (if j = S.N.n then u else S.N.hu j) ≤ 7
            by_cases e : j = S.N.n
            · rw [if_pos e, if_pos e, if_pos e]; omega
            · rw [if_neg e, if_neg e, if_neg e]; exact h6.2 j (by omega)
        · exact h
theorem ok_forget {S : gA} {b : Nat} (h : S.ok b) : (S.forget).2.ok (b + 30) := by
  refine gA.ok_up (b := b) ?_ (by omega)
  obtain ⟨h1, h2, h3, h4, h5, h6, h7⟩ := h
  exact ⟨h1, h2, h3, h4, h5, ⟨Nat.zero_le _, fun j hj => absurd hj (Nat.not_lt_zero j)⟩, h7⟩
theorem ok_same {S : gA} {b : Nat} {O : gO} (h : S.ok b) (e : O.2 = S) : O.2.ok (b + 30) := by
  rw [e]; exact gA.ok_up h (by omega)
theorem ok_fault {S : gA} {b : Nat} (h : S.ok b) : (S.fault).2.ok (b + 30) := ok_same h (by unfold gA.fault; (repeat' split) <;> rfl)
theorem ok_person {S : gA} {b : Nat} {x y : Int32} (h : S.ok b) : (S.person x y).2.ok (b + 30) := ok_same h (by unfold gA.person; (repeat' split) <;> rfl)
theorem ok_deed {S : gA} {b : Nat} {x y : Int32} (h : S.ok b) : (S.deed x y).2.ok (b + 30) := ok_same h (by unfold gA.deed; (repeat' split) <;> rfl)
theorem ok_told {S : gA} {b : Nat} {x y : Int32} (h : S.ok b) : (S.told x y).2.ok (b + 30) := ok_same h (by unfold gA.told; (repeat' split) <;> rfl)
theorem ok_can {S : gA} {b : Nat} {x y : Int32} (h : S.ok b) : (S.can x y).2.ok (b + 30) := ok_same h (by unfold gA.can; (repeat' split) <;> rfl)
theorem ok_behind {S : gA} {b : Nat} {x y z : Int32} (h : S.ok b) : (S.behind x y z).2.ok (b + 30) := ok_same h (by unfold gA.behind; (repeat' split) <;> rfl)
theorem ok_grey {S : gA} {b : Nat} {x : Int32} (h : S.ok b) : (S.grey x).2.ok (b + 30) := ok_same h (by unfold gA.grey; (repeat' split) <;> rfl)
theorem ok_best {S : gA} {b : Nat} {x y : Int32} (h : S.ok b) : (S.best x y).2.ok (b + 30) := ok_same h (by unfold gA.best; (repeat' split) <;> rfl)
theorem ok_lending {S : gA} {b : Nat} (h : S.ok b) : (S.lending).2.ok (b + 30) := ok_same h (by unfold gA.lending; (repeat' split) <;> rfl)
theorem ok_heap {S : gA} {b : Nat} {x y z : Int32} (h : S.ok b) : (S.heap x y z).2.ok (b + 30) := ok_same h (by unfold gA.heap; (repeat' split) <;> rfl)
theorem ok_spent {S : gA} {b : Nat} {x y : Int32} (h : S.ok b) : (S.spent x y).2.ok (b + 30) := ok_same h (by unfold gA.spent; (repeat' split) <;> rfl)
theorem ok_saved {S : gA} {b : Nat} {x z w : Int32} (h : S.ok b) : (S.saved x z w).2.ok (b + 30) := ok_same h (by unfold gA.saved; (repeat' split) <;> rfl)
theorem ok_lasts {S : gA} {b : Nat} {x y z u w : Int32} (h : S.ok b) : (S.lasts x y z u w).2.ok (b + 30) := ok_same h (by unfold gA.lasts; (repeat' split) <;> rfl)
theorem ok_year {S : gA} {b : Nat} {x y z : Int32} (h : S.ok b) : (S.year x y z).2.ok (b + 30) := ok_same h (by unfold gA.year; (repeat' split) <;> rfl)
theorem ok_count {S : gA} {b : Nat} {x : Int32} (h : S.ok b) : (S.count x).2.ok (b + 30) := ok_same h (by unfold gA.count; (repeat' split) <;> rfl)
/-- what lies where -/
theorem isMod.sm {sh sh' : List gS} (h : isMod sh) (hs : ∀ c, 83 ≤ c → sh'[c]? = sh[c]?) : isMod sh' := by
  unfold isMod
  rw [hs 83 (by omega), hs 84 (by omega), hs 85 (by omega), hs 86 (by omega), hs 87 (by omega), hs 88 (by omega), hs 89 (by omega), hs 90 (by omega), hs 91 (by omega), hs 92 (by omega), hs 93 (by omega), hs 94 (by omega), hs 95 (by omega), hs 96 (by omega), hs 97 (by omega), hs 98 (by omega)]
  exact h
theorem MOD.sm {M M' : gM} {S : gA} (h : MOD M S) (hs : ∀ c, 83 ≤ c → M' c = M c) : MOD M' S := by
  unfold MOD TWM STM WIM
  rw [hs 83 (by omega), hs 84 (by omega), hs 85 (by omega), hs 86 (by omega), hs 87 (by omega), hs 88 (by omega), hs 89 (by omega), hs 90 (by omega), hs 91 (by omega), hs 92 (by omega), hs 93 (by omega), hs 96 (by omega), hs 97 (by omega), hs 98 (by omega)]
  exact h
theorem CLS.sm {M M' : gM} {t : Nat} {S : gA} (ht : t = 4 ∨ t = 11) (h : CLS M t S) (hs : ∀ c, c < 83 → M' c = M c) : CLS M' t S := h.keep ht (hs 1 (by omega)) (hs 2 (by omega)) (fun c a b => hs c (by omega)) (fun c a b => hs c (by omega)) (fun c a b => hs c (by omega)) (by rw [hs 75 (by omega)]) (fun c a b => hs c (by omega))
