/-! THE REFERENCE'S READING -/
def kok (tx : Nat → Nat) (len a be : Nat) : Bool := (rdNum tx len a).1.isSome && decide ((rdNum tx len a).2 < len ∧ tx (rdNum tx len a).2 = be)
def nvl (tx : Nat → Nat) (len a : Nat) : Nat := (rdNum tx len a).1.getD 0
def nxt (tx : Nat → Nat) (len a : Nat) : Nat := (rdNum tx len a).2 + 1
def nok (tx : Nat → Nat) (len a hn be : Nat) : Bool := kok tx len a be && decide (nvl tx len a < hn)
theorem nvl_le (tx : Nat → Nat) (len a : Nat) : nvl tx len a ≤ 99 := by
  unfold nvl rdNum
  split
  · split
    · show (tx a - 48) * 10 + (tx (a + 1) - 48) ≤ 99
      omega
    · show tx a - 48 ≤ 99
      omega
  · exact Nat.zero_le _
theorem nxt_le (tx : Nat → Nat) (len a : Nat) : nxt tx len a ≤ a + 3 := by
  unfold nxt rdNum
  split
  · split
    · show a + 2 + 1 ≤ a + 3; omega
    · show a + 1 + 1 ≤ a + 3; omega
  · show a + 1 ≤ a + 3; omega
theorem rdA_kok {tx : Nat → Nat} {len m a n : Nat} {v : Nat → Nat} : rdA tx len (m + 1) a v n = if kok tx len a (if m = 0 then 59 else 44) = true then rdA tx len m (nxt tx len a) (fun s => if s = n then nvl tx len a else v s) (n + 1) else none := by
  cases hx : (rdNum tx len a).1 with
  | none =>
    rw [rdA_none hx, if_neg]
    unfold kok
    rw [hx]
    simp
  | some x =>
    by_cases hb : (rdNum tx len a).2 < len ∧ tx (rdNum tx len a).2 = (if m = 0 then 59 else 44)
    · rw [rdA_go hx hb, if_pos]
      · unfold nxt nvl
        rw [hx]
        rfl
      · unfold kok
        rw [hx, decide_eq_true hb]
        rfl
    · rw [rdA_bad hx hb, if_neg]
      unfold kok
      rw [decide_eq_false hb]
      simp
theorem rdA_kk {tx : Nat → Nat} {len m a n be : Nat} {v : Nat → Nat} (hb : (if m = 0 then 59 else 44) = be) : rdA tx len (m + 1) a v n = if kok tx len a be = true then rdA tx len m (nxt tx len a) (fun s => if s = n then nvl tx len a else v s) (n + 1) else none := by rw [← hb]; exact rdA_kok
def gT.sP (T : gT) (v : Nat → Nat) : gT := (T.P + 1, T.D, T.pr, fun i => if i = T.P then v 0 else T.kd i, fun j => if j / 3 = T.P then v (j % 3 + 1) else T.ra j, T.co, T.wo, T.pl)
def gT.sD (T : gT) (v : Nat → Nat) : gT := (T.P, T.D + 1, T.pr, T.kd, T.ra, fun j => if j / 3 = T.D then v (j % 3) else T.co j, fun k => if k = T.D then v 3 else T.wo k, T.pl)
def gT.sH (T : gT) (v : Nat → Nat) : gT := (T.P, T.D, T.pr, T.kd, T.ra, T.co, T.wo, fun j => if j = 7 * v 0 + v 1 then nI (v 2) else T.pl j)
def gT.sC (T : gT) (x : Nat) : gT := (T.P, T.D, x, T.kd, T.ra, T.co, T.wo, T.pl)
def w4 (a b c d : Nat) : Nat → Nat := fun s => if s = 3 then d else if s = 2 then c else if s = 1 then b else if s = 0 then a else 0
def w3 (a b c : Nat) : Nat → Nat := fun s => if s = 2 then c else if s = 1 then b else if s = 0 then a else 0
def w1 (a : Nat) : Nat → Nat := fun s => if s = 0 then a else 0
theorem itm_P {T : gT} {tx : Nat → Nat} {len pl a0 a1 a2 a3 : Nat} (hc : tx pl = 112) (h0 : a0 = pl + 1) (h1 : a1 = nxt tx len a0) (h2 : a2 = nxt tx len a1) (h3 : a3 = nxt tx len a2) : itm T tx len pl = if ((((decide (T.P < 6) && nok tx len a0 5 44) && nok tx len a1 10 44) && nok tx len a2 10 44) && nok tx len a3 10 59) = true then some (T.sP (w4 (nvl tx len a0) (nvl tx len a1) (nvl tx len a2) (nvl tx len a3)), nxt tx len a3) else none := by
  have e : rdA tx len (nbh (tx pl)) (pl + 1) (fun _ => 0) 0 = if (((kok tx len a0 44 && kok tx len a1 44) && kok tx len a2 44) && kok tx len a3 59) = true then some (nxt tx len a3, w4 (nvl tx len a0) (nvl tx len a1) (nvl tx len a2) (nvl tx len a3)) else none := by
    rw [hc, show nbh 112 = 3 + 1 from rfl, ← h0, rdA_kk (be := 44) rfl, ← h1]
    cases k0 : kok tx len a0 44
    · simp
    · rw [if_pos rfl, rdA_kk (m := 2) (be := 44) rfl, ← h2]
      cases k1 : kok tx len a1 44
      · simp
      · rw [if_pos rfl, rdA_kk (m := 1) (be := 44) rfl, ← h3]
        cases k2 : kok tx len a2 44
        · simp
        · rw [if_pos rfl, rdA_kk (m := 0) (be := 59) rfl]
          cases k3 : kok tx len a3 59
          · simp
          · rw [if_pos rfl, if_pos (show (true && true && true && true) = true from rfl)]; rfl
  unfold itm
  rw [e]
  unfold nok
  cases k0 : kok tx len a0 44
  · simp
  · cases k1 : kok tx len a1 44
    · simp
    · cases k2 : kok tx len a2 44
      · simp
      · cases k3 : kok tx len a3 59
        · simp
        · rw [if_pos (show (true && true && true && true) = true from rfl), hc]
          show (if T.P < 6 ∧ nvl tx len a0 ≤ 4 ∧ nvl tx len a1 ≤ 9 ∧ nvl tx len a2 ≤ 9 ∧ nvl tx len a3 ≤ 9 then some (T.sP (w4 (nvl tx len a0) (nvl tx len a1) (nvl tx len a2) (nvl tx len a3))) else none).map (fun T' => (T', nxt tx len a3)) = _
          by_cases q : T.P < 6 ∧ nvl tx len a0 ≤ 4 ∧ nvl tx len a1 ≤ 9 ∧ nvl tx len a2 ≤ 9 ∧ nvl tx len a3 ≤ 9
          · rw [if_pos q, if_pos]
            · rfl
            · simp only [Bool.true_and, Bool.and_eq_true, decide_eq_true_eq]
              omega
          · rw [if_neg q, if_neg]
            · rfl
            · simp only [Bool.true_and, Bool.and_eq_true, decide_eq_true_eq]
              omega
theorem itm_D {T : gT} {tx : Nat → Nat} {len pl a0 a1 a2 a3 : Nat} (hc : tx pl = 100) (h0 : a0 = pl + 1) (h1 : a1 = nxt tx len a0) (h2 : a2 = nxt tx len a1) (h3 : a3 = nxt tx len a2) : itm T tx len pl = if (((((decide (T.D < 6) && nok tx len a0 5 44) && nok tx len a1 5 44) && nok tx len a2 5 44) && nok tx len a3 10 59) && decide (0 < nvl tx len a0 + nvl tx len a1 + nvl tx len a2)) = true then some (T.sD (w4 (nvl tx len a0) (nvl tx len a1) (nvl tx len a2) (nvl tx len a3)), nxt tx len a3) else none := by
  have e : rdA tx len (nbh (tx pl)) (pl + 1) (fun _ => 0) 0 = if (((kok tx len a0 44 && kok tx len a1 44) && kok tx len a2 44) && kok tx len a3 59) = true then some (nxt tx len a3, w4 (nvl tx len a0) (nvl tx len a1) (nvl tx len a2) (nvl tx len a3)) else none := by
    rw [hc, show nbh 100 = 3 + 1 from rfl, ← h0, rdA_kk (be := 44) rfl, ← h1]
    cases k0 : kok tx len a0 44
    · simp
    · rw [if_pos rfl, rdA_kk (m := 2) (be := 44) rfl, ← h2]
      cases k1 : kok tx len a1 44
      · simp
      · rw [if_pos rfl, rdA_kk (m := 1) (be := 44) rfl, ← h3]
        cases k2 : kok tx len a2 44
        · simp
        · rw [if_pos rfl, rdA_kk (m := 0) (be := 59) rfl]
          cases k3 : kok tx len a3 59
          · simp
          · rw [if_pos rfl, if_pos (show (true && true && true && true) = true from rfl)]; rfl
  unfold itm
  rw [e]
  unfold nok
  cases k0 : kok tx len a0 44
  · simp
  · cases k1 : kok tx len a1 44
    · simp
    · cases k2 : kok tx len a2 44
      · simp
      · cases k3 : kok tx len a3 59
        · simp
        · rw [if_pos (show (true && true && true && true) = true from rfl), hc]
          show (if T.D < 6 ∧ nvl tx len a0 ≤ 4 ∧ nvl tx len a1 ≤ 4 ∧ nvl tx len a2 ≤ 4 ∧ nvl tx len a3 ≤ 9 ∧ 1 ≤ nvl tx len a0 + nvl tx len a1 + nvl tx len a2 then some (T.sD (w4 (nvl tx len a0) (nvl tx len a1) (nvl tx len a2) (nvl tx len a3))) else none).map (fun T' => (T', nxt tx len a3)) = _
          by_cases q : T.D < 6 ∧ nvl tx len a0 ≤ 4 ∧ nvl tx len a1 ≤ 4 ∧ nvl tx len a2 ≤ 4 ∧ nvl tx len a3 ≤ 9 ∧ 1 ≤ nvl tx len a0 + nvl tx len a1 + nvl tx len a2
          · rw [if_pos q, if_pos]
            · rfl
            · simp only [Bool.true_and, Bool.and_eq_true, decide_eq_true_eq]
              omega
          · rw [if_neg q, if_neg]
            · rfl
            · simp only [Bool.true_and, Bool.and_eq_true, decide_eq_true_eq]
              omega
theorem itm_H {T : gT} {tx : Nat → Nat} {len pl a0 a1 a2 : Nat} (hc : tx pl = 104) (h0 : a0 = pl + 1) (h1 : a1 = nxt tx len a0) (h2 : a2 = nxt tx len a1) : itm T tx len pl = if ((nok tx len a0 T.P 44 && nok tx len a1 7 44) && nok tx len a2 T.D 59) = true then some (T.sH (w3 (nvl tx len a0) (nvl tx len a1) (nvl tx len a2)), nxt tx len a2) else none := by
  have e : rdA tx len (nbh (tx pl)) (pl + 1) (fun _ => 0) 0 = if ((kok tx len a0 44 && kok tx len a1 44) && kok tx len a2 59) = true then some (nxt tx len a2, w3 (nvl tx len a0) (nvl tx len a1) (nvl tx len a2)) else none := by
    rw [hc, show nbh 104 = 2 + 1 from rfl, ← h0, rdA_kk (be := 44) rfl, ← h1]
    cases k0 : kok tx len a0 44
    · simp
    · rw [if_pos rfl, rdA_kk (m := 1) (be := 44) rfl, ← h2]
      cases k1 : kok tx len a1 44
      · simp
      · rw [if_pos rfl, rdA_kk (m := 0) (be := 59) rfl]
        cases k3 : kok tx len a2 59
        · simp
        · rw [if_pos rfl, if_pos (show (true && true && true) = true from rfl)]; rfl
  unfold itm
  rw [e]
  unfold nok
  cases k0 : kok tx len a0 44
  · simp
  · cases k1 : kok tx len a1 44
    · simp
    · cases k2 : kok tx len a2 59
      · simp
      · rw [if_pos (show (true && true && true) = true from rfl), hc]
        show (if nvl tx len a0 < T.P ∧ nvl tx len a1 < 7 ∧ nvl tx len a2 < T.D then some (T.sH (w3 (nvl tx len a0) (nvl tx len a1) (nvl tx len a2))) else none).map (fun T' => (T', nxt tx len a2)) = _
        by_cases q : nvl tx len a0 < T.P ∧ nvl tx len a1 < 7 ∧ nvl tx len a2 < T.D
        · rw [if_pos q, if_pos]
          · rfl
          · simp only [Bool.true_and, Bool.and_eq_true, decide_eq_true_eq]
            omega
        · rw [if_neg q, if_neg]
          · rfl
          · simp only [Bool.true_and, Bool.and_eq_true, decide_eq_true_eq]
            omega
theorem itm_C {T : gT} {tx : Nat → Nat} {len pl a0 : Nat} (hc : tx pl = 99) (h0 : a0 = pl + 1) : itm T tx len pl = if nok tx len a0 10 59 = true then some (T.sC (nvl tx len a0), nxt tx len a0) else none := by
  have e : rdA tx len (nbh (tx pl)) (pl + 1) (fun _ => 0) 0 = if kok tx len a0 59 = true then some (nxt tx len a0, w1 (nvl tx len a0)) else none := by
    rw [hc, show nbh 99 = 0 + 1 from rfl, ← h0, rdA_kk (be := 59) rfl]
    cases k3 : kok tx len a0 59
    · simp
    · rw [if_pos rfl, if_pos rfl]; rfl
  unfold itm
  rw [e]
  unfold nok
  cases k0 : kok tx len a0 59
  · simp
  · rw [if_pos rfl, hc]
    show (if nvl tx len a0 ≤ 9 then some (T.sC (nvl tx len a0)) else none).map (fun T' => (T', nxt tx len a0)) = _
    by_cases q : nvl tx len a0 ≤ 9
    · rw [if_pos q, if_pos]
      · rfl
      · simp only [Bool.true_and, decide_eq_true_eq]
        omega
    · rw [if_neg q, if_neg]
      · rfl
      · simp only [Bool.true_and, decide_eq_true_eq]
        omega
theorem itm_X {T : gT} {tx : Nat → Nat} {len pl : Nat} (h1 : ¬ tx pl = 112) (h2 : ¬ tx pl = 100) (h3 : ¬ tx pl = 104) (h4 : ¬ tx pl = 99) : itm T tx len pl = none := by
  unfold itm
  have e : nbh (tx pl) = 0 := by unfold nbh; rw [if_neg (by omega), if_neg h3, if_neg h4]
  rw [e]
  show (T.tk (tx pl) _).map _ = none
  unfold gT.tk
  rw [if_neg h1, if_neg h2, if_neg h3, if_neg h4]
  rfl
/-- what may change while a text is read -/
def dft (c j : Nat) : Prop := (c = 83 ∧ (j = 10 ∨ j = 11)) ∨ ((c = 85 ∨ c = 88 ∨ c = 92) ∧ j = 1) ∨ ((c = 86 ∨ c = 90) ∧ 6 ≤ j) ∨ ((c = 87 ∨ c = 89) ∧ 18 ≤ j) ∨ (c = 91 ∧ 42 ≤ j)
def FRX (M M' : gM) : Prop := ∀ c j, ¬ dft c j → M' c j = M c j
theorem FRX.rf {M : gM} : FRX M M := fun _ _ _ => rfl
theorem FRX.tr {M M1 M2 : gM} (h1 : FRX M M1) (h2 : FRX M1 M2) : FRX M M2 := fun c j h => (h2 c j h).trans (h1 c j h)
theorem FRX.put {M M' : gM} (h : FRX M M') {c j : Nat} {x : Int32} (hd : dft c j) : FRX M (gsr M' c (upd (M' c) j x)) := by
  intro a k hn
  by_cases e : a = c
  · subst e
    rw [gsr_s]
    by_cases e2 : k = j
    · subst e2; exact absurd hd hn
    · rw [pk_un e2]; exact h a k hn
  · rw [gsr_n _ _ e]; exact h a k hn
theorem FRX.row {M M' : gM} (h : FRX M M') {c : Nat} (hc : c < 83 ∨ c = 84 ∨ 93 ≤ c) : M' c = M c := funext fun j => h c j (by unfold dft; omega)
theorem MOD.fx {M M' : gM} {S : gA} (h : MOD M S) (hT : S.T.ok) (hF : FRX M M') : MOD M' S := by
  obtain ⟨o1, o2, o3, o4, o5, o6, o7, o8⟩ := hT
  obtain ⟨⟨a1, a2⟩, ⟨b1, b2, b3, b4, b5, b6, b7, b8⟩, a4, ⟨a5, a6⟩, ⟨a7, a8⟩, ⟨a9, a10⟩⟩ := h
  have e93 : M' 93 = M 93 := hF.row (by omega)
  have st : ∀ {a P : Nat} {U : gU}, STM M a P U → STM M' a P U := fun h => by unfold STM; rw [e93]; exact h
  refine ⟨⟨?_, fun j hj => ?_⟩, ⟨?_, ?_, ?_, fun i hi => ?_, fun j hj => ?_, fun j hj => ?_, fun k hk => ?_, fun j hj => ?_⟩, st a4, ⟨?_, fun k hk => st (a6 k hk)⟩, ⟨?_, fun k hk => st (a8 k hk)⟩, ⟨?_, fun j hj => ?_⟩⟩
  · rw [hF 83 1 (by unfold dft; omega)]; exact a1
  · rw [hF.row (by omega)]; exact a2 j hj
  · rw [hF 85 0 (by unfold dft; omega)]; exact b1
  · rw [hF 88 0 (by unfold dft; omega)]; exact b2
  · rw [hF 92 0 (by unfold dft; omega)]; exact b3
  · rw [hF 86 i (by unfold dft; omega)]; exact b4 i hi
  · rw [hF 87 j (by unfold dft; omega)]; exact b5 j hj
  · rw [hF 89 j (by unfold dft; omega)]; exact b6 j hj
  · rw [hF 90 k (by unfold dft; omega)]; exact b7 k hk
  · rw [hF 91 j (by unfold dft; omega)]; exact b8 j hj
  · rw [hF 83 13 (by unfold dft; omega)]; exact a5
  · rw [hF 83 14 (by unfold dft; omega)]; exact a7
  · rw [hF 83 22 (by unfold dft; omega)]; exact a9
  · rw [hF.row (c := 96) (by omega), hF.row (c := 97) (by omega), hF.row (c := 98) (by omega)]; exact a10 j hj
def TXM (M : gM) (tx : Nat → Nat) (len : Nat) : Prop := M 83 1 = nI len ∧ ∀ j, j < len → M 84 j = nI (tx j)
theorem TXM.fx {M M' : gM} {tx : Nat → Nat} {len : Nat} (h : TXM M tx len) (hF : FRX M M') : TXM M' tx len := ⟨by rw [hF 83 1 (by unfold dft; omega)]; exact h.1, fun j hj => by rw [hF.row (by omega)]; exact h.2 j hj⟩
theorem rng_k {k lo n : Nat} (hk : k < 100000) : rng (nI k) lo n = if lo ≤ k ∧ k < n then some k else none := by
  unfold rng
  rw [nI_toInt (by omega)]
  by_cases h : lo ≤ k ∧ k < n
  · rw [if_pos h, if_pos (by omega)]; rfl
  · rw [if_neg h, if_neg (by omega)]
theorem m_rngN {d lo n k : Nat} {lo' hi' : Int32} {sh : List gS} {M : gM} {Q : Option Value → List gS → gM → Prop} (h1 : lo' = nI lo) (h2 : hi' = nI n - 1) (hl : lo ≤ 100000) (hn : n ≤ 100000) (hk : k < 100000) (hcon0 : ¬ (lo ≤ k ∧ k < n) → Q (some (.int 0)) sh M) (hcon1 : lo ≤ k → k < n → Q (some (.int 1)) sh M) : gC mX7_in d 0 0 [.int (nI k), .int lo', .int hi'] sh M Q := by
  refine m_rng h1 h2 hl hn (fun r => hcon0 (fun z => ?_)) (fun i r l h e => ?_)
  · rw [rng_k hk, if_pos z] at r; cases r
  · by_cases z : lo ≤ k ∧ k < n
    · exact hcon1 z.1 z.2
    · rw [rng_k hk, if_neg z] at r; cases r
