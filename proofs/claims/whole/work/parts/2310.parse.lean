/-! numbers, items, faults -/
def rdNum (tx : Nat → Nat) (len pl : Nat) : Option Nat × Nat := if pl < len ∧ 48 ≤ tx pl ∧ tx pl ≤ 57 then (if pl + 1 < len ∧ 48 ≤ tx (pl + 1) ∧ tx (pl + 1) ≤ 57 then (some ((tx pl - 48) * 10 + (tx (pl + 1) - 48)), pl + 2) else (some (tx pl - 48), pl + 1)) else (none, pl)
theorem rdNum_b (tx : Nat → Nat) (len pl : Nat) (h : pl ≤ len) : pl ≤ (rdNum tx len pl).2 ∧ (rdNum tx len pl).2 ≤ len ∧ ∀ x, (rdNum tx len pl).1 = some x → x ≤ 99 := by
  unfold rdNum
  split
  · split
    · refine ⟨by show pl ≤ pl + 2; omega, by show pl + 2 ≤ len; omega, fun x hx => ?_⟩
      have : (tx pl - 48) * 10 + (tx (pl + 1) - 48) = x := Option.some.inj hx
      omega
    · refine ⟨by show pl ≤ pl + 1; omega, by show pl + 1 ≤ len; omega, fun x hx => ?_⟩
      have : tx pl - 48 = x := Option.some.inj hx
      omega
  · exact ⟨Nat.le_refl _, h, fun x hx => by cases hx⟩
def nbh (c : Nat) : Nat := if c = 112 ∨ c = 100 then 4 else if c = 104 then 3 else if c = 99 then 1 else 0
theorem nbh_le (c : Nat) : nbh c ≤ 4 := by unfold nbh; (repeat' split) <;> omega
def rdA (tx : Nat → Nat) (len : Nat) : Nat → Nat → (Nat → Nat) → Nat → Option (Nat × (Nat → Nat))
  | 0, pl, v, _ => some (pl, v)
  | m + 1, pl, v, n => match (rdNum tx len pl).1 with
    | none => none
    | some x => if (rdNum tx len pl).2 < len ∧ tx (rdNum tx len pl).2 = (if m = 0 then 59 else 44) then rdA tx len m ((rdNum tx len pl).2 + 1) (fun s => if s = n then x else v s) (n + 1) else none
def itm (T : gT) (tx : Nat → Nat) (len pl : Nat) : Option (gT × Nat) := match rdA tx len (nbh (tx pl)) (pl + 1) (fun _ => 0) 0 with
  | none => none
  | some q => (T.tk (tx pl) q.2).map (fun T' => (T', q.1))
theorem rdA_b {tx : Nat → Nat} {len : Nat} : ∀ {m pl n : Nat} {v : Nat → Nat} {q : Nat × (Nat → Nat)}, pl ≤ len → rdA tx len m pl v n = some q → pl ≤ q.1 ∧ q.1 ≤ len ∧ ∀ s, (v s ≤ 99 → q.2 s ≤ 99)
  | 0, pl, n, v, q, h, e => by
    cases e
    exact ⟨Nat.le_refl _, h, fun s z => z⟩
  | m + 1, pl, n, v, q, h, e => by
    obtain ⟨b1, b2, b3⟩ := rdNum_b tx len pl h
    unfold rdA at e
    cases hx : (rdNum tx len pl).1 with
    | none => rw [hx] at e; cases e
    | some x =>
      rw [hx] at e
      dsimp only at e
      have hx9 := b3 x hx
      by_cases hc : (rdNum tx len pl).2 < len ∧ tx (rdNum tx len pl).2 = (if m = 0 then 59 else 44)
      · rw [if_pos hc] at e
        obtain ⟨c1, c2, c3⟩ := rdA_b (by omega) e
        refine ⟨by omega, c2, fun s z => c3 s ?_⟩
        show (if s = n then x else v s) ≤ 99
        split <;> omega
      · rw [if_neg hc] at e; cases e
theorem itm_b {T T' : gT} {tx : Nat → Nat} {len pl q : Nat} (h : pl < len) (e : itm T tx len pl = some (T', q)) : pl < q ∧ q ≤ len := by
  unfold itm at e
  cases hr : rdA tx len (nbh (tx pl)) (pl + 1) (fun _ => 0) 0 with
  | none => rw [hr] at e; cases e
  | some r =>
    rw [hr] at e
    obtain ⟨c1, c2, -⟩ := rdA_b (by omega) hr
    dsimp only at e
    cases ht : T.tk (tx pl) r.2 with
    | none => rw [ht] at e; cases e
    | some T2 =>
      rw [ht] at e
      have e2 : (T2, r.1) = (T', q) := Option.some.inj e
      have : r.1 = q := congrArg Prod.snd e2
      omega
theorem itm_dr {T T' : gT} {tx : Nat → Nat} {len pl q : Nat} (h : T.dr) (e : itm T tx len pl = some (T', q)) : T'.dr := by
  unfold itm at e
  cases hr : rdA tx len (nbh (tx pl)) (pl + 1) (fun _ => 0) 0 with
  | none => rw [hr] at e; cases e
  | some r =>
    rw [hr] at e
    dsimp only at e
    cases ht : T.tk (tx pl) r.2 with
    | none => rw [ht] at e; cases e
    | some T2 =>
      rw [ht] at e
      have e2 : (T2, r.1) = (T', q) := Option.some.inj e
      have : T2 = T' := congrArg Prod.fst e2
      subst this
      exact gT.tk_dr h ht
/-- the place of the first fault, or the town -/
def flt (tx : Nat → Nat) (len : Nat) : Nat → Nat → gT → Nat ⊕ gT
  | 0, _, T => .inr T
  | n + 1, pl, T => if pl < len then (match itm T tx len pl with
    | none => .inl pl
    | some q => flt tx len n q.2 q.1) else .inr T
def isPaper (sh : List gS) (p : Nat) : Prop := sh[p]? = some (.inl (1, [some (.ref (p + 1)), some (.ref (p + 2)), none, none])) ∧ sh[p + 1]? = some (.inr (.inl (0, 200))) ∧ sh[p + 2]? = some (.inr (.inl (0, 4)))
def PAP (M : gM) (p : Nat) (tx : Nat → Nat) (len : Nat) : Prop := M p 2 = nI len ∧ ∀ j, j < len → M (p + 1) j = nI (tx j)
def txok (tx : Nat → Nat) (len : Nat) : Prop := len ≤ 200 ∧ ∀ j, j < len → 32 ≤ tx j ∧ tx j ≤ 126
/-- a field set -/
theorem PAP.pl {M : gM} {p len : Nat} {tx : Nat → Nat} (h : PAP M p tx len) (x : Int32) : PAP (gsr M p (upd (M p) 3 x)) p tx len := ⟨by rw [gsr_s, pk_un (by decide)]; exact h.1, fun j hj => by rw [gsr_n _ _ (by omega)]; exact h.2 j hj⟩
theorem gw0 {x lo hi : Int32} (h : x < lo ∨ hi < x) : (0 : Int32) = if lo ≤ x ∧ x ≤ hi then 1 else 0 := by
  rw [if_neg]
  rintro ⟨h1, h2⟩
  rcases h with z | z
  · exact Int32.not_le.mpr z h1
  · exact Int32.not_le.mpr z h2
theorem gw1 {x lo hi : Int32} (h1 : ¬ x < lo) (h2 : ¬ hi < x) : (1 : Int32) = if lo ≤ x ∧ x ≤ hi then 1 else 0 := by
  rw [if_pos ⟨Int32.not_lt.mp h1, Int32.not_lt.mp h2⟩]
set_option maxHeartbeats 4000000 in
set_option maxRecDepth 100000 in
theorem c_within {d : Nat} {x lo hi : Int32} {sh : List gS} {M : gM} {Q : Option Value → List gS → gM → Prop} (h : Q (some (.int (if lo ≤ x ∧ x ≤ hi then 1 else 0))) sh M) : gC mX6_within d 0 0 [.int x, .int lo, .int hi] sh M Q := by
  refine gC_of (rt := 2) (ini := false) gm_X6_within rfl (by decide) (Nat.le_of_ble_eq_true rfl) (fun X hX => ?_)
  refine s_iload_n (q := 1) hX dX6_within_0 rfl rfl ?_
  refine s_iload_n (q := 2) hX dX6_within_1 rfl rfl ?_
  refine s_icmp_lt (q := 5) (r := 14) hX dX6_within_2 rfl rfl (fun c2 => ?_) (fun c2 => ?_)
  · refine s_iconst (q := 15) (v := 0) hX dX6_within_14 rfl rfl ?_
    refine s_iret hX dX6_within_15 (Or.inr ⟨rfl, Or.inl rfl⟩) ⟨Nat.le_refl _, Nat.le_refl _, Nat.le_refl _, ?_⟩
    first | exact gqv h (gw0 (Or.inl (by assumption))) rfl | exact gqv h (gw0 (Or.inr (by assumption))) rfl
  · refine s_iload_n (q := 6) hX dX6_within_5 rfl rfl ?_
    refine s_iload_n (q := 7) hX dX6_within_6 rfl rfl ?_
    refine s_icmp_gt (q := 10) (r := 14) hX dX6_within_7 rfl rfl (fun c7 => ?_) (fun c7 => ?_)
    · refine s_iconst (q := 15) (v := 0) hX dX6_within_14 rfl rfl ?_
      refine s_iret hX dX6_within_15 (Or.inr ⟨rfl, Or.inl rfl⟩) ⟨Nat.le_refl _, Nat.le_refl _, Nat.le_refl _, ?_⟩
      first | exact gqv h (gw0 (Or.inl (by assumption))) rfl | exact gqv h (gw0 (Or.inr (by assumption))) rfl
    · refine s_iconst (q := 11) (v := 1) hX dX6_within_10 rfl rfl ?_
      refine s_goto (q := 15) hX dX6_within_11 rfl ?_
      refine s_iret hX dX6_within_15 (Or.inr ⟨rfl, Or.inr rfl⟩) ⟨Nat.le_refl _, Nat.le_refl _, Nat.le_refl _, ?_⟩
      exact gqv h (gw1 c2 c7) rfl
theorem gwithin {a b c : Nat} (h1 : a < 2 ^ 31) (h2 : b < 2 ^ 31) (h3 : c < 2 ^ 31) : (nI b ≤ nI a ∧ nI a ≤ nI c) ↔ (b ≤ a ∧ a ≤ c) := by
  rw [nI_leI h2 h1, nI_leI h1 h3]
theorem guu (f : Nat → Int32) (k : Nat) (x y : Int32) : upd (upd f k x) k y = upd f k y := by
  funext j
  by_cases h : j = k
  · subst h; rw [pk_us, pk_us]
  · rw [pk_un h, pk_un h, pk_un h]
theorem DRF.keep8 {M M' : gM} {t : Nat} {T : gT} (h : DRF M t T) (hin : ∀ c, t ≤ c → c ≤ t + 5 → M' c = M c) : DRF M' t T := ⟨h.1.keep hin, fun j h1 h2 => by rw [hin (t + 5) (by omega) (by omega)]; exact h.2 j h1 h2⟩
theorem PAP.keep9 {M M' : gM} {p len : Nat} {tx : Nat → Nat} (h : PAP M p tx len) (h1 : M' p = M p) (h2 : M' (p + 1) = M (p + 1)) : PAP M' p tx len := by
  unfold PAP; rw [h1, h2]; exact h
