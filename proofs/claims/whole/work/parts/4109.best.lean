/-! THE BEST ROW, by codes -/
theorem lck_cg {c h g : Nat → Nat} (e : ∀ s, s < 3 → h s = g s) : lck c h 3 = lck c g 3 := by
  show 0 + (c 0 - h 0) + (c 1 - h 1) + (c 2 - h 2) = 0 + (c 0 - g 0) + (c 1 - g 1) + (c 2 - g 2)
  rw [e 0 (by omega), e 1 (by omega), e 2 (by omega)]
theorem mnc_cg {c h g : Nat → Nat} {s : Nat} (e : h s = g s) : mnc c h s = mnc c g s := by unfold mnc; rw [e]
theorem rich_lt (c h : Nat → Nat) : rich c h < 3 := by unfold rich; (repeat' split) <;> omega
theorem rich_cg {c h g : Nat → Nat} (e : ∀ s, s < 3 → h s = g s) : rich (mnc c h) h = rich (mnc c g) g := by
  unfold rich
  rw [mnc_cg (e 0 (by omega)), mnc_cg (e 1 (by omega)), mnc_cg (e 2 (by omega)), e 0 (by omega), e 1 (by omega), e 2 (by omega)]
theorem gT.can_cg {T : gT} {i k : Nat} {h g : Nat → Nat} (e : ∀ s, s < 3 → h s = g s) : T.can i k h = T.can i k g := by
  unfold gT.can canC
  have hr := rich_lt (mnc (T.cs i k) g) g
  rw [lck_cg e, rich_cg e, mnc_cg (e _ hr), e _ hr]
theorem gT.pay_cg {T : gT} {i k s : Nat} {h g : Nat → Nat} (e : ∀ s, s < 3 → h s = g s) (hs : s < 3) : T.pay i k h s = T.pay i k g s := by
  unfold gT.pay payC
  rw [lck_cg e, rich_cg e, mnc_cg (e s hs)]
theorem gT.act_tr {T : gT} {i k : Nat} {V : gU} (hc : T.can i k (V.tr i) = true) : ∀ s, s < 3 → (T.act i k V).tr i s = V.tr i s - T.pay i k (V.tr i) s := by
  intro s hs
  unfold gT.act
  rw [if_pos hc]
  show (if (3 * i + s) / 3 = i then V.h (3 * i + s) - T.pay i k (V.tr i) ((3 * i + s) % 3) else V.h (3 * i + s)) = _
  rw [if_pos (by omega), show (3 * i + s) % 3 = s by omega]
  rfl
/-- deed k's digit in a code -/
def dgt (D v k : Nat) : Nat := v / 6 ^ (D - 1 - k) % 6
def gT.ev (T : gT) (i : Nat) : Nat → Nat → (Nat → Nat) → Nat → Nat → (Nat → Nat) → Option (Nat × Nat)
  | 0, _, _, w, s, _ => some (w, s)
  | r + 1, k, h, w, s, dg => match T.rp i k h (dg k) with
    | none => none
    | some g => T.ev i r (k + 1) g (w + dg k * T.wo k) (s + dg k) dg
def gT.cd (T : gT) (i D r k : Nat) (h : Nat → Nat) (w s c : Nat) (x : gB) : Prop := x.2.2 / 6 ^ r = c ∧ ∃ q, T.ev i r k h w s (dgt D x.2.2) = some q ∧ x.1 = q.1 + 1 ∧ x.2.1 = q.2
def gge (x y : gB) : Prop := y.1 < x.1 ∨ (y.1 = x.1 ∧ (x.2.1 < y.2.1 ∨ (x.2.1 = y.2.1 ∧ y.2.2 ≤ x.2.2)))
theorem gge_rf (x : gB) : gge x x := Or.inr ⟨rfl, Or.inr ⟨rfl, Nat.le_refl _⟩⟩
theorem gge_tr {x y z : gB} (h1 : gge x y) (h2 : gge y z) : gge x z := by unfold gge at *; omega
theorem gge_as {x y : gB} (h1 : gge x y) (h2 : gge y x) : x = y := by
  obtain ⟨a, b, c⟩ := x
  obtain ⟨d, e, f⟩ := y
  unfold gge at *
  dsimp only at *
  have e1 : a = d := by omega
  have e2 : b = e := by omega
  have e3 : c = f := by omega
  subst e1 e2 e3
  rfl
theorem gT.cd_dn {T : gT} {i D r k : Nat} {h : Nat → Nat} {w s c : Nat} {x : gB} (hD : k + (r + 1) = D) (hx : T.cd i D (r + 1) k h w s c x) : ∃ n g, n < 6 ∧ T.rp i k h n = some g ∧ T.cd i D r (k + 1) g (w + n * T.wo k) (s + n) (c * 6 + n) x := by
  obtain ⟨h1, q, h2, h3⟩ := hx
  have hd : dgt D x.2.2 k = x.2.2 / 6 ^ r % 6 := by unfold dgt; rw [show D - 1 - k = r by omega]
  have h2 : (match T.rp i k h (dgt D x.2.2 k) with
    | none => none
    | some g => T.ev i r (k + 1) g (w + dgt D x.2.2 k * T.wo k) (s + dgt D x.2.2 k) (dgt D x.2.2)) = some q := h2
  rw [hd] at h2
  cases hr : T.rp i k h (x.2.2 / 6 ^ r % 6) with
  | none => rw [hr] at h2; cases h2
  | some g =>
    rw [hr] at h2
    refine ⟨x.2.2 / 6 ^ r % 6, g, Nat.mod_lt _ (by decide), hr, ?_, q, h2, h3⟩
    rw [Nat.pow_succ, ← Nat.div_div_eq_div_mul] at h1
    omega
theorem gT.cd_up {T : gT} {i D r k : Nat} {h g : Nat → Nat} {w s c n : Nat} {x : gB} (hD : k + (r + 1) = D) (hn : n < 6) (hr : T.rp i k h n = some g) (hx : T.cd i D r (k + 1) g (w + n * T.wo k) (s + n) (c * 6 + n) x) : T.cd i D (r + 1) k h w s c x := by
  obtain ⟨h1, q, h2, h3⟩ := hx
  have hd : dgt D x.2.2 k = n := by unfold dgt; rw [show D - 1 - k = r by omega, h1]; omega
  refine ⟨?_, q, ?_, h3⟩
  · rw [Nat.pow_succ, ← Nat.div_div_eq_div_mul, h1]; omega
  · show (match T.rp i k h (dgt D x.2.2 k) with
      | none => none
      | some g => T.ev i r (k + 1) g (w + dgt D x.2.2 k * T.wo k) (s + dgt D x.2.2 k) (dgt D x.2.2)) = some q
    rw [hd, hr]
    exact h2
theorem gT.bs_max (T : gT) (i D : Nat) : ∀ (r k : Nat) (h : Nat → Nat) (w s c : Nat) (B : gB), k + r = D → (B.1 = 0 ∨ ∀ v, v / 6 ^ r = c → v < B.2.2) → (T.bs i r k h w s c B = B ∨ T.cd i D r k h w s c (T.bs i r k h w s c B)) ∧ gge (T.bs i r k h w s c B) B ∧ ∀ x, T.cd i D r k h w s c x → gge (T.bs i r k h w s c B) x
  | 0, k, h, w, s, c, B, hD, hB => by
    have hc : ∀ x, T.cd i D 0 k h w s c x → x = (w + 1, s, c) := by
      rintro ⟨a, b, v⟩ ⟨h1, q, h2, h3, h4⟩
      cases h2
      dsimp only at h1 h3 h4
      rw [Nat.pow_zero, Nat.div_one] at h1
      rw [h1, h3, h4]
    have e : T.bs i 0 k h w s c B = if bet w s B then (w + 1, s, c) else B := rfl
    rw [e]
    by_cases hb : bet w s B
    · rw [if_pos hb]
      refine ⟨Or.inr ⟨by rw [Nat.pow_zero, Nat.div_one], (w, s), rfl, rfl, rfl⟩, ?_, fun x hx => by rw [hc x hx]; exact gge_rf _⟩
      unfold bet at hb
      unfold gge
      dsimp only
      omega
    · rw [if_neg hb]
      refine ⟨Or.inl rfl, gge_rf _, fun x hx => ?_⟩
      rw [hc x hx]
      unfold bet at hb
      unfold gge
      dsimp only
      rcases hB with h0 | h0
      · omega
      · have := h0 c (by rw [Nat.pow_zero, Nat.div_one])
        omega
  | r + 1, k, h, w, s, c, B, hD, hB => by
    have key : ∀ (m : Nat) (B : gB), m ≤ 6 → (B.1 = 0 ∨ ∀ v, v / 6 ^ (r + 1) = c → v / 6 ^ r % 6 < m → v < B.2.2) → ∀ R, R = dnB (T.rp i k h) (fun n g B => T.bs i r (k + 1) g (w + n * T.wo k) (s + n) (c * 6 + n) B) m B → (R = B ∨ T.cd i D (r + 1) k h w s c R) ∧ gge R B ∧ ∀ n g, n < m → T.rp i k h n = some g → ∀ x, T.cd i D r (k + 1) g (w + n * T.wo k) (s + n) (c * 6 + n) x → gge R x := by
      intro m
      induction m with
      | zero =>
        intro B hm hB R hR
        have hR : R = B := hR
        subst hR
        exact ⟨Or.inl rfl, gge_rf _, fun n g hn => by omega⟩
      | succ m ih =>
        intro B hm hB R hR
        have hR : R = dnB (T.rp i k h) (fun n g B => T.bs i r (k + 1) g (w + n * T.wo k) (s + n) (c * 6 + n) B) m (match T.rp i k h m with
          | none => B
          | some g => T.bs i r (k + 1) g (w + m * T.wo k) (s + m) (c * 6 + m) B) := hR
        cases hr : T.rp i k h m with
        | none =>
          rw [hr] at hR
          obtain ⟨a1, a2, a3⟩ := ih B (by omega) (hB.imp id (fun z v h1 h2 => z v h1 (by omega))) R hR
          refine ⟨a1, a2, fun n g hn hg => ?_⟩
          by_cases e : n = m
          · subst e; rw [hr] at hg; cases hg
          · exact a3 n g (by omega) hg
        | some g =>
          rw [hr] at hR
          have hB1 : B.1 = 0 ∨ ∀ v, v / 6 ^ r = c * 6 + m → v < B.2.2 := hB.imp id (fun z v hv => z v (by rw [Nat.pow_succ, ← Nat.div_div_eq_div_mul, hv]; omega) (by rw [hv]; omega))
          obtain ⟨b1, b2, b3⟩ := T.bs_max i D r (k + 1) g (w + m * T.wo k) (s + m) (c * 6 + m) B (by omega) hB1
          obtain ⟨B', hB'⟩ : ∃ B', B' = T.bs i r (k + 1) g (w + m * T.wo k) (s + m) (c * 6 + m) B := ⟨_, rfl⟩
          rw [← hB'] at b1 b2 b3
          have hR : R = dnB (T.rp i k h) (fun n g B => T.bs i r (k + 1) g (w + n * T.wo k) (s + n) (c * 6 + n) B) m B' := by rw [hB']; exact hR
          have hC : B'.1 = 0 ∨ ∀ v, v / 6 ^ (r + 1) = c → v / 6 ^ r % 6 < m → v < B'.2.2 := by
            rcases b1 with e | e
            · rw [e]; exact hB.imp id (fun z v h1 h2 => z v h1 (by omega))
            · refine Or.inr (fun v h1 h2 => ?_)
              have e1 := e.1
              rw [Nat.pow_succ, ← Nat.div_div_eq_div_mul] at h1
              rcases Nat.lt_or_ge v B'.2.2 with z | z
              · exact z
              · have := Nat.div_le_div_right (c := 6 ^ r) z
                omega
          obtain ⟨a1, a2, a3⟩ := ih B' (by omega) hC R hR
          refine ⟨?_, gge_tr a2 b2, fun n g2 hn hg x hx => ?_⟩
          · rcases a1 with e | e
            · rw [e]
              exact b1.imp id (fun z => T.cd_up hD (by omega) hr z)
            · exact Or.inr e
          · by_cases e : n = m
            · subst e
              rw [hr] at hg
              have e2 : g = g2 := Option.some.inj hg
              subst e2
              exact gge_tr a2 (b3 x hx)
            · exact a3 n g2 (by omega) hg x hx
    obtain ⟨a1, a2, a3⟩ := key 6 B (Nat.le_refl _) (hB.imp id (fun z v h1 _ => z v h1)) (T.bs i (r + 1) k h w s c B) rfl
    refine ⟨a1, a2, fun x hx => ?_⟩
    obtain ⟨n, g, hn, hg, hx⟩ := T.cd_dn hD hx
    exact a3 n g hn hg x hx
/-- upwards, of several the last -/
def gT.mb (T : gT) (i D : Nat) (h : Nat → Nat) : Nat → gB
  | 0 => (1, 0, 0)
  | n + 1 => match T.ev i D 0 h 0 0 (dgt D (n + 1)) with
    | none => T.mb i D h n
    | some q => if (T.mb i D h n).1 < q.1 + 1 ∨ ((T.mb i D h n).1 = q.1 + 1 ∧ q.2 ≤ (T.mb i D h n).2.1) then (q.1 + 1, q.2, n + 1) else T.mb i D h n
theorem gT.ev_0 (T : gT) (i : Nat) (dg : Nat → Nat) (h0 : ∀ k, dg k = 0) : ∀ (r k : Nat) (h : Nat → Nat) (w s : Nat), T.ev i r k h w s dg = some (w, s)
  | 0, k, h, w, s => rfl
  | r + 1, k, h, w, s => by
    show (match T.rp i k h (dg k) with
      | none => none
      | some g => T.ev i r (k + 1) g (w + dg k * T.wo k) (s + dg k) dg) = some (w, s)
    rw [h0 k]
    show T.ev i r (k + 1) h (w + 0 * T.wo k) (s + 0) dg = some (w, s)
    rw [T.ev_0 i dg h0 r (k + 1) h, Nat.zero_mul]
    rfl
theorem dgt_0 (D k : Nat) : dgt D 0 k = 0 := by unfold dgt; rw [Nat.zero_div]
theorem gT.mb_max (T : gT) (i D : Nat) (h : Nat → Nat) : ∀ n, ((T.mb i D h n).2.2 ≤ n ∧ ∃ q, T.ev i D 0 h 0 0 (dgt D (T.mb i D h n).2.2) = some q ∧ (T.mb i D h n).1 = q.1 + 1 ∧ (T.mb i D h n).2.1 = q.2) ∧ ∀ v q, v ≤ n → T.ev i D 0 h 0 0 (dgt D v) = some q → gge (T.mb i D h n) (q.1 + 1, q.2, v)
  | 0 => by
    refine ⟨⟨Nat.le_refl _, (0, 0), T.ev_0 i _ (dgt_0 D) D 0 h 0 0, rfl, rfl⟩, fun v q hv hq => ?_⟩
    have e : v = 0 := by omega
    subst e
    rw [T.ev_0 i _ (dgt_0 D) D 0 h 0 0] at hq
    cases hq
    exact gge_rf _
  | n + 1 => by
    obtain ⟨⟨a1, a2⟩, a3⟩ := T.mb_max i D h n
    have e : T.mb i D h (n + 1) = (match T.ev i D 0 h 0 0 (dgt D (n + 1)) with
      | none => T.mb i D h n
      | some q => if (T.mb i D h n).1 < q.1 + 1 ∨ ((T.mb i D h n).1 = q.1 + 1 ∧ q.2 ≤ (T.mb i D h n).2.1) then (q.1 + 1, q.2, n + 1) else T.mb i D h n) := rfl
    rw [e]
    cases hq : T.ev i D 0 h 0 0 (dgt D (n + 1)) with
    | none =>
      dsimp only
      refine ⟨⟨by omega, a2⟩, fun v q hv hvq => ?_⟩
      by_cases z : v = n + 1
      · subst z; rw [hq] at hvq; cases hvq
      · exact a3 v q (by omega) hvq
    | some q0 =>
      dsimp only
      by_cases hc : (T.mb i D h n).1 < q0.1 + 1 ∨ ((T.mb i D h n).1 = q0.1 + 1 ∧ q0.2 ≤ (T.mb i D h n).2.1)
      · rw [if_pos hc]
        refine ⟨⟨Nat.le_refl _, q0, hq, rfl, rfl⟩, fun v q hv hvq => ?_⟩
        by_cases z : v = n + 1
        · subst z
          rw [hq] at hvq
          cases hvq
          exact gge_rf _
        · refine gge_tr ?_ (a3 v q (by omega) hvq)
          unfold gge
          dsimp only
          omega
      · rw [if_neg hc]
        refine ⟨⟨by omega, a2⟩, fun v q hv hvq => ?_⟩
        by_cases z : v = n + 1
        · subst z
          rw [hq] at hvq
          cases hvq
          unfold gge
          dsimp only
          omega
        · exact a3 v q (by omega) hvq
theorem gT.mb_bs (T : gT) (i D n : Nat) (h : Nat → Nat) (hn : n + 1 = 6 ^ D) : T.mb i D h n = T.bs i D 0 h 0 0 0 (0, 0, 0) := by
  obtain ⟨⟨a1, q, a2, a4, a5⟩, a3⟩ := T.mb_max i D h n
  obtain ⟨b1, b2, b3⟩ := T.bs_max i D D 0 h 0 0 0 (0, 0, 0) (by omega) (Or.inl rfl)
  obtain ⟨R, hR⟩ : ∃ R, R = T.bs i D 0 h 0 0 0 (0, 0, 0) := ⟨_, rfl⟩
  rw [← hR] at b1 b2 b3 ⊢
  have h1 : gge R (T.mb i D h n) := b3 _ ⟨Nat.div_eq_of_lt (by omega), q, a2, a4, a5⟩
  refine gge_as ?_ h1
  rcases b1 with e | ⟨e1, q2, e2, e3, e4⟩
  · rw [e] at h1
    unfold gge at h1
    dsimp only at h1
    omega
  · have e1 : R.2.2 < 6 ^ D := by
      have hp : 0 < 6 ^ D := Nat.pow_pos (by decide)
      rcases Nat.div_eq_zero_iff.mp e1 with z | z
      · omega
      · exact z
    have h2 := a3 R.2.2 q2 (by omega) e2
    rw [← e3, ← e4] at h2
    exact h2
theorem gT.ev_le {T : gT} {i : Nat} {dg : Nat → Nat} (hd : ∀ k, dg k < 6) (hw : ∀ k, k < T.D → T.wo k ≤ 9) : ∀ (r k : Nat) (h : Nat → Nat) (w s : Nat) (q : Nat × Nat), k + r = T.D → T.ev i r k h w s dg = some q → q.1 ≤ w + 45 * r ∧ q.2 ≤ s + 5 * r
  | 0, k, h, w, s, q, hk, e => by cases e; exact ⟨Nat.le_refl _, Nat.le_refl _⟩
  | r + 1, k, h, w, s, q, hk, e => by
    have e : (match T.rp i k h (dg k) with
      | none => none
      | some g => T.ev i r (k + 1) g (w + dg k * T.wo k) (s + dg k) dg) = some q := e
    cases hr : T.rp i k h (dg k) with
    | none => rw [hr] at e; cases e
    | some g =>
      rw [hr] at e
      obtain ⟨h1, h2⟩ := gT.ev_le hd hw r (k + 1) g _ _ q (by omega) e
      have h3 := hd k
      have h4 := hw k (by omega)
      have h5 : dg k * T.wo k ≤ 5 * 9 := Nat.mul_le_mul (by omega) h4
      omega
