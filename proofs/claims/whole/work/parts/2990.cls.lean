/-! THE WHOLE STATE, in numbers: town, street, undone, kept, seen, text -/
abbrev gA : Type := gT × gU × (Nat × (Nat → gU)) × (Nat × (Nat → gU)) × gN × (Nat × (Nat → Nat))
def gA.T (S : gA) : gT := S.1
def gA.U (S : gA) : gU := S.2.1
def gA.un (S : gA) : Nat × (Nat → gU) := S.2.2.1
def gA.kp (S : gA) : Nat × (Nat → gU) := S.2.2.2.1
def gA.N (S : gA) : gN := S.2.2.2.2.1
def gA.tx (S : gA) : Nat × (Nat → Nat) := S.2.2.2.2.2
/-- days are at most b -/
def gA.ok (S : gA) (b : Nat) : Prop := S.T.ok ∧ 0 < S.T.P ∧ (S.U.ok S.T.P ∧ S.U.d ≤ b) ∧ (S.un.1 ≤ 8 ∧ ∀ k, k < S.un.1 → (S.un.2 k).ok S.T.P ∧ (S.un.2 k).d ≤ b) ∧ (S.kp.1 ≤ 2 ∧ ∀ k, k < S.kp.1 → (S.kp.2 k).ok S.T.P ∧ (S.kp.2 k).d ≤ b) ∧ S.N.ok ∧ txok S.tx.2 S.tx.1
theorem gA.ok_up {S : gA} {b c : Nat} (h : S.ok b) (hc : b ≤ c) : S.ok c := by
  obtain ⟨h1, h2, h3, h4, h5, h6, h7⟩ := h
  exact ⟨h1, h2, ⟨h3.1, Nat.le_trans h3.2 hc⟩, ⟨h4.1, fun k hk => ⟨(h4.2 k hk).1, Nat.le_trans (h4.2 k hk).2 hc⟩⟩, ⟨h5.1, fun k hk => ⟨(h5.2 k hk).1, Nat.le_trans (h5.2 k hk).2 hc⟩⟩, h6, h7⟩
def gA.setU (S : gA) (U : gU) : gA := (S.T, U, S.un, S.kp, S.N, S.tx)
def gA.know (S : gA) : gA := (S.T, S.U, (min 8 (S.un.1 + 1), fun k => if k = 0 then S.U else S.un.2 (k - 1)), S.kp, S.N, S.tx)
def gA.setX (S : gA) (x : Nat × (Nat → Nat)) : gA := (S.T, S.U, S.un, S.kp, S.N, x)
def gA.setN (S : gA) (N : gN) : gA := (S.T, S.U, S.un, S.kp, N, S.tx)
theorem gA.know_ok {S : gA} {b : Nat} (h : S.ok b) : S.know.ok b := by
  obtain ⟨h1, h2, h3, h4, h5, h6, h7⟩ := h
  refine ⟨h1, h2, h3, ⟨Nat.min_le_left _ _, fun k hk => ?_⟩, h5, h6, h7⟩
  have hk : k < min 8 (S.un.1 + 1) := hk
  show (if k = 0 then S.U else S.un.2 (k - 1)).ok S.T.P ∧ (if k = 0 then S.U else S.un.2 (k - 1)).d ≤ b
  split
  · exact h3
  · exact h4.2 (k - 1) (by omega)
theorem gA.setU_ok {S : gA} {b : Nat} {U : gU} (h : S.ok b) (hU : U.ok S.T.P) (hd : U.d ≤ b) : (S.setU U).ok b := by
  obtain ⟨h1, h2, h3, h4, h5, h6, h7⟩ := h
  exact ⟨h1, h2, ⟨hU, hd⟩, h4, h5, h6, h7⟩
/-! an argument in its range -/
def rng (x : Int32) (lo n : Nat) : Option Nat := if (lo : Int) ≤ x.toInt ∧ x.toInt < n then some x.toInt.toNat else none
theorem rng_s {x : Int32} {lo n i : Nat} (h : rng x lo n = some i) : lo ≤ i ∧ i < n ∧ x = nI i := by
  unfold rng at h
  by_cases hc : (lo : Int) ≤ x.toInt ∧ x.toInt < n
  · rw [if_pos hc] at h
    have e : x.toInt.toNat = i := Option.some.inj h
    refine ⟨by omega, by omega, ?_⟩
    apply Int32.toInt_inj.mp
    have := Int32.toInt_lt x
    rw [nI_toInt (by omega)]; omega
  · rw [if_neg hc] at h; cases h
theorem rng_n {x : Int32} {lo n : Nat} (hl : lo ≤ 100000) (hn : n ≤ 100000) (h : ¬ (nI lo ≤ x ∧ x ≤ nI n - 1)) : rng x lo n = none := by
  unfold rng
  rw [if_neg]
  rintro ⟨h1, h2⟩
  apply h
  rw [Int32.le_iff_toInt_le, Int32.le_iff_toInt_le, nI_toInt (by omega), show (1 : Int32) = nI 1 from rfl, pk_sub_toInt (by omega) (by omega)]
  exact ⟨h1, by omega⟩
theorem rng_y {x : Int32} {lo n : Nat} (hl : lo ≤ 100000) (hn : n ≤ 100000) (h : nI lo ≤ x ∧ x ≤ nI n - 1) : ∃ i, rng x lo n = some i := by
  rw [Int32.le_iff_toInt_le, Int32.le_iff_toInt_le, nI_toInt (by omega), show (1 : Int32) = nI 1 from rfl, pk_sub_toInt (by omega) (by omega)] at h
  exact ⟨x.toInt.toNat, if_pos ⟨h.1, by omega⟩⟩
/-! the shape of the class, the town at t -/
def isCls (sh : List gS) (t : Nat) : Prop := sh[0]? = some (.inl (6, [some (.ref 1), some (.ref t), some (.ref (15 - t)), some (.ref 18), some (.ref 22), some (.ref 26), some (.ref 60), some (.ref 70), some (.ref 75), some (.ref 82)])) ∧ (t = 4 ∨ t = 11) ∧ isPaper sh 1 ∧ (isTown sh 4 ∧ isTown sh 11) ∧ isStreet sh 18 ∧ isStreet sh 22 ∧ isShelf sh 26 8 ∧ isShelf sh 60 2 ∧ isCho sh 70 ∧ isWit sh 75 ∧ sh[82]? = some (.inr (.inl (0, 3)))
theorem isCls.tw {sh : List gS} {t : Nat} (h : isCls sh t) : isTown sh t := by
  rcases h.2.1 with e | e
  · subst e; exact h.2.2.2.1.1
  · subst e; exact h.2.2.2.1.2
theorem isCls.df {sh : List gS} {t : Nat} (h : isCls sh t) : isTown sh (15 - t) := by
  rcases h.2.1 with e | e
  · subst e; exact h.2.2.2.1.2
  · subst e; exact h.2.2.2.1.1
def CLS (M : gM) (t : Nat) (S : gA) : Prop := PAP M 1 S.tx.2 S.tx.1 ∧ TWN M t S.T ∧ STR M 18 S.T.P S.U ∧ (∃ nw, SHF M 26 8 nw S.un.1 S.T.P S.un.2) ∧ (∃ nw, SHF M 60 2 nw S.kp.1 S.T.P S.kp.2) ∧ WIT M 75 S.N
theorem SHF.keep {M M' : gM} {e n nw sz P : Nat} {us : Nat → gU} (h : SHF M e n nw sz P us) (hn : 0 < n) (hM : ∀ c, e ≤ c → c < e + 2 + 4 * n → M' c = M c) : SHF M' e n nw sz P us := by
  obtain ⟨h1, h2, h3, h4, h5⟩ := h
  refine ⟨by rw [hM e (by omega) (by omega)]; exact h1, by rw [hM e (by omega) (by omega)]; exact h2, h3, h4, fun k hk => (h5 k hk).keep (fun c a b => hM c ?_ ?_)⟩
  · omega
  · have := Nat.mod_lt (nw + n - k) hn
    omega
theorem CLS.keep {M M' : gM} {t : Nat} {S : gA} (ht : t = 4 ∨ t = 11) (h : CLS M t S) (h1 : M' 1 = M 1) (h2 : M' 2 = M 2) (h3 : ∀ c, t ≤ c → c ≤ t + 5 → M' c = M c) (h4 : ∀ c, 18 ≤ c → c ≤ 21 → M' c = M c) (h5 : ∀ c, 26 ≤ c → c < 70 → M' c = M c) (h6 : M' 75 6 = M 75 6) (h7 : ∀ c, 76 ≤ c → c ≤ 78 → M' c = M c) : CLS M' t S := by
  obtain ⟨a1, a2, a3, ⟨n1, a4⟩, ⟨n2, a5⟩, a6⟩ := h
  exact ⟨a1.keep9 h1 h2, a2.keep h3, a3.keep h4, ⟨n1, a4.keep (by omega) (fun c a b => h5 c (by omega) (by omega))⟩, ⟨n2, a5.keep (by omega) (fun c a b => h5 c (by omega) (by omega))⟩, a6.keep h6 (h7 76 (by omega) (by omega)) (h7 77 (by omega) (by omega)) (h7 78 (by omega) (by omega))⟩
/-! ANSWERS -/
abbrev gO : Type := Int32 × gA
def gA.write (S : gA) (x : Int32) : gO := match rng x 32 127 with
  | none => (-1, S)
  | some c => if S.tx.1 < 200 then (nI (S.tx.1 + 1), S.setX (S.tx.1 + 1, fun j => if j = S.tx.1 then c else S.tx.2 j)) else (-3, S)
def gA.wipe (S : gA) : gO := (nI S.tx.1, S.setX (0, S.tx.2))
def gA.fault (S : gA) : gO := match flt S.tx.2 S.tx.1 200 0 gT.e0 with
  | .inl q => (nI q, S)
  | .inr _ => (-4, S)
def gA.lay (S : gA) : gO := match flt S.tx.2 S.tx.1 200 0 gT.e0 with
  | .inl _ => (-2, S)
  | .inr T => if T.P = 0 then (-2, S) else (nI T.P, (T, T.U0, (0, S.un.2), (0, S.kp.2), (0, S.N.2), S.tx))
def gA.person (S : gA) (x y : Int32) : gO := match rng x 0 S.T.P with
  | none => (-1, S)
  | some i => match rng y 0 7 with
    | none => (-1, S)
    | some w => (if w = 0 then nI (S.T.kd i) else if w = 4 then nI (hueN (S.U.tr i)) else if w = 5 then S.U.c i else if w = 6 then S.U.w i else nI (S.U.h (3 * i + w - 1)), S)
def gA.deed (S : gA) (x y : Int32) : gO := match rng x 0 S.T.D with
  | none => (-1, S)
  | some k => match rng y 0 4 with
    | none => (-1, S)
    | some w => (if w = 3 then nI (S.T.wo k) else nI (S.T.co (3 * k + w)), S)
def gA.told (S : gA) (x y : Int32) : gO := match rng x 0 S.T.P with
  | none => (-1, S)
  | some i => match rng y 0 7 with
    | none => (-1, S)
    | some d => (S.T.pl (7 * i + d), S)
def gA.can (S : gA) (x y : Int32) : gO := match rng x 0 S.T.P with
  | none => (-1, S)
  | some i => match rng y 0 S.T.D with
    | none => (-1, S)
    | some k => (if S.T.can i k (S.U.tr i) = true then 1 else 0, S)
def gA.pass (S : gA) (x : Int32) : gO := match rng x 1 31 with
  | none => (-1, S)
  | some n => (nI ((S.T.days n S.U).d % 7), S.know.setU (S.T.days n S.U))
def gA.act (S : gA) (x y : Int32) : gO := match rng x 0 S.T.P with
  | none => (-1, S)
  | some i => match rng y 0 S.T.D with
    | none => (-1, S)
    | some k => if S.T.can i k (S.U.tr i) = true then (nI (S.T.pay i k (S.U.tr i) 0 + S.T.pay i k (S.U.tr i) 1 + S.T.pay i k (S.U.tr i) 2), S.know.setU (S.T.act i k S.U)) else (-2, S)
def gA.lend (S : gA) (x y z w : Int32) : gO := match rng x 0 S.T.P with
  | none => (-1, S)
  | some i => match rng y 0 S.T.P with
    | none => (-1, S)
    | some j => if i = j then (-1, S) else match rng z 0 3 with
      | none => (-1, S)
      | some s => match rng w 1 100 with
        | none => (-1, S)
        | some n => if S.U.h (3 * i + s) < n then (-2, S) else if 99 < S.U.h (3 * j + s) + n then (-3, S) else
            (nI (S.U.h (3 * j + s) + n), S.know.setU (fun q => if q = 3 * j + s then S.U.h q + n else if q = 3 * i + s then S.U.h q - n else S.U.h q, S.U.c, S.U.w, S.U.d))
def gA.sell (S : gA) (x z w : Int32) : gO := match rng x 0 S.T.P with
  | none => (-1, S)
  | some i => match rng z 0 3 with
    | none => (-1, S)
    | some s => match rng w 1 100 with
      | none => (-1, S)
      | some n => if S.U.h (3 * i + s) < n then (-2, S) else
          (S.U.c i + nI (n * S.T.pr), S.know.setU (fun q => if q = 3 * i + s then S.U.h q - n else S.U.h q, fun q => if q = i then S.U.c i + nI (n * S.T.pr) else S.U.c q, S.U.w, S.U.d))
def gT.lev (T : gT) (s : Nat) : Nat → gU → Nat × gU
  | 0, U => (0, U)
  | n + 1, U => if U.h (3 * U.mx s T.P + s) = 0 then (0, U) else ((T.lev s n (U.tk (3 * U.mx s T.P + s))).1 + 1, (T.lev s n (U.tk (3 * U.mx s T.P + s))).2)
def gA.levy (S : gA) (z w : Int32) : gO := match rng z 0 3 with
  | none => (-1, S)
  | some s => match rng w 1 100 with
    | none => (-1, S)
    | some n => (nI (S.T.lev s n S.U).1, S.know.setU (S.T.lev s n S.U).2)
def gA.undo (S : gA) : gO := if S.un.1 = 0 then (-2, S) else (nI (S.un.1 - 1), (S.T, S.un.2 0, (S.un.1 - 1, fun k => S.un.2 (k + 1)), S.kp, S.N, S.tx))
def gA.behind (S : gA) (x y z : Int32) : gO := match rng x 0 61 with
  | none => (-1, S)
  | some n => match rng y 0 S.T.P with
    | none => (-1, S)
    | some i => match rng z 0 5 with
      | none => (-1, S)
      | some w => (if w = 3 then nI (hueN ((S.T.days n S.U).tr i)) else if w = 4 then (S.T.days n S.U).w i - S.U.w i else nI ((S.T.days n S.U).h (3 * i + w)), S)
def gT.gry (T : gT) : Nat → gU → Option (Nat × Nat)
  | 0, _ => none
  | n + 1, U => match (T.sea (T.told T.P U)).fg T.P with
    | some i => some (i, 60 - n)
    | none => T.gry n (T.over (T.sea (T.told T.P U)))
def gA.grey (S : gA) (x : Int32) : gO := match rng x 0 2 with
  | none => (-1, S)
  | some w => match S.T.gry 60 S.U with
    | none => (-4, S)
    | some q => (if w = 0 then nI q.1 else nI q.2, S)
def gA.bb (S : gA) (i : Nat) : gB := S.T.bs i S.T.D 0 (S.U.tr i) 0 0 0 (0, 0, 0)
def gA.best (S : gA) (x y : Int32) : gO := match rng x 0 S.T.P with
  | none => (-1, S)
  | some i => if y = -1 then (gkv (S.bb i).1, S) else match rng y 0 S.T.D with
    | none => (-1, S)
    | some k => (nI ((S.bb i).2.2 / 6 ^ (S.T.D - 1 - k) % 6), S)
def gA.need (S : gA) (i s : Nat) : Nat := if S.T.pl (7 * i + S.U.d % 7) = -4 then 0 else S.T.cs i (S.T.pl (7 * i + S.U.d % 7)).toNatClampNeg s
def gA.lsum (S : gA) (s : Nat) : Nat := sumN (fun i => S.need i s - S.U.h (3 * i + s)) S.T.P
abbrev gA.lok (S : gA) (s : Nat) : Prop := sumN (fun i => S.need i s) S.T.P ≤ sumN (fun i => S.U.h (3 * i + s)) S.T.P
def gA.lending (S : gA) : gO := if S.lok 0 ∧ S.lok 1 ∧ S.lok 2 then (nI (S.lsum 0 + S.lsum 1 + S.lsum 2), S) else (-4, S)
def popc (n : Nat) : Nat := sumN (fun k => n / 2 ^ k % 2) 8
def gA.sm (S : gA) (set s : Nat) : Nat := sumN (fun i => set / 2 ^ i % 2 * S.U.h (3 * i + s)) S.T.P
def gA.hpo (S : gA) (r y b : Nat) (set : Nat) : Prop := r ≤ S.sm set 0 ∧ y ≤ S.sm set 1 ∧ b ≤ S.sm set 2
def gA.hpf (S : gA) (r y b : Nat) : Nat → Option Nat
  | 0 => none
  | n + 1 => if (r ≤ S.sm n 0 ∧ y ≤ S.sm n 1 ∧ b ≤ S.sm n 2) ∧ popc n < (match S.hpf r y b n with
      | none => 7
      | some f => popc f) then some n else S.hpf r y b n
def gA.heap (S : gA) (x y z : Int32) : gO := match rng x 0 100 with
  | none => (-1, S)
  | some r => match rng y 0 100 with
    | none => (-1, S)
    | some q => match rng z 0 100 with
      | none => (-1, S)
      | some b => match S.hpf r q b (2 ^ S.T.P) with
        | none => (-4, S)
        | some f => (nI f, S)
def gA.seen (S : gA) (x y z : Int32) : gO := match rng x 0 S.T.P with
  | none => (-1, S)
  | some i => match rng y 1 5 with
    | none => (-1, S)
    | some d => match rng z 0 8 with
      | none => (-1, S)
      | some u => if S.N.n < 7 then (nI (S.N.n + 1), S.setN (S.N.add i d u)) else (-3, S)
def gA.forget (S : gA) : gO := (nI S.N.n, S.setN (0, S.N.2))
def gA.spent (S : gA) (x y : Int32) : gO := match rng x 0 S.T.P with
  | none => (-1, S)
  | some i => match rng y 0 (S.N.la i S.N.n + 1) with
    | none => (-1, S)
    | some k => if k = 0 then (nI (S.T.wy S.N i (S.N.la i S.N.n) (S.U.d % 7) 0 (S.U.tr i)), S) else match S.T.fp S.N i (S.N.la i S.N.n) (S.U.d % 7) 0 (S.U.tr i) with
      | none => (-4, S)
      | some p => (chv (p (k - 1)), S)
def gT.svd (T : gT) (i s n : Nat) : Nat → (Nat → Nat) → Option Nat
  | 0, _ => none
  | m + 1, h => if n ≤ h s then some (50 - m) else T.svd i s n m (T.rn i h)
def gA.saved (S : gA) (x z w : Int32) : gO := match rng x 0 S.T.P with
  | none => (-1, S)
  | some i => match rng z 0 3 with
    | none => (-1, S)
    | some s => match rng w 0 100 with
      | none => (-1, S)
      | some n => match S.T.svd i s n 51 (S.U.tr i) with
        | none => (-4, S)
        | some m => (nI m, S)
/-- how often in a row, at most m times -/
def gT.row (T : gT) (i k : Nat) : Nat → (Nat → Nat) → Nat
  | 0, _ => 0
  | m + 1, h => if T.can i k h = true then T.row i k m (fun s => h s - T.pay i k h s) + 1 else 0
def bin : Nat → Nat → Nat
  | _, 0 => 1
  | 0, _ + 1 => 0
  | n + 1, k + 1 => bin n k + bin n (k + 1)
def abv (n x c : Nat) : Nat := sumN (fun w => bin n w * x ^ w * (10 - x) ^ (n - w)) (c + 1)
def gA.lasts (S : gA) (x y z u w : Int32) : gO := match rng x 0 S.T.P with
  | none => (-1, S)
  | some i => match rng y 0 S.T.D with
    | none => (-1, S)
    | some k => match rng z 0 11 with
      | none => (-1, S)
      | some q => match rng u 0 8 with
        | none => (-1, S)
        | some n => match rng w 0 2 with
          | none => (-1, S)
          | some p => (nI ((if p = 0 then abv n q (S.T.row i k n (S.U.tr i)) else 10 ^ n) / Nat.gcd (abv n q (S.T.row i k n (S.U.tr i))) (10 ^ n)), S)
def gT.yr (T : gT) (z : Nat) : Nat → gU → Nat × gU
  | 0, U => (0, U)
  | n + 1, U => ((T.yr z n U).1 + (T.sea (T.drw z n T.P (T.yr z n U).2)).gc T.P, T.over (T.sea (T.drw z n T.P (T.yr z n U).2)))
def gA.year (S : gA) (x y z : Int32) : gO := match rng x 0 10000 with
  | none => (-1, S)
  | some q => match rng y 1 61 with
    | none => (-1, S)
    | some n => match rng z 0 2 with
      | none => (-1, S)
      | some w => (if w = 0 then nI (S.T.yr q n S.U).1 else sumI (S.T.yr q n S.U).2.w S.T.P - sumI S.U.w S.T.P, S)
def gA.keep (S : gA) : gO := if S.kp.1 < 2 then (nI (S.kp.1 + 1), (S.T, S.U, S.un, (S.kp.1 + 1, fun k => if k = 0 then S.U else S.kp.2 (k - 1)), S.N, S.tx)) else (-3, S)
def gA.back (S : gA) : gO := if S.kp.1 = 0 then (-2, S) else (nI (S.kp.1 - 1), (S.T, S.kp.2 0, (0, S.un.2), (S.kp.1 - 1, fun k => S.kp.2 (k + 1)), S.N, S.tx))
def gA.count (S : gA) (x : Int32) : gO := match rng x 0 10 with
  | none => (-1, S)
  | some w => (if w = 0 then nI S.T.P else if w = 1 then nI S.T.D else if w = 2 then nI (S.U.d % 7) else if w = 3 then nI S.U.d else if w = 4 then sumI (fun j => nI (S.U.h j)) (3 * S.T.P) else if w = 5 then nI (S.U.gc S.T.P) else if w = 6 then nI S.N.n else if w = 7 then nI S.un.1 else if w = 8 then nI S.kp.1 else nI S.tx.1, S)
