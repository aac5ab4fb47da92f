theorem rng_at {x : Int32} {lo n j : Nat} (h : x.toInt = (j : Int)) (h1 : lo ≤ j) (h2 : j < n) : rng x lo n = some j := by
  unfold rng
  rw [if_pos ⟨by omega, by omega⟩, h]
  rfl
theorem rng_ex {x : Int32} {lo n : Nat} (h : (lo : Int) ≤ x.toInt) (h2 : x.toInt < n) : ¬ rng x lo n = none := by
  unfold rng
  rw [if_pos ⟨h, h2⟩]
  intro z; cases z
theorem rng_out {x : Int32} {lo n : Nat} (h : x.toInt < lo ∨ (n : Int) ≤ x.toInt) : rng x lo n = none := by
  unfold rng
  rw [if_neg (by omega)]
theorem y3 {y : Int32} {D : Nat} (hD : D ≤ 100000) (h1 : ¬ y < -1) (h2 : y < nI D) (h3 : ¬ y = -1) (h4 : rng y 0 D = none) : False := by
  rw [Int32.lt_iff_toInt_lt] at h1 h2
  rw [nI_toInt (by omega)] at h2
  have e : (-1 : Int32).toInt = -1 := by decide
  rw [e] at h1
  have h5 : ¬ y.toInt = -1 := fun z => h3 (Int32.toInt_inj.mp (by rw [z, e]))
  exact rng_ex (by omega) h2 h4
theorem y4 {y : Int32} {L : Nat} (hD : L ≤ 100000) (h1 : ¬ y < 0) (h2 : y ≤ nI L) (h4 : rng y 0 (L + 1) = none) : False := by
  rw [Int32.lt_iff_toInt_lt] at h1
  rw [Int32.le_iff_toInt_le, nI_toInt (by omega)] at h2
  have e : (0 : Int32).toInt = 0 := by decide
  rw [e] at h1
  exact rng_ex (by omega) (by omega) h4
theorem gU.fg_lt (U : gU) {i : Nat} : ∀ {n : Nat}, U.fg n = some i → i < n
  | 0, h => by cases h
  | n + 1, h => by
    have e : (match U.fg n with
      | some i => some i
      | none => if hueN (U.tr n) = 0 then some n else none) = some i := h
    cases hq : U.fg n with
    | some j =>
      rw [hq] at e
      have e2 : j = i := Option.some.inj e
      have := U.fg_lt hq
      omega
    | none =>
      rw [hq] at e
      dsimp only at e
      by_cases hz : hueN (U.tr n) = 0
      · rw [if_pos hz] at e
        have e2 : n = i := Option.some.inj e
        omega
      · rw [if_neg hz] at e; cases e
theorem gU.tk_ok {U : gU} {P j : Nat} (h : U.ok P) : (U.tk j).ok P ∧ (U.tk j).d = U.d := by
  refine ⟨⟨fun q hq => ?_, h.2⟩, rfl⟩
  have := h.1 q hq
  show (if q = j then U.h q - 1 else U.h q) ≤ 99
  split <;> omega
theorem gT.lev_ok {T : gT} {s : Nat} : ∀ (n : Nat) {U : gU}, U.ok T.P → (T.lev s n U).2.ok T.P ∧ (T.lev s n U).2.d = U.d ∧ (T.lev s n U).1 ≤ n
  | 0, U, h => ⟨h, rfl, Nat.le_refl _⟩
  | n + 1, U, h => by
    unfold gT.lev
    split
    · exact ⟨h, rfl, Nat.zero_le _⟩
    · obtain ⟨h1, h2⟩ := gU.tk_ok (j := 3 * U.mx s T.P + s) h
      obtain ⟨h3, h4, h5⟩ := T.lev_ok n h1
      exact ⟨h3, h4.trans h2, Nat.succ_le_succ h5⟩
theorem gT.yr_ok {T : gT} {z : Nat} {U : gU} (h : U.ok T.P) : ∀ n, U.d + n ≤ 100000 → (T.yr z n U).2.ok T.P ∧ (T.yr z n U).2.d = U.d + n ∧ (T.yr z n U).1 ≤ T.P * n
  | 0, _ => ⟨h, rfl, Nat.le_refl _⟩
  | n + 1, hn => by
    obtain ⟨h1, h2, h3⟩ := T.yr_ok (z := z) h n (by omega)
    obtain ⟨h4, h5⟩ := T.drw_ok (z := z) (k := n) h1 T.P
    have h6 := T.sea_ok h4
    have h7 := (T.sea (T.drw z n T.P (T.yr z n U).2)).gc_le T.P
    have e : (T.yr z (n + 1) U).2.d = U.d + (n + 1) := by
      show (T.drw z n T.P (T.yr z n U).2).d + 1 = _
      rw [h5, h2]; omega
    refine ⟨⟨T.over_h h6, by rw [e]; omega⟩, e, ?_⟩
    show (T.yr z n U).1 + (T.sea (T.drw z n T.P (T.yr z n U).2)).gc T.P ≤ T.P * (n + 1)
    rw [Nat.mul_succ]; omega
set_option maxHeartbeats 4000000 in
set_option maxRecDepth 100000 in
theorem k_levy {d t b : Nat} {z w : Int32} {S : gA} {sh : List gS} {M : gM} {Q : Option Value → List gS → gM → Prop} (hd : 3 ≤ d) (hC : isCls sh t) (hS : CLS M t S) (hk : S.ok b) (hb : b ≤ 20000) (hcon : kC sh M (S.levy z w) Q) : gC mX6_levy d 0 0 [.ref 0, .int z, .int w] sh M Q := by
  have hC0 := hC
  have hS0 := hS
  have hk0 := hk
  obtain ⟨y0, yt, yp, yw, ys, yr, yd, yk, yc, yn, yu⟩ := hC
  have twn := hC0.tw
  have tdf := hC0.df
  have yp2 := yp
  have ys2 := ys
  have yr2 := yr
  have yd2 := yd
  have yk2 := yk
  have yc2 := yc
  have yn2 := yn
  have twn2 := twn
  have tdf2 := tdf
  obtain ⟨p0, p1, p2⟩ := yp2
  obtain ⟨z0, z1, z2, z3, z4, z5, z6⟩ := twn2
  obtain ⟨zz0, zz1, zz2, zz3, zz4, zz5, zz6⟩ := tdf2
  obtain ⟨s0, s1, s2, s3⟩ := ys2
  obtain ⟨r0, r1, r2, r3⟩ := yr2
  obtain ⟨d0, d1, d2⟩ := yd2
  obtain ⟨k0, k1, k2⟩ := yk2
  obtain ⟨q0, q1, q2, q3, q4⟩ := yc2
  obtain ⟨v0, v1, v2, v3, v4, v5, v6⟩ := yn2
  obtain ⟨a1, a2, a3, ⟨n1, a4⟩, ⟨n2, a5⟩, a6⟩ := hS
  obtain ⟨g1, g2, g3, g4, g5, g6, g7⟩ := hk
  have g0 := g1
  obtain ⟨o1, o2, o3, o4, o5, o6, o7, o8⟩ := g0
  have hap : apart t 18 := by unfold apart; omega
  have hap2 : apart t 22 := by unfold apart; omega
  refine gC_of (rt := 1) (ini := false) gm_X6_levy rfl (by decide) (Nat.le_of_ble_eq_true rfl) (fun X hX => ?_)
  refine s_iload_n (q := 1) hX dX6_levy_0 rfl rfl ?_
  refine s_invs1_1 (q := 4) hX dX6_levy_1 rfl glk_6_154 (by decide) (Nat.le_of_ble_eq_true rfl) ⟨Nat.le_refl _, Nat.le_refl _⟩ (by omega) (c_isSort (d := 1) (x := z) (Nat.le_refl _) (fun rc => ?_) (fun s rc hs es => ?_)) 
  · refine ⟨_, rfl, ?_⟩
    refine s_if_eq_t (q := 7) (r := 17) hX dX6_levy_4 rfl rfl (by decide) ?_
    refine s_iconst (q := 18) (v := (-1)) hX dX6_levy_17 rfl rfl ?_
    refine s_iret hX dX6_levy_18 (Or.inl rfl) ⟨Nat.le_refl _, Nat.le_refl _, Nat.le_refl _, ?_⟩
    exact hcon.ret (by first | (unfold gA.levy; rw [rc]; dsimp only; rw [rw]) | (unfold gA.levy; rw [rc])) hC0 hS0 (fun _ _ => rfl)
  · subst es
    refine ⟨_, rfl, ?_⟩
    refine s_if_eq_f (q := 7) (r := 17) hX dX6_levy_4 rfl rfl (by decide) ?_
    refine s_iload_n (q := 8) hX dX6_levy_7 rfl rfl ?_
    refine s_iconst (q := 9) (v := 1) hX dX6_levy_8 rfl rfl ?_
    refine s_bipush (q := 11) (v := 99) hX dX6_levy_9 rfl rfl (by decide) ?_
    refine s_invs3_1 (q := 14) hX dX6_levy_11 rfl glk_6_93 (by decide) (Nat.le_of_ble_eq_true rfl) ⟨Nat.le_refl _, Nat.le_refl _⟩ (by omega) (c_rng (d := 0) (x := w) (lo := 1) (n := 100) rfl rfl (by decide) (by decide) (fun rw => ?_) (fun n rw ln hn en => ?_)) 
    · refine ⟨_, rfl, ?_⟩
      refine s_if_ne_f (q := 17) (r := 19) hX dX6_levy_14 rfl rfl (by decide) ?_
      refine s_iconst (q := 18) (v := (-1)) hX dX6_levy_17 rfl rfl ?_
      refine s_iret hX dX6_levy_18 (Or.inl rfl) ⟨Nat.le_refl _, Nat.le_refl _, Nat.le_refl _, ?_⟩
      exact hcon.ret (by first | (unfold gA.levy; rw [rc]; dsimp only; rw [rw]) | (unfold gA.levy; rw [rc])) hC0 hS0 (fun _ _ => rfl)
    · subst en
      refine ⟨_, rfl, ?_⟩
      refine s_if_ne_t (q := 17) (r := 19) hX dX6_levy_14 rfl rfl (by decide) ?_
      refine s_aload_n (q := 20) hX dX6_levy_19 rfl rfl ?_
      refine s_getr (q := 23) hX dX6_levy_20 rfl gfl_6_41 (by assumption) rfl ?_
      refine s_aload_n (q := 24) hX dX6_levy_23 rfl rfl ?_
      refine s_getr (q := 27) hX dX6_levy_24 rfl gfl_6_29 (by assumption) rfl ?_
      refine s_invv1_0 (q := 30) hX dX6_levy_27 rfl glk_6_139 (by assumption) (Nat.le_of_ble_eq_true rfl) ⟨Nat.le_refl _, Nat.le_refl _⟩ (by omega) (c_know (d := 2) (Nat.le_refl _) hC0 hS0 hk0 hb (fun M1 w1 w2 => ?_)) 
      have w3 : STR M1 18 S.T.P S.U := w1.2.2.1
      refine ⟨rfl, ?_⟩
      refine s_iconst (q := 31) (v := 0) hX dX6_levy_30 rfl rfl ?_
      refine s_istore_n (q := 32) (lv' := [(0, _), (1, _), (2, _), (3, _)]) hX dX6_levy_31 rfl (Nat.le_of_ble_eq_true rfl) rfl ?_
      have L : ∀ (m a : Nat) (U1 : gU) (M2 : gM), a + m = n → STR M2 18 S.T.P U1 → U1.ok S.T.P → (∀ c, c ≠ 18 + 1 → M2 c = M1 c) → S.T.lev s n S.U = (a + (S.T.lev s m U1).1, (S.T.lev s m U1).2) → X 32 [(0, .ref 0), (1, .int (nI s)), (2, .int (nI n)), (3, .int (nI a))] [] sh M2 0 0 := by
        intro m
        induction m with
        | zero =>
          intro a U1 M2 ha u1 u2 u3 u4
          have e9 : S.T.lev s n S.U = (a, U1) := u4
          have hna : n = a := by omega
          subst hna
          refine s_iload_n (q := 33) hX dX6_levy_32 rfl rfl ?_
          refine s_iload_n (q := 34) hX dX6_levy_33 rfl rfl ?_
          refine s_icmp_ge_t (q := 37) (r := 58) hX dX6_levy_34 rfl rfl (Int32.le_refl _) ?_
          refine s_iload_n (q := 59) hX dX6_levy_58 rfl rfl ?_
          refine s_iret hX dX6_levy_59 (Or.inl rfl) ⟨Nat.le_refl _, Nat.le_refl _, Nat.le_refl _, ?_⟩
          exact hcon.ret (by unfold gA.levy; rw [rc]; dsimp only; rw [rw]; dsimp only; rw [e9]) hC0 (w1.stU yt u1 (fun c h1 h2 => u3 c (by omega))) (fun c hc => by rw [u3 c (by omega), w2 c (by omega)])
        | succ m ih =>
          intro a U1 M2 ha u1 u2 u3 u4
          have hW2 : TWN M2 t S.T := (show TWN M1 t S.T from w1.2.1).keep (fun c a b => u3 c (by omega))
          by_cases h0 : U1.h (3 * U1.mx s S.T.P + s) = 0
          · have e9 : S.T.lev s n S.U = (a, U1) := by
              have : S.T.lev s (m + 1) U1 = (0, U1) := if_pos h0
              rw [u4, this]; rfl
            refine s_iload_n (q := 33) hX dX6_levy_32 rfl rfl ?_
            refine s_iload_n (q := 34) hX dX6_levy_33 rfl rfl ?_
            refine s_icmp_ge_f (q := 37) (r := 58) hX dX6_levy_34 rfl rfl (Int32.not_le.mpr (nI_lt (by omega) (by omega))) ?_
            refine s_aload_n (q := 38) hX dX6_levy_37 rfl rfl ?_
            refine s_getr (q := 41) hX dX6_levy_38 rfl gfl_6_29 (by assumption) rfl ?_
            refine s_aload_n (q := 42) hX dX6_levy_41 rfl rfl ?_
            refine s_getr (q := 45) hX dX6_levy_42 rfl gfl_6_19 (by assumption) rfl ?_
            refine s_iload_n (q := 46) hX dX6_levy_45 rfl rfl ?_
            refine s_invv2_1 (q := 49) hX dX6_levy_46 rfl glk_6_160 (by assumption) (Nat.le_of_ble_eq_true rfl) ⟨Nat.le_refl _, Nat.le_refl _⟩ (by omega) (c_takeFromRichest (d := 0) (T := S.T) twn hW2 g1 ys u1 u2 hap hs g2 (fun hz => ?_) (fun hz => absurd h0 hz)) 
            · refine ⟨_, rfl, ?_⟩
              refine s_if_eq_t (q := 52) (r := 58) hX dX6_levy_49 rfl rfl (by decide) ?_
              refine s_iload_n (q := 59) hX dX6_levy_58 rfl rfl ?_
              refine s_iret hX dX6_levy_59 (Or.inl rfl) ⟨Nat.le_refl _, Nat.le_refl _, Nat.le_refl _, ?_⟩
              exact hcon.ret (by unfold gA.levy; rw [rc]; dsimp only; rw [rw]; dsimp only; rw [e9]) hC0 (w1.stU yt u1 (fun c h1 h2 => u3 c (by omega))) (fun c hc => by rw [u3 c (by omega), w2 c (by omega)])
          · have e9 : S.T.lev s (m + 1) U1 = ((S.T.lev s m (U1.tk (3 * U1.mx s S.T.P + s))).1 + 1, (S.T.lev s m (U1.tk (3 * U1.mx s S.T.P + s))).2) := if_neg h0
            refine s_iload_n (q := 33) hX dX6_levy_32 rfl rfl ?_
            refine s_iload_n (q := 34) hX dX6_levy_33 rfl rfl ?_
            refine s_icmp_ge_f (q := 37) (r := 58) hX dX6_levy_34 rfl rfl (Int32.not_le.mpr (nI_lt (by omega) (by omega))) ?_
            refine s_aload_n (q := 38) hX dX6_levy_37 rfl rfl ?_
            refine s_getr (q := 41) hX dX6_levy_38 rfl gfl_6_29 (by assumption) rfl ?_
            refine s_aload_n (q := 42) hX dX6_levy_41 rfl rfl ?_
            refine s_getr (q := 45) hX dX6_levy_42 rfl gfl_6_19 (by assumption) rfl ?_
            refine s_iload_n (q := 46) hX dX6_levy_45 rfl rfl ?_
            refine s_invv2_1 (q := 49) hX dX6_levy_46 rfl glk_6_160 (by assumption) (Nat.le_of_ble_eq_true rfl) ⟨Nat.le_refl _, Nat.le_refl _⟩ (by omega) (c_takeFromRichest (d := 0) (T := S.T) twn hW2 g1 ys u1 u2 hap hs g2 (fun hz => absurd hz h0) (fun hz M3 x1 x2 => ?_)) 
            · refine ⟨_, rfl, ?_⟩
              refine s_if_eq_f (q := 52) (r := 58) hX dX6_levy_49 rfl rfl (by decide) ?_
              refine s_iinc (q := 55) (v := nI (a + 1)) (lv' := [(0, _), (1, _), (2, _), (3, _)]) hX dX6_levy_52 rfl rfl (nI_add (a) 1) (Nat.le_of_ble_eq_true rfl) rfl ?_
              refine s_goto (q := 32) hX dX6_levy_55 rfl ?_
              exact ih (a + 1) _ M3 (by omega) x1 (gU.tk_ok u2).1 (fun c hc => by rw [x2 c hc, u3 c hc]) (by rw [u4, e9]; congr 1; dsimp only; omega)
      exact L n 0 S.U M1 (by omega) w3 g3.1 (fun _ _ => rfl) (by rw [Nat.zero_add])
set_option maxHeartbeats 4000000 in
set_option maxRecDepth 100000 in
theorem k_behind {d t b : Nat} {x y z : Int32} {S : gA} {sh : List gS} {M : gM} {Q : Option Value → List gS → gM → Prop} (hd : 6 ≤ d) (hC : isCls sh t) (hS : CLS M t S) (hk : S.ok b) (hb : b ≤ 20000) (hcon : kC sh M (S.behind x y z) Q) : gC mX6_behind d 0 0 [.ref 0, .int x, .int y, .int z] sh M Q := by
  have hC0 := hC
  have hS0 := hS
  have hk0 := hk
  obtain ⟨y0, yt, yp, yw, ys, yr, yd, yk, yc, yn, yu⟩ := hC
  have twn := hC0.tw
  have tdf := hC0.df
  have yp2 := yp
  have ys2 := ys
  have yr2 := yr
  have yd2 := yd
  have yk2 := yk
  have yc2 := yc
  have yn2 := yn
  have twn2 := twn
  have tdf2 := tdf
  obtain ⟨p0, p1, p2⟩ := yp2
  obtain ⟨z0, z1, z2, z3, z4, z5, z6⟩ := twn2
  obtain ⟨zz0, zz1, zz2, zz3, zz4, zz5, zz6⟩ := tdf2
  obtain ⟨s0, s1, s2, s3⟩ := ys2
  obtain ⟨r0, r1, r2, r3⟩ := yr2
  obtain ⟨d0, d1, d2⟩ := yd2
  obtain ⟨k0, k1, k2⟩ := yk2
  obtain ⟨q0, q1, q2, q3, q4⟩ := yc2
  obtain ⟨v0, v1, v2, v3, v4, v5, v6⟩ := yn2
  obtain ⟨a1, a2, a3, ⟨n1, a4⟩, ⟨n2, a5⟩, a6⟩ := hS
  obtain ⟨g1, g2, g3, g4, g5, g6, g7⟩ := hk
  have g0 := g1
  obtain ⟨o1, o2, o3, o4, o5, o6, o7, o8⟩ := g0
  have hap : apart t 18 := by unfold apart; omega
  have hap2 : apart t 22 := by unfold apart; omega
  refine gC_of (rt := 1) (ini := false) gm_X6_behind rfl (by decide) (Nat.le_of_ble_eq_true rfl) (fun X hX => ?_)
  refine s_iload_n (q := 1) hX dX6_behind_0 rfl rfl ?_
  refine s_iconst (q := 2) (v := 0) hX dX6_behind_1 rfl rfl ?_
  refine s_bipush (q := 4) (v := 60) hX dX6_behind_2 rfl rfl (by decide) ?_
  refine s_invs3_1 (q := 7) hX dX6_behind_4 rfl glk_6_93 (by decide) (Nat.le_of_ble_eq_true rfl) ⟨Nat.le_refl _, Nat.le_refl _⟩ (by omega) (c_rng (d := 0) (x := x) (lo := 0) (n := 61) rfl rfl (by decide) (by decide) (fun rx => ?_) (fun n rx ln hn en => ?_)) 
  · refine ⟨_, rfl, ?_⟩
    refine s_if_eq_t (q := 10) (r := 27) hX dX6_behind_7 rfl rfl (by decide) ?_
    refine s_iconst (q := 28) (v := (-1)) hX dX6_behind_27 rfl rfl ?_
    refine s_iret hX dX6_behind_28 (Or.inl rfl) ⟨Nat.le_refl _, Nat.le_refl _, Nat.le_refl _, ?_⟩
    exact hcon.ret (by first | (unfold gA.behind; rw [rx]; dsimp only; rw [ra]; dsimp only; rw [rw]) | (unfold gA.behind; rw [rx]; dsimp only; rw [ra]) | (unfold gA.behind; rw [rx])) hC0 hS0 (fun _ _ => rfl)
  · subst en
    refine ⟨_, rfl, ?_⟩
    refine s_if_eq_f (q := 10) (r := 27) hX dX6_behind_7 rfl rfl (by decide) ?_
    refine s_aload_n (q := 11) hX dX6_behind_10 rfl rfl ?_
    refine s_iload_n (q := 12) hX dX6_behind_11 rfl rfl ?_
    refine s_invv1_1 (q := 15) hX dX6_behind_12 rfl glk_6_104 (by assumption) (Nat.le_of_ble_eq_true rfl) ⟨Nat.le_refl _, Nat.le_refl _⟩ (by omega) (c_isPerson (d := 1) (x := y) (Nat.le_refl _) hC0 hS0 g1 (fun ra => ?_) (fun i ra hi ei => ?_)) 
    · refine ⟨_, rfl, ?_⟩
      refine s_if_eq_t (q := 18) (r := 27) hX dX6_behind_15 rfl rfl (by decide) ?_
      refine s_iconst (q := 28) (v := (-1)) hX dX6_behind_27 rfl rfl ?_
      refine s_iret hX dX6_behind_28 (Or.inl rfl) ⟨Nat.le_refl _, Nat.le_refl _, Nat.le_refl _, ?_⟩
      exact hcon.ret (by first | (unfold gA.behind; rw [rx]; dsimp only; rw [ra]; dsimp only; rw [rw]) | (unfold gA.behind; rw [rx]; dsimp only; rw [ra]) | (unfold gA.behind; rw [rx])) hC0 hS0 (fun _ _ => rfl)
    · subst ei
      refine ⟨_, rfl, ?_⟩
      refine s_if_eq_f (q := 18) (r := 27) hX dX6_behind_15 rfl rfl (by decide) ?_
      refine s_iload_n (q := 19) hX dX6_behind_18 rfl rfl ?_
      refine s_iconst (q := 20) (v := 0) hX dX6_behind_19 rfl rfl ?_
      refine s_iconst (q := 21) (v := 4) hX dX6_behind_20 rfl rfl ?_
      refine s_invs3_1 (q := 24) hX dX6_behind_21 rfl glk_6_93 (by decide) (Nat.le_of_ble_eq_true rfl) ⟨Nat.le_refl _, Nat.le_refl _⟩ (by omega) (c_rng (d := 0) (x := z) (lo := 0) (n := 5) rfl rfl (by decide) (by decide) (fun rw => ?_) (fun w rw lw hw ew => ?_)) 
      · refine ⟨_, rfl, ?_⟩
        refine s_if_ne_f (q := 27) (r := 29) hX dX6_behind_24 rfl rfl (by decide) ?_
        refine s_iconst (q := 28) (v := (-1)) hX dX6_behind_27 rfl rfl ?_
        refine s_iret hX dX6_behind_28 (Or.inl rfl) ⟨Nat.le_refl _, Nat.le_refl _, Nat.le_refl _, ?_⟩
        exact hcon.ret (by first | (unfold gA.behind; rw [rx]; dsimp only; rw [ra]; dsimp only; rw [rw]) | (unfold gA.behind; rw [rx]; dsimp only; rw [ra]) | (unfold gA.behind; rw [rx])) hC0 hS0 (fun _ _ => rfl)
      · subst ew
        refine ⟨_, rfl, ?_⟩
        refine s_if_ne_t (q := 27) (r := 29) hX dX6_behind_24 rfl rfl (by decide) ?_
        refine s_aload_n (q := 30) hX dX6_behind_29 rfl rfl ?_
        refine s_getr (q := 33) hX dX6_behind_30 rfl gfl_6_33 (by assumption) rfl ?_
        refine s_aload_n (q := 34) hX dX6_behind_33 rfl rfl ?_
        refine s_getr (q := 37) hX dX6_behind_34 rfl gfl_6_29 (by assumption) rfl ?_
        refine s_invv1_0 (q := 40) hX dX6_behind_37 rfl glk_6_168 (by assumption) (Nat.le_of_ble_eq_true rfl) ⟨Nat.le_refl _, Nat.le_refl _⟩ (by omega) (c_copyFrom (d := 1) (Nat.le_refl _) yr ys (by omega) (fun M1 w1 w2 => ?_)) 
        have hW1 : TWN M1 t S.T := a2.keep (fun c a b => w2 c (by omega))
        have hU1 := w1 S.T.P S.U o1 a3
        refine ⟨rfl, ?_⟩
        refine s_aload_n (q := 41) hX dX6_behind_40 rfl rfl ?_
        refine s_getr (q := 44) hX dX6_behind_41 rfl gfl_6_33 (by assumption) rfl ?_
        refine s_aload_n (q := 45) hX dX6_behind_44 rfl rfl ?_
        refine s_getr (q := 48) hX dX6_behind_45 rfl gfl_6_19 (by assumption) rfl ?_
        refine s_iload_n (q := 49) hX dX6_behind_48 rfl rfl ?_
        refine s_invv2_0 (q := 52) hX dX6_behind_49 rfl glk_6_143 (by assumption) (Nat.le_of_ble_eq_true rfl) ⟨Nat.le_refl _, Nat.le_refl _⟩ (by omega) (c_passDays (d := 5) (n := n) (T := S.T) (U := S.U) (Nat.le_refl _) twn hW1 g1 yr hU1 g3.1 hap2 (by omega) (by omega) (fun M2 u1 u2 => ?_)) 
        have k5 := (gT.days_ok (T := S.T) n g3.1 (by omega)).1
        refine ⟨rfl, ?_⟩
        refine s_iload_n (q := 53) hX dX6_behind_52 rfl rfl ?_
        refine s_lookup hX dX6_behind_53 rfl ?_
        refine ⟨fun c53 => ?_, fun c53 => ?_⟩
        · refine s_to (r := 80) rfl ?_
          have wq : w = 3 := by rw [nI_toInt (by omega)] at c53; omega
          subst wq
          refine s_aload_n (q := 81) hX dX6_behind_80 rfl rfl ?_
          refine s_getr (q := 84) hX dX6_behind_81 rfl gfl_6_33 (by assumption) rfl ?_
          refine s_iload_n (q := 85) hX dX6_behind_84 rfl rfl ?_
          refine s_invv1_1 (q := 88) hX dX6_behind_85 rfl glk_6_110 (by assumption) (Nat.le_of_ble_eq_true rfl) ⟨Nat.le_refl _, Nat.le_refl _⟩ (by omega) (c_hue (d := 1) (Nat.le_refl _) yr u1 k5 o1 hi ?_) 
          refine ⟨_, rfl, ?_⟩
          refine s_iret hX dX6_behind_88 (Or.inl rfl) ⟨Nat.le_refl _, Nat.le_refl _, Nat.le_refl _, ?_⟩
          exact hcon.ret (by unfold gA.behind; rw [rx]; dsimp only; rw [ra]; dsimp only; rw [rw]; dsimp only; rw [if_pos rfl]) hC0 (hS0.kp yt (fun c hc => by rw [u2 c (by omega) (by omega), w2 c (by omega)])) (fun c hc => by rw [u2 c (by omega) (by omega), w2 c (by omega)])
        refine ⟨fun c53_1 => ?_, fun c53_1 => ?_⟩
        · refine s_to (r := 89) rfl ?_
          have wq : w = 4 := by rw [nI_toInt (by omega)] at c53_1; omega
          subst wq
          refine s_aload_n (q := 90) hX dX6_behind_89 rfl rfl ?_
          refine s_getr (q := 93) hX dX6_behind_90 rfl gfl_6_33 (by assumption) rfl ?_
          refine s_getr (q := 96) hX dX6_behind_93 rfl gfl_6_117 (by assumption) rfl ?_
          refine s_iload_n (q := 97) hX dX6_behind_96 rfl rfl ?_
          refine s_iald (k := i) (q := 98) hX dX6_behind_97 rfl (by assumption) rfl (by omega) (by omega) ?_
          refine s_aload_n (q := 99) hX dX6_behind_98 rfl rfl ?_
          refine s_getr (q := 102) hX dX6_behind_99 rfl gfl_6_29 (by assumption) rfl ?_
          refine s_getr (q := 105) hX dX6_behind_102 rfl gfl_6_117 (by assumption) rfl ?_
          refine s_iload_n (q := 106) hX dX6_behind_105 rfl rfl ?_
          refine s_iald (k := i) (q := 107) hX dX6_behind_106 rfl (by assumption) rfl (by omega) (by omega) ?_
          refine s_isub (q := 108) hX dX6_behind_107 rfl rfl ?_
          refine s_iret hX dX6_behind_108 (Or.inl rfl) ⟨Nat.le_refl _, Nat.le_refl _, Nat.le_refl _, ?_⟩
          exact hcon.ret (by unfold gA.behind; rw [rx]; dsimp only; rw [ra]; dsimp only; rw [rw]; dsimp only; rw [if_neg (by omega), if_pos rfl, u1.2.2.2 i hi, u2 (18 + 3) (by omega) (by omega), w2 (18 + 3) (by omega), a3.2.2.2 i hi]) hC0 (hS0.kp yt (fun c hc => by rw [u2 c (by omega) (by omega), w2 c (by omega)])) (fun c hc => by rw [u2 c (by omega) (by omega), w2 c (by omega)])
        refine s_to (r := 109) rfl ?_
        have wq : ¬ w = 3 ∧ ¬ w = 4 := by rw [nI_toInt (by omega)] at c53 c53_1; omega
        refine s_aload_n (q := 110) hX dX6_behind_109 rfl rfl ?_
        refine s_getr (q := 113) hX dX6_behind_110 rfl gfl_6_33 (by assumption) rfl ?_
        refine s_getr (q := 116) hX dX6_behind_113 rfl gfl_6_120 (by assumption) rfl ?_
        refine s_iload_n (q := 117) hX dX6_behind_116 rfl rfl ?_
        refine s_iconst (q := 118) (v := 3) hX dX6_behind_117 rfl rfl ?_
        refine s_imul (q := 119) (v := nI (i * 3)) hX dX6_behind_118 rfl (pk_mul (i) (3)) ?_
        refine s_iload_n (q := 120) hX dX6_behind_119 rfl rfl ?_
        refine s_iadd (q := 121) (v := nI (i * 3 + w)) hX dX6_behind_120 rfl (nI_add (i * 3) (w)) ?_
        refine s_iald (k := i * 3 + w) (q := 122) hX dX6_behind_121 rfl (by assumption) rfl (by omega) (by omega) ?_
        refine s_iret hX dX6_behind_122 (Or.inl rfl) ⟨Nat.le_refl _, Nat.le_refl _, Nat.le_refl _, ?_⟩
        exact hcon.ret (by unfold gA.behind; rw [rx]; dsimp only; rw [ra]; dsimp only; rw [rw]; dsimp only; rw [if_neg wq.1, if_neg wq.2, show i * 3 + w = 3 * i + w by omega, u1.2.1 (3 * i + w) (by omega)]) hC0 (hS0.kp yt (fun c hc => by rw [u2 c (by omega) (by omega), w2 c (by omega)])) (fun c hc => by rw [u2 c (by omega) (by omega), w2 c (by omega)])
