theorem gneg1 {k : Nat} (h : k ≤ 1000) : (-1 : Int32) < nI k := by
  rw [Int32.lt_iff_toInt_lt, nI_toInt (by omega)]
  have : (-1 : Int32).toInt = -1 := by decide
  rw [this]; omega
theorem gneg2 {k : Nat} (h : k ≤ 1000) : ¬ nI k < (-1 : Int32) := by
  rw [Int32.lt_iff_toInt_lt, nI_toInt (by omega)]
  have : (-1 : Int32).toInt = -1 := by decide
  rw [this]; omega
theorem dnB_0 {r : Nat → Option (Nat → Nat)} {F : Nat → (Nat → Nat) → gB → gB} {g : Nat → Nat} (h0 : r 0 = some g) (h : ∀ B, 0 < (F 0 g B).1) : ∀ m B, 0 < (dnB r F (m + 1) B).1
  | 0, B => by
    show 0 < (match r 0 with
      | none => B
      | some g => F 0 g B).1
    rw [h0]; exact h B
  | m + 1, B => dnB_0 h0 h m _
theorem gT.bs_p (T : gT) (i : Nat) : ∀ (r k : Nat) (h : Nat → Nat) (w s c : Nat) (B : gB), 0 < (T.bs i r k h w s c B).1
  | 0, k, h, w, s, c, B => by
    show 0 < (if bet w s B then (w + 1, s, c) else B).1
    by_cases hb : bet w s B
    · rw [if_pos hb]; exact Nat.succ_pos _
    · rw [if_neg hb]
      have : ¬ B.1 < w + 1 := fun z => hb (Or.inl z)
      omega
  | r + 1, k, h, w, s, c, B => dnB_0 (g := h) rfl (fun B => T.bs_p i r (k + 1) h _ _ _ B) 5 B
theorem gT.bs_pos {T : gT} {i r k w s c : Nat} {h : Nat → Nat} {B : gB} (_ : T.ok) : 0 < (T.bs i r k h w s c B).1 := T.bs_p i r k h w s c B
set_option maxHeartbeats 4000000 in
set_option maxRecDepth 100000 in
theorem k_grey {d t b : Nat} {x : Int32} {S : gA} {sh : List gS} {M : gM} {Q : Option Value → List gS → gM → Prop} (hd : 5 ≤ d) (hC : isCls sh t) (hS : CLS M t S) (hk : S.ok b) (hb : b ≤ 20000) (hcon : kC sh M (S.grey x) Q) : gC mX6_grey d 0 0 [.ref 0, .int x] sh M Q := by
  have hC0 := hC
  have hS0 := hS
  have hk0 := hk
  obtain ⟨y0, yt, yp, yw, ys, yr, yd, yk, yc, yn, yu⟩ := hC
  have twn := hC0.tw
  have tdf := hC0.df
  have yp2 := yp
  have ys2 := ys
  have yr2 := yr
  have yd2 := yd
  have yk2 := yk
  have yc2 := yc
  have yn2 := yn
  have twn2 := twn
  have tdf2 := tdf
  obtain ⟨p0, p1, p2⟩ := yp2
  obtain ⟨z0, z1, z2, z3, z4, z5, z6⟩ := twn2
  obtain ⟨zz0, zz1, zz2, zz3, zz4, zz5, zz6⟩ := tdf2
  obtain ⟨s0, s1, s2, s3⟩ := ys2
  obtain ⟨r0, r1, r2, r3⟩ := yr2
  obtain ⟨d0, d1, d2⟩ := yd2
  obtain ⟨k0, k1, k2⟩ := yk2
  obtain ⟨q0, q1, q2, q3, q4⟩ := yc2
  obtain ⟨v0, v1, v2, v3, v4, v5, v6⟩ := yn2
  obtain ⟨a1, a2, a3, ⟨n1, a4⟩, ⟨n2, a5⟩, a6⟩ := hS
  obtain ⟨g1, g2, g3, g4, g5, g6, g7⟩ := hk
  have g0 := g1
  obtain ⟨o1, o2, o3, o4, o5, o6, o7, o8⟩ := g0
  have hap : apart t 18 := by unfold apart; omega
  have hap2 : apart t 22 := by unfold apart; omega
  refine gC_of (rt := 1) (ini := false) gm_X6_grey rfl (by decide) (Nat.le_of_ble_eq_true rfl) (fun X hX => ?_)
  refine s_iload_n (q := 1) hX dX6_grey_0 rfl rfl ?_
  refine s_iconst (q := 2) (v := 0) hX dX6_grey_1 rfl rfl ?_
  refine s_iconst (q := 3) (v := 1) hX dX6_grey_2 rfl rfl ?_
  refine s_invs3_1 (q := 6) hX dX6_grey_3 rfl glk_6_93 (by decide) (Nat.le_of_ble_eq_true rfl) ⟨Nat.le_refl _, Nat.le_refl _⟩ (by omega) (c_rng (d := 0) (x := x) (lo := 0) (n := 2) rfl rfl (by decide) (by decide) (fun rx => ?_) (fun w rx lw hw ew => ?_)) 
  · refine ⟨_, rfl, ?_⟩
    refine s_if_ne_f (q := 9) (r := 11) hX dX6_grey_6 rfl rfl (by decide) ?_
    refine s_iconst (q := 10) (v := (-1)) hX dX6_grey_9 rfl rfl ?_
    refine s_iret hX dX6_grey_10 (Or.inl rfl) ⟨Nat.le_refl _, Nat.le_refl _, Nat.le_refl _, ?_⟩
    exact hcon.ret (by first | (unfold gA.grey; rw [rx])) hC0 hS0 (fun _ _ => rfl)
  · subst ew
    refine ⟨_, rfl, ?_⟩
    refine s_if_ne_t (q := 9) (r := 11) hX dX6_grey_6 rfl rfl (by decide) ?_
    refine s_aload_n (q := 12) hX dX6_grey_11 rfl rfl ?_
    refine s_getr (q := 15) hX dX6_grey_12 rfl gfl_6_33 (by assumption) rfl ?_
    refine s_aload_n (q := 16) hX dX6_grey_15 rfl rfl ?_
    refine s_getr (q := 19) hX dX6_grey_16 rfl gfl_6_29 (by assumption) rfl ?_
    refine s_invv1_0 (q := 22) hX dX6_grey_19 rfl glk_6_168 (by assumption) (Nat.le_of_ble_eq_true rfl) ⟨Nat.le_refl _, Nat.le_refl _⟩ (by omega) (c_copyFrom (d := 1) (Nat.le_refl _) yr ys (by omega) (fun M1 w1 w2 => ?_)) 
    have hW1 : TWN M1 t S.T := a2.keep (fun c a b => w2 c (by omega))
    have hU1 := w1 S.T.P S.U o1 a3
    refine ⟨rfl, ?_⟩
    refine s_iconst (q := 23) (v := 1) hX dX6_grey_22 rfl rfl ?_
    refine s_istore_n (q := 24) (lv' := [(0, _), (1, _), (2, _)]) hX dX6_grey_23 rfl (Nat.le_of_ble_eq_true rfl) rfl ?_
    have L : ∀ (n dy : Nat) (U1 : gU) (M2 : gM), dy + n = 61 → STR M2 22 S.T.P U1 → U1.ok S.T.P → U1.d + n ≤ 100000 → (∀ c, c ≠ t + 6 → (c < 22 ∨ 22 + 3 < c) → M2 c = M c) → S.T.gry 60 S.U = S.T.gry n U1 → X 24 [(0, .ref 0), (1, .int (nI w)), (2, .int (nI dy))] [] sh M2 0 0 := by
      intro n
      induction n with
      | zero =>
        intro dy U1 M2 hd0 u1 u2 ub u3 u4
        have e9 : S.T.gry 60 S.U = none := u4
        have hdy : dy = 61 := by omega
        subst hdy
        refine s_iload_n (q := 25) hX dX6_grey_24 rfl rfl ?_
        refine s_bipush (q := 27) (v := 60) hX dX6_grey_25 rfl rfl (by decide) ?_
        refine s_icmp_gt_t (q := 30) (r := 97) hX dX6_grey_27 rfl rfl (by decide) ?_
        refine s_bipush (q := 99) (v := (-4)) hX dX6_grey_97 rfl rfl (by decide) ?_
        refine s_iret hX dX6_grey_99 (Or.inl rfl) ⟨Nat.le_refl _, Nat.le_refl _, Nat.le_refl _, ?_⟩
        exact hcon.ret (by unfold gA.grey; rw [rx]; dsimp only; rw [e9]) hC0 (hS0.kp yt (fun c hc => u3 c (by omega) (by omega))) (fun c hc => u3 c (by omega) (by omega))
      | succ n ih =>
        intro dy U1 M2 hd0 u1 u2 ub u3 u4
        have hW2 : TWN M2 t S.T := a2.keep (fun c a b => u3 c (by omega) (by omega))
        obtain ⟨t1, t2⟩ := S.T.told_ok u2 S.T.P
        have t3 := S.T.sea_ok t1
        have hgr : S.T.gry (n + 1) U1 = match (S.T.sea (S.T.told S.T.P U1)).fg S.T.P with
          | some i => some (i, 60 - n)
          | none => S.T.gry n (S.T.over (S.T.sea (S.T.told S.T.P U1))) := rfl
        cases hfg : (S.T.sea (S.T.told S.T.P U1)).fg S.T.P with
        | some who =>
          rw [hfg] at hgr
          have e9 := u4.trans hgr
          dsimp only at e9
          have hwho := gU.fg_lt _ hfg
          refine s_iload_n (q := 25) hX dX6_grey_24 rfl rfl ?_
          refine s_bipush (q := 27) (v := 60) hX dX6_grey_25 rfl rfl (by decide) ?_
          refine s_icmp_gt_f (q := 30) (r := 97) hX dX6_grey_27 rfl rfl (Int32.not_lt.mpr ((nI_leI (b := 60) (by omega) (by omega)).mpr (by omega))) ?_
          refine s_aload_n (q := 31) hX dX6_grey_30 rfl rfl ?_
          refine s_getr (q := 34) hX dX6_grey_31 rfl gfl_6_33 (by assumption) rfl ?_
          refine s_aload_n (q := 35) hX dX6_grey_34 rfl rfl ?_
          refine s_getr (q := 38) hX dX6_grey_35 rfl gfl_6_19 (by assumption) rfl ?_
          refine s_invv1_0 (q := 41) hX dX6_grey_38 rfl glk_6_171 (by assumption) (Nat.le_of_ble_eq_true rfl) ⟨Nat.le_refl _, Nat.le_refl _⟩ (by omega) (c_doTold (d := 4) (T := S.T) (Nat.le_refl _) twn hW2 g1 yr u1 u2 hap2 (fun M3 x1 x2 => ?_)) 
          have hW3 := x2.twn hap2 hW2
          refine ⟨rfl, ?_⟩
          refine s_aload_n (q := 42) hX dX6_grey_41 rfl rfl ?_
          refine s_getr (q := 45) hX dX6_grey_42 rfl gfl_6_33 (by assumption) rfl ?_
          refine s_aload_n (q := 46) hX dX6_grey_45 rfl rfl ?_
          refine s_getr (q := 49) hX dX6_grey_46 rfl gfl_6_19 (by assumption) rfl ?_
          refine s_invv1_0 (q := 52) hX dX6_grey_49 rfl glk_6_174 (by assumption) (Nat.le_of_ble_eq_true rfl) ⟨Nat.le_refl _, Nat.le_refl _⟩ (by omega) (c_fade (d := 1) (T := S.T) (Nat.le_refl _) twn hW3 g1 yr x1 t1 hap2 (fun M4 y1 y2 => ?_)) 
          have hW4 := y2.twn hap2 hW3
          refine ⟨rfl, ?_⟩
          refine s_aload_n (q := 53) hX dX6_grey_52 rfl rfl ?_
          refine s_getr (q := 56) hX dX6_grey_53 rfl gfl_6_33 (by assumption) rfl ?_
          refine s_aload_n (q := 57) hX dX6_grey_56 rfl rfl ?_
          refine s_getr (q := 60) hX dX6_grey_57 rfl gfl_6_19 (by assumption) rfl ?_
          refine s_invv1_1 (q := 63) hX dX6_grey_60 rfl glk_6_177 (by assumption) (Nat.le_of_ble_eq_true rfl) ⟨Nat.le_refl _, Nat.le_refl _⟩ (by omega) (c_firstGrey (d := 2) (T := S.T) (Nat.le_refl _) twn hW4 g1 yr y1 t3 hap2 ?_) 
          refine ⟨_, rfl, ?_⟩
          refine s_topi (v := nI (who)) (by rw [hfg]) ?_
          refine s_istore_n (q := 64) (lv' := [(0, _), (1, _), (2, _), (3, _)]) hX dX6_grey_63 rfl (Nat.le_of_ble_eq_true rfl) rfl ?_
          refine s_iload_n (q := 65) hX dX6_grey_64 rfl rfl ?_
          refine s_bipush (q := 67) (v := (-4)) hX dX6_grey_65 rfl rfl (by decide) ?_
          refine s_icmp_eq_f (q := 70) (r := 80) hX dX6_grey_67 rfl rfl (gnI4 (by omega)) ?_
          refine s_iload_n (q := 71) hX dX6_grey_70 rfl rfl ?_
          refine s_nif_ne (a := w) (b := 0) (q := 74) (r := 78) hX dX6_grey_71 rfl rfl rfl rfl (by omega) (by omega) (fun c71 => ?_) (fun c71 => ?_)
          · refine s_iload_n (q := 79) hX dX6_grey_78 rfl rfl ?_
            refine s_iret hX dX6_grey_79 (Or.inl rfl) ⟨Nat.le_refl _, Nat.le_refl _, Nat.le_refl _, ?_⟩
            exact hcon.ret (by unfold gA.grey; rw [rx]; dsimp only; rw [e9]; dsimp only; rw [if_neg (by omega), show 60 - n = dy by omega]) hC0 (hS0.kp yt (fun c hc => by rw [y2 c (by omega) (by omega), x2 c (by omega) (by omega)]; exact u3 c (by omega) (by omega))) (fun c hc => by rw [y2 c (by omega) (by omega), x2 c (by omega) (by omega)]; exact u3 c (by omega) (by omega))
          · refine s_iload_n (q := 75) hX dX6_grey_74 rfl rfl ?_
            refine s_goto (q := 79) hX dX6_grey_75 rfl ?_
            refine s_iret hX dX6_grey_79 (Or.inl rfl) ⟨Nat.le_refl _, Nat.le_refl _, Nat.le_refl _, ?_⟩
            exact hcon.ret (by unfold gA.grey; rw [rx]; dsimp only; rw [e9]; dsimp only; rw [if_pos (by omega)]) hC0 (hS0.kp yt (fun c hc => by rw [y2 c (by omega) (by omega), x2 c (by omega) (by omega)]; exact u3 c (by omega) (by omega))) (fun c hc => by rw [y2 c (by omega) (by omega), x2 c (by omega) (by omega)]; exact u3 c (by omega) (by omega))
        | none =>
          rw [hfg] at hgr
          have e9 := u4.trans hgr
          dsimp only at e9
          refine s_iload_n (q := 25) hX dX6_grey_24 rfl rfl ?_
          refine s_bipush (q := 27) (v := 60) hX dX6_grey_25 rfl rfl (by decide) ?_
          refine s_icmp_gt_f (q := 30) (r := 97) hX dX6_grey_27 rfl rfl (Int32.not_lt.mpr ((nI_leI (b := 60) (by omega) (by omega)).mpr (by omega))) ?_
          refine s_aload_n (q := 31) hX dX6_grey_30 rfl rfl ?_
          refine s_getr (q := 34) hX dX6_grey_31 rfl gfl_6_33 (by assumption) rfl ?_
          refine s_aload_n (q := 35) hX dX6_grey_34 rfl rfl ?_
          refine s_getr (q := 38) hX dX6_grey_35 rfl gfl_6_19 (by assumption) rfl ?_
          refine s_invv1_0 (q := 41) hX dX6_grey_38 rfl glk_6_171 (by assumption) (Nat.le_of_ble_eq_true rfl) ⟨Nat.le_refl _, Nat.le_refl _⟩ (by omega) (c_doTold (d := 4) (T := S.T) (Nat.le_refl _) twn hW2 g1 yr u1 u2 hap2 (fun M3 x1 x2 => ?_)) 
          have hW3 := x2.twn hap2 hW2
          refine ⟨rfl, ?_⟩
          refine s_aload_n (q := 42) hX dX6_grey_41 rfl rfl ?_
          refine s_getr (q := 45) hX dX6_grey_42 rfl gfl_6_33 (by assumption) rfl ?_
          refine s_aload_n (q := 46) hX dX6_grey_45 rfl rfl ?_
          refine s_getr (q := 49) hX dX6_grey_46 rfl gfl_6_19 (by assumption) rfl ?_
          refine s_invv1_0 (q := 52) hX dX6_grey_49 rfl glk_6_174 (by assumption) (Nat.le_of_ble_eq_true rfl) ⟨Nat.le_refl _, Nat.le_refl _⟩ (by omega) (c_fade (d := 1) (T := S.T) (Nat.le_refl _) twn hW3 g1 yr x1 t1 hap2 (fun M4 y1 y2 => ?_)) 
          have hW4 := y2.twn hap2 hW3
          refine ⟨rfl, ?_⟩
          refine s_aload_n (q := 53) hX dX6_grey_52 rfl rfl ?_
          refine s_getr (q := 56) hX dX6_grey_53 rfl gfl_6_33 (by assumption) rfl ?_
          refine s_aload_n (q := 57) hX dX6_grey_56 rfl rfl ?_
          refine s_getr (q := 60) hX dX6_grey_57 rfl gfl_6_19 (by assumption) rfl ?_
          refine s_invv1_1 (q := 63) hX dX6_grey_60 rfl glk_6_177 (by assumption) (Nat.le_of_ble_eq_true rfl) ⟨Nat.le_refl _, Nat.le_refl _⟩ (by omega) (c_firstGrey (d := 2) (T := S.T) (Nat.le_refl _) twn hW4 g1 yr y1 t3 hap2 ?_) 
          refine ⟨_, rfl, ?_⟩
          refine s_topi (v := (-4)) (by rw [hfg]) ?_
          refine s_istore_n (q := 64) (lv' := [(0, _), (1, _), (2, _), (3, _)]) hX dX6_grey_63 rfl (Nat.le_of_ble_eq_true rfl) rfl ?_
          refine s_iload_n (q := 65) hX dX6_grey_64 rfl rfl ?_
          refine s_bipush (q := 67) (v := (-4)) hX dX6_grey_65 rfl rfl (by decide) ?_
          refine s_icmp_eq_t (q := 70) (r := 80) hX dX6_grey_67 rfl rfl (by decide) ?_
          refine s_aload_n (q := 81) hX dX6_grey_80 rfl rfl ?_
          refine s_getr (q := 84) hX dX6_grey_81 rfl gfl_6_33 (by assumption) rfl ?_
          refine s_aload_n (q := 85) hX dX6_grey_84 rfl rfl ?_
          refine s_getr (q := 88) hX dX6_grey_85 rfl gfl_6_19 (by assumption) rfl ?_
          refine s_invv1_0 (q := 91) hX dX6_grey_88 rfl glk_6_180 (by assumption) (Nat.le_of_ble_eq_true rfl) ⟨Nat.le_refl _, Nat.le_refl _⟩ (by omega) (c_endDay (d := 2) (T := S.T) (Nat.le_refl _) twn hW4 g1 yr y1 t3 hap2 (fun M5 x5 x6 => ?_)) 
          refine ⟨rfl, ?_⟩
          refine s_iinc (q := 94) (v := nI (dy + 1)) (lv' := [(0, _), (1, _), (2, _), (3, _)]) hX dX6_grey_91 rfl rfl (nI_add (dy) 1) (Nat.le_of_ble_eq_true rfl) rfl ?_
          refine s_goto (q := 24) hX dX6_grey_94 rfl ?_
          refine s_dl hX ?_
          refine ih (dy + 1) _ M5 (by omega) x5 ⟨S.T.over_h t3, ?_⟩ ?_ (fun c h1 h2 => ?_) e9
          · show (S.T.told S.T.P U1).d + 1 ≤ 100000
            rw [t2]; omega
          · show (S.T.told S.T.P U1).d + 1 + n ≤ 100000
            rw [t2]; omega
          · rw [x6 c h1 h2, y2 c h1 h2, x2 c h1 h2]; exact u3 c h1 h2
    exact L 60 1 S.U M1 rfl hU1 g3.1 (by omega) (fun c h1 h2 => w2 c (by omega)) rfl
set_option maxHeartbeats 4000000 in
set_option maxRecDepth 100000 in
theorem k_best {d t b : Nat} {x y : Int32} {S : gA} {sh : List gS} {M : gM} {Q : Option Value → List gS → gM → Prop} (hd : 12 ≤ d) (hC : isCls sh t) (hS : CLS M t S) (hk : S.ok b) (hb : b ≤ 20000) (hcon : kC sh M (S.best x y) Q) : gC mX6_best d 0 0 [.ref 0, .int x, .int y] sh M Q := by
  have hC0 := hC
  have hS0 := hS
  have hk0 := hk
  obtain ⟨y0, yt, yp, yw, ys, yr, yd, yk, yc, yn, yu⟩ := hC
  have twn := hC0.tw
  have tdf := hC0.df
  have yp2 := yp
  have ys2 := ys
  have yr2 := yr
  have yd2 := yd
  have yk2 := yk
  have yc2 := yc
  have yn2 := yn
  have twn2 := twn
  have tdf2 := tdf
  obtain ⟨p0, p1, p2⟩ := yp2
  obtain ⟨z0, z1, z2, z3, z4, z5, z6⟩ := twn2
  obtain ⟨zz0, zz1, zz2, zz3, zz4, zz5, zz6⟩ := tdf2
  obtain ⟨s0, s1, s2, s3⟩ := ys2
  obtain ⟨r0, r1, r2, r3⟩ := yr2
  obtain ⟨d0, d1, d2⟩ := yd2
  obtain ⟨k0, k1, k2⟩ := yk2
  obtain ⟨q0, q1, q2, q3, q4⟩ := yc2
  obtain ⟨v0, v1, v2, v3, v4, v5, v6⟩ := yn2
  obtain ⟨a1, a2, a3, ⟨n1, a4⟩, ⟨n2, a5⟩, a6⟩ := hS
  obtain ⟨g1, g2, g3, g4, g5, g6, g7⟩ := hk
  have g0 := g1
  obtain ⟨o1, o2, o3, o4, o5, o6, o7, o8⟩ := g0
  have hap : apart t 18 := by unfold apart; omega
  have hap2 : apart t 22 := by unfold apart; omega
  refine gC_of (rt := 1) (ini := false) gm_X6_best rfl (by decide) (Nat.le_of_ble_eq_true rfl) (fun X hX => ?_)
  by_cases hy : y = -1
  · subst hy
    refine s_aload_n (q := 1) hX dX6_best_0 rfl rfl ?_
    refine s_iload_n (q := 2) hX dX6_best_1 rfl rfl ?_
    refine s_invv1_1 (q := 5) hX dX6_best_2 rfl glk_6_104 (by assumption) (Nat.le_of_ble_eq_true rfl) ⟨Nat.le_refl _, Nat.le_refl _⟩ (by omega) (c_isPerson (d := 1) (x := x) (Nat.le_refl _) hC0 hS0 g1 (fun ra => ?_) (fun i ra hi ei => ?_)) 
    · refine ⟨_, rfl, ?_⟩
      refine s_if_eq_t (q := 8) (r := 24) hX dX6_best_5 rfl rfl (by decide) ?_
      refine s_iconst (q := 25) (v := (-1)) hX dX6_best_24 rfl rfl ?_
      refine s_iret hX dX6_best_25 (Or.inl rfl) ⟨Nat.le_refl _, Nat.le_refl _, Nat.le_refl _, ?_⟩
      exact hcon.ret (by unfold gA.best; rw [ra]) hC0 hS0 (fun _ _ => rfl)
    · subst ei
      refine ⟨_, rfl, ?_⟩
      refine s_if_eq_f (q := 8) (r := 24) hX dX6_best_5 rfl rfl (by decide) ?_
      refine s_iload_n (q := 9) hX dX6_best_8 rfl rfl ?_
      refine s_iconst (q := 10) (v := (-1)) hX dX6_best_9 rfl rfl ?_
      refine s_icmp_lt_f (q := 13) (r := 24) hX dX6_best_10 rfl rfl (by decide) ?_
      refine s_iload_n (q := 14) hX dX6_best_13 rfl rfl ?_
      refine s_aload_n (q := 15) hX dX6_best_14 rfl rfl ?_
      refine s_getr (q := 18) hX dX6_best_15 rfl gfl_6_19 (by assumption) rfl ?_
      refine s_geti (q := 21) hX dX6_best_18 rfl gfl_6_183 (by assumption) rfl ?_
      refine s_icmp_lt_t (q := 24) (r := 26) hX dX6_best_21 rfl rfl (by rw [a2.2.1]; exact gneg1 (by omega)) ?_
      refine s_aload_n (q := 27) hX dX6_best_26 rfl rfl ?_
      refine s_getr (q := 30) hX dX6_best_27 rfl gfl_6_51 (by assumption) rfl ?_
      refine s_aload_n (q := 31) hX dX6_best_30 rfl rfl ?_
      refine s_getr (q := 34) hX dX6_best_31 rfl gfl_6_19 (by assumption) rfl ?_
      refine s_iload_n (q := 35) hX dX6_best_34 rfl rfl ?_
      refine s_aload_n (q := 36) hX dX6_best_35 rfl rfl ?_
      refine s_getr (q := 39) hX dX6_best_36 rfl gfl_6_29 (by assumption) rfl ?_
      refine s_invv3_0 (q := 42) hX dX6_best_39 rfl glk_6_186 (by assumption) (Nat.le_of_ble_eq_true rfl) ⟨Nat.le_refl _, Nat.le_refl _⟩ (by omega) (c_cchoose (d := 11) (U := S.U) (Nat.le_refl _) yc twn a2 g1 (by omega) hi ys a3 g3.1 (by omega) (fun M1 w1 w2 => ?_)) 
      refine ⟨rfl, ?_⟩
      refine s_iload_n (q := 43) hX dX6_best_42 rfl rfl ?_
      refine s_if_ge_f (q := 46) (r := 56) hX dX6_best_43 rfl rfl (by decide) ?_
      refine s_aload_n (q := 47) hX dX6_best_46 rfl rfl ?_
      refine s_getr (q := 50) hX dX6_best_47 rfl gfl_6_51 (by assumption) rfl ?_
      refine s_geti (q := 53) hX dX6_best_50 rfl gfl_6_190 (by assumption) rfl ?_
      refine s_goto (q := 65) hX dX6_best_53 rfl ?_
      refine s_iret hX dX6_best_65 (Or.inl rfl) ⟨Nat.le_refl _, Nat.le_refl _, Nat.le_refl _, ?_⟩
      exact hcon.ret (by unfold gA.best; rw [ra]; dsimp only; rw [if_pos rfl, w1.1]; rfl) hC0 (hS0.kp yt (fun c hc => w2 c (by omega) (by omega) (by omega) (by omega) (by omega) (by omega))) (fun c hc => w2 c (by omega) (by omega) (by omega) (by omega) (by omega) (by omega))
  · cases rb : rng y 0 S.T.D with
    | none =>
      refine s_aload_n (q := 1) hX dX6_best_0 rfl rfl ?_
      refine s_iload_n (q := 2) hX dX6_best_1 rfl rfl ?_
      refine s_invv1_1 (q := 5) hX dX6_best_2 rfl glk_6_104 (by assumption) (Nat.le_of_ble_eq_true rfl) ⟨Nat.le_refl _, Nat.le_refl _⟩ (by omega) (c_isPerson (d := 1) (x := x) (Nat.le_refl _) hC0 hS0 g1 (fun ra => ?_) (fun i ra hi ei => ?_)) 
      · refine ⟨_, rfl, ?_⟩
        refine s_if_eq_t (q := 8) (r := 24) hX dX6_best_5 rfl rfl (by decide) ?_
        refine s_iconst (q := 25) (v := (-1)) hX dX6_best_24 rfl rfl ?_
        refine s_iret hX dX6_best_25 (Or.inl rfl) ⟨Nat.le_refl _, Nat.le_refl _, Nat.le_refl _, ?_⟩
        exact hcon.ret (by first | (unfold gA.best; rw [ra]; dsimp only; rw [if_neg hy, rb]) | (unfold gA.best; rw [ra])) hC0 hS0 (fun _ _ => rfl)
      · subst ei
        refine ⟨_, rfl, ?_⟩
        refine s_if_eq_f (q := 8) (r := 24) hX dX6_best_5 rfl rfl (by decide) ?_
        refine s_iload_n (q := 9) hX dX6_best_8 rfl rfl ?_
        refine s_iconst (q := 10) (v := (-1)) hX dX6_best_9 rfl rfl ?_
        refine s_icmp_lt (q := 13) (r := 24) hX dX6_best_10 rfl rfl (fun c10 => ?_) (fun c10 => ?_)
        · refine s_iconst (q := 25) (v := (-1)) hX dX6_best_24 rfl rfl ?_
          refine s_iret hX dX6_best_25 (Or.inl rfl) ⟨Nat.le_refl _, Nat.le_refl _, Nat.le_refl _, ?_⟩
          exact hcon.ret (by first | (unfold gA.best; rw [ra]; dsimp only; rw [if_neg hy, rb]) | (unfold gA.best; rw [ra])) hC0 hS0 (fun _ _ => rfl)
        · refine s_iload_n (q := 14) hX dX6_best_13 rfl rfl ?_
          refine s_aload_n (q := 15) hX dX6_best_14 rfl rfl ?_
          refine s_getr (q := 18) hX dX6_best_15 rfl gfl_6_19 (by assumption) rfl ?_
          refine s_geti (q := 21) hX dX6_best_18 rfl gfl_6_183 (by assumption) rfl ?_
          refine s_topi (v := nI (S.T.D)) a2.2.1 ?_
          refine s_icmp_lt (q := 24) (r := 26) hX dX6_best_21 rfl rfl (fun c21 => ?_) (fun c21 => ?_)
          · exact (y3 (by omega) c10 c21 hy rb).elim
          · refine s_iconst (q := 25) (v := (-1)) hX dX6_best_24 rfl rfl ?_
            refine s_iret hX dX6_best_25 (Or.inl rfl) ⟨Nat.le_refl _, Nat.le_refl _, Nat.le_refl _, ?_⟩
            exact hcon.ret (by first | (unfold gA.best; rw [ra]; dsimp only; rw [if_neg hy, rb]) | (unfold gA.best; rw [ra])) hC0 hS0 (fun _ _ => rfl)
    | some k =>
      obtain ⟨l0, hk, ek⟩ := rng_s rb
      subst ek
      refine s_aload_n (q := 1) hX dX6_best_0 rfl rfl ?_
      refine s_iload_n (q := 2) hX dX6_best_1 rfl rfl ?_
      refine s_invv1_1 (q := 5) hX dX6_best_2 rfl glk_6_104 (by assumption) (Nat.le_of_ble_eq_true rfl) ⟨Nat.le_refl _, Nat.le_refl _⟩ (by omega) (c_isPerson (d := 1) (x := x) (Nat.le_refl _) hC0 hS0 g1 (fun ra => ?_) (fun i ra hi ei => ?_)) 
      · refine ⟨_, rfl, ?_⟩
        refine s_if_eq_t (q := 8) (r := 24) hX dX6_best_5 rfl rfl (by decide) ?_
        refine s_iconst (q := 25) (v := (-1)) hX dX6_best_24 rfl rfl ?_
        refine s_iret hX dX6_best_25 (Or.inl rfl) ⟨Nat.le_refl _, Nat.le_refl _, Nat.le_refl _, ?_⟩
        exact hcon.ret (by unfold gA.best; rw [ra]) hC0 hS0 (fun _ _ => rfl)
      · subst ei
        refine ⟨_, rfl, ?_⟩
        refine s_if_eq_f (q := 8) (r := 24) hX dX6_best_5 rfl rfl (by decide) ?_
        refine s_iload_n (q := 9) hX dX6_best_8 rfl rfl ?_
        refine s_iconst (q := 10) (v := (-1)) hX dX6_best_9 rfl rfl ?_
        refine s_icmp_lt_f (q := 13) (r := 24) hX dX6_best_10 rfl rfl (gneg2 (by omega)) ?_
        refine s_iload_n (q := 14) hX dX6_best_13 rfl rfl ?_
        refine s_aload_n (q := 15) hX dX6_best_14 rfl rfl ?_
        refine s_getr (q := 18) hX dX6_best_15 rfl gfl_6_19 (by assumption) rfl ?_
        refine s_geti (q := 21) hX dX6_best_18 rfl gfl_6_183 (by assumption) rfl ?_
        refine s_topi (v := nI (S.T.D)) a2.2.1 ?_
        refine s_icmp_lt_t (q := 24) (r := 26) hX dX6_best_21 rfl rfl (nI_lt (by omega) (by omega)) ?_
        refine s_aload_n (q := 27) hX dX6_best_26 rfl rfl ?_
        refine s_getr (q := 30) hX dX6_best_27 rfl gfl_6_51 (by assumption) rfl ?_
        refine s_aload_n (q := 31) hX dX6_best_30 rfl rfl ?_
        refine s_getr (q := 34) hX dX6_best_31 rfl gfl_6_19 (by assumption) rfl ?_
        refine s_iload_n (q := 35) hX dX6_best_34 rfl rfl ?_
        refine s_aload_n (q := 36) hX dX6_best_35 rfl rfl ?_
        refine s_getr (q := 39) hX dX6_best_36 rfl gfl_6_29 (by assumption) rfl ?_
        refine s_invv3_0 (q := 42) hX dX6_best_39 rfl glk_6_186 (by assumption) (Nat.le_of_ble_eq_true rfl) ⟨Nat.le_refl _, Nat.le_refl _⟩ (by omega) (c_cchoose (d := 11) (U := S.U) (Nat.le_refl _) yc twn a2 g1 (by omega) hi ys a3 g3.1 (by omega) (fun M1 w1 w2 => ?_)) 
        refine ⟨rfl, ?_⟩
        refine s_iload_n (q := 43) hX dX6_best_42 rfl rfl ?_
        refine s_if_ge_t (q := 46) (r := 56) hX dX6_best_43 rfl rfl (nI_pos' (by omega)) ?_
        refine s_aload_n (q := 57) hX dX6_best_56 rfl rfl ?_
        refine s_getr (q := 60) hX dX6_best_57 rfl gfl_6_51 (by assumption) rfl ?_
        refine s_getr (q := 63) hX dX6_best_60 rfl gfl_6_193 (by assumption) rfl ?_
        refine s_iload_n (q := 64) hX dX6_best_63 rfl rfl ?_
        refine s_iald (k := k) (q := 65) hX dX6_best_64 rfl (by assumption) rfl (by omega) (by omega) ?_
        refine s_iret hX dX6_best_65 (Or.inl rfl) ⟨Nat.le_refl _, Nat.le_refl _, Nat.le_refl _, ?_⟩
        exact hcon.ret (by unfold gA.best; rw [ra]; dsimp only; rw [if_neg hy, rb]; dsimp only; rw [w1.2.2 (gT.bs_pos g1) k hk]; rfl) hC0 (hS0.kp yt (fun c hc => w2 c (by omega) (by omega) (by omega) (by omega) (by omega) (by omega))) (fun c hc => w2 c (by omega) (by omega) (by omega) (by omega) (by omega) (by omega))
