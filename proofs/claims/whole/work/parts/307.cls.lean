set_option maxHeartbeats 4000000 in
set_option maxRecDepth 100000 in
theorem k_saved {d t b : Nat} {x z w : Int32} {S : gA} {sh : List gS} {M : gM} {Q : Option Value → List gS → gM → Prop} (hd : 2 ≤ d) (hC : isCls sh t) (hS : CLS M t S) (hk : S.ok b) (hb : b ≤ 20000) (hcon : kC sh M (S.saved x z w) Q) : gC mX6_saved d 0 0 [.ref 0, .int x, .int z, .int w] sh M Q := by
  have hC0 := hC
  have hS0 := hS
  have hk0 := hk
  obtain ⟨y0, yt, yp, yw, ys, yr, yd, yk, yc, yn, yu⟩ := hC
  have twn := hC0.tw
  have tdf := hC0.df
  have yp2 := yp
  have ys2 := ys
  have yr2 := yr
  have yd2 := yd
  have yk2 := yk
  have yc2 := yc
  have yn2 := yn
  have twn2 := twn
  have tdf2 := tdf
  obtain ⟨p0, p1, p2⟩ := yp2
  obtain ⟨z0, z1, z2, z3, z4, z5, z6⟩ := twn2
  obtain ⟨zz0, zz1, zz2, zz3, zz4, zz5, zz6⟩ := tdf2
  obtain ⟨s0, s1, s2, s3⟩ := ys2
  obtain ⟨r0, r1, r2, r3⟩ := yr2
  obtain ⟨d0, d1, d2⟩ := yd2
  obtain ⟨k0, k1, k2⟩ := yk2
  obtain ⟨q0, q1, q2, q3, q4⟩ := yc2
  obtain ⟨v0, v1, v2, v3, v4, v5, v6⟩ := yn2
  obtain ⟨a1, a2, a3, ⟨n1, a4⟩, ⟨n2, a5⟩, a6⟩ := hS
  obtain ⟨g1, g2, g3, g4, g5, g6, g7⟩ := hk
  have g0 := g1
  obtain ⟨o1, o2, o3, o4, o5, o6, o7, o8⟩ := g0
  have hap : apart t 18 := by unfold apart; omega
  have hap2 : apart t 22 := by unfold apart; omega
  refine gC_of (rt := 1) (ini := false) gm_X6_saved rfl (by decide) (Nat.le_of_ble_eq_true rfl) (fun X hX => ?_)
  refine s_aload_n (q := 1) hX dX6_saved_0 rfl rfl ?_
  refine s_iload_n (q := 2) hX dX6_saved_1 rfl rfl ?_
  refine s_invv1_1 (q := 5) hX dX6_saved_2 rfl glk_6_104 (by assumption) (Nat.le_of_ble_eq_true rfl) ⟨Nat.le_refl _, Nat.le_refl _⟩ (by omega) (c_isPerson (d := 1) (x := x) (Nat.le_refl _) hC0 hS0 g1 (fun ra => ?_) (fun i ra hi ei => ?_)) 
  · refine ⟨_, rfl, ?_⟩
    refine s_if_eq_t (q := 8) (r := 25) hX dX6_saved_5 rfl rfl (by decide) ?_
    refine s_iconst (q := 26) (v := (-1)) hX dX6_saved_25 rfl rfl ?_
    refine s_iret hX dX6_saved_26 (Or.inl rfl) ⟨Nat.le_refl _, Nat.le_refl _, Nat.le_refl _, ?_⟩
    exact hcon.ret (by first | (unfold gA.saved; rw [ra]; dsimp only; rw [rc]; dsimp only; rw [rw]) | (unfold gA.saved; rw [ra]; dsimp only; rw [rc]) | (unfold gA.saved; rw [ra])) hC0 hS0 (fun _ _ => rfl)
  · subst ei
    refine ⟨_, rfl, ?_⟩
    refine s_if_eq_f (q := 8) (r := 25) hX dX6_saved_5 rfl rfl (by decide) ?_
    refine s_iload_n (q := 9) hX dX6_saved_8 rfl rfl ?_
    refine s_invs1_1 (q := 12) hX dX6_saved_9 rfl glk_6_154 (by decide) (Nat.le_of_ble_eq_true rfl) ⟨Nat.le_refl _, Nat.le_refl _⟩ (by omega) (c_isSort (d := 1) (x := z) (Nat.le_refl _) (fun rc => ?_) (fun s rc hs es => ?_)) 
    · refine ⟨_, rfl, ?_⟩
      refine s_if_eq_t (q := 15) (r := 25) hX dX6_saved_12 rfl rfl (by decide) ?_
      refine s_iconst (q := 26) (v := (-1)) hX dX6_saved_25 rfl rfl ?_
      refine s_iret hX dX6_saved_26 (Or.inl rfl) ⟨Nat.le_refl _, Nat.le_refl _, Nat.le_refl _, ?_⟩
      exact hcon.ret (by first | (unfold gA.saved; rw [ra]; dsimp only; rw [rc]; dsimp only; rw [rw]) | (unfold gA.saved; rw [ra]; dsimp only; rw [rc]) | (unfold gA.saved; rw [ra])) hC0 hS0 (fun _ _ => rfl)
    · subst es
      refine ⟨_, rfl, ?_⟩
      refine s_if_eq_f (q := 15) (r := 25) hX dX6_saved_12 rfl rfl (by decide) ?_
      refine s_iload_n (q := 16) hX dX6_saved_15 rfl rfl ?_
      refine s_iconst (q := 17) (v := 0) hX dX6_saved_16 rfl rfl ?_
      refine s_bipush (q := 19) (v := 99) hX dX6_saved_17 rfl rfl (by decide) ?_
      refine s_invs3_1 (q := 22) hX dX6_saved_19 rfl glk_6_93 (by decide) (Nat.le_of_ble_eq_true rfl) ⟨Nat.le_refl _, Nat.le_refl _⟩ (by omega) (c_rng (d := 0) (x := w) (lo := 0) (n := 100) rfl rfl (by decide) (by decide) (fun rw => ?_) (fun n rw ln hn en => ?_)) 
      · refine ⟨_, rfl, ?_⟩
        refine s_if_ne_f (q := 25) (r := 27) hX dX6_saved_22 rfl rfl (by decide) ?_
        refine s_iconst (q := 26) (v := (-1)) hX dX6_saved_25 rfl rfl ?_
        refine s_iret hX dX6_saved_26 (Or.inl rfl) ⟨Nat.le_refl _, Nat.le_refl _, Nat.le_refl _, ?_⟩
        exact hcon.ret (by first | (unfold gA.saved; rw [ra]; dsimp only; rw [rc]; dsimp only; rw [rw]) | (unfold gA.saved; rw [ra]; dsimp only; rw [rc]) | (unfold gA.saved; rw [ra])) hC0 hS0 (fun _ _ => rfl)
      · subst en
        refine ⟨_, rfl, ?_⟩
        refine s_if_ne_t (q := 25) (r := 27) hX dX6_saved_22 rfl rfl (by decide) ?_
        refine s_aload_n (q := 28) hX dX6_saved_27 rfl rfl ?_
        refine s_getr (q := 31) hX dX6_saved_28 rfl gfl_6_29 (by assumption) rfl ?_
        refine s_getr (q := 34) hX dX6_saved_31 rfl gfl_6_120 (by assumption) rfl ?_
        refine s_iload_n (q := 35) hX dX6_saved_34 rfl rfl ?_
        refine s_iconst (q := 36) (v := 3) hX dX6_saved_35 rfl rfl ?_
        refine s_imul (q := 37) (v := nI (i * 3)) hX dX6_saved_36 rfl (pk_mul (i) (3)) ?_
        refine s_aload_n (q := 38) hX dX6_saved_37 rfl rfl ?_
        refine s_getr (q := 41) hX dX6_saved_38 rfl gfl_6_62 (by assumption) rfl ?_
        refine s_iconst (q := 42) (v := 0) hX dX6_saved_41 rfl rfl ?_
        refine s_iconst (q := 43) (v := 3) hX dX6_saved_42 rfl rfl ?_
        refine s_cpy (k0 := i * 3) (k1 := 0) (n := 3) (q := 46) hX dX6_saved_43 rfl glk_6_222 (by omega) (Nat.le_of_ble_eq_true rfl) (by assumption) (by assumption) rfl rfl rfl (by omega) (by omega) (by omega) (by omega) ?_
        refine s_iconst (q := 47) (v := 0) hX dX6_saved_46 rfl rfl ?_
        refine s_istore (q := 49) (lv' := [(0, _), (1, _), (2, _), (3, _), (4, _)]) hX dX6_saved_47 rfl (Nat.le_of_ble_eq_true rfl) rfl ?_
        have L : ∀ (j m : Nat) (h : Nat → Nat) (M2 : gM), m + j = 51 → (∀ q, q < 3 → M2 82 (0 + q) = nI (h q)) → (∀ q, q < 3 → h q ≤ 99) → (∀ c, c ≠ 82 → M2 c = M c) → S.T.svd i s n 51 (S.U.tr i) = S.T.svd i s n j h → X 49 [(0, .ref 0), (1, .int (nI i)), (2, .int (nI s)), (3, .int (nI n)), (4, .int (nI m))] [] sh M2 0 0 := by
          intro j
          induction j with
          | zero =>
            intro m h M2 hm u1 u2 u3 u4
            have e9 : S.T.svd i s n 51 (S.U.tr i) = none := u4
            have hdy : m = 51 := by omega
            subst hdy
            refine s_iload (q := 51) hX dX6_saved_49 rfl rfl ?_
            refine s_bipush (q := 53) (v := 50) hX dX6_saved_51 rfl rfl (by decide) ?_
            refine s_icmp_gt_t (q := 56) (r := 88) hX dX6_saved_53 rfl rfl (by decide) ?_
            refine s_bipush (q := 90) (v := (-4)) hX dX6_saved_88 rfl rfl (by decide) ?_
            refine s_iret hX dX6_saved_90 (Or.inl rfl) ⟨Nat.le_refl _, Nat.le_refl _, Nat.le_refl _, ?_⟩
            exact hcon.ret (by unfold gA.saved; rw [ra]; dsimp only; rw [rc]; dsimp only; rw [rw]; dsimp only; rw [e9]) hC0 (hS0.kp yt (fun c hc => u3 c (by omega))) (fun c hc => u3 c (by omega))
          | succ j ih =>
            intro m h M2 hm u1 u2 u3 u4
            have hW2 : TWN M2 t S.T := a2.keep (fun c a b => u3 c (by omega))
            have hgr : S.T.svd i s n (j + 1) h = if n ≤ h s then some (50 - j) else S.T.svd i s n j (S.T.rn i h) := rfl
            have us := u1 s hs
            have us9 := u2 s hs
            refine s_iload (q := 51) hX dX6_saved_49 rfl rfl ?_
            refine s_bipush (q := 53) (v := 50) hX dX6_saved_51 rfl rfl (by decide) ?_
            refine s_icmp_gt_f (q := 56) (r := 88) hX dX6_saved_53 rfl rfl (Int32.not_lt.mpr ((nI_leI (b := 50) (by omega) (by omega)).mpr (by omega))) ?_
            refine s_aload_n (q := 57) hX dX6_saved_56 rfl rfl ?_
            refine s_getr (q := 60) hX dX6_saved_57 rfl gfl_6_62 (by assumption) rfl ?_
            refine s_iload_n (q := 61) hX dX6_saved_60 rfl rfl ?_
            refine s_iald (k := s) (q := 62) hX dX6_saved_61 rfl (by assumption) rfl (by omega) (by omega) ?_
            refine s_topi (v := nI (h s)) (by rw [Nat.zero_add] at us; exact us) ?_
            refine s_iload_n (q := 63) hX dX6_saved_62 rfl rfl ?_
            refine s_nicmp_lt (a := h s) (b := n) (q := 66) (r := 69) hX dX6_saved_63 rfl rfl rfl rfl (by omega) (by omega) (fun c63 => ?_) (fun c63 => ?_)
            · refine s_aload_n (q := 70) hX dX6_saved_69 rfl rfl ?_
              refine s_getr (q := 73) hX dX6_saved_70 rfl gfl_6_19 (by assumption) rfl ?_
              refine s_iload_n (q := 74) hX dX6_saved_73 rfl rfl ?_
              refine s_aload_n (q := 75) hX dX6_saved_74 rfl rfl ?_
              refine s_getr (q := 78) hX dX6_saved_75 rfl gfl_6_62 (by assumption) rfl ?_
              refine s_iconst (q := 79) (v := 0) hX dX6_saved_78 rfl rfl ?_
              refine s_invv3_0 (q := 82) hX dX6_saved_79 rfl glk_6_228 (by assumption) (Nat.le_of_ble_eq_true rfl) ⟨Nat.le_refl _, Nat.le_refl _⟩ (by omega) (c_renew (d := 1) (a := 0) (h := h) (Nat.le_refl _) twn hW2 g1 hi yu (by omega) (by omega) (by omega) u1 u2 (fun g hg hg2 => ?_)) 
              refine ⟨rfl, ?_⟩
              refine s_iinc (q := 85) (v := nI (m + 1)) (lv' := [(0, _), (1, _), (2, _), (3, _), (4, _)]) hX dX6_saved_82 rfl rfl (nI_add (m) 1) (Nat.le_of_ble_eq_true rfl) rfl ?_
              refine s_goto (q := 49) hX dX6_saved_85 rfl ?_
              refine ih (m + 1) (S.T.rn i h) _ (by omega) (fun q hq => by rw [gsr_s]; exact hg q hq) (fun q hq => Nat.min_le_left _ _) (fun c hc => by rw [gsr_n _ _ hc]; exact u3 c hc) (by rw [u4, hgr, if_neg (by omega)])
            · refine s_iload (q := 68) hX dX6_saved_66 rfl rfl ?_
              refine s_iret hX dX6_saved_68 (Or.inl rfl) ⟨Nat.le_refl _, Nat.le_refl _, Nat.le_refl _, ?_⟩
              have e9 : S.T.svd i s n 51 (S.U.tr i) = some m := by rw [u4, hgr, if_pos (by omega), show 50 - j = m by omega]
              exact hcon.ret (by unfold gA.saved; rw [ra]; dsimp only; rw [rc]; dsimp only; rw [rw]; dsimp only; rw [e9]) hC0 (hS0.kp yt (fun c hc => u3 c (by omega))) (fun c hc => u3 c (by omega))
        exact L 51 0 (S.U.tr i) _ rfl (fun q hq => by rw [gsr_s, pk_cpy_in (by omega) (by omega), show i * 3 + (0 + q - 0) = 3 * i + q by omega]; exact a3.2.1 _ (by omega)) (fun q hq => g3.1.1 _ (by omega)) (fun c hc => gsr_n _ _ hc) rfl
set_option maxHeartbeats 4000000 in
set_option maxRecDepth 100000 in
theorem k_year {d t b : Nat} {x y z : Int32} {S : gA} {sh : List gS} {M : gM} {Q : Option Value → List gS → gM → Prop} (hd : 5 ≤ d) (hC : isCls sh t) (hS : CLS M t S) (hk : S.ok b) (hb : b ≤ 20000) (hcon : kC sh M (S.year x y z) Q) : gC mX6_year d 0 0 [.ref 0, .int x, .int y, .int z] sh M Q := by
  have hC0 := hC
  have hS0 := hS
  have hk0 := hk
  obtain ⟨y0, yt, yp, yw, ys, yr, yd, yk, yc, yn, yu⟩ := hC
  have twn := hC0.tw
  have tdf := hC0.df
  have yp2 := yp
  have ys2 := ys
  have yr2 := yr
  have yd2 := yd
  have yk2 := yk
  have yc2 := yc
  have yn2 := yn
  have twn2 := twn
  have tdf2 := tdf
  obtain ⟨p0, p1, p2⟩ := yp2
  obtain ⟨z0, z1, z2, z3, z4, z5, z6⟩ := twn2
  obtain ⟨zz0, zz1, zz2, zz3, zz4, zz5, zz6⟩ := tdf2
  obtain ⟨s0, s1, s2, s3⟩ := ys2
  obtain ⟨r0, r1, r2, r3⟩ := yr2
  obtain ⟨d0, d1, d2⟩ := yd2
  obtain ⟨k0, k1, k2⟩ := yk2
  obtain ⟨q0, q1, q2, q3, q4⟩ := yc2
  obtain ⟨v0, v1, v2, v3, v4, v5, v6⟩ := yn2
  obtain ⟨a1, a2, a3, ⟨n1, a4⟩, ⟨n2, a5⟩, a6⟩ := hS
  obtain ⟨g1, g2, g3, g4, g5, g6, g7⟩ := hk
  have g0 := g1
  obtain ⟨o1, o2, o3, o4, o5, o6, o7, o8⟩ := g0
  have hap : apart t 18 := by unfold apart; omega
  have hap2 : apart t 22 := by unfold apart; omega
  refine gC_of (rt := 1) (ini := false) gm_X6_year rfl (by decide) (Nat.le_of_ble_eq_true rfl) (fun X hX => ?_)
  refine s_iload_n (q := 1) hX dX6_year_0 rfl rfl ?_
  refine s_iconst (q := 2) (v := 0) hX dX6_year_1 rfl rfl ?_
  refine s_sipush (q := 5) (v := 9999) hX dX6_year_2 rfl rfl (by decide) ?_
  refine s_invs3_1 (q := 8) hX dX6_year_5 rfl glk_6_93 (by decide) (Nat.le_of_ble_eq_true rfl) ⟨Nat.le_refl _, Nat.le_refl _⟩ (by omega) (c_rng (d := 0) (x := x) (lo := 0) (n := 10000) rfl rfl (by decide) (by decide) (fun rx => ?_) (fun q rx lq hq eq => ?_)) 
  · refine ⟨_, rfl, ?_⟩
    refine s_if_eq_t (q := 11) (r := 30) hX dX6_year_8 rfl rfl (by decide) ?_
    refine s_iconst (q := 31) (v := (-1)) hX dX6_year_30 rfl rfl ?_
    refine s_iret hX dX6_year_31 (Or.inl rfl) ⟨Nat.le_refl _, Nat.le_refl _, Nat.le_refl _, ?_⟩
    exact hcon.ret (by first | (unfold gA.year; rw [rx]; dsimp only; rw [ry]; dsimp only; rw [rw]) | (unfold gA.year; rw [rx]; dsimp only; rw [ry]) | (unfold gA.year; rw [rx])) hC0 hS0 (fun _ _ => rfl)
  · subst eq
    refine ⟨_, rfl, ?_⟩
    refine s_if_eq_f (q := 11) (r := 30) hX dX6_year_8 rfl rfl (by decide) ?_
    refine s_iload_n (q := 12) hX dX6_year_11 rfl rfl ?_
    refine s_iconst (q := 13) (v := 1) hX dX6_year_12 rfl rfl ?_
    refine s_bipush (q := 15) (v := 60) hX dX6_year_13 rfl rfl (by decide) ?_
    refine s_invs3_1 (q := 18) hX dX6_year_15 rfl glk_6_93 (by decide) (Nat.le_of_ble_eq_true rfl) ⟨Nat.le_refl _, Nat.le_refl _⟩ (by omega) (c_rng (d := 0) (x := y) (lo := 1) (n := 61) rfl rfl (by decide) (by decide) (fun ry => ?_) (fun n ry ln hn en => ?_)) 
    · refine ⟨_, rfl, ?_⟩
      refine s_if_eq_t (q := 21) (r := 30) hX dX6_year_18 rfl rfl (by decide) ?_
      refine s_iconst (q := 31) (v := (-1)) hX dX6_year_30 rfl rfl ?_
      refine s_iret hX dX6_year_31 (Or.inl rfl) ⟨Nat.le_refl _, Nat.le_refl _, Nat.le_refl _, ?_⟩
      exact hcon.ret (by first | (unfold gA.year; rw [rx]; dsimp only; rw [ry]; dsimp only; rw [rw]) | (unfold gA.year; rw [rx]; dsimp only; rw [ry]) | (unfold gA.year; rw [rx])) hC0 hS0 (fun _ _ => rfl)
    · subst en
      refine ⟨_, rfl, ?_⟩
      refine s_if_eq_f (q := 21) (r := 30) hX dX6_year_18 rfl rfl (by decide) ?_
      refine s_iload_n (q := 22) hX dX6_year_21 rfl rfl ?_
      refine s_iconst (q := 23) (v := 0) hX dX6_year_22 rfl rfl ?_
      refine s_iconst (q := 24) (v := 1) hX dX6_year_23 rfl rfl ?_
      refine s_invs3_1 (q := 27) hX dX6_year_24 rfl glk_6_93 (by decide) (Nat.le_of_ble_eq_true rfl) ⟨Nat.le_refl _, Nat.le_refl _⟩ (by omega) (c_rng (d := 0) (x := z) (lo := 0) (n := 2) rfl rfl (by decide) (by decide) (fun rw => ?_) (fun w rw lw hw ew => ?_)) 
      · refine ⟨_, rfl, ?_⟩
        refine s_if_ne_f (q := 30) (r := 32) hX dX6_year_27 rfl rfl (by decide) ?_
        refine s_iconst (q := 31) (v := (-1)) hX dX6_year_30 rfl rfl ?_
        refine s_iret hX dX6_year_31 (Or.inl rfl) ⟨Nat.le_refl _, Nat.le_refl _, Nat.le_refl _, ?_⟩
        exact hcon.ret (by first | (unfold gA.year; rw [rx]; dsimp only; rw [ry]; dsimp only; rw [rw]) | (unfold gA.year; rw [rx]; dsimp only; rw [ry]) | (unfold gA.year; rw [rx])) hC0 hS0 (fun _ _ => rfl)
      · subst ew
        refine ⟨_, rfl, ?_⟩
        refine s_if_ne_t (q := 30) (r := 32) hX dX6_year_27 rfl rfl (by decide) ?_
        refine s_aload_n (q := 33) hX dX6_year_32 rfl rfl ?_
        refine s_getr (q := 36) hX dX6_year_33 rfl gfl_6_33 (by assumption) rfl ?_
        refine s_aload_n (q := 37) hX dX6_year_36 rfl rfl ?_
        refine s_getr (q := 40) hX dX6_year_37 rfl gfl_6_29 (by assumption) rfl ?_
        refine s_invv1_0 (q := 43) hX dX6_year_40 rfl glk_6_168 (by assumption) (Nat.le_of_ble_eq_true rfl) ⟨Nat.le_refl _, Nat.le_refl _⟩ (by omega) (c_copyFrom (d := 1) (Nat.le_refl _) yr ys (by omega) (fun M1 w1 w2 => ?_)) 
        have hW1 : TWN M1 t S.T := a2.keep (fun c a b => w2 c (by omega))
        have hU1 := w1 S.T.P S.U o1 a3
        refine ⟨rfl, ?_⟩
        refine s_iconst (q := 44) (v := 0) hX dX6_year_43 rfl rfl ?_
        refine s_istore (q := 46) (lv' := [(0, _), (1, _), (2, _), (3, _), (4, _)]) hX dX6_year_44 rfl (Nat.le_of_ble_eq_true rfl) rfl ?_
        refine s_iconst (q := 47) (v := 0) hX dX6_year_46 rfl rfl ?_
        refine s_istore (q := 49) (lv' := [(0, _), (1, _), (2, _), (3, _), (4, _), (5, _)]) hX dX6_year_47 rfl (Nat.le_of_ble_eq_true rfl) rfl ?_
        have L : ∀ (m k : Nat) (M2 : gM), k + m = n → STR M2 22 S.T.P (S.T.yr q k S.U).2 → (∀ c, c ≠ t + 6 → (c < 22 ∨ 22 + 3 < c) → M2 c = M c) → X 49 [(0, .ref 0), (1, .int (nI q)), (2, .int (nI n)), (3, .int (nI w)), (4, .int (nI (S.T.yr q k S.U).1)), (5, .int (nI k))] [] sh M2 0 0 := by
          intro m
          induction m with
          | zero =>
            intro k M2 hm u1 u3
            have hkn : n = k := by omega
            subst hkn
            obtain ⟨k1, k2, k3⟩ := S.T.yr_ok (z := q) g3.1 n (by omega)
            have hW2 : TWN M2 t S.T := a2.keep (fun c a b => u3 c (by omega) (by omega))
            have hU2 : STR M2 18 S.T.P S.U := a3.keep (fun c a b => u3 c (by omega) (by omega))
            refine s_iload (q := 51) hX dX6_year_49 rfl rfl ?_
            refine s_iload_n (q := 52) hX dX6_year_51 rfl rfl ?_
            refine s_icmp_ge_t (q := 55) (r := 113) hX dX6_year_52 rfl rfl (Int32.le_refl _) ?_
            refine s_iload_n (q := 114) hX dX6_year_113 rfl rfl ?_
            refine s_nif_ne (a := w) (b := 0) (q := 117) (r := 122) hX dX6_year_114 rfl rfl rfl rfl (by omega) (by omega) (fun c114 => ?_) (fun c114 => ?_)
            · refine s_aload_n (q := 123) hX dX6_year_122 rfl rfl ?_
              refine s_getr (q := 126) hX dX6_year_123 rfl gfl_6_33 (by assumption) rfl ?_
              refine s_aload_n (q := 127) hX dX6_year_126 rfl rfl ?_
              refine s_getr (q := 130) hX dX6_year_127 rfl gfl_6_19 (by assumption) rfl ?_
              refine s_invv1_1 (q := 133) hX dX6_year_130 rfl glk_6_253 (by assumption) (Nat.le_of_ble_eq_true rfl) ⟨Nat.le_refl _, Nat.le_refl _⟩ (by omega) (c_worthOfAll (d := 0) (T := S.T) twn hW2 g1 yr u1 k1 hap2 ?_) 
              refine ⟨_, rfl, ?_⟩
              refine s_aload_n (q := 134) hX dX6_year_133 rfl rfl ?_
              refine s_getr (q := 137) hX dX6_year_134 rfl gfl_6_29 (by assumption) rfl ?_
              refine s_aload_n (q := 138) hX dX6_year_137 rfl rfl ?_
              refine s_getr (q := 141) hX dX6_year_138 rfl gfl_6_19 (by assumption) rfl ?_
              refine s_invv1_1 (q := 144) hX dX6_year_141 rfl glk_6_253 (by assumption) (Nat.le_of_ble_eq_true rfl) ⟨Nat.le_refl _, Nat.le_refl _⟩ (by omega) (c_worthOfAll (d := 0) (T := S.T) twn hW2 g1 ys hU2 g3.1 hap ?_) 
              refine ⟨_, rfl, ?_⟩
              refine s_isub (q := 145) hX dX6_year_144 rfl rfl ?_
              refine s_iret hX dX6_year_145 (Or.inl rfl) ⟨Nat.le_refl _, Nat.le_refl _, Nat.le_refl _, ?_⟩
              exact hcon.ret (by unfold gA.year; rw [rx]; dsimp only; rw [ry]; dsimp only; rw [rw]; dsimp only; rw [if_neg (by omega)]) hC0 (hS0.kp yt (fun c hc => u3 c (by omega) (by omega))) (fun c hc => u3 c (by omega) (by omega))
            · refine s_iload (q := 119) hX dX6_year_117 rfl rfl ?_
              refine s_goto (q := 145) hX dX6_year_119 rfl ?_
              refine s_iret hX dX6_year_145 (Or.inl rfl) ⟨Nat.le_refl _, Nat.le_refl _, Nat.le_refl _, ?_⟩
              exact hcon.ret (by unfold gA.year; rw [rx]; dsimp only; rw [ry]; dsimp only; rw [rw]; dsimp only; rw [if_pos (by omega)]) hC0 (hS0.kp yt (fun c hc => u3 c (by omega) (by omega))) (fun c hc => u3 c (by omega) (by omega))
          | succ m ih =>
            intro k M2 hm u1 u3
            obtain ⟨k1, k2, k3⟩ := S.T.yr_ok (z := q) g3.1 k (by omega)
            have hW2 : TWN M2 t S.T := a2.keep (fun c a b => u3 c (by omega) (by omega))
            obtain ⟨t1, t2⟩ := S.T.drw_ok (z := q) (k := k) k1 S.T.P
            have t3 := S.T.sea_ok t1
            have t4 := (S.T.sea (S.T.drw q k S.T.P (S.T.yr q k S.U).2)).gc_le S.T.P
            have t5 : S.T.P * k ≤ 6 * k := Nat.mul_le_mul_right _ o1
            refine s_iload (q := 51) hX dX6_year_49 rfl rfl ?_
            refine s_iload_n (q := 52) hX dX6_year_51 rfl rfl ?_
            refine s_icmp_ge_f (q := 55) (r := 113) hX dX6_year_52 rfl rfl (Int32.not_le.mpr (nI_lt (by omega) (by omega))) ?_
            refine s_aload_n (q := 56) hX dX6_year_55 rfl rfl ?_
            refine s_getr (q := 59) hX dX6_year_56 rfl gfl_6_33 (by assumption) rfl ?_
            refine s_aload_n (q := 60) hX dX6_year_59 rfl rfl ?_
            refine s_getr (q := 63) hX dX6_year_60 rfl gfl_6_19 (by assumption) rfl ?_
            refine s_iload_n (q := 64) hX dX6_year_63 rfl rfl ?_
            refine s_iload (q := 66) hX dX6_year_64 rfl rfl ?_
            refine s_invv3_0 (q := 69) hX dX6_year_66 rfl glk_6_246 (by assumption) (Nat.le_of_ble_eq_true rfl) ⟨Nat.le_refl _, Nat.le_refl _⟩ (by omega) (c_doDrawn (d := 4) (T := S.T) (Nat.le_refl _) twn hW2 g1 yr u1 k1 hap2 (by omega) (by omega) (fun M3 x1 x2 => ?_)) 
            have hW3 := x2.twn hap2 hW2
            refine ⟨rfl, ?_⟩
            refine s_aload_n (q := 70) hX dX6_year_69 rfl rfl ?_
            refine s_getr (q := 73) hX dX6_year_70 rfl gfl_6_33 (by assumption) rfl ?_
            refine s_aload_n (q := 74) hX dX6_year_73 rfl rfl ?_
            refine s_getr (q := 77) hX dX6_year_74 rfl gfl_6_19 (by assumption) rfl ?_
            refine s_invv1_0 (q := 80) hX dX6_year_77 rfl glk_6_174 (by assumption) (Nat.le_of_ble_eq_true rfl) ⟨Nat.le_refl _, Nat.le_refl _⟩ (by omega) (c_fade (d := 1) (T := S.T) (Nat.le_refl _) twn hW3 g1 yr x1 t1 hap2 (fun M4 y1 y2 => ?_)) 
            have hW4 := y2.twn hap2 hW3
            refine ⟨rfl, ?_⟩
            refine s_iload (q := 82) hX dX6_year_80 rfl rfl ?_
            refine s_aload_n (q := 83) hX dX6_year_82 rfl rfl ?_
            refine s_getr (q := 86) hX dX6_year_83 rfl gfl_6_33 (by assumption) rfl ?_
            refine s_aload_n (q := 87) hX dX6_year_86 rfl rfl ?_
            refine s_getr (q := 90) hX dX6_year_87 rfl gfl_6_19 (by assumption) rfl ?_
            refine s_invv1_1 (q := 93) hX dX6_year_90 rfl glk_6_250 (by assumption) (Nat.le_of_ble_eq_true rfl) ⟨Nat.le_refl _, Nat.le_refl _⟩ (by omega) (c_countGrey (d := 2) (T := S.T) (Nat.le_refl _) twn hW4 g1 yr y1 t3 hap2 ?_) 
            refine ⟨_, rfl, ?_⟩
            refine s_iadd (q := 94) (v := nI ((S.T.yr q k S.U).1 + ((S.T.sea (S.T.drw q k S.T.P (S.T.yr q k S.U).2)).gc S.T.P))) hX dX6_year_93 rfl (nI_add ((S.T.yr q k S.U).1) ((S.T.sea (S.T.drw q k S.T.P (S.T.yr q k S.U).2)).gc S.T.P)) ?_
            refine s_istore (q := 96) (lv' := [(0, _), (1, _), (2, _), (3, _), (4, _), (5, _)]) hX dX6_year_94 rfl (Nat.le_of_ble_eq_true rfl) rfl ?_
            refine s_aload_n (q := 97) hX dX6_year_96 rfl rfl ?_
            refine s_getr (q := 100) hX dX6_year_97 rfl gfl_6_33 (by assumption) rfl ?_
            refine s_aload_n (q := 101) hX dX6_year_100 rfl rfl ?_
            refine s_getr (q := 104) hX dX6_year_101 rfl gfl_6_19 (by assumption) rfl ?_
            refine s_invv1_0 (q := 107) hX dX6_year_104 rfl glk_6_180 (by assumption) (Nat.le_of_ble_eq_true rfl) ⟨Nat.le_refl _, Nat.le_refl _⟩ (by omega) (c_endDay (d := 2) (T := S.T) (Nat.le_refl _) twn hW4 g1 yr y1 t3 hap2 (fun M5 x5 x6 => ?_)) 
            refine ⟨rfl, ?_⟩
            refine s_iinc (q := 110) (v := nI (k + 1)) (lv' := [(0, _), (1, _), (2, _), (3, _), (4, _), (5, _)]) hX dX6_year_107 rfl rfl (nI_add (k) 1) (Nat.le_of_ble_eq_true rfl) rfl ?_
            refine s_goto (q := 49) hX dX6_year_110 rfl ?_
            exact ih (k + 1) M5 (by omega) x5 (fun c h1 h2 => by rw [x6 c h1 h2, y2 c h1 h2, x2 c h1 h2]; exact u3 c h1 h2)
        exact L n 0 M1 (by omega) hU1 (fun c h1 h2 => w2 c (by omega))
set_option maxHeartbeats 4000000 in
set_option maxRecDepth 100000 in
theorem k_keep {d t b : Nat}  {S : gA} {sh : List gS} {M : gM} {Q : Option Value → List gS → gM → Prop} (hd : 3 ≤ d) (hC : isCls sh t) (hS : CLS M t S) (hk : S.ok b) (hb : b ≤ 20000) (hcon : kC sh M (S.keep) Q) : gC mX6_keep d 0 0 [.ref 0] sh M Q := by
  have hC0 := hC
  have hS0 := hS
  have hk0 := hk
  obtain ⟨y0, yt, yp, yw, ys, yr, yd, yk, yc, yn, yu⟩ := hC
  have twn := hC0.tw
  have tdf := hC0.df
  have yp2 := yp
  have ys2 := ys
  have yr2 := yr
  have yd2 := yd
  have yk2 := yk
  have yc2 := yc
  have yn2 := yn
  have twn2 := twn
  have tdf2 := tdf
  obtain ⟨p0, p1, p2⟩ := yp2
  obtain ⟨z0, z1, z2, z3, z4, z5, z6⟩ := twn2
  obtain ⟨zz0, zz1, zz2, zz3, zz4, zz5, zz6⟩ := tdf2
  obtain ⟨s0, s1, s2, s3⟩ := ys2
  obtain ⟨r0, r1, r2, r3⟩ := yr2
  obtain ⟨d0, d1, d2⟩ := yd2
  obtain ⟨k0, k1, k2⟩ := yk2
  obtain ⟨q0, q1, q2, q3, q4⟩ := yc2
  obtain ⟨v0, v1, v2, v3, v4, v5, v6⟩ := yn2
  obtain ⟨a1, a2, a3, ⟨n1, a4⟩, ⟨n2, a5⟩, a6⟩ := hS
  obtain ⟨g1, g2, g3, g4, g5, g6, g7⟩ := hk
  have g0 := g1
  obtain ⟨o1, o2, o3, o4, o5, o6, o7, o8⟩ := g0
  have hap : apart t 18 := by unfold apart; omega
  have hap2 : apart t 22 := by unfold apart; omega
  refine gC_of (rt := 1) (ini := false) gm_X6_keep rfl (by decide) (Nat.le_of_ble_eq_true rfl) (fun X hX => ?_)
  refine s_aload_n (q := 1) hX dX6_keep_0 rfl rfl ?_
  refine s_getr (q := 4) hX dX6_keep_1 rfl gfl_6_45 (by assumption) rfl ?_
  refine s_geti (q := 7) hX dX6_keep_4 rfl gfl_6_100 (by assumption) rfl ?_
  refine s_topi (v := nI (S.kp.1)) a5.2.1 ?_
  refine s_iconst (q := 8) (v := 2) hX dX6_keep_7 rfl rfl ?_
  refine s_nicmp_lt (a := S.kp.1) (b := 2) (q := 11) (r := 14) hX dX6_keep_8 rfl rfl rfl rfl (by omega) (by omega) (fun c8 => ?_) (fun c8 => ?_)
  · refine s_aload_n (q := 15) hX dX6_keep_14 rfl rfl ?_
    refine s_getr (q := 18) hX dX6_keep_15 rfl gfl_6_45 (by assumption) rfl ?_
    refine s_aload_n (q := 19) hX dX6_keep_18 rfl rfl ?_
    refine s_getr (q := 22) hX dX6_keep_19 rfl gfl_6_29 (by assumption) rfl ?_
    refine s_invv1_0 (q := 25) hX dX6_keep_22 rfl glk_6_139 (by assumption) (Nat.le_of_ble_eq_true rfl) ⟨Nat.le_refl _, Nat.le_refl _⟩ (by omega) (c_put (d := 2) (n := 2) (Nat.le_refl _) (by omega) (by omega) o1 yk a5 ys (by omega) a3 (fun M1 w1 w2 => ?_)) 
    rw [show min 2 (S.kp.1 + 1) = S.kp.1 + 1 by omega] at w1
    refine ⟨rfl, ?_⟩
    refine s_aload_n (q := 26) hX dX6_keep_25 rfl rfl ?_
    refine s_getr (q := 29) hX dX6_keep_26 rfl gfl_6_45 (by assumption) rfl ?_
    refine s_geti (q := 32) hX dX6_keep_29 rfl gfl_6_100 (by assumption) rfl ?_
    refine s_topi (v := nI (S.kp.1 + 1)) w1.2.1 ?_
    refine s_iret hX dX6_keep_32 (Or.inl rfl) ⟨Nat.le_refl _, Nat.le_refl _, Nat.le_refl _, ?_⟩
    exact hcon.ret (S' := (S.T, S.U, S.un, (S.kp.1 + 1, fun k => if k = 0 then S.U else S.kp.2 (k - 1)), S.N, S.tx)) (by unfold gA.keep; exact if_pos (by omega)) hC0 ⟨a1.keep9 (w2 1 (by omega)) (w2 2 (by omega)), a2.keep (fun c a b => w2 c (by omega)), a3.keep (fun c a b => w2 c (by omega)), ⟨n1, a4.keep (by omega) (fun c a b => w2 c (by omega))⟩, ⟨_, w1⟩, a6.keep (by rw [w2 75 (by omega)]) (w2 76 (by omega)) (w2 77 (by omega)) (w2 78 (by omega))⟩ (fun c hc => w2 c (by omega))
  · refine s_bipush (q := 13) (v := (-3)) hX dX6_keep_11 rfl rfl (by decide) ?_
    refine s_iret hX dX6_keep_13 (Or.inl rfl) ⟨Nat.le_refl _, Nat.le_refl _, Nat.le_refl _, ?_⟩
    exact hcon.ret (by unfold gA.keep; exact if_neg (by omega)) hC0 hS0 (fun _ _ => rfl)
set_option maxHeartbeats 4000000 in
set_option maxRecDepth 100000 in
theorem k_back {d t b : Nat}  {S : gA} {sh : List gS} {M : gM} {Q : Option Value → List gS → gM → Prop} (hd : 3 ≤ d) (hC : isCls sh t) (hS : CLS M t S) (hk : S.ok b) (hb : b ≤ 20000) (hcon : kC sh M (S.back) Q) : gC mX6_back d 0 0 [.ref 0] sh M Q := by
  have hC0 := hC
  have hS0 := hS
  have hk0 := hk
  obtain ⟨y0, yt, yp, yw, ys, yr, yd, yk, yc, yn, yu⟩ := hC
  have twn := hC0.tw
  have tdf := hC0.df
  have yp2 := yp
  have ys2 := ys
  have yr2 := yr
  have yd2 := yd
  have yk2 := yk
  have yc2 := yc
  have yn2 := yn
  have twn2 := twn
  have tdf2 := tdf
  obtain ⟨p0, p1, p2⟩ := yp2
  obtain ⟨z0, z1, z2, z3, z4, z5, z6⟩ := twn2
  obtain ⟨zz0, zz1, zz2, zz3, zz4, zz5, zz6⟩ := tdf2
  obtain ⟨s0, s1, s2, s3⟩ := ys2
  obtain ⟨r0, r1, r2, r3⟩ := yr2
  obtain ⟨d0, d1, d2⟩ := yd2
  obtain ⟨k0, k1, k2⟩ := yk2
  obtain ⟨q0, q1, q2, q3, q4⟩ := yc2
  obtain ⟨v0, v1, v2, v3, v4, v5, v6⟩ := yn2
  obtain ⟨a1, a2, a3, ⟨n1, a4⟩, ⟨n2, a5⟩, a6⟩ := hS
  obtain ⟨g1, g2, g3, g4, g5, g6, g7⟩ := hk
  have g0 := g1
  obtain ⟨o1, o2, o3, o4, o5, o6, o7, o8⟩ := g0
  have hap : apart t 18 := by unfold apart; omega
  have hap2 : apart t 22 := by unfold apart; omega
  refine gC_of (rt := 1) (ini := false) gm_X6_back rfl (by decide) (Nat.le_of_ble_eq_true rfl) (fun X hX => ?_)
  refine s_aload_n (q := 1) hX dX6_back_0 rfl rfl ?_
  refine s_getr (q := 4) hX dX6_back_1 rfl gfl_6_45 (by assumption) rfl ?_
  refine s_aload_n (q := 5) hX dX6_back_4 rfl rfl ?_
  refine s_getr (q := 8) hX dX6_back_5 rfl gfl_6_29 (by assumption) rfl ?_
  refine s_invv1_1 (q := 11) hX dX6_back_8 rfl glk_6_164 (by assumption) (Nat.le_of_ble_eq_true rfl) ⟨Nat.le_refl _, Nat.le_refl _⟩ (by omega) (c_takeLast (d := 2) (n := 2) (U := S.U) (Nat.le_refl _) (by omega) (by omega) o1 yk a5 ys (by omega) (fun hz => ?_) (fun hz M1 w1 w2 w3 => ?_)) 
  · refine ⟨_, rfl, ?_⟩
    refine s_if_ne_f (q := 14) (r := 17) hX dX6_back_11 rfl rfl (by decide) ?_
    refine s_bipush (q := 16) (v := (-2)) hX dX6_back_14 rfl rfl (by decide) ?_
    refine s_iret hX dX6_back_16 (Or.inl rfl) ⟨Nat.le_refl _, Nat.le_refl _, Nat.le_refl _, ?_⟩
    exact hcon.ret (by unfold gA.back; exact if_pos hz) hC0 hS0 (fun _ _ => rfl)
  · refine ⟨_, rfl, ?_⟩
    refine s_if_ne_t (q := 14) (r := 17) hX dX6_back_11 rfl rfl (by decide) ?_
    refine s_aload_n (q := 18) hX dX6_back_17 rfl rfl ?_
    refine s_getr (q := 21) hX dX6_back_18 rfl gfl_6_41 (by assumption) rfl ?_
    refine s_iconst (q := 22) (v := 0) hX dX6_back_21 rfl rfl ?_
    refine s_puti (q := 25) hX dX6_back_22 rfl gfl_6_100 (by assumption) rfl ?_
    refine s_aload_n (q := 26) hX dX6_back_25 rfl rfl ?_
    refine s_getr (q := 29) hX dX6_back_26 rfl gfl_6_45 (by assumption) rfl ?_
    refine s_geti (q := 32) hX dX6_back_29 rfl gfl_6_100 (by assumption) rfl ?_
    refine s_topi (v := nI (S.kp.1 - 1)) (by rw [gsr_n _ _ (by omega)]; exact w1.2.1) ?_
    refine s_iret hX dX6_back_32 (Or.inl rfl) ⟨Nat.le_refl _, Nat.le_refl _, Nat.le_refl _, ?_⟩
    exact hcon.ret (S' := (S.T, S.kp.2 0, (0, S.un.2), (S.kp.1 - 1, fun k => S.kp.2 (k + 1)), S.N, S.tx)) (by unfold gA.back; exact if_neg (by omega)) hC0 ⟨a1.keep9 (by rw [gsr_n _ _ (by omega), w3 1 (by omega) (by omega)]) (by rw [gsr_n _ _ (by omega)]; exact w3 2 (by omega) (by omega)), a2.keep (fun c a b => by rw [gsr_n _ _ (by omega), w3 c (by omega) (by omega)]), w2.keep (fun c a b => gsr_n _ _ (by omega)), ⟨n1, by rw [gsr_s, pk_un (by omega), w3 26 (by omega) (by omega)]; exact a4.1, by rw [gsr_s, pk_us]; rfl, a4.2.2.1, Nat.zero_le _, fun k hk => absurd hk (Nat.not_lt_zero k)⟩, ⟨_, w1.keep (by omega) (fun c a b => gsr_n _ _ (by omega))⟩, a6.keep (by rw [gsr_n _ _ (by omega), w3 75 (by omega) (by omega)]) (by rw [gsr_n _ _ (by omega)]; exact w3 76 (by omega) (by omega)) (by rw [gsr_n _ _ (by omega)]; exact w3 77 (by omega) (by omega)) (by rw [gsr_n _ _ (by omega)]; exact w3 78 (by omega) (by omega))⟩ (fun c hc => by rw [gsr_n _ _ (by omega), w3 c (by omega) (by omega)])
set_option maxHeartbeats 4000000 in
set_option maxRecDepth 100000 in
theorem k_count {d t b : Nat} {x : Int32} {S : gA} {sh : List gS} {M : gM} {Q : Option Value → List gS → gM → Prop} (hd : 3 ≤ d) (hC : isCls sh t) (hS : CLS M t S) (hk : S.ok b) (hb : b ≤ 20000) (hcon : kC sh M (S.count x) Q) : gC mX6_count d 0 0 [.ref 0, .int x] sh M Q := by
  have hC0 := hC
  have hS0 := hS
  have hk0 := hk
  obtain ⟨y0, yt, yp, yw, ys, yr, yd, yk, yc, yn, yu⟩ := hC
  have twn := hC0.tw
  have tdf := hC0.df
  have yp2 := yp
  have ys2 := ys
  have yr2 := yr
  have yd2 := yd
  have yk2 := yk
  have yc2 := yc
  have yn2 := yn
  have twn2 := twn
  have tdf2 := tdf
  obtain ⟨p0, p1, p2⟩ := yp2
  obtain ⟨z0, z1, z2, z3, z4, z5, z6⟩ := twn2
  obtain ⟨zz0, zz1, zz2, zz3, zz4, zz5, zz6⟩ := tdf2
  obtain ⟨s0, s1, s2, s3⟩ := ys2
  obtain ⟨r0, r1, r2, r3⟩ := yr2
  obtain ⟨d0, d1, d2⟩ := yd2
  obtain ⟨k0, k1, k2⟩ := yk2
  obtain ⟨q0, q1, q2, q3, q4⟩ := yc2
  obtain ⟨v0, v1, v2, v3, v4, v5, v6⟩ := yn2
  obtain ⟨a1, a2, a3, ⟨n1, a4⟩, ⟨n2, a5⟩, a6⟩ := hS
  obtain ⟨g1, g2, g3, g4, g5, g6, g7⟩ := hk
  have g0 := g1
  obtain ⟨o1, o2, o3, o4, o5, o6, o7, o8⟩ := g0
  have hap : apart t 18 := by unfold apart; omega
  have hap2 : apart t 22 := by unfold apart; omega
  refine gC_of (rt := 1) (ini := false) gm_X6_count rfl (by decide) (Nat.le_of_ble_eq_true rfl) (fun X hX => ?_)
  refine s_iload_n (q := 1) hX dX6_count_0 rfl rfl ?_
  refine s_table hX dX6_count_1 rfl (fun c1 => ?_) ⟨fun c1 => ?_, fun c1 => ?_, fun c1 => ?_, fun c1 => ?_, fun c1 => ?_, fun c1 => ?_, fun c1 => ?_, fun c1 => ?_, fun c1 => ?_, fun c1 => ?_, trivial⟩
  · refine s_to (r := 144) rfl ?_
    refine s_iconst (q := 145) (v := (-1)) hX dX6_count_144 rfl rfl ?_
    refine s_iret hX dX6_count_145 (Or.inl rfl) ⟨Nat.le_refl _, Nat.le_refl _, Nat.le_refl _, ?_⟩
    have rx : rng x 0 10 = none := rng_out (by omega)
    exact hcon.ret (by unfold gA.count; rw [rx]) hC0 hS0 (fun _ _ => rfl)
  · refine s_to (r := 56) rfl ?_
    refine s_aload_n (q := 57) hX dX6_count_56 rfl rfl ?_
    refine s_getr (q := 60) hX dX6_count_57 rfl gfl_6_19 (by assumption) rfl ?_
    refine s_geti (q := 63) hX dX6_count_60 rfl gfl_6_97 (by assumption) rfl ?_
    refine s_topi (v := nI (S.T.P)) a2.1 ?_
    refine s_iret hX dX6_count_63 (Or.inl rfl) ⟨Nat.le_refl _, Nat.le_refl _, Nat.le_refl _, ?_⟩
    have rx : rng x 0 10 = some 0 := rng_at c1 (by omega) (by omega)
    exact hcon.ret (by unfold gA.count; rw [rx]; dsimp only; rw [if_pos rfl]) hC0 hS0 (fun _ _ => rfl)
  · refine s_to (r := 64) rfl ?_
    refine s_aload_n (q := 65) hX dX6_count_64 rfl rfl ?_
    refine s_getr (q := 68) hX dX6_count_65 rfl gfl_6_19 (by assumption) rfl ?_
    refine s_geti (q := 71) hX dX6_count_68 rfl gfl_6_183 (by assumption) rfl ?_
    refine s_topi (v := nI (S.T.D)) a2.2.1 ?_
    refine s_iret hX dX6_count_71 (Or.inl rfl) ⟨Nat.le_refl _, Nat.le_refl _, Nat.le_refl _, ?_⟩
    have rx : rng x 0 10 = some 1 := rng_at c1 (by omega) (by omega)
    exact hcon.ret (by unfold gA.count; rw [rx]; dsimp only; rw [if_neg (by decide), if_pos rfl]) hC0 hS0 (fun _ _ => rfl)
  · refine s_to (r := 72) rfl ?_
    refine s_aload_n (q := 73) hX dX6_count_72 rfl rfl ?_
    refine s_getr (q := 76) hX dX6_count_73 rfl gfl_6_29 (by assumption) rfl ?_
    refine s_invv0_1 (q := 79) hX dX6_count_76 rfl glk_6_147 (by assumption) (Nat.le_of_ble_eq_true rfl) ⟨Nat.le_refl _, Nat.le_refl _⟩ (by omega) (c_weekday (d := 0) ys a3 g3.1 ?_) 
    refine ⟨_, rfl, ?_⟩
    refine s_iret hX dX6_count_79 (Or.inl rfl) ⟨Nat.le_refl _, Nat.le_refl _, Nat.le_refl _, ?_⟩
    have rx : rng x 0 10 = some 2 := rng_at c1 (by omega) (by omega)
    exact hcon.ret (by unfold gA.count; rw [rx]; dsimp only; rw [if_neg (by decide), if_neg (by decide), if_pos rfl]) hC0 hS0 (fun _ _ => rfl)
  · refine s_to (r := 80) rfl ?_
    refine s_aload_n (q := 81) hX dX6_count_80 rfl rfl ?_
    refine s_getr (q := 84) hX dX6_count_81 rfl gfl_6_29 (by assumption) rfl ?_
    refine s_geti (q := 87) hX dX6_count_84 rfl gfl_6_256 (by assumption) rfl ?_
    refine s_topi (v := nI (S.U.d)) a3.1 ?_
    refine s_iret hX dX6_count_87 (Or.inl rfl) ⟨Nat.le_refl _, Nat.le_refl _, Nat.le_refl _, ?_⟩
    have rx : rng x 0 10 = some 3 := rng_at c1 (by omega) (by omega)
    exact hcon.ret (by unfold gA.count; rw [rx]; dsimp only; rw [if_neg (by decide), if_neg (by decide), if_neg (by decide), if_pos rfl]) hC0 hS0 (fun _ _ => rfl)
  · refine s_to (r := 88) rfl ?_
    refine s_aload_n (q := 89) hX dX6_count_88 rfl rfl ?_
    refine s_getr (q := 92) hX dX6_count_89 rfl gfl_6_29 (by assumption) rfl ?_
    refine s_aload_n (q := 93) hX dX6_count_92 rfl rfl ?_
    refine s_getr (q := 96) hX dX6_count_93 rfl gfl_6_19 (by assumption) rfl ?_
    refine s_invv1_1 (q := 99) hX dX6_count_96 rfl glk_6_259 (by assumption) (Nat.le_of_ble_eq_true rfl) ⟨Nat.le_refl _, Nat.le_refl _⟩ (by omega) (c_thimblesOfAll (d := 0) (T := S.T) twn a2 g1 ys a3 g3.1 hap ?_) 
    refine ⟨_, rfl, ?_⟩
    refine s_iret hX dX6_count_99 (Or.inl rfl) ⟨Nat.le_refl _, Nat.le_refl _, Nat.le_refl _, ?_⟩
    have rx : rng x 0 10 = some 4 := rng_at c1 (by omega) (by omega)
    exact hcon.ret (by unfold gA.count; rw [rx]; dsimp only; rw [if_neg (by decide), if_neg (by decide), if_neg (by decide), if_neg (by decide), if_pos rfl]) hC0 hS0 (fun _ _ => rfl)
  · refine s_to (r := 100) rfl ?_
    refine s_aload_n (q := 101) hX dX6_count_100 rfl rfl ?_
    refine s_getr (q := 104) hX dX6_count_101 rfl gfl_6_29 (by assumption) rfl ?_
    refine s_aload_n (q := 105) hX dX6_count_104 rfl rfl ?_
    refine s_getr (q := 108) hX dX6_count_105 rfl gfl_6_19 (by assumption) rfl ?_
    refine s_invv1_1 (q := 111) hX dX6_count_108 rfl glk_6_250 (by assumption) (Nat.le_of_ble_eq_true rfl) ⟨Nat.le_refl _, Nat.le_refl _⟩ (by omega) (c_countGrey (d := 2) (T := S.T) (Nat.le_refl _) twn a2 g1 ys a3 g3.1 hap ?_) 
    refine ⟨_, rfl, ?_⟩
    refine s_iret hX dX6_count_111 (Or.inl rfl) ⟨Nat.le_refl _, Nat.le_refl _, Nat.le_refl _, ?_⟩
    have rx : rng x 0 10 = some 5 := rng_at c1 (by omega) (by omega)
    exact hcon.ret (by unfold gA.count; rw [rx]; dsimp only; rw [if_neg (by decide), if_neg (by decide), if_neg (by decide), if_neg (by decide), if_neg (by decide), if_pos rfl]) hC0 hS0 (fun _ _ => rfl)
  · refine s_to (r := 112) rfl ?_
    refine s_aload_n (q := 113) hX dX6_count_112 rfl rfl ?_
    refine s_getr (q := 116) hX dX6_count_113 rfl gfl_6_58 (by assumption) rfl ?_
    refine s_geti (q := 119) hX dX6_count_116 rfl gfl_6_103 (by assumption) rfl ?_
    refine s_topi (v := nI (S.N.n)) a6.1 ?_
    refine s_iret hX dX6_count_119 (Or.inl rfl) ⟨Nat.le_refl _, Nat.le_refl _, Nat.le_refl _, ?_⟩
    have rx : rng x 0 10 = some 6 := rng_at c1 (by omega) (by omega)
    exact hcon.ret (by unfold gA.count; rw [rx]; dsimp only; rw [if_neg (by decide), if_neg (by decide), if_neg (by decide), if_neg (by decide), if_neg (by decide), if_neg (by decide), if_pos rfl]) hC0 hS0 (fun _ _ => rfl)
  · refine s_to (r := 120) rfl ?_
    refine s_aload_n (q := 121) hX dX6_count_120 rfl rfl ?_
    refine s_getr (q := 124) hX dX6_count_121 rfl gfl_6_41 (by assumption) rfl ?_
    refine s_geti (q := 127) hX dX6_count_124 rfl gfl_6_100 (by assumption) rfl ?_
    refine s_topi (v := nI (S.un.1)) a4.2.1 ?_
    refine s_iret hX dX6_count_127 (Or.inl rfl) ⟨Nat.le_refl _, Nat.le_refl _, Nat.le_refl _, ?_⟩
    have rx : rng x 0 10 = some 7 := rng_at c1 (by omega) (by omega)
    exact hcon.ret (by unfold gA.count; rw [rx]; dsimp only; rw [if_neg (by decide), if_neg (by decide), if_neg (by decide), if_neg (by decide), if_neg (by decide), if_neg (by decide), if_neg (by decide), if_pos rfl]) hC0 hS0 (fun _ _ => rfl)
  · refine s_to (r := 128) rfl ?_
    refine s_aload_n (q := 129) hX dX6_count_128 rfl rfl ?_
    refine s_getr (q := 132) hX dX6_count_129 rfl gfl_6_45 (by assumption) rfl ?_
    refine s_geti (q := 135) hX dX6_count_132 rfl gfl_6_100 (by assumption) rfl ?_
    refine s_topi (v := nI (S.kp.1)) a5.2.1 ?_
    refine s_iret hX dX6_count_135 (Or.inl rfl) ⟨Nat.le_refl _, Nat.le_refl _, Nat.le_refl _, ?_⟩
    have rx : rng x 0 10 = some 8 := rng_at c1 (by omega) (by omega)
    exact hcon.ret (by unfold gA.count; rw [rx]; dsimp only; rw [if_neg (by decide), if_neg (by decide), if_neg (by decide), if_neg (by decide), if_neg (by decide), if_neg (by decide), if_neg (by decide), if_neg (by decide), if_pos rfl]) hC0 hS0 (fun _ _ => rfl)
  · refine s_to (r := 136) rfl ?_
    refine s_aload_n (q := 137) hX dX6_count_136 rfl rfl ?_
    refine s_getr (q := 140) hX dX6_count_137 rfl gfl_6_10 (by assumption) rfl ?_
    refine s_geti (q := 143) hX dX6_count_140 rfl gfl_6_86 (by assumption) rfl ?_
    refine s_topi (v := nI (S.tx.1)) a1.1 ?_
    refine s_iret hX dX6_count_143 (Or.inl rfl) ⟨Nat.le_refl _, Nat.le_refl _, Nat.le_refl _, ?_⟩
    have rx : rng x 0 10 = some 9 := rng_at c1 (by omega) (by omega)
    exact hcon.ret (by unfold gA.count; rw [rx]; dsimp only; rw [if_neg (by decide), if_neg (by decide), if_neg (by decide), if_neg (by decide), if_neg (by decide), if_neg (by decide), if_neg (by decide), if_neg (by decide), if_neg (by decide)]) hC0 hS0 (fun _ _ => rfl)
