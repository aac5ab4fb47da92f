set_option maxHeartbeats 4000000 in
set_option maxRecDepth 100000 in
theorem k_lend {d t b : Nat} {x y z w : Int32} {S : gA} {sh : List gS} {M : gM} {Q : Option Value → List gS → gM → Prop} (hd : 3 ≤ d) (hC : isCls sh t) (hS : CLS M t S) (hk : S.ok b) (hb : b ≤ 20000) (hcon : kC sh M (S.lend x y z w) Q) : gC mX6_lend d 0 0 [.ref 0, .int x, .int y, .int z, .int w] sh M Q := by
  have hC0 := hC
  have hS0 := hS
  have hk0 := hk
  obtain ⟨y0, yt, yp, yw, ys, yr, yd, yk, yc, yn, yu⟩ := hC
  have twn := hC0.tw
  have tdf := hC0.df
  have yp2 := yp
  have ys2 := ys
  have yr2 := yr
  have yd2 := yd
  have yk2 := yk
  have yc2 := yc
  have yn2 := yn
  have twn2 := twn
  have tdf2 := tdf
  obtain ⟨p0, p1, p2⟩ := yp2
  obtain ⟨z0, z1, z2, z3, z4, z5, z6⟩ := twn2
  obtain ⟨zz0, zz1, zz2, zz3, zz4, zz5, zz6⟩ := tdf2
  obtain ⟨s0, s1, s2, s3⟩ := ys2
  obtain ⟨r0, r1, r2, r3⟩ := yr2
  obtain ⟨d0, d1, d2⟩ := yd2
  obtain ⟨k0, k1, k2⟩ := yk2
  obtain ⟨q0, q1, q2, q3, q4⟩ := yc2
  obtain ⟨v0, v1, v2, v3, v4, v5, v6⟩ := yn2
  obtain ⟨a1, a2, a3, ⟨n1, a4⟩, ⟨n2, a5⟩, a6⟩ := hS
  obtain ⟨g1, g2, g3, g4, g5, g6, g7⟩ := hk
  have g0 := g1
  obtain ⟨o1, o2, o3, o4, o5, o6, o7, o8⟩ := g0
  have hap : apart t 18 := by unfold apart; omega
  have hap2 : apart t 22 := by unfold apart; omega
  refine gC_of (rt := 1) (ini := false) gm_X6_lend rfl (by decide) (Nat.le_of_ble_eq_true rfl) (fun X hX => ?_)
  refine s_aload_n (q := 1) hX dX6_lend_0 rfl rfl ?_
  refine s_iload_n (q := 2) hX dX6_lend_1 rfl rfl ?_
  refine s_invv1_1 (q := 5) hX dX6_lend_2 rfl glk_6_104 (by assumption) (Nat.le_of_ble_eq_true rfl) ⟨Nat.le_refl _, Nat.le_refl _⟩ (by omega) (c_isPerson (d := 1) (x := x) (Nat.le_refl _) hC0 hS0 g1 (fun ra => ?_) (fun i ra hi ei => ?_)) 
  · refine ⟨_, rfl, ?_⟩
    refine s_if_eq_t (q := 8) (r := 39) hX dX6_lend_5 rfl rfl (by decide) ?_
    refine s_iconst (q := 40) (v := (-1)) hX dX6_lend_39 rfl rfl ?_
    refine s_iret hX dX6_lend_40 (Or.inl rfl) ⟨Nat.le_refl _, Nat.le_refl _, Nat.le_refl _, ?_⟩
    exact hcon.ret (by first | (unfold gA.lend; rw [ra]; dsimp only; rw [rj]; dsimp only; rw [if_neg (by omega)]; rw [rc]; dsimp only; rw [rw]) | (unfold gA.lend; rw [ra]; dsimp only; rw [rj]; dsimp only; rw [if_neg (by omega)]; rw [rc]) | (unfold gA.lend; rw [ra]; dsimp only; rw [rj]; dsimp only; rw [if_pos (by omega)]) | (unfold gA.lend; rw [ra]; dsimp only; rw [rj]) | (unfold gA.lend; rw [ra])) hC0 hS0 (fun _ _ => rfl)
  · subst ei
    refine ⟨_, rfl, ?_⟩
    refine s_if_eq_f (q := 8) (r := 39) hX dX6_lend_5 rfl rfl (by decide) ?_
    refine s_aload_n (q := 9) hX dX6_lend_8 rfl rfl ?_
    refine s_iload_n (q := 10) hX dX6_lend_9 rfl rfl ?_
    refine s_invv1_1 (q := 13) hX dX6_lend_10 rfl glk_6_104 (by assumption) (Nat.le_of_ble_eq_true rfl) ⟨Nat.le_refl _, Nat.le_refl _⟩ (by omega) (c_isPerson (d := 1) (x := y) (Nat.le_refl _) hC0 hS0 g1 (fun rj => ?_) (fun j rj hj ej => ?_)) 
    · refine ⟨_, rfl, ?_⟩
      refine s_if_eq_t (q := 16) (r := 39) hX dX6_lend_13 rfl rfl (by decide) ?_
      refine s_iconst (q := 40) (v := (-1)) hX dX6_lend_39 rfl rfl ?_
      refine s_iret hX dX6_lend_40 (Or.inl rfl) ⟨Nat.le_refl _, Nat.le_refl _, Nat.le_refl _, ?_⟩
      exact hcon.ret (by first | (unfold gA.lend; rw [ra]; dsimp only; rw [rj]; dsimp only; rw [if_neg (by omega)]; rw [rc]; dsimp only; rw [rw]) | (unfold gA.lend; rw [ra]; dsimp only; rw [rj]; dsimp only; rw [if_neg (by omega)]; rw [rc]) | (unfold gA.lend; rw [ra]; dsimp only; rw [rj]; dsimp only; rw [if_pos (by omega)]) | (unfold gA.lend; rw [ra]; dsimp only; rw [rj]) | (unfold gA.lend; rw [ra])) hC0 hS0 (fun _ _ => rfl)
    · subst ej
      refine ⟨_, rfl, ?_⟩
      refine s_if_eq_f (q := 16) (r := 39) hX dX6_lend_13 rfl rfl (by decide) ?_
      refine s_iload_n (q := 17) hX dX6_lend_16 rfl rfl ?_
      refine s_iload_n (q := 18) hX dX6_lend_17 rfl rfl ?_
      refine s_nicmp_eq (a := i) (b := j) (q := 21) (r := 39) hX dX6_lend_18 rfl rfl rfl rfl (by omega) (by omega) (fun c18 => ?_) (fun c18 => ?_)
      · refine s_iconst (q := 40) (v := (-1)) hX dX6_lend_39 rfl rfl ?_
        refine s_iret hX dX6_lend_40 (Or.inl rfl) ⟨Nat.le_refl _, Nat.le_refl _, Nat.le_refl _, ?_⟩
        exact hcon.ret (by first | (unfold gA.lend; rw [ra]; dsimp only; rw [rj]; dsimp only; rw [if_neg (by omega)]; rw [rc]; dsimp only; rw [rw]) | (unfold gA.lend; rw [ra]; dsimp only; rw [rj]; dsimp only; rw [if_neg (by omega)]; rw [rc]) | (unfold gA.lend; rw [ra]; dsimp only; rw [rj]; dsimp only; rw [if_pos (by omega)]) | (unfold gA.lend; rw [ra]; dsimp only; rw [rj]) | (unfold gA.lend; rw [ra])) hC0 hS0 (fun _ _ => rfl)
      · refine s_iload_n (q := 22) hX dX6_lend_21 rfl rfl ?_
        refine s_invs1_1 (q := 25) hX dX6_lend_22 rfl glk_6_154 (by decide) (Nat.le_of_ble_eq_true rfl) ⟨Nat.le_refl _, Nat.le_refl _⟩ (by omega) (c_isSort (d := 1) (x := z) (Nat.le_refl _) (fun rc => ?_) (fun s rc hs es => ?_)) 
        · refine ⟨_, rfl, ?_⟩
          refine s_if_eq_t (q := 28) (r := 39) hX dX6_lend_25 rfl rfl (by decide) ?_
          refine s_iconst (q := 40) (v := (-1)) hX dX6_lend_39 rfl rfl ?_
          refine s_iret hX dX6_lend_40 (Or.inl rfl) ⟨Nat.le_refl _, Nat.le_refl _, Nat.le_refl _, ?_⟩
          exact hcon.ret (by first | (unfold gA.lend; rw [ra]; dsimp only; rw [rj]; dsimp only; rw [if_neg (by omega)]; rw [rc]; dsimp only; rw [rw]) | (unfold gA.lend; rw [ra]; dsimp only; rw [rj]; dsimp only; rw [if_neg (by omega)]; rw [rc]) | (unfold gA.lend; rw [ra]; dsimp only; rw [rj]; dsimp only; rw [if_pos (by omega)]) | (unfold gA.lend; rw [ra]; dsimp only; rw [rj]) | (unfold gA.lend; rw [ra])) hC0 hS0 (fun _ _ => rfl)
        · subst es
          refine ⟨_, rfl, ?_⟩
          refine s_if_eq_f (q := 28) (r := 39) hX dX6_lend_25 rfl rfl (by decide) ?_
          refine s_iload (q := 30) hX dX6_lend_28 rfl rfl ?_
          refine s_iconst (q := 31) (v := 1) hX dX6_lend_30 rfl rfl ?_
          refine s_bipush (q := 33) (v := 99) hX dX6_lend_31 rfl rfl (by decide) ?_
          refine s_invs3_1 (q := 36) hX dX6_lend_33 rfl glk_6_93 (by decide) (Nat.le_of_ble_eq_true rfl) ⟨Nat.le_refl _, Nat.le_refl _⟩ (by omega) (c_rng (d := 0) (x := w) (lo := 1) (n := 100) rfl rfl (by decide) (by decide) (fun rw => ?_) (fun n rw ln hn en => ?_)) 
          · refine ⟨_, rfl, ?_⟩
            refine s_if_ne_f (q := 39) (r := 41) hX dX6_lend_36 rfl rfl (by decide) ?_
            refine s_iconst (q := 40) (v := (-1)) hX dX6_lend_39 rfl rfl ?_
            refine s_iret hX dX6_lend_40 (Or.inl rfl) ⟨Nat.le_refl _, Nat.le_refl _, Nat.le_refl _, ?_⟩
            exact hcon.ret (by first | (unfold gA.lend; rw [ra]; dsimp only; rw [rj]; dsimp only; rw [if_neg (by omega)]; rw [rc]; dsimp only; rw [rw]) | (unfold gA.lend; rw [ra]; dsimp only; rw [rj]; dsimp only; rw [if_neg (by omega)]; rw [rc]) | (unfold gA.lend; rw [ra]; dsimp only; rw [rj]; dsimp only; rw [if_pos (by omega)]) | (unfold gA.lend; rw [ra]; dsimp only; rw [rj]) | (unfold gA.lend; rw [ra])) hC0 hS0 (fun _ _ => rfl)
          · subst en
            refine ⟨_, rfl, ?_⟩
            refine s_if_ne_t (q := 39) (r := 41) hX dX6_lend_36 rfl rfl (by decide) ?_
            have hU1 := g3.1.1 (3 * i + s) (by omega)
            have hU2 := g3.1.1 (3 * j + s) (by omega)
            refine s_iload_n (q := 42) hX dX6_lend_41 rfl rfl ?_
            refine s_iconst (q := 43) (v := 3) hX dX6_lend_42 rfl rfl ?_
            refine s_imul (q := 44) (v := nI (i * 3)) hX dX6_lend_43 rfl (pk_mul (i) (3)) ?_
            refine s_iload_n (q := 45) hX dX6_lend_44 rfl rfl ?_
            refine s_iadd (q := 46) (v := nI (i * 3 + s)) hX dX6_lend_45 rfl (nI_add (i * 3) (s)) ?_
            refine s_istore (q := 48) (lv' := [(0, _), (1, _), (2, _), (3, _), (4, _), (5, _)]) hX dX6_lend_46 rfl (Nat.le_of_ble_eq_true rfl) rfl ?_
            refine s_iload_n (q := 49) hX dX6_lend_48 rfl rfl ?_
            refine s_iconst (q := 50) (v := 3) hX dX6_lend_49 rfl rfl ?_
            refine s_imul (q := 51) (v := nI (j * 3)) hX dX6_lend_50 rfl (pk_mul (j) (3)) ?_
            refine s_iload_n (q := 52) hX dX6_lend_51 rfl rfl ?_
            refine s_iadd (q := 53) (v := nI (j * 3 + s)) hX dX6_lend_52 rfl (nI_add (j * 3) (s)) ?_
            refine s_istore (q := 55) (lv' := [(0, _), (1, _), (2, _), (3, _), (4, _), (5, _), (6, _)]) hX dX6_lend_53 rfl (Nat.le_of_ble_eq_true rfl) rfl ?_
            refine s_aload_n (q := 56) hX dX6_lend_55 rfl rfl ?_
            refine s_getr (q := 59) hX dX6_lend_56 rfl gfl_6_29 (by assumption) rfl ?_
            refine s_getr (q := 62) hX dX6_lend_59 rfl gfl_6_120 (by assumption) rfl ?_
            refine s_iload (q := 64) hX dX6_lend_62 rfl rfl ?_
            refine s_iald (k := i * 3 + s) (q := 65) hX dX6_lend_64 rfl (by assumption) rfl (by omega) (by omega) ?_
            refine s_topi (v := nI (S.U.h (3 * i + s))) (by rw [show i * 3 + s = 3 * i + s by omega]; exact a3.2.1 _ (by omega)) ?_
            refine s_iload (q := 67) hX dX6_lend_65 rfl rfl ?_
            refine s_nicmp_ge (a := S.U.h (3 * i + s)) (b := n) (q := 70) (r := 73) hX dX6_lend_67 rfl rfl rfl rfl (by omega) (by omega) (fun c67 => ?_) (fun c67 => ?_)
            · refine s_aload_n (q := 74) hX dX6_lend_73 rfl rfl ?_
              refine s_getr (q := 77) hX dX6_lend_74 rfl gfl_6_29 (by assumption) rfl ?_
              refine s_getr (q := 80) hX dX6_lend_77 rfl gfl_6_120 (by assumption) rfl ?_
              refine s_iload (q := 82) hX dX6_lend_80 rfl rfl ?_
              refine s_iald (k := j * 3 + s) (q := 83) hX dX6_lend_82 rfl (by assumption) rfl (by omega) (by omega) ?_
              refine s_topi (v := nI (S.U.h (3 * j + s))) (by rw [show j * 3 + s = 3 * j + s by omega]; exact a3.2.1 _ (by omega)) ?_
              refine s_iload (q := 85) hX dX6_lend_83 rfl rfl ?_
              refine s_iadd (q := 86) (v := nI (S.U.h (3 * j + s) + n)) hX dX6_lend_85 rfl (nI_add (S.U.h (3 * j + s)) (n)) ?_
              refine s_bipush (q := 88) (v := 99) hX dX6_lend_86 rfl rfl (by decide) ?_
              refine s_nicmp_le (a := S.U.h (3 * j + s) + n) (b := 99) (q := 91) (r := 94) hX dX6_lend_88 rfl rfl rfl rfl (by omega) (by omega) (fun c88 => ?_) (fun c88 => ?_)
              · refine s_aload_n (q := 95) hX dX6_lend_94 rfl rfl ?_
                refine s_getr (q := 98) hX dX6_lend_95 rfl gfl_6_41 (by assumption) rfl ?_
                refine s_aload_n (q := 99) hX dX6_lend_98 rfl rfl ?_
                refine s_getr (q := 102) hX dX6_lend_99 rfl gfl_6_29 (by assumption) rfl ?_
                refine s_invv1_0 (q := 105) hX dX6_lend_102 rfl glk_6_139 (by assumption) (Nat.le_of_ble_eq_true rfl) ⟨Nat.le_refl _, Nat.le_refl _⟩ (by omega) (c_know (d := 2) (Nat.le_refl _) hC0 hS0 hk0 hb (fun M1 w1 w2 => ?_)) 
                have w3 : STR M1 18 S.T.P S.U := w1.2.2.1
                refine ⟨rfl, ?_⟩
                refine s_aload_n (q := 106) hX dX6_lend_105 rfl rfl ?_
                refine s_getr (q := 109) hX dX6_lend_106 rfl gfl_6_29 (by assumption) rfl ?_
                refine s_getr (q := 112) hX dX6_lend_109 rfl gfl_6_120 (by assumption) rfl ?_
                refine s_iload (q := 114) hX dX6_lend_112 rfl rfl ?_
                refine s_dup2 (q := 115) hX dX6_lend_114 rfl rfl rfl ?_
                refine s_iald (k := i * 3 + s) (q := 116) hX dX6_lend_115 rfl (by assumption) rfl (by omega) (by omega) ?_
                refine s_topi (v := nI (S.U.h (3 * i + s))) (by rw [show i * 3 + s = 3 * i + s by omega]; exact w3.2.1 _ (by omega)) ?_
                refine s_iload (q := 118) hX dX6_lend_116 rfl rfl ?_
                refine s_isub (q := 119) (v := nI (S.U.h (3 * i + s) - n)) hX dX6_lend_118 rfl (pk_sub (by omega)) ?_
                refine s_iast (k := i * 3 + s) (q := 120) hX dX6_lend_119 rfl (by assumption) rfl (by omega) (by omega) ?_
                refine s_aload_n (q := 121) hX dX6_lend_120 rfl rfl ?_
                refine s_getr (q := 124) hX dX6_lend_121 rfl gfl_6_29 (by assumption) rfl ?_
                refine s_getr (q := 127) hX dX6_lend_124 rfl gfl_6_120 (by assumption) rfl ?_
                refine s_iload (q := 129) hX dX6_lend_127 rfl rfl ?_
                refine s_dup2 (q := 130) hX dX6_lend_129 rfl rfl rfl ?_
                refine s_iald (k := j * 3 + s) (q := 131) hX dX6_lend_130 rfl (by assumption) rfl (by omega) (by omega) ?_
                refine s_topi (v := nI (S.U.h (3 * j + s))) (by rw [gsr_s, pk_un (by omega), show j * 3 + s = 3 * j + s by omega]; exact w3.2.1 _ (by omega)) ?_
                refine s_iload (q := 133) hX dX6_lend_131 rfl rfl ?_
                refine s_iadd (q := 134) (v := nI (S.U.h (3 * j + s) + n)) hX dX6_lend_133 rfl (nI_add (S.U.h (3 * j + s)) (n)) ?_
                refine s_iast (k := j * 3 + s) (q := 135) hX dX6_lend_134 rfl (by assumption) rfl (by omega) (by omega) ?_
                refine s_aload_n (q := 136) hX dX6_lend_135 rfl rfl ?_
                refine s_getr (q := 139) hX dX6_lend_136 rfl gfl_6_29 (by assumption) rfl ?_
                refine s_getr (q := 142) hX dX6_lend_139 rfl gfl_6_120 (by assumption) rfl ?_
                refine s_iload (q := 144) hX dX6_lend_142 rfl rfl ?_
                refine s_iald (k := j * 3 + s) (q := 145) hX dX6_lend_144 rfl (by assumption) rfl (by omega) (by omega) ?_
                refine s_topi (v := nI (S.U.h (3 * j + s) + n)) (by rw [gsr_s, pk_us]) ?_
                refine s_iret hX dX6_lend_145 (Or.inl rfl) ⟨Nat.le_refl _, Nat.le_refl _, Nat.le_refl _, ?_⟩
                refine hcon.ret (by unfold gA.lend; rw [ra]; dsimp only; rw [rj]; dsimp only; rw [if_neg (by omega)]; rw [rc]; dsimp only; rw [rw]; dsimp only; rw [if_neg (by omega), if_neg (by omega)]) hC0 (w1.stU yt ⟨?_, fun q hq => ?_, fun q hq => ?_, fun q hq => ?_⟩ (fun c h1 h2 => by rw [gsr_n _ _ (by omega), gsr_n _ _ (by omega)])) (fun c hc => by rw [gsr_n _ _ (by omega), gsr_n _ _ (by omega), w2 c (by omega)])
                · rw [gsr_n _ _ (by omega), gsr_n _ _ (by omega)]; exact w3.1
                · rw [gsr_s, gsr_s]
                  show _ = nI (if q = 3 * j + s then S.U.h q + n else if q = 3 * i + s then S.U.h q - n else S.U.h q)
                  by_cases e1 : q = 3 * j + s
                  · subst e1; rw [if_pos rfl, show 3 * j + s = j * 3 + s by omega, pk_us]
                  · rw [if_neg e1, pk_un (by omega)]
                    by_cases e2 : q = 3 * i + s
                    · subst e2; rw [if_pos rfl, show 3 * i + s = i * 3 + s by omega, pk_us]
                    · rw [if_neg e2, pk_un (by omega)]; exact w3.2.1 q hq
                · rw [gsr_n _ _ (by omega), gsr_n _ _ (by omega)]; exact w3.2.2.1 q hq
                · rw [gsr_n _ _ (by omega), gsr_n _ _ (by omega)]; exact w3.2.2.2 q hq
              · refine s_bipush (q := 93) (v := (-3)) hX dX6_lend_91 rfl rfl (by decide) ?_
                refine s_iret hX dX6_lend_93 (Or.inl rfl) ⟨Nat.le_refl _, Nat.le_refl _, Nat.le_refl _, ?_⟩
                exact hcon.ret (by unfold gA.lend; rw [ra]; dsimp only; rw [rj]; dsimp only; rw [if_neg (by omega)]; rw [rc]; dsimp only; rw [rw]; dsimp only; rw [if_neg (by omega), if_pos (by omega)]) hC0 hS0 (fun _ _ => rfl)
            · refine s_bipush (q := 72) (v := (-2)) hX dX6_lend_70 rfl rfl (by decide) ?_
              refine s_iret hX dX6_lend_72 (Or.inl rfl) ⟨Nat.le_refl _, Nat.le_refl _, Nat.le_refl _, ?_⟩
              exact hcon.ret (by unfold gA.lend; rw [ra]; dsimp only; rw [rj]; dsimp only; rw [if_neg (by omega)]; rw [rc]; dsimp only; rw [rw]; dsimp only; rw [if_pos (by omega)]) hC0 hS0 (fun _ _ => rfl)
set_option maxHeartbeats 4000000 in
set_option maxRecDepth 100000 in
theorem k_sell {d t b : Nat} {x z w : Int32} {S : gA} {sh : List gS} {M : gM} {Q : Option Value → List gS → gM → Prop} (hd : 3 ≤ d) (hC : isCls sh t) (hS : CLS M t S) (hk : S.ok b) (hb : b ≤ 20000) (hcon : kC sh M (S.sell x z w) Q) : gC mX6_sell d 0 0 [.ref 0, .int x, .int z, .int w] sh M Q := by
  have hC0 := hC
  have hS0 := hS
  have hk0 := hk
  obtain ⟨y0, yt, yp, yw, ys, yr, yd, yk, yc, yn, yu⟩ := hC
  have twn := hC0.tw
  have tdf := hC0.df
  have yp2 := yp
  have ys2 := ys
  have yr2 := yr
  have yd2 := yd
  have yk2 := yk
  have yc2 := yc
  have yn2 := yn
  have twn2 := twn
  have tdf2 := tdf
  obtain ⟨p0, p1, p2⟩ := yp2
  obtain ⟨z0, z1, z2, z3, z4, z5, z6⟩ := twn2
  obtain ⟨zz0, zz1, zz2, zz3, zz4, zz5, zz6⟩ := tdf2
  obtain ⟨s0, s1, s2, s3⟩ := ys2
  obtain ⟨r0, r1, r2, r3⟩ := yr2
  obtain ⟨d0, d1, d2⟩ := yd2
  obtain ⟨k0, k1, k2⟩ := yk2
  obtain ⟨q0, q1, q2, q3, q4⟩ := yc2
  obtain ⟨v0, v1, v2, v3, v4, v5, v6⟩ := yn2
  obtain ⟨a1, a2, a3, ⟨n1, a4⟩, ⟨n2, a5⟩, a6⟩ := hS
  obtain ⟨g1, g2, g3, g4, g5, g6, g7⟩ := hk
  have g0 := g1
  obtain ⟨o1, o2, o3, o4, o5, o6, o7, o8⟩ := g0
  have hap : apart t 18 := by unfold apart; omega
  have hap2 : apart t 22 := by unfold apart; omega
  refine gC_of (rt := 1) (ini := false) gm_X6_sell rfl (by decide) (Nat.le_of_ble_eq_true rfl) (fun X hX => ?_)
  refine s_aload_n (q := 1) hX dX6_sell_0 rfl rfl ?_
  refine s_iload_n (q := 2) hX dX6_sell_1 rfl rfl ?_
  refine s_invv1_1 (q := 5) hX dX6_sell_2 rfl glk_6_104 (by assumption) (Nat.le_of_ble_eq_true rfl) ⟨Nat.le_refl _, Nat.le_refl _⟩ (by omega) (c_isPerson (d := 1) (x := x) (Nat.le_refl _) hC0 hS0 g1 (fun ra => ?_) (fun i ra hi ei => ?_)) 
  · refine ⟨_, rfl, ?_⟩
    refine s_if_eq_t (q := 8) (r := 25) hX dX6_sell_5 rfl rfl (by decide) ?_
    refine s_iconst (q := 26) (v := (-1)) hX dX6_sell_25 rfl rfl ?_
    refine s_iret hX dX6_sell_26 (Or.inl rfl) ⟨Nat.le_refl _, Nat.le_refl _, Nat.le_refl _, ?_⟩
    exact hcon.ret (by first | (unfold gA.sell; rw [ra]; dsimp only; rw [rc]; dsimp only; rw [rw]) | (unfold gA.sell; rw [ra]; dsimp only; rw [rc]) | (unfold gA.sell; rw [ra])) hC0 hS0 (fun _ _ => rfl)
  · subst ei
    refine ⟨_, rfl, ?_⟩
    refine s_if_eq_f (q := 8) (r := 25) hX dX6_sell_5 rfl rfl (by decide) ?_
    refine s_iload_n (q := 9) hX dX6_sell_8 rfl rfl ?_
    refine s_invs1_1 (q := 12) hX dX6_sell_9 rfl glk_6_154 (by decide) (Nat.le_of_ble_eq_true rfl) ⟨Nat.le_refl _, Nat.le_refl _⟩ (by omega) (c_isSort (d := 1) (x := z) (Nat.le_refl _) (fun rc => ?_) (fun s rc hs es => ?_)) 
    · refine ⟨_, rfl, ?_⟩
      refine s_if_eq_t (q := 15) (r := 25) hX dX6_sell_12 rfl rfl (by decide) ?_
      refine s_iconst (q := 26) (v := (-1)) hX dX6_sell_25 rfl rfl ?_
      refine s_iret hX dX6_sell_26 (Or.inl rfl) ⟨Nat.le_refl _, Nat.le_refl _, Nat.le_refl _, ?_⟩
      exact hcon.ret (by first | (unfold gA.sell; rw [ra]; dsimp only; rw [rc]; dsimp only; rw [rw]) | (unfold gA.sell; rw [ra]; dsimp only; rw [rc]) | (unfold gA.sell; rw [ra])) hC0 hS0 (fun _ _ => rfl)
    · subst es
      refine ⟨_, rfl, ?_⟩
      refine s_if_eq_f (q := 15) (r := 25) hX dX6_sell_12 rfl rfl (by decide) ?_
      refine s_iload_n (q := 16) hX dX6_sell_15 rfl rfl ?_
      refine s_iconst (q := 17) (v := 1) hX dX6_sell_16 rfl rfl ?_
      refine s_bipush (q := 19) (v := 99) hX dX6_sell_17 rfl rfl (by decide) ?_
      refine s_invs3_1 (q := 22) hX dX6_sell_19 rfl glk_6_93 (by decide) (Nat.le_of_ble_eq_true rfl) ⟨Nat.le_refl _, Nat.le_refl _⟩ (by omega) (c_rng (d := 0) (x := w) (lo := 1) (n := 100) rfl rfl (by decide) (by decide) (fun rw => ?_) (fun n rw ln hn en => ?_)) 
      · refine ⟨_, rfl, ?_⟩
        refine s_if_ne_f (q := 25) (r := 27) hX dX6_sell_22 rfl rfl (by decide) ?_
        refine s_iconst (q := 26) (v := (-1)) hX dX6_sell_25 rfl rfl ?_
        refine s_iret hX dX6_sell_26 (Or.inl rfl) ⟨Nat.le_refl _, Nat.le_refl _, Nat.le_refl _, ?_⟩
        exact hcon.ret (by first | (unfold gA.sell; rw [ra]; dsimp only; rw [rc]; dsimp only; rw [rw]) | (unfold gA.sell; rw [ra]; dsimp only; rw [rc]) | (unfold gA.sell; rw [ra])) hC0 hS0 (fun _ _ => rfl)
      · subst en
        refine ⟨_, rfl, ?_⟩
        refine s_if_ne_t (q := 25) (r := 27) hX dX6_sell_22 rfl rfl (by decide) ?_
        have hU1 := g3.1.1 (3 * i + s) (by omega)
        refine s_iload_n (q := 28) hX dX6_sell_27 rfl rfl ?_
        refine s_iconst (q := 29) (v := 3) hX dX6_sell_28 rfl rfl ?_
        refine s_imul (q := 30) (v := nI (i * 3)) hX dX6_sell_29 rfl (pk_mul (i) (3)) ?_
        refine s_iload_n (q := 31) hX dX6_sell_30 rfl rfl ?_
        refine s_iadd (q := 32) (v := nI (i * 3 + s)) hX dX6_sell_31 rfl (nI_add (i * 3) (s)) ?_
        refine s_istore (q := 34) (lv' := [(0, _), (1, _), (2, _), (3, _), (4, _)]) hX dX6_sell_32 rfl (Nat.le_of_ble_eq_true rfl) rfl ?_
        refine s_aload_n (q := 35) hX dX6_sell_34 rfl rfl ?_
        refine s_getr (q := 38) hX dX6_sell_35 rfl gfl_6_29 (by assumption) rfl ?_
        refine s_getr (q := 41) hX dX6_sell_38 rfl gfl_6_120 (by assumption) rfl ?_
        refine s_iload (q := 43) hX dX6_sell_41 rfl rfl ?_
        refine s_iald (k := i * 3 + s) (q := 44) hX dX6_sell_43 rfl (by assumption) rfl (by omega) (by omega) ?_
        refine s_topi (v := nI (S.U.h (3 * i + s))) (by rw [show i * 3 + s = 3 * i + s by omega]; exact a3.2.1 _ (by omega)) ?_
        refine s_iload_n (q := 45) hX dX6_sell_44 rfl rfl ?_
        refine s_nicmp_ge (a := S.U.h (3 * i + s)) (b := n) (q := 48) (r := 51) hX dX6_sell_45 rfl rfl rfl rfl (by omega) (by omega) (fun c45 => ?_) (fun c45 => ?_)
        · refine s_aload_n (q := 52) hX dX6_sell_51 rfl rfl ?_
          refine s_getr (q := 55) hX dX6_sell_52 rfl gfl_6_41 (by assumption) rfl ?_
          refine s_aload_n (q := 56) hX dX6_sell_55 rfl rfl ?_
          refine s_getr (q := 59) hX dX6_sell_56 rfl gfl_6_29 (by assumption) rfl ?_
          refine s_invv1_0 (q := 62) hX dX6_sell_59 rfl glk_6_139 (by assumption) (Nat.le_of_ble_eq_true rfl) ⟨Nat.le_refl _, Nat.le_refl _⟩ (by omega) (c_know (d := 2) (Nat.le_refl _) hC0 hS0 hk0 hb (fun M1 w1 w2 => ?_)) 
          have w3 : STR M1 18 S.T.P S.U := w1.2.2.1
          refine ⟨rfl, ?_⟩
          refine s_aload_n (q := 63) hX dX6_sell_62 rfl rfl ?_
          refine s_getr (q := 66) hX dX6_sell_63 rfl gfl_6_29 (by assumption) rfl ?_
          refine s_getr (q := 69) hX dX6_sell_66 rfl gfl_6_120 (by assumption) rfl ?_
          refine s_iload (q := 71) hX dX6_sell_69 rfl rfl ?_
          refine s_dup2 (q := 72) hX dX6_sell_71 rfl rfl rfl ?_
          refine s_iald (k := i * 3 + s) (q := 73) hX dX6_sell_72 rfl (by assumption) rfl (by omega) (by omega) ?_
          refine s_topi (v := nI (S.U.h (3 * i + s))) (by rw [show i * 3 + s = 3 * i + s by omega]; exact w3.2.1 _ (by omega)) ?_
          refine s_iload_n (q := 74) hX dX6_sell_73 rfl rfl ?_
          refine s_isub (q := 75) (v := nI (S.U.h (3 * i + s) - n)) hX dX6_sell_74 rfl (pk_sub (by omega)) ?_
          refine s_iast (k := i * 3 + s) (q := 76) hX dX6_sell_75 rfl (by assumption) rfl (by omega) (by omega) ?_
          refine s_aload_n (q := 77) hX dX6_sell_76 rfl rfl ?_
          refine s_getr (q := 80) hX dX6_sell_77 rfl gfl_6_29 (by assumption) rfl ?_
          refine s_getr (q := 83) hX dX6_sell_80 rfl gfl_6_114 (by assumption) rfl ?_
          refine s_iload_n (q := 84) hX dX6_sell_83 rfl rfl ?_
          refine s_dup2 (q := 85) hX dX6_sell_84 rfl rfl rfl ?_
          refine s_iald (k := i) (q := 86) hX dX6_sell_85 rfl (by assumption) rfl (by omega) (by omega) ?_
          refine s_iload_n (q := 87) hX dX6_sell_86 rfl rfl ?_
          refine s_aload_n (q := 88) hX dX6_sell_87 rfl rfl ?_
          refine s_getr (q := 91) hX dX6_sell_88 rfl gfl_6_19 (by assumption) rfl ?_
          refine s_geti (q := 94) hX dX6_sell_91 rfl gfl_6_157 (by assumption) rfl ?_
          refine s_topi (v := nI (S.T.pr)) (by rw [gsr_n _ _ (by omega)]; exact w1.2.1.2.2.1) ?_
          refine s_imul (q := 95) (v := nI (n * (S.T.pr))) hX dX6_sell_94 rfl (pk_mul (n) (S.T.pr)) ?_
          refine s_iadd (q := 96) hX dX6_sell_95 rfl rfl ?_
          refine s_iast (k := i) (q := 97) hX dX6_sell_96 rfl (by assumption) rfl (by omega) (by omega) ?_
          refine s_aload_n (q := 98) hX dX6_sell_97 rfl rfl ?_
          refine s_getr (q := 101) hX dX6_sell_98 rfl gfl_6_29 (by assumption) rfl ?_
          refine s_getr (q := 104) hX dX6_sell_101 rfl gfl_6_114 (by assumption) rfl ?_
          refine s_iload_n (q := 105) hX dX6_sell_104 rfl rfl ?_
          refine s_iald (k := i) (q := 106) hX dX6_sell_105 rfl (by assumption) rfl (by omega) (by omega) ?_
          refine s_iret hX dX6_sell_106 (Or.inl rfl) ⟨Nat.le_refl _, Nat.le_refl _, Nat.le_refl _, ?_⟩
          have hci : M1 (18 + 2) i = S.U.c i := w3.2.2.1 i hi
          refine hcon.ret (by unfold gA.sell; rw [ra]; dsimp only; rw [rc]; dsimp only; rw [rw]; dsimp only; rw [if_neg (by omega), gsr_s, pk_us, gsr_n _ _ (by omega), hci]) hC0 (w1.stU yt ⟨?_, fun q hq => ?_, fun q hq => ?_, fun q hq => ?_⟩ (fun c h1 h2 => by rw [gsr_n _ _ (by omega), gsr_n _ _ (by omega)])) (fun c hc => by rw [gsr_n _ _ (by omega), gsr_n _ _ (by omega), w2 c (by omega)])
          · rw [gsr_n _ _ (by omega), gsr_n _ _ (by omega)]; exact w3.1
          · rw [gsr_n _ _ (by omega), gsr_s]
            show _ = nI (if q = 3 * i + s then S.U.h q - n else S.U.h q)
            by_cases e2 : q = 3 * i + s
            · subst e2; rw [if_pos rfl, show 3 * i + s = i * 3 + s by omega, pk_us]
            · rw [if_neg e2, pk_un (by omega)]; exact w3.2.1 q hq
          · rw [gsr_s, gsr_n _ _ (by omega)]
            show _ = (if q = i then S.U.c i + nI (n * S.T.pr) else S.U.c q)
            by_cases e2 : q = i
            · subst e2; rw [if_pos rfl, pk_us, hci]
            · rw [if_neg e2, pk_un e2]; exact w3.2.2.1 q hq
          · rw [gsr_n _ _ (by omega), gsr_n _ _ (by omega)]; exact w3.2.2.2 q hq
        · refine s_bipush (q := 50) (v := (-2)) hX dX6_sell_48 rfl rfl (by decide) ?_
          refine s_iret hX dX6_sell_50 (Or.inl rfl) ⟨Nat.le_refl _, Nat.le_refl _, Nat.le_refl _, ?_⟩
          exact hcon.ret (by unfold gA.sell; rw [ra]; dsimp only; rw [rc]; dsimp only; rw [rw]; dsimp only; rw [if_pos (by omega)]) hC0 hS0 (fun _ _ => rfl)
set_option maxHeartbeats 4000000 in
set_option maxRecDepth 100000 in
theorem k_undo {d t b : Nat}  {S : gA} {sh : List gS} {M : gM} {Q : Option Value → List gS → gM → Prop} (hd : 3 ≤ d) (hC : isCls sh t) (hS : CLS M t S) (hk : S.ok b) (hb : b ≤ 20000) (hcon : kC sh M (S.undo) Q) : gC mX6_undo d 0 0 [.ref 0] sh M Q := by
  have hC0 := hC
  have hS0 := hS
  have hk0 := hk
  obtain ⟨y0, yt, yp, yw, ys, yr, yd, yk, yc, yn, yu⟩ := hC
  have twn := hC0.tw
  have tdf := hC0.df
  have yp2 := yp
  have ys2 := ys
  have yr2 := yr
  have yd2 := yd
  have yk2 := yk
  have yc2 := yc
  have yn2 := yn
  have twn2 := twn
  have tdf2 := tdf
  obtain ⟨p0, p1, p2⟩ := yp2
  obtain ⟨z0, z1, z2, z3, z4, z5, z6⟩ := twn2
  obtain ⟨zz0, zz1, zz2, zz3, zz4, zz5, zz6⟩ := tdf2
  obtain ⟨s0, s1, s2, s3⟩ := ys2
  obtain ⟨r0, r1, r2, r3⟩ := yr2
  obtain ⟨d0, d1, d2⟩ := yd2
  obtain ⟨k0, k1, k2⟩ := yk2
  obtain ⟨q0, q1, q2, q3, q4⟩ := yc2
  obtain ⟨v0, v1, v2, v3, v4, v5, v6⟩ := yn2
  obtain ⟨a1, a2, a3, ⟨n1, a4⟩, ⟨n2, a5⟩, a6⟩ := hS
  obtain ⟨g1, g2, g3, g4, g5, g6, g7⟩ := hk
  have g0 := g1
  obtain ⟨o1, o2, o3, o4, o5, o6, o7, o8⟩ := g0
  have hap : apart t 18 := by unfold apart; omega
  have hap2 : apart t 22 := by unfold apart; omega
  refine gC_of (rt := 1) (ini := false) gm_X6_undo rfl (by decide) (Nat.le_of_ble_eq_true rfl) (fun X hX => ?_)
  refine s_aload_n (q := 1) hX dX6_undo_0 rfl rfl ?_
  refine s_getr (q := 4) hX dX6_undo_1 rfl gfl_6_41 (by assumption) rfl ?_
  refine s_aload_n (q := 5) hX dX6_undo_4 rfl rfl ?_
  refine s_getr (q := 8) hX dX6_undo_5 rfl gfl_6_29 (by assumption) rfl ?_
  refine s_invv1_1 (q := 11) hX dX6_undo_8 rfl glk_6_164 (by assumption) (Nat.le_of_ble_eq_true rfl) ⟨Nat.le_refl _, Nat.le_refl _⟩ (by omega) (c_takeLast (d := 2) (n := 8) (U := S.U) (Nat.le_refl _) (by omega) (by omega) o1 yd a4 ys (by omega) (fun hz => ?_) (fun hz M1 w1 w2 w3 => ?_)) 
  · refine ⟨_, rfl, ?_⟩
    refine s_if_eq_t (q := 14) (r := 24) hX dX6_undo_11 rfl rfl (by decide) ?_
    refine s_bipush (q := 26) (v := (-2)) hX dX6_undo_24 rfl rfl (by decide) ?_
    refine s_iret hX dX6_undo_26 (Or.inl rfl) ⟨Nat.le_refl _, Nat.le_refl _, Nat.le_refl _, ?_⟩
    exact hcon.ret (by unfold gA.undo; exact if_pos hz) hC0 hS0 (fun _ _ => rfl)
  · refine ⟨_, rfl, ?_⟩
    refine s_if_eq_f (q := 14) (r := 24) hX dX6_undo_11 rfl rfl (by decide) ?_
    refine s_aload_n (q := 15) hX dX6_undo_14 rfl rfl ?_
    refine s_getr (q := 18) hX dX6_undo_15 rfl gfl_6_41 (by assumption) rfl ?_
    refine s_geti (q := 21) hX dX6_undo_18 rfl gfl_6_100 (by assumption) rfl ?_
    refine s_topi (v := nI (S.un.1 - 1)) w1.2.1 ?_
    refine s_goto (q := 26) hX dX6_undo_21 rfl ?_
    refine s_iret hX dX6_undo_26 (Or.inl rfl) ⟨Nat.le_refl _, Nat.le_refl _, Nat.le_refl _, ?_⟩
    exact hcon.ret (S' := (S.T, S.un.2 0, (S.un.1 - 1, fun k => S.un.2 (k + 1)), S.kp, S.N, S.tx)) (by unfold gA.undo; exact if_neg (by omega)) hC0 ⟨a1.keep9 (w3 1 (by omega) (by omega)) (w3 2 (by omega) (by omega)), a2.keep (fun c a b => w3 c (by omega) (by omega)), w2, ⟨_, w1⟩, ⟨n2, a5.keep (by omega) (fun c a b => w3 c (by omega) (by omega))⟩, a6.keep (by rw [w3 75 (by omega) (by omega)]) (w3 76 (by omega) (by omega)) (w3 77 (by omega) (by omega)) (w3 78 (by omega) (by omega))⟩ (fun c hc => w3 c (by omega) (by omega))
