theorem gT.rn_cg {T : gT} {i s : Nat} {h g : Nat → Nat} (e : T.kd i = 1 → h s = g s) : T.rn i h s = T.rn i g s := by
  unfold gT.rn
  by_cases k : T.kd i = 1
  · rw [if_pos k, if_pos k, e k]
  · rw [if_neg k, if_neg k]
theorem gT.svd_cg {T : gT} {i s n : Nat} : ∀ (m : Nat) {h g : Nat → Nat}, h s = g s → T.svd i s n m h = T.svd i s n m g
  | 0, h, g, e => rfl
  | m + 1, h, g, e => by
    show (if n ≤ h s then some (50 - m) else T.svd i s n m (T.rn i h)) = (if n ≤ g s then some (50 - m) else T.svd i s n m (T.rn i g))
    rw [e, T.svd_cg m (T.rn_cg (fun _ => e))]
set_option maxHeartbeats 4000000 in
set_option maxRecDepth 100000 in
theorem p_saved {d b : Nat} {x z w : Int32} {S : gA} {sh : List gS} {M : gM} {Q : Option Value → List gS → gM → Prop} (hd : 2 ≤ d) (hC : isMod sh) (hS : MOD M S) (hk : S.ok b) (hb : b ≤ 20000) (hcon : kM sh M (S.saved x z w) Q) : gC mX7_saved d 0 0 [.ref 83, .int x, .int z, .int w] sh M Q := by
  have hC0 := hC
  obtain ⟨y0, y1, y2, y3, y4, y5, y6, y7, y8, y9, y10, y11, y12, y13, y14, y15⟩ := hC
  have hS0 := hS
  have hk0 := hk
  obtain ⟨⟨a1, a1x⟩, a2, a3, ⟨a4, a4x⟩, ⟨a5, a5x⟩, a6⟩ := hS
  obtain ⟨g1, g2, g3, g4, g5, g6, g7⟩ := hk
  have g0 := g1
  obtain ⟨o1, o2, o3, o4, o5, o6, o7, o8⟩ := g0
  refine gC_of (rt := 1) (ini := false) gm_X7_saved rfl (by decide) (Nat.le_of_ble_eq_true rfl) (fun X hX => ?_)
  refine s_aload_n (q := 1) hX dX7_saved_0 rfl rfl ?_
  refine s_iload_n (q := 2) hX dX7_saved_1 rfl rfl ?_
  refine s_invv1_1 (q := 5) hX dX7_saved_2 rfl glk_7_104 (by assumption) (Nat.le_of_ble_eq_true rfl) ⟨Nat.le_refl _, Nat.le_refl _⟩ (by omega) (m_isPerson (d := 1) (x := x) (Nat.le_refl _) hC0 a2 g1 (fun ra => ?_) (fun i ra hi ei => ?_)) 
  · refine ⟨_, rfl, ?_⟩
    refine s_if_eq_t (q := 8) (r := 25) hX dX7_saved_5 rfl rfl (by decide) ?_
    refine s_iconst (q := 26) (v := (-1)) hX dX7_saved_25 rfl rfl ?_
    refine s_iret hX dX7_saved_26 (Or.inl rfl) ⟨Nat.le_refl _, Nat.le_refl _, Nat.le_refl _, ?_⟩
    exact hcon.ret (by first | (unfold gA.saved; rw [ra]; dsimp only; rw [rc]; dsimp only; rw [rw]) | (unfold gA.saved; rw [ra]; dsimp only; rw [rc]) | (unfold gA.saved; rw [ra])) hS0 (fun _ _ => rfl)
  · subst ei
    refine ⟨_, rfl, ?_⟩
    refine s_if_eq_f (q := 8) (r := 25) hX dX7_saved_5 rfl rfl (by decide) ?_
    refine s_iload_n (q := 9) hX dX7_saved_8 rfl rfl ?_
    refine s_invs1_1 (q := 12) hX dX7_saved_9 rfl glk_7_147 (by decide) (Nat.le_of_ble_eq_true rfl) ⟨Nat.le_refl _, Nat.le_refl _⟩ (by omega) (m_isSort (d := 1) (x := z) (Nat.le_refl _) (fun rc => ?_) (fun s rc hs es => ?_)) 
    · refine ⟨_, rfl, ?_⟩
      refine s_if_eq_t (q := 15) (r := 25) hX dX7_saved_12 rfl rfl (by decide) ?_
      refine s_iconst (q := 26) (v := (-1)) hX dX7_saved_25 rfl rfl ?_
      refine s_iret hX dX7_saved_26 (Or.inl rfl) ⟨Nat.le_refl _, Nat.le_refl _, Nat.le_refl _, ?_⟩
      exact hcon.ret (by first | (unfold gA.saved; rw [ra]; dsimp only; rw [rc]; dsimp only; rw [rw]) | (unfold gA.saved; rw [ra]; dsimp only; rw [rc]) | (unfold gA.saved; rw [ra])) hS0 (fun _ _ => rfl)
    · subst es
      refine ⟨_, rfl, ?_⟩
      refine s_if_eq_f (q := 15) (r := 25) hX dX7_saved_12 rfl rfl (by decide) ?_
      refine s_iload_n (q := 16) hX dX7_saved_15 rfl rfl ?_
      refine s_iconst (q := 17) (v := 0) hX dX7_saved_16 rfl rfl ?_
      refine s_bipush (q := 19) (v := 99) hX dX7_saved_17 rfl rfl (by decide) ?_
      refine s_invs3_1 (q := 22) hX dX7_saved_19 rfl glk_7_66 (by decide) (Nat.le_of_ble_eq_true rfl) ⟨Nat.le_refl _, Nat.le_refl _⟩ (by omega) (m_rng (d := 0) (x := w) (lo := 0) (n := 100) rfl rfl (by decide) (by decide) (fun rw => ?_) (fun n rw ln hn en => ?_)) 
      · refine ⟨_, rfl, ?_⟩
        refine s_if_ne_f (q := 25) (r := 27) hX dX7_saved_22 rfl rfl (by decide) ?_
        refine s_iconst (q := 26) (v := (-1)) hX dX7_saved_25 rfl rfl ?_
        refine s_iret hX dX7_saved_26 (Or.inl rfl) ⟨Nat.le_refl _, Nat.le_refl _, Nat.le_refl _, ?_⟩
        exact hcon.ret (by first | (unfold gA.saved; rw [ra]; dsimp only; rw [rc]; dsimp only; rw [rw]) | (unfold gA.saved; rw [ra]; dsimp only; rw [rc]) | (unfold gA.saved; rw [ra])) hS0 (fun _ _ => rfl)
      · subst en
        refine ⟨_, rfl, ?_⟩
        refine s_if_ne_t (q := 25) (r := 27) hX dX7_saved_22 rfl rfl (by decide) ?_
        refine s_aload_n (q := 28) hX dX7_saved_27 rfl rfl ?_
        refine s_iconst (q := 29) (v := 0) hX dX7_saved_28 rfl rfl ?_
        refine s_sipush (q := 32) (v := 341) hX dX7_saved_29 rfl rfl (by decide) ?_
        refine s_invv2_0 (q := 35) hX dX7_saved_32 rfl glk_7_131 (by assumption) (Nat.le_of_ble_eq_true rfl) ⟨Nat.le_refl _, Nat.le_refl _⟩ (by omega) (m_copy (d := 0) (f := 0) (t := 341) hC0 (by omega) (by omega) (by omega) (fun M1 f1 f2 f3 => ?_)) 
        refine ⟨rfl, ?_⟩
        refine s_iconst (q := 36) (v := 0) hX dX7_saved_35 rfl rfl ?_
        refine s_istore (q := 38) (lv' := [(0, _), (1, _), (2, _), (3, _), (4, _)]) hX dX7_saved_36 rfl (Nat.le_of_ble_eq_true rfl) rfl ?_
        have L : ∀ (m k : Nat) (V : gU) (M' : gM), k + m = 51 → S.T.svd i s n m (V.tr i) = S.T.svd i s n 51 (S.U.tr i) → V.ok S.T.P → V.d + 7 * m ≤ 100000 → TRM M M' S V → X 38 [(0, .ref 83), (1, .int (nI i)), (2, .int (nI s)), (3, .int (nI n)), (4, .int (nI k))] [] sh M' 0 0 := by
          intro m
          induction m with
          | zero =>
            intro k V M' h1 h2 h3 h4 h5
            have e : k = 51 := by omega
            subst e
            refine s_iload (q := 40) hX dX7_saved_38 rfl rfl ?_
            refine s_bipush (q := 42) (v := 50) hX dX7_saved_40 rfl rfl (by decide) ?_
            refine s_icmp_gt_t (q := 45) (r := 118) hX dX7_saved_42 rfl rfl (by decide) ?_
            refine s_bipush (q := 120) (v := (-4)) hX dX7_saved_118 rfl rfl (by decide) ?_
            refine s_iret hX dX7_saved_120 (Or.inl rfl) ⟨Nat.le_refl _, Nat.le_refl _, Nat.le_refl _, ?_⟩
            exact hcon.ret (by unfold gA.saved; rw [ra]; dsimp only; rw [rc]; dsimp only; rw [rw]; dsimp only; rw [← h2, show S.T.svd i s n 0 (V.tr i) = none from rfl]) h5.1 h5.2.2
          | succ m ih =>
            intro k V M' h1 h2 h3 h4 h5
            have hsv : S.T.svd i s n (m + 1) (V.tr i) = if n ≤ V.tr i s then some (50 - m) else S.T.svd i s n m (S.T.rn i (V.tr i)) := rfl
            have hVs : M' 93 (342 + 3 * i + s) = nI (V.tr i s) := by rw [show 342 + 3 * i + s = 341 + 1 + (3 * i + s) by omega]; exact h5.2.1.2.1 _ (by omega)
            have h99 : V.tr i s ≤ 99 := h3.1 (3 * i + s) (by omega)
            have I : ¬ n ≤ V.tr i s → ∀ (q : Nat) (R : gU) (M1 : gM), (R.d % 7 + q + 1 = 7) → R.ok S.T.P → R.d + q + 7 * m + 1 ≤ 100000 → S.T.rn i (R.tr i) s = S.T.rn i (V.tr i) s → TRM M M1 S R → X 69 [(0, .ref 83), (1, .int (nI i)), (2, .int (nI s)), (3, .int (nI n)), (4, .int (nI k)), (5, .int 1)] [] sh M1 0 0 := by
              intro hn q
              induction q with
              | zero =>
                intro R M1 q1 q2 q3 q4 q5
                have hd6 : R.d % 7 = 6 := by omega
                have b1 := S.T.sea_ok q2
                have hd7 : (S.T.over (S.T.sea R)).d = R.d + 1 := rfl
                have b2 : (S.T.over (S.T.sea R)).ok S.T.P := ⟨S.T.over_h b1, by rw [hd7]; omega⟩
                refine s_iload (q := 71) hX dX7_saved_69 rfl rfl ?_
                refine s_if_eq_f (q := 74) (r := 112) hX dX7_saved_71 rfl rfl (by decide) ?_
                refine s_aload_n (q := 75) hX dX7_saved_74 rfl rfl ?_
                refine s_sipush (q := 78) (v := 341) hX dX7_saved_75 rfl rfl (by decide) ?_
                refine s_invv1_0 (q := 81) hX dX7_saved_78 rfl glk_7_141 (by assumption) (Nat.le_of_ble_eq_true rfl) ⟨Nat.le_refl _, Nat.le_refl _⟩ (by omega) (m_seaAll (d := 1) (a := 341) (T := S.T) (U := R) (Nat.le_refl _) hC0 q5.1.2.1 g1 q5.2.1 q2 (by omega) (fun M2 f2 u2 => ?_)) 
                refine ⟨rfl, ?_⟩
                refine s_aload_n (q := 82) hX dX7_saved_81 rfl rfl ?_
                refine s_sipush (q := 85) (v := 341) hX dX7_saved_82 rfl rfl (by decide) ?_
                refine s_invv1_0 (q := 88) hX dX7_saved_85 rfl glk_7_144 (by assumption) (Nat.le_of_ble_eq_true rfl) ⟨Nat.le_refl _, Nat.le_refl _⟩ (by omega) (m_over (d := 0) (a := 341) (T := S.T) (U := S.T.sea R) hC0 (f2.tw q5.1.2.1) g1 u2 b1 (by omega) (fun M3 f3 u3 => ?_)) 
                refine ⟨rfl, ?_⟩
                refine s_aload_n (q := 89) hX dX7_saved_88 rfl rfl ?_
                refine s_getr (q := 92) hX dX7_saved_89 rfl gfl_7_38 (by assumption) rfl ?_
                refine s_sipush (q := 95) (v := 341) hX dX7_saved_92 rfl rfl (by decide) ?_
                refine s_iald (k := 341) (q := 96) hX dX7_saved_95 rfl (by assumption) rfl (by omega) (by omega) ?_
                refine s_topi (v := nI (R.d + 1)) u3.1 ?_
                refine s_bipush (q := 98) (v := 7) hX dX7_saved_96 rfl rfl (by decide) ?_
                refine s_irem (q := 99) (v := nI ((R.d + 1) % 7)) hX dX7_saved_98 rfl (pk_rem (a := R.d + 1) (d := 7) (by omega) (by decide) (by decide)) (by decide) ?_
                refine s_if_eq_t (q := 102) (r := 106) hX dX7_saved_99 rfl rfl (by rw [show (R.d + 1) % 7 = 0 by omega]; rfl) ?_
                refine s_iconst (q := 107) (v := 0) hX dX7_saved_106 rfl rfl ?_
                refine s_istore (q := 109) (lv' := [(0, _), (1, _), (2, _), (3, _), (4, _), (5, _)]) hX dX7_saved_107 rfl (Nat.le_of_ble_eq_true rfl) rfl ?_
                refine s_goto (q := 69) hX dX7_saved_109 rfl ?_
                refine s_iload (q := 71) hX dX7_saved_69 rfl rfl ?_
                refine s_if_eq_t (q := 74) (r := 112) hX dX7_saved_71 rfl rfl (by decide) ?_
                refine s_iinc (q := 115) (v := nI (k + 1)) (lv' := [(0, _), (1, _), (2, _), (3, _), (4, _), (5, _)]) hX dX7_saved_112 rfl rfl (nI_add (k) 1) (Nat.le_of_ble_eq_true rfl) rfl ?_
                refine s_goto (q := 38) hX dX7_saved_115 rfl ?_
                refine s_dl hX (ih (k + 1) (S.T.over (S.T.sea R)) M3 (by omega) ?_ b2 (by rw [hd7]; omega) (q5.st o1 g4.1 g5.1 (f2.tr f3) u3))
                rw [← h2, hsv, if_neg hn]
                refine S.T.svd_cg m ?_
                show (if R.d % 7 = 6 then (fun j => S.T.rn (j / 3) ((S.T.sea R).tr (j / 3)) (j % 3)) else (S.T.sea R).h) (3 * i + s) = _
                rw [if_pos hd6, ← q4]
                show S.T.rn ((3 * i + s) / 3) ((S.T.sea R).tr ((3 * i + s) / 3)) ((3 * i + s) % 3) = _
                rw [show (3 * i + s) / 3 = i by omega, show (3 * i + s) % 3 = s by omega]
                refine S.T.rn_cg (fun h1 => ?_)
                show (if S.T.kd ((3 * i + s) / 3) = 2 ∧ (3 * i + s) % 3 = 2 then R.h (3 * i + s) - 1 else R.h (3 * i + s)) = R.h (3 * i + s)
                rw [show (3 * i + s) / 3 = i by omega, if_neg (by omega)]
              | succ q ihq =>
                intro R M1 q1 q2 q3 q4 q5
                have hd6 : ¬ R.d % 7 = 6 := by omega
                have b1 := S.T.sea_ok q2
                have hd7 : (S.T.over (S.T.sea R)).d = R.d + 1 := rfl
                have b2 : (S.T.over (S.T.sea R)).ok S.T.P := ⟨S.T.over_h b1, by rw [hd7]; omega⟩
                refine s_iload (q := 71) hX dX7_saved_69 rfl rfl ?_
                refine s_if_eq_f (q := 74) (r := 112) hX dX7_saved_71 rfl rfl (by decide) ?_
                refine s_aload_n (q := 75) hX dX7_saved_74 rfl rfl ?_
                refine s_sipush (q := 78) (v := 341) hX dX7_saved_75 rfl rfl (by decide) ?_
                refine s_invv1_0 (q := 81) hX dX7_saved_78 rfl glk_7_141 (by assumption) (Nat.le_of_ble_eq_true rfl) ⟨Nat.le_refl _, Nat.le_refl _⟩ (by omega) (m_seaAll (d := 1) (a := 341) (T := S.T) (U := R) (Nat.le_refl _) hC0 q5.1.2.1 g1 q5.2.1 q2 (by omega) (fun M2 f2 u2 => ?_)) 
                refine ⟨rfl, ?_⟩
                refine s_aload_n (q := 82) hX dX7_saved_81 rfl rfl ?_
                refine s_sipush (q := 85) (v := 341) hX dX7_saved_82 rfl rfl (by decide) ?_
                refine s_invv1_0 (q := 88) hX dX7_saved_85 rfl glk_7_144 (by assumption) (Nat.le_of_ble_eq_true rfl) ⟨Nat.le_refl _, Nat.le_refl _⟩ (by omega) (m_over (d := 0) (a := 341) (T := S.T) (U := S.T.sea R) hC0 (f2.tw q5.1.2.1) g1 u2 b1 (by omega) (fun M3 f3 u3 => ?_)) 
                refine ⟨rfl, ?_⟩
                refine s_aload_n (q := 89) hX dX7_saved_88 rfl rfl ?_
                refine s_getr (q := 92) hX dX7_saved_89 rfl gfl_7_38 (by assumption) rfl ?_
                refine s_sipush (q := 95) (v := 341) hX dX7_saved_92 rfl rfl (by decide) ?_
                refine s_iald (k := 341) (q := 96) hX dX7_saved_95 rfl (by assumption) rfl (by omega) (by omega) ?_
                refine s_topi (v := nI (R.d + 1)) u3.1 ?_
                refine s_bipush (q := 98) (v := 7) hX dX7_saved_96 rfl rfl (by decide) ?_
                refine s_irem (q := 99) (v := nI ((R.d + 1) % 7)) hX dX7_saved_98 rfl (pk_rem (a := R.d + 1) (d := 7) (by omega) (by decide) (by decide)) (by decide) ?_
                refine s_if_eq_f (q := 102) (r := 106) hX dX7_saved_99 rfl rfl (nI_ne0 (by omega) (by omega)) ?_
                refine s_iconst (q := 103) (v := 1) hX dX7_saved_102 rfl rfl ?_
                refine s_goto (q := 107) hX dX7_saved_103 rfl ?_
                refine s_istore (q := 109) (lv' := [(0, _), (1, _), (2, _), (3, _), (4, _), (5, _)]) hX dX7_saved_107 rfl (Nat.le_of_ble_eq_true rfl) rfl ?_
                refine s_goto (q := 69) hX dX7_saved_109 rfl ?_
                refine ihq (S.T.over (S.T.sea R)) M3 (by rw [hd7]; omega) b2 (by rw [hd7]; omega) ?_ (q5.st o1 g4.1 g5.1 (f2.tr f3) u3)
                rw [← q4]
                refine S.T.rn_cg (fun h1 => ?_)
                show (if R.d % 7 = 6 then (fun j => S.T.rn (j / 3) ((S.T.sea R).tr (j / 3)) (j % 3)) else (S.T.sea R).h) (3 * i + s) = R.h (3 * i + s)
                rw [if_neg hd6]
                show (if S.T.kd ((3 * i + s) / 3) = 2 ∧ (3 * i + s) % 3 = 2 then R.h (3 * i + s) - 1 else R.h (3 * i + s)) = R.h (3 * i + s)
                rw [show (3 * i + s) / 3 = i by omega, if_neg (by omega)]
            refine s_iload (q := 40) hX dX7_saved_38 rfl rfl ?_
            refine s_bipush (q := 42) (v := 50) hX dX7_saved_40 rfl rfl (by decide) ?_
            refine s_nicmp_gt (a := k) (b := 50) (q := 45) (r := 118) hX dX7_saved_42 rfl rfl rfl rfl (by omega) (by omega) (fun c42 => ?_) (fun c42 => ?_)
            · exact absurd c42 (by omega)
            · refine s_aload_n (q := 46) hX dX7_saved_45 rfl rfl ?_
              refine s_getr (q := 49) hX dX7_saved_46 rfl gfl_7_38 (by assumption) rfl ?_
              refine s_sipush (q := 52) (v := 342) hX dX7_saved_49 rfl rfl (by decide) ?_
              refine s_iconst (q := 53) (v := 3) hX dX7_saved_52 rfl rfl ?_
              refine s_iload_n (q := 54) hX dX7_saved_53 rfl rfl ?_
              refine s_imul (q := 55) (v := nI (3 * i)) hX dX7_saved_54 rfl (pk_mul (3) (i)) ?_
              refine s_iadd (q := 56) (v := nI (342 + (3 * i))) hX dX7_saved_55 rfl (nI_add (342) (3 * i)) ?_
              refine s_iload_n (q := 57) hX dX7_saved_56 rfl rfl ?_
              refine s_iadd (q := 58) (v := nI (342 + (3 * i) + s)) hX dX7_saved_57 rfl (nI_add (342 + (3 * i)) (s)) ?_
              refine s_iald (k := 342 + (3 * i) + s) (q := 59) hX dX7_saved_58 rfl (by assumption) rfl (by omega) (by omega) ?_
              refine s_topi (v := nI (V.tr i s)) hVs ?_
              refine s_iload_n (q := 60) hX dX7_saved_59 rfl rfl ?_
              refine s_nicmp_lt (a := V.tr i s) (b := n) (q := 63) (r := 66) hX dX7_saved_60 rfl rfl rfl rfl (by omega) (by omega) (fun c60 => ?_) (fun c60 => ?_)
              · refine s_iconst (q := 67) (v := 1) hX dX7_saved_66 rfl rfl ?_
                refine s_istore (q := 69) (lv' := [(0, _), (1, _), (2, _), (3, _), (4, _), (5, _)]) hX dX7_saved_67 rfl (Nat.le_of_ble_eq_true rfl) rfl ?_
                exact I (by omega) (6 - V.d % 7) V M' (by omega) h3 (by omega) rfl h5
              · refine s_iload (q := 65) hX dX7_saved_63 rfl rfl ?_
                refine s_iret hX dX7_saved_65 (Or.inl rfl) ⟨Nat.le_refl _, Nat.le_refl _, Nat.le_refl _, ?_⟩
                rw [hsv, if_pos (by omega)] at h2
                exact hcon.ret (by unfold gA.saved; rw [ra]; dsimp only; rw [rc]; dsimp only; rw [rw]; dsimp only; rw [← h2]; dsimp only; rw [show 50 - m = k by omega]) h5.1 h5.2.2
        exact L 51 0 S.U M1 (by omega) rfl g3.1 (by omega) (TRM.init hS0 o1 g4.1 g5.1 f1 f2 f3)
set_option maxHeartbeats 4000000 in
set_option maxRecDepth 100000 in
theorem p_lending {d b : Nat}  {S : gA} {sh : List gS} {M : gM} {Q : Option Value → List gS → gM → Prop} (hd : 2 ≤ d) (hC : isMod sh) (hS : MOD M S) (hk : S.ok b) (hb : b ≤ 20000) (hcon : kM sh M (S.lending) Q) : gC mX7_lending d 0 0 [.ref 83] sh M Q := by
  have hC0 := hC
  obtain ⟨y0, y1, y2, y3, y4, y5, y6, y7, y8, y9, y10, y11, y12, y13, y14, y15⟩ := hC
  have hS0 := hS
  have hk0 := hk
  obtain ⟨⟨a1, a1x⟩, a2, a3, ⟨a4, a4x⟩, ⟨a5, a5x⟩, a6⟩ := hS
  obtain ⟨g1, g2, g3, g4, g5, g6, g7⟩ := hk
  have g0 := g1
  obtain ⟨o1, o2, o3, o4, o5, o6, o7, o8⟩ := g0
  have hwd : S.U.d % 7 < 7 := Nat.mod_lt _ (by decide)
  have hd9 := g3.1.2
  refine gC_of (rt := 1) (ini := false) gm_X7_lending rfl (by decide) (Nat.le_of_ble_eq_true rfl) (fun X hX => ?_)
  have I : ∀ (s le : Nat), s < 3 → le ≤ 10000 → (∀ M1 : gM, (∀ c, c ≠ 94 → M1 c = M c) → X 128 [(0, .ref 83), (1, .int (nI (le + S.lsum s))), (2, .int (nI s)), (3, .int (nI (sumN (fun i => S.U.h (3 * i + s)) S.T.P))), (4, .int (nI (sumN (fun i => S.need i s) S.T.P))), (5, .int (nI S.T.P))] [] sh M1 0 0) → ∀ (m i : Nat) (M1 : gM), i + m = S.T.P → (∀ c, c ≠ 94 → M1 c = M c) → X 17 [(0, .ref 83), (1, .int (nI (le + sumN (fun i => S.need i s - S.U.h (3 * i + s)) i))), (2, .int (nI s)), (3, .int (nI (sumN (fun i => S.U.h (3 * i + s)) i))), (4, .int (nI (sumN (fun i => S.need i s) i))), (5, .int (nI i))] [] sh M1 0 0 := by
    intro s le hs hle hfin m
    induction m with
    | zero =>
      intro i M1 hi f1
      have hiP : i = S.T.P := by omega
      subst hiP
      have hW1 : TWM M1 S.T := a2.kp (fun c a b => f1 c (by omega))
      refine s_iload (q := 19) hX dX7_lending_17 rfl rfl ?_
      refine s_aload_n (q := 20) hX dX7_lending_19 rfl rfl ?_
      refine s_getr (q := 23) hX dX7_lending_20 rfl gfl_7_13 (by assumption) rfl ?_
      refine s_iconst (q := 24) (v := 0) hX dX7_lending_23 rfl rfl ?_
      refine s_iald (k := 0) (q := 25) hX dX7_lending_24 rfl (by assumption) rfl (by omega) (by omega) ?_
      refine s_topi (v := nI (S.T.P)) hW1.1 ?_
      refine s_icmp_ge_t (q := 28) (r := 128) hX dX7_lending_25 rfl rfl (Int32.le_refl _) ?_
      exact hfin M1 f1
    | succ m ih =>
      intro i M1 hi f1
      have hW1 : TWM M1 S.T := a2.kp (fun c a b => f1 c (by omega))
      have hh : M 93 (1 + 3 * i + s) = nI (S.U.h (3 * i + s)) := by rw [show 1 + 3 * i + s = 0 + 1 + (3 * i + s) by omega]; exact a3.2.1 (3 * i + s) (by omega)
      have hd0 : M1 93 0 = nI S.U.d := by rw [f1 93 (by decide)]; exact a3.1
      have hh9 := g3.1.1 (3 * i + s) (by omega)
      have hn4 := gA.need_le hk0 (i := i) (s := s) (by omega) hs
      have hpl := hW1.2.2.2.2.2.2.2 (7 * i + S.U.d % 7) (by omega)
      have e1 : sumN (fun i => S.U.h (3 * i + s)) (i + 1) = sumN (fun i => S.U.h (3 * i + s)) i + S.U.h (3 * i + s) := rfl
      have e2 : sumN (fun i => S.need i s) (i + 1) = sumN (fun i => S.need i s) i + S.need i s := rfl
      have e3 : sumN (fun i => S.need i s - S.U.h (3 * i + s)) (i + 1) = sumN (fun i => S.need i s - S.U.h (3 * i + s)) i + (S.need i s - S.U.h (3 * i + s)) := rfl
      rcases o8 (7 * i + S.U.d % 7) (by omega) with e8 | ⟨k, hk, e8⟩
      · refine s_iload (q := 19) hX dX7_lending_17 rfl rfl ?_
        refine s_aload_n (q := 20) hX dX7_lending_19 rfl rfl ?_
        refine s_getr (q := 23) hX dX7_lending_20 rfl gfl_7_13 (by assumption) rfl ?_
        refine s_iconst (q := 24) (v := 0) hX dX7_lending_23 rfl rfl ?_
        refine s_iald (k := 0) (q := 25) hX dX7_lending_24 rfl (by assumption) rfl (by omega) (by omega) ?_
        refine s_topi (v := nI (S.T.P)) hW1.1 ?_
        refine s_icmp_ge_f (q := 28) (r := 128) hX dX7_lending_25 rfl rfl (Int32.not_le.mpr (nI_lt (by omega) (by omega))) ?_
        refine s_aload_n (q := 29) hX dX7_lending_28 rfl rfl ?_
        refine s_getr (q := 32) hX dX7_lending_29 rfl gfl_7_32 (by assumption) rfl ?_
        refine s_bipush (q := 34) (v := 7) hX dX7_lending_32 rfl rfl (by decide) ?_
        refine s_iload (q := 36) hX dX7_lending_34 rfl rfl ?_
        refine s_imul (q := 37) (v := nI (7 * i)) hX dX7_lending_36 rfl (pk_mul (7) (i)) ?_
        refine s_aload_n (q := 38) hX dX7_lending_37 rfl rfl ?_
        refine s_getr (q := 41) hX dX7_lending_38 rfl gfl_7_38 (by assumption) rfl ?_
        refine s_iconst (q := 42) (v := 0) hX dX7_lending_41 rfl rfl ?_
        refine s_iald (k := 0) (q := 43) hX dX7_lending_42 rfl (by assumption) rfl (by omega) (by omega) ?_
        refine s_topi (v := nI (S.U.d)) hd0 ?_
        refine s_bipush (q := 45) (v := 7) hX dX7_lending_43 rfl rfl (by decide) ?_
        refine s_irem (q := 46) (v := nI ((S.U.d) % 7)) hX dX7_lending_45 rfl (pk_rem (a := S.U.d) (d := 7) (by omega) (by decide) (by decide)) (by decide) ?_
        refine s_iadd (q := 47) (v := nI (7 * i + ((S.U.d) % 7))) hX dX7_lending_46 rfl (nI_add (7 * i) ((S.U.d) % 7)) ?_
        refine s_iald (k := 7 * i + ((S.U.d) % 7)) (q := 48) hX dX7_lending_47 rfl (by assumption) rfl (by omega) (by omega) ?_
        refine s_topi (v := (-4)) (by rw [hpl, e8]) ?_
        refine s_istore (q := 50) (lv' := [(0, _), (1, _), (2, _), (3, _), (4, _), (5, _), (6, _)]) hX dX7_lending_48 rfl (Nat.le_of_ble_eq_true rfl) rfl ?_
        refine s_iconst (q := 51) (v := 0) hX dX7_lending_50 rfl rfl ?_
        refine s_istore (q := 53) (lv' := [(0, _), (1, _), (2, _), (3, _), (4, _), (5, _), (6, _), (7, _)]) hX dX7_lending_51 rfl (Nat.le_of_ble_eq_true rfl) rfl ?_
        refine s_iload (q := 55) hX dX7_lending_53 rfl rfl ?_
        refine s_bipush (q := 57) (v := (-4)) hX dX7_lending_55 rfl rfl (by decide) ?_
        refine s_icmp_eq_t (q := 60) (r := 76) hX dX7_lending_57 rfl rfl (by decide) ?_
        have e9 : S.need i s = 0 := if_pos e8
        refine s_aload_n (q := 77) hX dX7_lending_76 rfl rfl ?_
        refine s_getr (q := 80) hX dX7_lending_77 rfl gfl_7_38 (by assumption) rfl ?_
        refine s_iconst (q := 81) (v := 1) hX dX7_lending_80 rfl rfl ?_
        refine s_iconst (q := 82) (v := 3) hX dX7_lending_81 rfl rfl ?_
        refine s_iload (q := 84) hX dX7_lending_82 rfl rfl ?_
        refine s_imul (q := 85) (v := nI (3 * i)) hX dX7_lending_84 rfl (pk_mul (3) (i)) ?_
        refine s_iadd (q := 86) (v := nI (1 + (3 * i))) hX dX7_lending_85 rfl (nI_add (1) (3 * i)) ?_
        refine s_iload_n (q := 87) hX dX7_lending_86 rfl rfl ?_
        refine s_iadd (q := 88) (v := nI (1 + (3 * i) + s)) hX dX7_lending_87 rfl (nI_add (1 + (3 * i)) (s)) ?_
        refine s_iald (k := 1 + (3 * i) + s) (q := 89) hX dX7_lending_88 rfl (by assumption) rfl (by omega) (by omega) ?_
        refine s_topi (v := nI (S.U.h (3 * i + s))) (by rw [f1 93 (by decide)]; exact hh) ?_
        refine s_istore (q := 91) (lv' := [(0, _), (1, _), (2, _), (3, _), (4, _), (5, _), (6, _), (7, _), (8, _)]) hX dX7_lending_89 rfl (Nat.le_of_ble_eq_true rfl) rfl ?_
        refine s_iload_n (q := 92) hX dX7_lending_91 rfl rfl ?_
        refine s_iload (q := 94) hX dX7_lending_92 rfl rfl ?_
        refine s_iadd (q := 95) (v := nI (sumN (fun i => S.U.h (3 * i + s)) i + (S.U.h (3 * i + s)))) hX dX7_lending_94 rfl (nI_add (sumN (fun i => S.U.h (3 * i + s)) i) (S.U.h (3 * i + s))) ?_
        refine s_istore_n (q := 96) (lv' := [(0, _), (1, _), (2, _), (3, _), (4, _), (5, _), (6, _), (7, _), (8, _)]) hX dX7_lending_95 rfl (Nat.le_of_ble_eq_true rfl) rfl ?_
        refine s_iload (q := 98) hX dX7_lending_96 rfl rfl ?_
        refine s_iload (q := 100) hX dX7_lending_98 rfl rfl ?_
        refine s_iadd (q := 101) (v := nI (sumN (fun i => S.need i s) i + 0)) hX dX7_lending_100 rfl (nI_add (sumN (fun i => S.need i s) i) (0)) ?_
        refine s_istore (q := 103) (lv' := [(0, _), (1, _), (2, _), (3, _), (4, _), (5, _), (6, _), (7, _), (8, _)]) hX dX7_lending_101 rfl (Nat.le_of_ble_eq_true rfl) rfl ?_
        refine s_iload_n (q := 104) hX dX7_lending_103 rfl rfl ?_
        refine s_iload (q := 106) hX dX7_lending_104 rfl rfl ?_
        refine s_iload (q := 108) hX dX7_lending_106 rfl rfl ?_
        refine s_nicmp_le (a := 0) (b := S.U.h (3 * i + s)) (q := 111) (r := 119) hX dX7_lending_108 rfl rfl rfl rfl (by omega) (by omega) (fun c108 => ?_) (fun c108 => ?_)
        · refine s_iconst (q := 120) (v := 0) hX dX7_lending_119 rfl rfl ?_
          refine s_iadd (q := 121) (v := nI (le + sumN (fun i => S.need i s - S.U.h (3 * i + s)) i + 0)) hX dX7_lending_120 rfl (nI_add (le + sumN (fun i => S.need i s - S.U.h (3 * i + s)) i) (0)) ?_
          refine s_istore_n (q := 122) (lv' := [(0, _), (1, _), (2, _), (3, _), (4, _), (5, _), (6, _), (7, _), (8, _)]) hX dX7_lending_121 rfl (Nat.le_of_ble_eq_true rfl) rfl ?_
          refine s_iinc (q := 125) (v := nI (i + 1)) (lv' := [(0, _), (1, _), (2, _), (3, _), (4, _), (5, _), (6, _), (7, _), (8, _)]) hX dX7_lending_122 rfl rfl (nI_add (i) 1) (Nat.le_of_ble_eq_true rfl) rfl ?_
          refine s_goto (q := 17) hX dX7_lending_125 rfl ?_
          have hx := ih (i + 1) M1 (by omega) f1
          rw [e1, e2, e3, e9] at hx
          rw [show le + (sumN (fun i => S.need i s - S.U.h (3 * i + s)) i + (0 - S.U.h (3 * i + s))) = le + sumN (fun i => S.need i s - S.U.h (3 * i + s)) i + 0 by omega] at hx
          exact s_dl hX (s_dl hX (s_dl hX hx))
        · refine s_iload (q := 113) hX dX7_lending_111 rfl rfl ?_
          refine s_iload (q := 115) hX dX7_lending_113 rfl rfl ?_
          refine s_isub (q := 116) (v := nI (0 - S.U.h (3 * i + s))) hX dX7_lending_115 rfl (pk_sub (by omega)) ?_
          refine s_goto (q := 120) hX dX7_lending_116 rfl ?_
          refine s_iadd (q := 121) (v := nI (le + sumN (fun i => S.need i s - S.U.h (3 * i + s)) i + (0 - S.U.h (3 * i + s)))) hX dX7_lending_120 rfl (nI_add (le + sumN (fun i => S.need i s - S.U.h (3 * i + s)) i) (0 - S.U.h (3 * i + s))) ?_
          refine s_istore_n (q := 122) (lv' := [(0, _), (1, _), (2, _), (3, _), (4, _), (5, _), (6, _), (7, _), (8, _)]) hX dX7_lending_121 rfl (Nat.le_of_ble_eq_true rfl) rfl ?_
          refine s_iinc (q := 125) (v := nI (i + 1)) (lv' := [(0, _), (1, _), (2, _), (3, _), (4, _), (5, _), (6, _), (7, _), (8, _)]) hX dX7_lending_122 rfl rfl (nI_add (i) 1) (Nat.le_of_ble_eq_true rfl) rfl ?_
          refine s_goto (q := 17) hX dX7_lending_125 rfl ?_
          have hx := ih (i + 1) M1 (by omega) f1
          rw [e1, e2, e3, e9] at hx
          rw [show le + (sumN (fun i => S.need i s - S.U.h (3 * i + s)) i + (0 - S.U.h (3 * i + s))) = le + sumN (fun i => S.need i s - S.U.h (3 * i + s)) i + (0 - S.U.h (3 * i + s)) by omega] at hx
          exact s_dl hX (s_dl hX (s_dl hX hx))
      · refine s_iload (q := 19) hX dX7_lending_17 rfl rfl ?_
        refine s_aload_n (q := 20) hX dX7_lending_19 rfl rfl ?_
        refine s_getr (q := 23) hX dX7_lending_20 rfl gfl_7_13 (by assumption) rfl ?_
        refine s_iconst (q := 24) (v := 0) hX dX7_lending_23 rfl rfl ?_
        refine s_iald (k := 0) (q := 25) hX dX7_lending_24 rfl (by assumption) rfl (by omega) (by omega) ?_
        refine s_topi (v := nI (S.T.P)) hW1.1 ?_
        refine s_icmp_ge_f (q := 28) (r := 128) hX dX7_lending_25 rfl rfl (Int32.not_le.mpr (nI_lt (by omega) (by omega))) ?_
        refine s_aload_n (q := 29) hX dX7_lending_28 rfl rfl ?_
        refine s_getr (q := 32) hX dX7_lending_29 rfl gfl_7_32 (by assumption) rfl ?_
        refine s_bipush (q := 34) (v := 7) hX dX7_lending_32 rfl rfl (by decide) ?_
        refine s_iload (q := 36) hX dX7_lending_34 rfl rfl ?_
        refine s_imul (q := 37) (v := nI (7 * i)) hX dX7_lending_36 rfl (pk_mul (7) (i)) ?_
        refine s_aload_n (q := 38) hX dX7_lending_37 rfl rfl ?_
        refine s_getr (q := 41) hX dX7_lending_38 rfl gfl_7_38 (by assumption) rfl ?_
        refine s_iconst (q := 42) (v := 0) hX dX7_lending_41 rfl rfl ?_
        refine s_iald (k := 0) (q := 43) hX dX7_lending_42 rfl (by assumption) rfl (by omega) (by omega) ?_
        refine s_topi (v := nI (S.U.d)) hd0 ?_
        refine s_bipush (q := 45) (v := 7) hX dX7_lending_43 rfl rfl (by decide) ?_
        refine s_irem (q := 46) (v := nI ((S.U.d) % 7)) hX dX7_lending_45 rfl (pk_rem (a := S.U.d) (d := 7) (by omega) (by decide) (by decide)) (by decide) ?_
        refine s_iadd (q := 47) (v := nI (7 * i + ((S.U.d) % 7))) hX dX7_lending_46 rfl (nI_add (7 * i) ((S.U.d) % 7)) ?_
        refine s_iald (k := 7 * i + ((S.U.d) % 7)) (q := 48) hX dX7_lending_47 rfl (by assumption) rfl (by omega) (by omega) ?_
        refine s_topi (v := nI (k)) (by rw [hpl, e8]) ?_
        refine s_istore (q := 50) (lv' := [(0, _), (1, _), (2, _), (3, _), (4, _), (5, _), (6, _)]) hX dX7_lending_48 rfl (Nat.le_of_ble_eq_true rfl) rfl ?_
        refine s_iconst (q := 51) (v := 0) hX dX7_lending_50 rfl rfl ?_
        refine s_istore (q := 53) (lv' := [(0, _), (1, _), (2, _), (3, _), (4, _), (5, _), (6, _), (7, _)]) hX dX7_lending_51 rfl (Nat.le_of_ble_eq_true rfl) rfl ?_
        refine s_iload (q := 55) hX dX7_lending_53 rfl rfl ?_
        refine s_bipush (q := 57) (v := (-4)) hX dX7_lending_55 rfl rfl (by decide) ?_
        refine s_icmp_eq_f (q := 60) (r := 76) hX dX7_lending_57 rfl rfl (gnI4 (by omega)) ?_
        refine s_aload_n (q := 61) hX dX7_lending_60 rfl rfl ?_
        refine s_iload (q := 63) hX dX7_lending_61 rfl rfl ?_
        refine s_iload (q := 65) hX dX7_lending_63 rfl rfl ?_
        refine s_invv2_0 (q := 68) hX dX7_lending_65 rfl glk_7_115 (by assumption) (Nat.le_of_ble_eq_true rfl) ⟨Nat.le_refl _, Nat.le_refl _⟩ (by omega) (m_plainCost (d := 0) hC0 hW1 g1 (by omega) hk (fun g hg => ?_)) 
        refine ⟨rfl, ?_⟩
        refine s_aload_n (q := 69) hX dX7_lending_68 rfl rfl ?_
        refine s_getr (q := 72) hX dX7_lending_69 rfl gfl_7_41 (by assumption) rfl ?_
        refine s_iload_n (q := 73) hX dX7_lending_72 rfl rfl ?_
        refine s_iald (k := s) (q := 74) hX dX7_lending_73 rfl (by assumption) rfl (by omega) (by omega) ?_
        refine s_topi (v := nI (S.T.cs i k s)) (by rw [gsr_s]; exact hg s hs) ?_
        refine s_istore (q := 76) (lv' := [(0, _), (1, _), (2, _), (3, _), (4, _), (5, _), (6, _), (7, _)]) hX dX7_lending_74 rfl (Nat.le_of_ble_eq_true rfl) rfl ?_
        have e9 : S.need i s = S.T.cs i k s := by
          unfold gA.need
          rw [if_neg (by rw [e8]; exact gnI4 (by omega)), e8, nI_clamp (by omega)]
        rw [e9] at hn4
        refine s_aload_n (q := 77) hX dX7_lending_76 rfl rfl ?_
        refine s_getr (q := 80) hX dX7_lending_77 rfl gfl_7_38 (by assumption) rfl ?_
        refine s_iconst (q := 81) (v := 1) hX dX7_lending_80 rfl rfl ?_
        refine s_iconst (q := 82) (v := 3) hX dX7_lending_81 rfl rfl ?_
        refine s_iload (q := 84) hX dX7_lending_82 rfl rfl ?_
        refine s_imul (q := 85) (v := nI (3 * i)) hX dX7_lending_84 rfl (pk_mul (3) (i)) ?_
        refine s_iadd (q := 86) (v := nI (1 + (3 * i))) hX dX7_lending_85 rfl (nI_add (1) (3 * i)) ?_
        refine s_iload_n (q := 87) hX dX7_lending_86 rfl rfl ?_
        refine s_iadd (q := 88) (v := nI (1 + (3 * i) + s)) hX dX7_lending_87 rfl (nI_add (1 + (3 * i)) (s)) ?_
        refine s_iald (k := 1 + (3 * i) + s) (q := 89) hX dX7_lending_88 rfl (by assumption) rfl (by omega) (by omega) ?_
        refine s_topi (v := nI (S.U.h (3 * i + s))) (by rw [gsr_n _ _ (by decide), f1 93 (by decide)]; exact hh) ?_
        refine s_istore (q := 91) (lv' := [(0, _), (1, _), (2, _), (3, _), (4, _), (5, _), (6, _), (7, _), (8, _)]) hX dX7_lending_89 rfl (Nat.le_of_ble_eq_true rfl) rfl ?_
        refine s_iload_n (q := 92) hX dX7_lending_91 rfl rfl ?_
        refine s_iload (q := 94) hX dX7_lending_92 rfl rfl ?_
        refine s_iadd (q := 95) (v := nI (sumN (fun i => S.U.h (3 * i + s)) i + (S.U.h (3 * i + s)))) hX dX7_lending_94 rfl (nI_add (sumN (fun i => S.U.h (3 * i + s)) i) (S.U.h (3 * i + s))) ?_
        refine s_istore_n (q := 96) (lv' := [(0, _), (1, _), (2, _), (3, _), (4, _), (5, _), (6, _), (7, _), (8, _)]) hX dX7_lending_95 rfl (Nat.le_of_ble_eq_true rfl) rfl ?_
        refine s_iload (q := 98) hX dX7_lending_96 rfl rfl ?_
        refine s_iload (q := 100) hX dX7_lending_98 rfl rfl ?_
        refine s_iadd (q := 101) (v := nI (sumN (fun i => S.need i s) i + (S.T.cs i k s))) hX dX7_lending_100 rfl (nI_add (sumN (fun i => S.need i s) i) (S.T.cs i k s)) ?_
        refine s_istore (q := 103) (lv' := [(0, _), (1, _), (2, _), (3, _), (4, _), (5, _), (6, _), (7, _), (8, _)]) hX dX7_lending_101 rfl (Nat.le_of_ble_eq_true rfl) rfl ?_
        refine s_iload_n (q := 104) hX dX7_lending_103 rfl rfl ?_
        refine s_iload (q := 106) hX dX7_lending_104 rfl rfl ?_
        refine s_iload (q := 108) hX dX7_lending_106 rfl rfl ?_
        refine s_nicmp_le (a := S.T.cs i k s) (b := S.U.h (3 * i + s)) (q := 111) (r := 119) hX dX7_lending_108 rfl rfl rfl rfl (by omega) (by omega) (fun c108 => ?_) (fun c108 => ?_)
        · refine s_iconst (q := 120) (v := 0) hX dX7_lending_119 rfl rfl ?_
          refine s_iadd (q := 121) (v := nI (le + sumN (fun i => S.need i s - S.U.h (3 * i + s)) i + 0)) hX dX7_lending_120 rfl (nI_add (le + sumN (fun i => S.need i s - S.U.h (3 * i + s)) i) (0)) ?_
          refine s_istore_n (q := 122) (lv' := [(0, _), (1, _), (2, _), (3, _), (4, _), (5, _), (6, _), (7, _), (8, _)]) hX dX7_lending_121 rfl (Nat.le_of_ble_eq_true rfl) rfl ?_
          refine s_iinc (q := 125) (v := nI (i + 1)) (lv' := [(0, _), (1, _), (2, _), (3, _), (4, _), (5, _), (6, _), (7, _), (8, _)]) hX dX7_lending_122 rfl rfl (nI_add (i) 1) (Nat.le_of_ble_eq_true rfl) rfl ?_
          refine s_goto (q := 17) hX dX7_lending_125 rfl ?_
          have hx := ih (i + 1) (gsr M1 94 g) (by omega) (fun c hc => by rw [gsr_n _ _ hc]; exact f1 c hc)
          rw [e1, e2, e3, e9] at hx
          rw [show le + (sumN (fun i => S.need i s - S.U.h (3 * i + s)) i + (S.T.cs i k s - S.U.h (3 * i + s))) = le + sumN (fun i => S.need i s - S.U.h (3 * i + s)) i + 0 by omega] at hx
          exact s_dl hX (s_dl hX (s_dl hX hx))
        · refine s_iload (q := 113) hX dX7_lending_111 rfl rfl ?_
          refine s_iload (q := 115) hX dX7_lending_113 rfl rfl ?_
          refine s_isub (q := 116) (v := nI (S.T.cs i k s - S.U.h (3 * i + s))) hX dX7_lending_115 rfl (pk_sub (by omega)) ?_
          refine s_goto (q := 120) hX dX7_lending_116 rfl ?_
          refine s_iadd (q := 121) (v := nI (le + sumN (fun i => S.need i s - S.U.h (3 * i + s)) i + (S.T.cs i k s - S.U.h (3 * i + s)))) hX dX7_lending_120 rfl (nI_add (le + sumN (fun i => S.need i s - S.U.h (3 * i + s)) i) (S.T.cs i k s - S.U.h (3 * i + s))) ?_
          refine s_istore_n (q := 122) (lv' := [(0, _), (1, _), (2, _), (3, _), (4, _), (5, _), (6, _), (7, _), (8, _)]) hX dX7_lending_121 rfl (Nat.le_of_ble_eq_true rfl) rfl ?_
          refine s_iinc (q := 125) (v := nI (i + 1)) (lv' := [(0, _), (1, _), (2, _), (3, _), (4, _), (5, _), (6, _), (7, _), (8, _)]) hX dX7_lending_122 rfl rfl (nI_add (i) 1) (Nat.le_of_ble_eq_true rfl) rfl ?_
          refine s_goto (q := 17) hX dX7_lending_125 rfl ?_
          have hx := ih (i + 1) (gsr M1 94 g) (by omega) (fun c hc => by rw [gsr_n _ _ hc]; exact f1 c hc)
          rw [e1, e2, e3, e9] at hx
          rw [show le + (sumN (fun i => S.need i s - S.U.h (3 * i + s)) i + (S.T.cs i k s - S.U.h (3 * i + s))) = le + sumN (fun i => S.need i s - S.U.h (3 * i + s)) i + (S.T.cs i k s - S.U.h (3 * i + s)) by omega] at hx
          exact s_dl hX (s_dl hX (s_dl hX hx))
  have O : ∀ (m s : Nat) (M1 : gM), s + m = 3 → (∀ x, x < s → S.lok x) → (∀ c, c ≠ 94 → M1 c = M c) → X 4 [(0, .ref 83), (1, .int (nI (sumN S.lsum s))), (2, .int (nI s))] [] sh M1 0 0 := by
    intro m
    induction m with
    | zero =>
      intro s M1 hs hl f1
      have h3 : s = 3 := by omega
      subst h3
      refine s_iload_n (q := 5) hX dX7_lending_4 rfl rfl ?_
      refine s_iconst (q := 6) (v := 3) hX dX7_lending_5 rfl rfl ?_
      refine s_icmp_ge_t (q := 9) (r := 143) hX dX7_lending_6 rfl rfl (by decide) ?_
      refine s_iload_n (q := 144) hX dX7_lending_143 rfl rfl ?_
      refine s_iret hX dX7_lending_144 (Or.inl rfl) ⟨Nat.le_refl _, Nat.le_refl _, Nat.le_refl _, ?_⟩
      exact hcon.ret (by unfold gA.lending; rw [if_pos ⟨hl 0 (by omega), hl 1 (by omega), hl 2 (by omega)⟩]; rw [show sumN S.lsum 3 = S.lsum 0 + S.lsum 1 + S.lsum 2 from by show 0 + S.lsum 0 + S.lsum 1 + S.lsum 2 = _; omega]) (hS0.kp o1 g4.1 g5.1 (fun k _ => by rw [f1 83 (by decide)]) (fun c _ _ _ h4 _ => f1 c h4) (fun j hj => by rw [f1 93 (by decide)])) (fun c hc => f1 c (by omega))
    | succ m ih =>
      intro s M1 hs hl f1
      have hle : sumN S.lsum s ≤ 10000 := by
        refine Nat.le_trans (sumN_bd (c := 24) s (fun x hx => ?_)) (by omega)
        refine Nat.le_trans (sumN_bd (c := 4) S.T.P (fun i hi => ?_)) (by omega)
        exact Nat.le_trans (Nat.sub_le _ _) (gA.need_le hk0 hi (by omega))
      have hA : sumN (fun i => S.U.h (3 * i + s)) S.T.P ≤ 600 := Nat.le_trans (sumN_bd (c := 99) S.T.P (fun i hi => g3.1.1 _ (by omega))) (by omega)
      have hB : sumN (fun i => S.need i s) S.T.P ≤ 600 := Nat.le_trans (sumN_bd (c := 4) S.T.P (fun i hi => gA.need_le hk0 hi (by omega))) (by omega)
      have hF : ∀ M1 : gM, (∀ c, c ≠ 94 → M1 c = M c) → X 128 [(0, .ref 83), (1, .int (nI (sumN S.lsum s + S.lsum s))), (2, .int (nI s)), (3, .int (nI (sumN (fun i => S.U.h (3 * i + s)) S.T.P))), (4, .int (nI (sumN (fun i => S.need i s) S.T.P))), (5, .int (nI S.T.P))] [] sh M1 0 0 := by
        intro M1 f1
        refine s_iload (q := 130) hX dX7_lending_128 rfl rfl ?_
        refine s_iload_n (q := 131) hX dX7_lending_130 rfl rfl ?_
        refine s_nicmp_le (a := sumN (fun i => S.need i s) S.T.P) (b := sumN (fun i => S.U.h (3 * i + s)) S.T.P) (q := 134) (r := 137) hX dX7_lending_131 rfl rfl rfl rfl (by omega) (by omega) (fun c131 => ?_) (fun c131 => ?_)
        · refine s_iinc (q := 140) (v := nI (s + 1)) (lv' := [(0, _), (1, _), (2, _), (3, _), (4, _), (5, _)]) hX dX7_lending_137 rfl rfl (nI_add (s) 1) (Nat.le_of_ble_eq_true rfl) rfl ?_
          refine s_goto (q := 4) hX dX7_lending_140 rfl ?_
          refine s_dl hX (s_dl hX (s_dl hX (ih (s + 1) M1 (by omega) (fun x hx => ?_) f1)))
          by_cases e : x = s
          · subst e; exact c131
          · exact hl x (by omega)
        · refine s_bipush (q := 136) (v := (-4)) hX dX7_lending_134 rfl rfl (by decide) ?_
          refine s_iret hX dX7_lending_136 (Or.inl rfl) ⟨Nat.le_refl _, Nat.le_refl _, Nat.le_refl _, ?_⟩
          have hno : ¬ (S.lok 0 ∧ S.lok 1 ∧ S.lok 2) := by
            rintro ⟨z0, z1, z2⟩
            apply c131
            rcases (show s = 0 ∨ s = 1 ∨ s = 2 by omega) with rfl | rfl | rfl
            · exact z0
            · exact z1
            · exact z2
          exact hcon.ret (by unfold gA.lending; rw [if_neg hno]) (hS0.kp o1 g4.1 g5.1 (fun k _ => by rw [f1 83 (by decide)]) (fun c _ _ _ h4 _ => f1 c h4) (fun j hj => by rw [f1 93 (by decide)])) (fun c hc => f1 c (by omega))
      refine s_iload_n (q := 5) hX dX7_lending_4 rfl rfl ?_
      refine s_iconst (q := 6) (v := 3) hX dX7_lending_5 rfl rfl ?_
      refine s_icmp_ge_f (q := 9) (r := 143) hX dX7_lending_6 rfl rfl (Int32.not_le.mpr (nI_lt (b := 3) (by omega) (by omega))) ?_
      refine s_iconst (q := 10) (v := 0) hX dX7_lending_9 rfl rfl ?_
      refine s_istore_n (q := 11) (lv' := [(0, _), (1, _), (2, _), (3, _)]) hX dX7_lending_10 rfl (Nat.le_of_ble_eq_true rfl) rfl ?_
      refine s_iconst (q := 12) (v := 0) hX dX7_lending_11 rfl rfl ?_
      refine s_istore (q := 14) (lv' := [(0, _), (1, _), (2, _), (3, _), (4, _)]) hX dX7_lending_12 rfl (Nat.le_of_ble_eq_true rfl) rfl ?_
      refine s_iconst (q := 15) (v := 0) hX dX7_lending_14 rfl rfl ?_
      refine s_istore (q := 17) (lv' := [(0, _), (1, _), (2, _), (3, _), (4, _), (5, _)]) hX dX7_lending_15 rfl (Nat.le_of_ble_eq_true rfl) rfl ?_
      exact I s (sumN S.lsum s) (by omega) hle hF S.T.P 0 M1 (by omega) f1
  refine s_iconst (q := 1) (v := 0) hX dX7_lending_0 rfl rfl ?_
  refine s_istore_n (q := 2) (lv' := [(0, _), (1, _)]) hX dX7_lending_1 rfl (Nat.le_of_ble_eq_true rfl) rfl ?_
  refine s_iconst (q := 3) (v := 0) hX dX7_lending_2 rfl rfl ?_
  refine s_istore_n (q := 4) (lv' := [(0, _), (1, _), (2, _)]) hX dX7_lending_3 rfl (Nat.le_of_ble_eq_true rfl) rfl ?_
  exact O 3 0 M rfl (fun x hx => absurd hx (Nat.not_lt_zero x)) (fun _ _ => rfl)
