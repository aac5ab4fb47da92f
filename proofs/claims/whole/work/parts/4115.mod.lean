theorem gnIm1 {k : Nat} (h : k < 100) : ¬ nI k = -1 := by
  intro z
  have h1 := congrArg Int32.toInt z
  rw [nI_toInt (by omega)] at h1
  have h2 : (-1 : Int32).toInt = -1 := by decide
  rw [h2] at h1
  omega
set_option maxHeartbeats 4000000 in
set_option maxRecDepth 100000 in
theorem p_best {d b : Nat} {x y : Int32} {S : gA} {sh : List gS} {M : gM} {Q : Option Value → List gS → gM → Prop} (hd : 4 ≤ d) (hC : isMod sh) (hS : MOD M S) (hk : S.ok b) (hb : b ≤ 20000) (hcon : kM sh M (S.best x y) Q) : gC mX7_best d 0 0 [.ref 83, .int x, .int y] sh M Q := by
  have hC0 := hC
  obtain ⟨y0, y1, y2, y3, y4, y5, y6, y7, y8, y9, y10, y11, y12, y13, y14, y15⟩ := hC
  have hS0 := hS
  have hk0 := hk
  obtain ⟨⟨a1, a1x⟩, a2, a3, ⟨a4, a4x⟩, ⟨a5, a5x⟩, a6⟩ := hS
  obtain ⟨g1, g2, g3, g4, g5, g6, g7⟩ := hk
  have g0 := g1
  obtain ⟨o1, o2, o3, o4, o5, o6, o7, o8⟩ := g0
  refine gC_of (rt := 1) (ini := false) gm_X7_best rfl (by decide) (Nat.le_of_ble_eq_true rfl) (fun X hX => ?_)
  refine s_aload_n (q := 1) hX dX7_best_0 rfl rfl ?_
  refine s_iload_n (q := 2) hX dX7_best_1 rfl rfl ?_
  refine s_invv1_1 (q := 5) hX dX7_best_2 rfl glk_7_104 (by assumption) (Nat.le_of_ble_eq_true rfl) ⟨Nat.le_refl _, Nat.le_refl _⟩ (by omega) (m_isPerson (d := 1) (x := x) (Nat.le_refl _) hC0 a2 g1 (fun ra => ?_) (fun i ra hi ei => ?_)) 
  · refine ⟨_, rfl, ?_⟩
    refine s_if_eq_t (q := 8) (r := 21) hX dX7_best_5 rfl rfl (by decide) ?_
    refine s_iconst (q := 22) (v := (-1)) hX dX7_best_21 rfl rfl ?_
    refine s_iret hX dX7_best_22 (Or.inl rfl) ⟨Nat.le_refl _, Nat.le_refl _, Nat.le_refl _, ?_⟩
    exact hcon.ret (by first | (unfold gA.best; rw [ra]; dsimp only; rw [if_neg c10, rb]) | (unfold gA.best; rw [ra])) hS0 (fun _ _ => rfl)
  · subst ei
    refine ⟨_, rfl, ?_⟩
    refine s_if_eq_f (q := 8) (r := 21) hX dX7_best_5 rfl rfl (by decide) ?_
    refine s_iload_n (q := 9) hX dX7_best_8 rfl rfl ?_
    refine s_iconst (q := 10) (v := (-1)) hX dX7_best_9 rfl rfl ?_
    refine s_icmp_eq (q := 13) (r := 23) hX dX7_best_10 rfl rfl (fun c10 => ?_) (fun c10 => ?_)
    · refine s_iconst (q := 24) (v := 1) hX dX7_best_23 rfl rfl ?_
      refine s_istore_n (q := 25) (lv' := [(0, _), (1, _), (2, _), (3, _)]) hX dX7_best_24 rfl (Nat.le_of_ble_eq_true rfl) rfl ?_
      refine s_iconst (q := 26) (v := 0) hX dX7_best_25 rfl rfl ?_
      refine s_istore (q := 28) (lv' := [(0, _), (1, _), (2, _), (3, _), (4, _)]) hX dX7_best_26 rfl (Nat.le_of_ble_eq_true rfl) rfl ?_
      have hp6 : 6 ^ S.T.D ≤ 6 ^ 6 := Nat.pow_le_pow_right (by decide) o2
      have hp9 : (6 : Nat) ^ 6 = 46656 := by decide
      have hp0 : 0 < 6 ^ S.T.D := Nat.pow_pos (by decide)
      obtain ⟨B, hB⟩ : ∃ B : Nat → gB, B = S.T.mb i S.T.D (S.U.tr i) := ⟨_, rfl⟩
      have hbb : B (6 ^ S.T.D - 1) = S.bb i := by rw [hB]; exact S.T.mb_bs i S.T.D _ _ (by omega)
      have hd6 : ∀ v k, dgt S.T.D v k < 6 := fun v k => Nat.mod_lt _ (by decide)
      have hel : ∀ v q, S.T.ev i S.T.D 0 (S.U.tr i) 0 0 (dgt S.T.D v) = some q → q.1 ≤ 270 ∧ q.2 ≤ 30 := by
        intro v q hq
        have := gT.ev_le (hd6 v) o7 S.T.D 0 _ 0 0 q (by omega) hq
        omega
      have hBl : ∀ n, 1 ≤ (B n).1 ∧ (B n).1 ≤ 271 ∧ (B n).2.1 ≤ 30 ∧ (B n).2.2 ≤ n := by
        intro n
        obtain ⟨⟨q1, q, q2, q3, q4⟩, -⟩ := S.T.mb_max i S.T.D (S.U.tr i) n
        rw [← hB] at q1 q2 q3 q4
        have := hel _ q q2
        omega
      have L : ∀ (p c : Nat) (M1 : gM), c + 1 + p = 6 ^ S.T.D → MOD M1 S → (∀ c, c < 83 → M1 c = M c) → X 62 [(0, .ref 83), (1, .int (nI i)), (2, .int y), (3, .int (nI (6 ^ S.T.D))), (4, .int (nI (B c).2.2)), (5, .int (nI ((B c).1 - 1))), (6, .int (nI (B c).2.1)), (7, .int (nI (c + 1)))] [] sh M1 0 0 := by
        intro p
        induction p with
        | zero =>
          intro c M1 hc m1 f1
          have e : B c = S.bb i := by rw [← hbb, show 6 ^ S.T.D - 1 = c by omega]
          obtain ⟨b1, b2, b3, b4⟩ := hBl c
          refine s_iload (q := 64) hX dX7_best_62 rfl rfl ?_
          refine s_iload_n (q := 65) hX dX7_best_64 rfl rfl ?_
          refine s_icmp_ge_t (q := 68) (r := 127) hX dX7_best_65 rfl rfl (nI_le (by omega) (by omega)) ?_
          refine s_aload_n (q := 128) hX dX7_best_127 rfl rfl ?_
          refine s_iload_n (q := 129) hX dX7_best_128 rfl rfl ?_
          refine s_iload (q := 131) hX dX7_best_129 rfl rfl ?_
          refine s_invv2_1 (q := 134) hX dX7_best_131 rfl glk_7_156 (by assumption) (Nat.le_of_ble_eq_true rfl) ⟨Nat.le_refl _, Nat.le_refl _⟩ (by omega) (m_tryRow (d := 3) (v := (B c).2.2) (Nat.le_refl _) hC0 m1 hk0 hb hi (by omega) (fun hn M2 m2 f2 d2 => ?_) (fun q hq M2 m2 f2 d2 d3 d4 => ?_)) 
          · have f2 : ∀ c, c < 83 → M2 c = M c := fun c hc => by rw [f2 c hc]; exact f1 c hc
            refine ⟨_, rfl, ?_⟩
            refine s_pop (q := 135) hX dX7_best_134 rfl rfl ?_
            refine s_iload_n (q := 136) hX dX7_best_135 rfl rfl ?_
            refine s_iconst (q := 137) (v := (-1)) hX dX7_best_136 rfl rfl ?_
            refine s_icmp_ne_f (q := 140) (r := 145) hX dX7_best_137 rfl rfl (fun z => z c10) ?_
            refine s_iload (q := 142) hX dX7_best_140 rfl rfl ?_
            refine s_goto (q := 151) hX dX7_best_142 rfl ?_
            refine s_iret hX dX7_best_151 (Or.inl rfl) ⟨Nat.le_refl _, Nat.le_refl _, Nat.le_refl _, ?_⟩
            exact hcon.ret (by unfold gA.best; rw [ra]; dsimp only; rw [if_pos c10, ← e]; unfold gkv; rw [if_neg (by omega)]) m2 f2
          · have f2 : ∀ c, c < 83 → M2 c = M c := fun c hc => by rw [f2 c hc]; exact f1 c hc
            refine ⟨_, rfl, ?_⟩
            refine s_pop (q := 135) hX dX7_best_134 rfl rfl ?_
            refine s_iload_n (q := 136) hX dX7_best_135 rfl rfl ?_
            refine s_iconst (q := 137) (v := (-1)) hX dX7_best_136 rfl rfl ?_
            refine s_icmp_ne_f (q := 140) (r := 145) hX dX7_best_137 rfl rfl (fun z => z c10) ?_
            refine s_iload (q := 142) hX dX7_best_140 rfl rfl ?_
            refine s_goto (q := 151) hX dX7_best_142 rfl ?_
            refine s_iret hX dX7_best_151 (Or.inl rfl) ⟨Nat.le_refl _, Nat.le_refl _, Nat.le_refl _, ?_⟩
            exact hcon.ret (by unfold gA.best; rw [ra]; dsimp only; rw [if_pos c10, ← e]; unfold gkv; rw [if_neg (by omega)]) m2 f2
        | succ p ih =>
          intro c M1 hc m1 f1
          have hstep : B (c + 1) = (match S.T.ev i S.T.D 0 (S.U.tr i) 0 0 (dgt S.T.D (c + 1)) with
            | none => B c
            | some q => if (B c).1 < q.1 + 1 ∨ ((B c).1 = q.1 + 1 ∧ q.2 ≤ (B c).2.1) then (q.1 + 1, q.2, c + 1) else B c) := by rw [hB]; rfl
          obtain ⟨b1, b2, b3, b4⟩ := hBl c
          refine s_iload (q := 64) hX dX7_best_62 rfl rfl ?_
          refine s_iload_n (q := 65) hX dX7_best_64 rfl rfl ?_
          refine s_icmp_ge_f (q := 68) (r := 127) hX dX7_best_65 rfl rfl (nI_ge (by omega) (by omega)) ?_
          refine s_aload_n (q := 69) hX dX7_best_68 rfl rfl ?_
          refine s_iload_n (q := 70) hX dX7_best_69 rfl rfl ?_
          refine s_iload (q := 72) hX dX7_best_70 rfl rfl ?_
          refine s_invv2_1 (q := 75) hX dX7_best_72 rfl glk_7_156 (by assumption) (Nat.le_of_ble_eq_true rfl) ⟨Nat.le_refl _, Nat.le_refl _⟩ (by omega) (m_tryRow (d := 3) (v := c + 1) (Nat.le_refl _) hC0 m1 hk0 hb hi (by omega) (fun hn M2 m2 f2 d2 => ?_) (fun q hq M2 m2 f2 d2 d3 d4 => ?_)) 
          · have f2 : ∀ c, c < 83 → M2 c = M c := fun c hc => by rw [f2 c hc]; exact f1 c hc
            have hs2 : B (c + 1) = B c := by rw [hstep, hn]
            refine ⟨_, rfl, ?_⟩
            refine s_if_eq_t (q := 78) (r := 121) hX dX7_best_75 rfl rfl (by decide) ?_
            refine s_iinc (q := 124) (v := nI (c + 1 + 1)) (lv' := [(0, _), (1, _), (2, _), (3, _), (4, _), (5, _), (6, _), (7, _)]) hX dX7_best_121 rfl rfl (nI_add (c + 1) 1) (Nat.le_of_ble_eq_true rfl) rfl ?_
            refine s_goto (q := 62) hX dX7_best_124 rfl ?_
            have hx := ih (c + 1) M2 (by omega) m2 f2
            first
              | (rw [hs2, if_neg (by omega)] at hx; exact hx)
              | (rw [hs2] at hx; exact hx)
          · have f2 : ∀ c, c < 83 → M2 c = M c := fun c hc => by rw [f2 c hc]; exact f1 c hc
            have hql := hel _ q hq
            have hs2 : B (c + 1) = if (B c).1 < q.1 + 1 ∨ ((B c).1 = q.1 + 1 ∧ q.2 ≤ (B c).2.1) then (q.1 + 1, q.2, c + 1) else B c := by rw [hstep, hq]
            refine ⟨_, rfl, ?_⟩
            refine s_if_eq_f (q := 78) (r := 121) hX dX7_best_75 rfl rfl (by decide) ?_
            refine s_aload_n (q := 79) hX dX7_best_78 rfl rfl ?_
            refine s_geti (q := 82) hX dX7_best_79 rfl gfl_7_150 (by assumption) rfl ?_
            refine s_topi (v := nI (q.1)) d3 ?_
            refine s_iload (q := 84) hX dX7_best_82 rfl rfl ?_
            refine s_nicmp_gt (a := q.1) (b := (B c).1 - 1) (q := 87) (r := 105) hX dX7_best_84 rfl rfl rfl rfl (by omega) (by omega) (fun c84 => ?_) (fun c84 => ?_)
            · refine s_iload (q := 107) hX dX7_best_105 rfl rfl ?_
              refine s_istore (q := 109) (lv' := [(0, _), (1, _), (2, _), (3, _), (4, _), (5, _), (6, _), (7, _)]) hX dX7_best_107 rfl (Nat.le_of_ble_eq_true rfl) rfl ?_
              refine s_aload_n (q := 110) hX dX7_best_109 rfl rfl ?_
              refine s_geti (q := 113) hX dX7_best_110 rfl gfl_7_150 (by assumption) rfl ?_
              refine s_topi (v := nI (q.1)) d3 ?_
              refine s_istore (q := 115) (lv' := [(0, _), (1, _), (2, _), (3, _), (4, _), (5, _), (6, _), (7, _)]) hX dX7_best_113 rfl (Nat.le_of_ble_eq_true rfl) rfl ?_
              refine s_aload_n (q := 116) hX dX7_best_115 rfl rfl ?_
              refine s_geti (q := 119) hX dX7_best_116 rfl gfl_7_153 (by assumption) rfl ?_
              refine s_topi (v := nI (q.2)) d4 ?_
              refine s_istore (q := 121) (lv' := [(0, _), (1, _), (2, _), (3, _), (4, _), (5, _), (6, _), (7, _)]) hX dX7_best_119 rfl (Nat.le_of_ble_eq_true rfl) rfl ?_
              refine s_iinc (q := 124) (v := nI (c + 1 + 1)) (lv' := [(0, _), (1, _), (2, _), (3, _), (4, _), (5, _), (6, _), (7, _)]) hX dX7_best_121 rfl rfl (nI_add (c + 1) 1) (Nat.le_of_ble_eq_true rfl) rfl ?_
              refine s_goto (q := 62) hX dX7_best_124 rfl ?_
              have hx := ih (c + 1) M2 (by omega) m2 f2
              rw [hs2, if_pos (by omega)] at hx
              exact hx
            · refine s_aload_n (q := 88) hX dX7_best_87 rfl rfl ?_
              refine s_geti (q := 91) hX dX7_best_88 rfl gfl_7_150 (by assumption) rfl ?_
              refine s_topi (v := nI (q.1)) d3 ?_
              refine s_iload (q := 93) hX dX7_best_91 rfl rfl ?_
              refine s_nicmp_ne (a := q.1) (b := (B c).1 - 1) (q := 96) (r := 121) hX dX7_best_93 rfl rfl rfl rfl (by omega) (by omega) (fun c93 => ?_) (fun c93 => ?_)
              · refine s_iinc (q := 124) (v := nI (c + 1 + 1)) (lv' := [(0, _), (1, _), (2, _), (3, _), (4, _), (5, _), (6, _), (7, _)]) hX dX7_best_121 rfl rfl (nI_add (c + 1) 1) (Nat.le_of_ble_eq_true rfl) rfl ?_
                refine s_goto (q := 62) hX dX7_best_124 rfl ?_
                have hx := ih (c + 1) M2 (by omega) m2 f2
                first
                  | (rw [hs2, if_neg (by omega)] at hx; exact hx)
                  | (rw [hs2] at hx; exact hx)
              · refine s_aload_n (q := 97) hX dX7_best_96 rfl rfl ?_
                refine s_geti (q := 100) hX dX7_best_97 rfl gfl_7_153 (by assumption) rfl ?_
                refine s_topi (v := nI (q.2)) d4 ?_
                refine s_iload (q := 102) hX dX7_best_100 rfl rfl ?_
                refine s_nicmp_gt (a := q.2) (b := (B c).2.1) (q := 105) (r := 121) hX dX7_best_102 rfl rfl rfl rfl (by omega) (by omega) (fun c102 => ?_) (fun c102 => ?_)
                · refine s_iinc (q := 124) (v := nI (c + 1 + 1)) (lv' := [(0, _), (1, _), (2, _), (3, _), (4, _), (5, _), (6, _), (7, _)]) hX dX7_best_121 rfl rfl (nI_add (c + 1) 1) (Nat.le_of_ble_eq_true rfl) rfl ?_
                  refine s_goto (q := 62) hX dX7_best_124 rfl ?_
                  have hx := ih (c + 1) M2 (by omega) m2 f2
                  first
                    | (rw [hs2, if_neg (by omega)] at hx; exact hx)
                    | (rw [hs2] at hx; exact hx)
                · refine s_iload (q := 107) hX dX7_best_105 rfl rfl ?_
                  refine s_istore (q := 109) (lv' := [(0, _), (1, _), (2, _), (3, _), (4, _), (5, _), (6, _), (7, _)]) hX dX7_best_107 rfl (Nat.le_of_ble_eq_true rfl) rfl ?_
                  refine s_aload_n (q := 110) hX dX7_best_109 rfl rfl ?_
                  refine s_geti (q := 113) hX dX7_best_110 rfl gfl_7_150 (by assumption) rfl ?_
                  refine s_topi (v := nI (q.1)) d3 ?_
                  refine s_istore (q := 115) (lv' := [(0, _), (1, _), (2, _), (3, _), (4, _), (5, _), (6, _), (7, _)]) hX dX7_best_113 rfl (Nat.le_of_ble_eq_true rfl) rfl ?_
                  refine s_aload_n (q := 116) hX dX7_best_115 rfl rfl ?_
                  refine s_geti (q := 119) hX dX7_best_116 rfl gfl_7_153 (by assumption) rfl ?_
                  refine s_topi (v := nI (q.2)) d4 ?_
                  refine s_istore (q := 121) (lv' := [(0, _), (1, _), (2, _), (3, _), (4, _), (5, _), (6, _), (7, _)]) hX dX7_best_119 rfl (Nat.le_of_ble_eq_true rfl) rfl ?_
                  refine s_iinc (q := 124) (v := nI (c + 1 + 1)) (lv' := [(0, _), (1, _), (2, _), (3, _), (4, _), (5, _), (6, _), (7, _)]) hX dX7_best_121 rfl rfl (nI_add (c + 1) 1) (Nat.le_of_ble_eq_true rfl) rfl ?_
                  refine s_goto (q := 62) hX dX7_best_124 rfl ?_
                  have hx := ih (c + 1) M2 (by omega) m2 f2
                  rw [hs2, if_pos (by omega)] at hx
                  exact hx
      have L0 : ∀ (p t : Nat), t + p = S.T.D → X 28 [(0, .ref 83), (1, .int (nI i)), (2, .int y), (3, .int (nI (6 ^ t))), (4, .int (nI t))] [] sh M 0 0 := by
        intro p
        induction p with
        | zero =>
          intro t ht
          have e : t = S.T.D := by omega
          rw [e]
          refine s_iload (q := 30) hX dX7_best_28 rfl rfl ?_
          refine s_aload_n (q := 31) hX dX7_best_30 rfl rfl ?_
          refine s_getr (q := 34) hX dX7_best_31 rfl gfl_7_23 (by assumption) rfl ?_
          refine s_iconst (q := 35) (v := 0) hX dX7_best_34 rfl rfl ?_
          refine s_iald (k := 0) (q := 36) hX dX7_best_35 rfl (by assumption) rfl (by omega) (by omega) ?_
          refine s_topi (v := nI (S.T.D)) a2.2.1 ?_
          refine s_icmp_ge_t (q := 39) (r := 50) hX dX7_best_36 rfl rfl (Int32.le_refl _) ?_
          refine s_iconst (q := 51) (v := 0) hX dX7_best_50 rfl rfl ?_
          refine s_istore (q := 53) (lv' := [(0, _), (1, _), (2, _), (3, _), (4, _)]) hX dX7_best_51 rfl (Nat.le_of_ble_eq_true rfl) rfl ?_
          refine s_iconst (q := 54) (v := 0) hX dX7_best_53 rfl rfl ?_
          refine s_istore (q := 56) (lv' := [(0, _), (1, _), (2, _), (3, _), (4, _), (5, _)]) hX dX7_best_54 rfl (Nat.le_of_ble_eq_true rfl) rfl ?_
          refine s_iconst (q := 57) (v := 0) hX dX7_best_56 rfl rfl ?_
          refine s_istore (q := 59) (lv' := [(0, _), (1, _), (2, _), (3, _), (4, _), (5, _), (6, _)]) hX dX7_best_57 rfl (Nat.le_of_ble_eq_true rfl) rfl ?_
          refine s_iconst (q := 60) (v := 1) hX dX7_best_59 rfl rfl ?_
          refine s_istore (q := 62) (lv' := [(0, _), (1, _), (2, _), (3, _), (4, _), (5, _), (6, _), (7, _)]) hX dX7_best_60 rfl (Nat.le_of_ble_eq_true rfl) rfl ?_
          have l0 := L (6 ^ S.T.D - 1) 0 M (by omega) hS0 (fun _ _ => rfl)
          rw [show B 0 = (1, 0, 0) by rw [hB]; rfl] at l0
          exact l0
        | succ p ih =>
          intro t ht
          have hx := ih (t + 1) (by omega)
          rw [Nat.pow_succ] at hx
          refine s_iload (q := 30) hX dX7_best_28 rfl rfl ?_
          refine s_aload_n (q := 31) hX dX7_best_30 rfl rfl ?_
          refine s_getr (q := 34) hX dX7_best_31 rfl gfl_7_23 (by assumption) rfl ?_
          refine s_iconst (q := 35) (v := 0) hX dX7_best_34 rfl rfl ?_
          refine s_iald (k := 0) (q := 36) hX dX7_best_35 rfl (by assumption) rfl (by omega) (by omega) ?_
          refine s_topi (v := nI (S.T.D)) a2.2.1 ?_
          refine s_icmp_ge_f (q := 39) (r := 50) hX dX7_best_36 rfl rfl (Int32.not_le.mpr (nI_lt (by omega) (by omega))) ?_
          refine s_iload_n (q := 40) hX dX7_best_39 rfl rfl ?_
          refine s_bipush (q := 42) (v := 6) hX dX7_best_40 rfl rfl (by decide) ?_
          refine s_imul (q := 43) (v := nI ((6 ^ t) * 6)) hX dX7_best_42 rfl (pk_mul (6 ^ t) (6)) ?_
          refine s_istore_n (q := 44) (lv' := [(0, _), (1, _), (2, _), (3, _), (4, _)]) hX dX7_best_43 rfl (Nat.le_of_ble_eq_true rfl) rfl ?_
          refine s_iinc (q := 47) (v := nI (t + 1)) (lv' := [(0, _), (1, _), (2, _), (3, _), (4, _)]) hX dX7_best_44 rfl rfl (nI_add (t) 1) (Nat.le_of_ble_eq_true rfl) rfl ?_
          refine s_goto (q := 28) hX dX7_best_47 rfl ?_
          exact hx
      exact L0 S.T.D 0 (by omega)
    · refine s_aload_n (q := 14) hX dX7_best_13 rfl rfl ?_
      refine s_iload_n (q := 15) hX dX7_best_14 rfl rfl ?_
      refine s_invv1_1 (q := 18) hX dX7_best_15 rfl glk_7_112 (by assumption) (Nat.le_of_ble_eq_true rfl) ⟨Nat.le_refl _, Nat.le_refl _⟩ (by omega) (m_isDeed (d := 1) (x := y) (Nat.le_refl _) hC0 a2 g1 (fun rb => ?_) (fun k rb hk ek => ?_)) 
      · refine ⟨_, rfl, ?_⟩
        refine s_if_ne_f (q := 21) (r := 23) hX dX7_best_18 rfl rfl (by decide) ?_
        refine s_iconst (q := 22) (v := (-1)) hX dX7_best_21 rfl rfl ?_
        refine s_iret hX dX7_best_22 (Or.inl rfl) ⟨Nat.le_refl _, Nat.le_refl _, Nat.le_refl _, ?_⟩
        exact hcon.ret (by first | (unfold gA.best; rw [ra]; dsimp only; rw [if_neg c10, rb]) | (unfold gA.best; rw [ra])) hS0 (fun _ _ => rfl)
      · subst ek
        refine ⟨_, rfl, ?_⟩
        refine s_if_ne_t (q := 21) (r := 23) hX dX7_best_18 rfl rfl (by decide) ?_
        refine s_iconst (q := 24) (v := 1) hX dX7_best_23 rfl rfl ?_
        refine s_istore_n (q := 25) (lv' := [(0, _), (1, _), (2, _), (3, _)]) hX dX7_best_24 rfl (Nat.le_of_ble_eq_true rfl) rfl ?_
        refine s_iconst (q := 26) (v := 0) hX dX7_best_25 rfl rfl ?_
        refine s_istore (q := 28) (lv' := [(0, _), (1, _), (2, _), (3, _), (4, _)]) hX dX7_best_26 rfl (Nat.le_of_ble_eq_true rfl) rfl ?_
        have hp6 : 6 ^ S.T.D ≤ 6 ^ 6 := Nat.pow_le_pow_right (by decide) o2
        have hp9 : (6 : Nat) ^ 6 = 46656 := by decide
        have hp0 : 0 < 6 ^ S.T.D := Nat.pow_pos (by decide)
        obtain ⟨B, hB⟩ : ∃ B : Nat → gB, B = S.T.mb i S.T.D (S.U.tr i) := ⟨_, rfl⟩
        have hbb : B (6 ^ S.T.D - 1) = S.bb i := by rw [hB]; exact S.T.mb_bs i S.T.D _ _ (by omega)
        have hd6 : ∀ v k, dgt S.T.D v k < 6 := fun v k => Nat.mod_lt _ (by decide)
        have hel : ∀ v q, S.T.ev i S.T.D 0 (S.U.tr i) 0 0 (dgt S.T.D v) = some q → q.1 ≤ 270 ∧ q.2 ≤ 30 := by
          intro v q hq
          have := gT.ev_le (hd6 v) o7 S.T.D 0 _ 0 0 q (by omega) hq
          omega
        have hBl : ∀ n, 1 ≤ (B n).1 ∧ (B n).1 ≤ 271 ∧ (B n).2.1 ≤ 30 ∧ (B n).2.2 ≤ n := by
          intro n
          obtain ⟨⟨q1, q, q2, q3, q4⟩, -⟩ := S.T.mb_max i S.T.D (S.U.tr i) n
          rw [← hB] at q1 q2 q3 q4
          have := hel _ q q2
          omega
        have L : ∀ (p c : Nat) (M1 : gM), c + 1 + p = 6 ^ S.T.D → MOD M1 S → (∀ c, c < 83 → M1 c = M c) → X 62 [(0, .ref 83), (1, .int (nI i)), (2, .int (nI k)), (3, .int (nI (6 ^ S.T.D))), (4, .int (nI (B c).2.2)), (5, .int (nI ((B c).1 - 1))), (6, .int (nI (B c).2.1)), (7, .int (nI (c + 1)))] [] sh M1 0 0 := by
          intro p
          induction p with
          | zero =>
            intro c M1 hc m1 f1
            have e : B c = S.bb i := by rw [← hbb, show 6 ^ S.T.D - 1 = c by omega]
            obtain ⟨b1, b2, b3, b4⟩ := hBl c
            refine s_iload (q := 64) hX dX7_best_62 rfl rfl ?_
            refine s_iload_n (q := 65) hX dX7_best_64 rfl rfl ?_
            refine s_icmp_ge_t (q := 68) (r := 127) hX dX7_best_65 rfl rfl (nI_le (by omega) (by omega)) ?_
            refine s_aload_n (q := 128) hX dX7_best_127 rfl rfl ?_
            refine s_iload_n (q := 129) hX dX7_best_128 rfl rfl ?_
            refine s_iload (q := 131) hX dX7_best_129 rfl rfl ?_
            refine s_invv2_1 (q := 134) hX dX7_best_131 rfl glk_7_156 (by assumption) (Nat.le_of_ble_eq_true rfl) ⟨Nat.le_refl _, Nat.le_refl _⟩ (by omega) (m_tryRow (d := 3) (v := (B c).2.2) (Nat.le_refl _) hC0 m1 hk0 hb hi (by omega) (fun hn M2 m2 f2 d2 => ?_) (fun q hq M2 m2 f2 d2 d3 d4 => ?_)) 
            · have f2 : ∀ c, c < 83 → M2 c = M c := fun c hc => by rw [f2 c hc]; exact f1 c hc
              refine ⟨_, rfl, ?_⟩
              refine s_pop (q := 135) hX dX7_best_134 rfl rfl ?_
              refine s_iload_n (q := 136) hX dX7_best_135 rfl rfl ?_
              refine s_iconst (q := 137) (v := (-1)) hX dX7_best_136 rfl rfl ?_
              refine s_icmp_ne_t (q := 140) (r := 145) hX dX7_best_137 rfl rfl c10 ?_
              refine s_aload_n (q := 146) hX dX7_best_145 rfl rfl ?_
              refine s_getr (q := 149) hX dX7_best_146 rfl gfl_7_44 (by assumption) rfl ?_
              refine s_iload_n (q := 150) hX dX7_best_149 rfl rfl ?_
              refine s_iald (k := k) (q := 151) hX dX7_best_150 rfl (by assumption) rfl (by omega) (by omega) ?_
              refine s_topi (v := nI (dgt S.T.D (B c).2.2 k)) (d2 k hk) ?_
              refine s_iret hX dX7_best_151 (Or.inl rfl) ⟨Nat.le_refl _, Nat.le_refl _, Nat.le_refl _, ?_⟩
              exact hcon.ret (by unfold gA.best; rw [ra]; dsimp only; rw [if_neg c10, rb]; dsimp only; rw [← e]; rfl) m2 f2
            · have f2 : ∀ c, c < 83 → M2 c = M c := fun c hc => by rw [f2 c hc]; exact f1 c hc
              refine ⟨_, rfl, ?_⟩
              refine s_pop (q := 135) hX dX7_best_134 rfl rfl ?_
              refine s_iload_n (q := 136) hX dX7_best_135 rfl rfl ?_
              refine s_iconst (q := 137) (v := (-1)) hX dX7_best_136 rfl rfl ?_
              refine s_icmp_ne_t (q := 140) (r := 145) hX dX7_best_137 rfl rfl c10 ?_
              refine s_aload_n (q := 146) hX dX7_best_145 rfl rfl ?_
              refine s_getr (q := 149) hX dX7_best_146 rfl gfl_7_44 (by assumption) rfl ?_
              refine s_iload_n (q := 150) hX dX7_best_149 rfl rfl ?_
              refine s_iald (k := k) (q := 151) hX dX7_best_150 rfl (by assumption) rfl (by omega) (by omega) ?_
              refine s_topi (v := nI (dgt S.T.D (B c).2.2 k)) (d2 k hk) ?_
              refine s_iret hX dX7_best_151 (Or.inl rfl) ⟨Nat.le_refl _, Nat.le_refl _, Nat.le_refl _, ?_⟩
              exact hcon.ret (by unfold gA.best; rw [ra]; dsimp only; rw [if_neg c10, rb]; dsimp only; rw [← e]; rfl) m2 f2
          | succ p ih =>
            intro c M1 hc m1 f1
            have hstep : B (c + 1) = (match S.T.ev i S.T.D 0 (S.U.tr i) 0 0 (dgt S.T.D (c + 1)) with
              | none => B c
              | some q => if (B c).1 < q.1 + 1 ∨ ((B c).1 = q.1 + 1 ∧ q.2 ≤ (B c).2.1) then (q.1 + 1, q.2, c + 1) else B c) := by rw [hB]; rfl
            obtain ⟨b1, b2, b3, b4⟩ := hBl c
            refine s_iload (q := 64) hX dX7_best_62 rfl rfl ?_
            refine s_iload_n (q := 65) hX dX7_best_64 rfl rfl ?_
            refine s_icmp_ge_f (q := 68) (r := 127) hX dX7_best_65 rfl rfl (nI_ge (by omega) (by omega)) ?_
            refine s_aload_n (q := 69) hX dX7_best_68 rfl rfl ?_
            refine s_iload_n (q := 70) hX dX7_best_69 rfl rfl ?_
            refine s_iload (q := 72) hX dX7_best_70 rfl rfl ?_
            refine s_invv2_1 (q := 75) hX dX7_best_72 rfl glk_7_156 (by assumption) (Nat.le_of_ble_eq_true rfl) ⟨Nat.le_refl _, Nat.le_refl _⟩ (by omega) (m_tryRow (d := 3) (v := c + 1) (Nat.le_refl _) hC0 m1 hk0 hb hi (by omega) (fun hn M2 m2 f2 d2 => ?_) (fun q hq M2 m2 f2 d2 d3 d4 => ?_)) 
            · have f2 : ∀ c, c < 83 → M2 c = M c := fun c hc => by rw [f2 c hc]; exact f1 c hc
              have hs2 : B (c + 1) = B c := by rw [hstep, hn]
              refine ⟨_, rfl, ?_⟩
              refine s_if_eq_t (q := 78) (r := 121) hX dX7_best_75 rfl rfl (by decide) ?_
              refine s_iinc (q := 124) (v := nI (c + 1 + 1)) (lv' := [(0, _), (1, _), (2, _), (3, _), (4, _), (5, _), (6, _), (7, _)]) hX dX7_best_121 rfl rfl (nI_add (c + 1) 1) (Nat.le_of_ble_eq_true rfl) rfl ?_
              refine s_goto (q := 62) hX dX7_best_124 rfl ?_
              have hx := ih (c + 1) M2 (by omega) m2 f2
              first
                | (rw [hs2, if_neg (by omega)] at hx; exact hx)
                | (rw [hs2] at hx; exact hx)
            · have f2 : ∀ c, c < 83 → M2 c = M c := fun c hc => by rw [f2 c hc]; exact f1 c hc
              have hql := hel _ q hq
              have hs2 : B (c + 1) = if (B c).1 < q.1 + 1 ∨ ((B c).1 = q.1 + 1 ∧ q.2 ≤ (B c).2.1) then (q.1 + 1, q.2, c + 1) else B c := by rw [hstep, hq]
              refine ⟨_, rfl, ?_⟩
              refine s_if_eq_f (q := 78) (r := 121) hX dX7_best_75 rfl rfl (by decide) ?_
              refine s_aload_n (q := 79) hX dX7_best_78 rfl rfl ?_
              refine s_geti (q := 82) hX dX7_best_79 rfl gfl_7_150 (by assumption) rfl ?_
              refine s_topi (v := nI (q.1)) d3 ?_
              refine s_iload (q := 84) hX dX7_best_82 rfl rfl ?_
              refine s_nicmp_gt (a := q.1) (b := (B c).1 - 1) (q := 87) (r := 105) hX dX7_best_84 rfl rfl rfl rfl (by omega) (by omega) (fun c84 => ?_) (fun c84 => ?_)
              · refine s_iload (q := 107) hX dX7_best_105 rfl rfl ?_
                refine s_istore (q := 109) (lv' := [(0, _), (1, _), (2, _), (3, _), (4, _), (5, _), (6, _), (7, _)]) hX dX7_best_107 rfl (Nat.le_of_ble_eq_true rfl) rfl ?_
                refine s_aload_n (q := 110) hX dX7_best_109 rfl rfl ?_
                refine s_geti (q := 113) hX dX7_best_110 rfl gfl_7_150 (by assumption) rfl ?_
                refine s_topi (v := nI (q.1)) d3 ?_
                refine s_istore (q := 115) (lv' := [(0, _), (1, _), (2, _), (3, _), (4, _), (5, _), (6, _), (7, _)]) hX dX7_best_113 rfl (Nat.le_of_ble_eq_true rfl) rfl ?_
                refine s_aload_n (q := 116) hX dX7_best_115 rfl rfl ?_
                refine s_geti (q := 119) hX dX7_best_116 rfl gfl_7_153 (by assumption) rfl ?_
                refine s_topi (v := nI (q.2)) d4 ?_
                refine s_istore (q := 121) (lv' := [(0, _), (1, _), (2, _), (3, _), (4, _), (5, _), (6, _), (7, _)]) hX dX7_best_119 rfl (Nat.le_of_ble_eq_true rfl) rfl ?_
                refine s_iinc (q := 124) (v := nI (c + 1 + 1)) (lv' := [(0, _), (1, _), (2, _), (3, _), (4, _), (5, _), (6, _), (7, _)]) hX dX7_best_121 rfl rfl (nI_add (c + 1) 1) (Nat.le_of_ble_eq_true rfl) rfl ?_
                refine s_goto (q := 62) hX dX7_best_124 rfl ?_
                have hx := ih (c + 1) M2 (by omega) m2 f2
                rw [hs2, if_pos (by omega)] at hx
                exact hx
              · refine s_aload_n (q := 88) hX dX7_best_87 rfl rfl ?_
                refine s_geti (q := 91) hX dX7_best_88 rfl gfl_7_150 (by assumption) rfl ?_
                refine s_topi (v := nI (q.1)) d3 ?_
                refine s_iload (q := 93) hX dX7_best_91 rfl rfl ?_
                refine s_nicmp_ne (a := q.1) (b := (B c).1 - 1) (q := 96) (r := 121) hX dX7_best_93 rfl rfl rfl rfl (by omega) (by omega) (fun c93 => ?_) (fun c93 => ?_)
                · refine s_iinc (q := 124) (v := nI (c + 1 + 1)) (lv' := [(0, _), (1, _), (2, _), (3, _), (4, _), (5, _), (6, _), (7, _)]) hX dX7_best_121 rfl rfl (nI_add (c + 1) 1) (Nat.le_of_ble_eq_true rfl) rfl ?_
                  refine s_goto (q := 62) hX dX7_best_124 rfl ?_
                  have hx := ih (c + 1) M2 (by omega) m2 f2
                  first
                    | (rw [hs2, if_neg (by omega)] at hx; exact hx)
                    | (rw [hs2] at hx; exact hx)
                · refine s_aload_n (q := 97) hX dX7_best_96 rfl rfl ?_
                  refine s_geti (q := 100) hX dX7_best_97 rfl gfl_7_153 (by assumption) rfl ?_
                  refine s_topi (v := nI (q.2)) d4 ?_
                  refine s_iload (q := 102) hX dX7_best_100 rfl rfl ?_
                  refine s_nicmp_gt (a := q.2) (b := (B c).2.1) (q := 105) (r := 121) hX dX7_best_102 rfl rfl rfl rfl (by omega) (by omega) (fun c102 => ?_) (fun c102 => ?_)
                  · refine s_iinc (q := 124) (v := nI (c + 1 + 1)) (lv' := [(0, _), (1, _), (2, _), (3, _), (4, _), (5, _), (6, _), (7, _)]) hX dX7_best_121 rfl rfl (nI_add (c + 1) 1) (Nat.le_of_ble_eq_true rfl) rfl ?_
                    refine s_goto (q := 62) hX dX7_best_124 rfl ?_
                    have hx := ih (c + 1) M2 (by omega) m2 f2
                    first
                      | (rw [hs2, if_neg (by omega)] at hx; exact hx)
                      | (rw [hs2] at hx; exact hx)
                  · refine s_iload (q := 107) hX dX7_best_105 rfl rfl ?_
                    refine s_istore (q := 109) (lv' := [(0, _), (1, _), (2, _), (3, _), (4, _), (5, _), (6, _), (7, _)]) hX dX7_best_107 rfl (Nat.le_of_ble_eq_true rfl) rfl ?_
                    refine s_aload_n (q := 110) hX dX7_best_109 rfl rfl ?_
                    refine s_geti (q := 113) hX dX7_best_110 rfl gfl_7_150 (by assumption) rfl ?_
                    refine s_topi (v := nI (q.1)) d3 ?_
                    refine s_istore (q := 115) (lv' := [(0, _), (1, _), (2, _), (3, _), (4, _), (5, _), (6, _), (7, _)]) hX dX7_best_113 rfl (Nat.le_of_ble_eq_true rfl) rfl ?_
                    refine s_aload_n (q := 116) hX dX7_best_115 rfl rfl ?_
                    refine s_geti (q := 119) hX dX7_best_116 rfl gfl_7_153 (by assumption) rfl ?_
                    refine s_topi (v := nI (q.2)) d4 ?_
                    refine s_istore (q := 121) (lv' := [(0, _), (1, _), (2, _), (3, _), (4, _), (5, _), (6, _), (7, _)]) hX dX7_best_119 rfl (Nat.le_of_ble_eq_true rfl) rfl ?_
                    refine s_iinc (q := 124) (v := nI (c + 1 + 1)) (lv' := [(0, _), (1, _), (2, _), (3, _), (4, _), (5, _), (6, _), (7, _)]) hX dX7_best_121 rfl rfl (nI_add (c + 1) 1) (Nat.le_of_ble_eq_true rfl) rfl ?_
                    refine s_goto (q := 62) hX dX7_best_124 rfl ?_
                    have hx := ih (c + 1) M2 (by omega) m2 f2
                    rw [hs2, if_pos (by omega)] at hx
                    exact hx
        have L0 : ∀ (p t : Nat), t + p = S.T.D → X 28 [(0, .ref 83), (1, .int (nI i)), (2, .int (nI k)), (3, .int (nI (6 ^ t))), (4, .int (nI t))] [] sh M 0 0 := by
          intro p
          induction p with
          | zero =>
            intro t ht
            have e : t = S.T.D := by omega
            rw [e]
            refine s_iload (q := 30) hX dX7_best_28 rfl rfl ?_
            refine s_aload_n (q := 31) hX dX7_best_30 rfl rfl ?_
            refine s_getr (q := 34) hX dX7_best_31 rfl gfl_7_23 (by assumption) rfl ?_
            refine s_iconst (q := 35) (v := 0) hX dX7_best_34 rfl rfl ?_
            refine s_iald (k := 0) (q := 36) hX dX7_best_35 rfl (by assumption) rfl (by omega) (by omega) ?_
            refine s_topi (v := nI (S.T.D)) a2.2.1 ?_
            refine s_icmp_ge_t (q := 39) (r := 50) hX dX7_best_36 rfl rfl (Int32.le_refl _) ?_
            refine s_iconst (q := 51) (v := 0) hX dX7_best_50 rfl rfl ?_
            refine s_istore (q := 53) (lv' := [(0, _), (1, _), (2, _), (3, _), (4, _)]) hX dX7_best_51 rfl (Nat.le_of_ble_eq_true rfl) rfl ?_
            refine s_iconst (q := 54) (v := 0) hX dX7_best_53 rfl rfl ?_
            refine s_istore (q := 56) (lv' := [(0, _), (1, _), (2, _), (3, _), (4, _), (5, _)]) hX dX7_best_54 rfl (Nat.le_of_ble_eq_true rfl) rfl ?_
            refine s_iconst (q := 57) (v := 0) hX dX7_best_56 rfl rfl ?_
            refine s_istore (q := 59) (lv' := [(0, _), (1, _), (2, _), (3, _), (4, _), (5, _), (6, _)]) hX dX7_best_57 rfl (Nat.le_of_ble_eq_true rfl) rfl ?_
            refine s_iconst (q := 60) (v := 1) hX dX7_best_59 rfl rfl ?_
            refine s_istore (q := 62) (lv' := [(0, _), (1, _), (2, _), (3, _), (4, _), (5, _), (6, _), (7, _)]) hX dX7_best_60 rfl (Nat.le_of_ble_eq_true rfl) rfl ?_
            have l0 := L (6 ^ S.T.D - 1) 0 M (by omega) hS0 (fun _ _ => rfl)
            rw [show B 0 = (1, 0, 0) by rw [hB]; rfl] at l0
            exact l0
          | succ p ih =>
            intro t ht
            have hx := ih (t + 1) (by omega)
            rw [Nat.pow_succ] at hx
            refine s_iload (q := 30) hX dX7_best_28 rfl rfl ?_
            refine s_aload_n (q := 31) hX dX7_best_30 rfl rfl ?_
            refine s_getr (q := 34) hX dX7_best_31 rfl gfl_7_23 (by assumption) rfl ?_
            refine s_iconst (q := 35) (v := 0) hX dX7_best_34 rfl rfl ?_
            refine s_iald (k := 0) (q := 36) hX dX7_best_35 rfl (by assumption) rfl (by omega) (by omega) ?_
            refine s_topi (v := nI (S.T.D)) a2.2.1 ?_
            refine s_icmp_ge_f (q := 39) (r := 50) hX dX7_best_36 rfl rfl (Int32.not_le.mpr (nI_lt (by omega) (by omega))) ?_
            refine s_iload_n (q := 40) hX dX7_best_39 rfl rfl ?_
            refine s_bipush (q := 42) (v := 6) hX dX7_best_40 rfl rfl (by decide) ?_
            refine s_imul (q := 43) (v := nI ((6 ^ t) * 6)) hX dX7_best_42 rfl (pk_mul (6 ^ t) (6)) ?_
            refine s_istore_n (q := 44) (lv' := [(0, _), (1, _), (2, _), (3, _), (4, _)]) hX dX7_best_43 rfl (Nat.le_of_ble_eq_true rfl) rfl ?_
            refine s_iinc (q := 47) (v := nI (t + 1)) (lv' := [(0, _), (1, _), (2, _), (3, _), (4, _)]) hX dX7_best_44 rfl rfl (nI_add (t) 1) (Nat.le_of_ble_eq_true rfl) rfl ?_
            refine s_goto (q := 28) hX dX7_best_47 rfl ?_
            exact hx
        exact L0 S.T.D 0 (by omega)
