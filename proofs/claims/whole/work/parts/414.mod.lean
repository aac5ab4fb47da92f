set_option maxHeartbeats 4000000 in
set_option maxRecDepth 100000 in
theorem p_spent {d b : Nat} {x y : Int32} {S : gA} {sh : List gS} {M : gM} {Q : Option Value → List gS → gM → Prop} (hd : 4 ≤ d) (hC : isMod sh) (hS : MOD M S) (hk : S.ok b) (hb : b ≤ 20000) (hcon : kM sh M (S.spent x y) Q) : gC mX7_spent d 0 0 [.ref 83, .int x, .int y] sh M Q := by
  have hC0 := hC
  obtain ⟨y0, y1, y2, y3, y4, y5, y6, y7, y8, y9, y10, y11, y12, y13, y14, y15⟩ := hC
  have hS0 := hS
  have hk0 := hk
  obtain ⟨⟨a1, a1x⟩, a2, a3, ⟨a4, a4x⟩, ⟨a5, a5x⟩, a6⟩ := hS
  obtain ⟨g1, g2, g3, g4, g5, g6, g7⟩ := hk
  have g0 := g1
  obtain ⟨o1, o2, o3, o4, o5, o6, o7, o8⟩ := g0
  refine gC_of (rt := 1) (ini := false) gm_X7_spent rfl (by decide) (Nat.le_of_ble_eq_true rfl) (fun X hX => ?_)
  refine s_aload_n (q := 1) hX dX7_spent_0 rfl rfl ?_
  refine s_iload_n (q := 2) hX dX7_spent_1 rfl rfl ?_
  refine s_invv1_1 (q := 5) hX dX7_spent_2 rfl glk_7_104 (by assumption) (Nat.le_of_ble_eq_true rfl) ⟨Nat.le_refl _, Nat.le_refl _⟩ (by omega) (m_isPerson (d := 1) (x := x) (Nat.le_refl _) hC0 a2 g1 (fun ra => ?_) (fun i ra hi ei => ?_)) 
  · refine ⟨_, rfl, ?_⟩
    refine s_if_eq_t (q := 8) (r := 21) hX dX7_spent_5 rfl rfl (by decide) ?_
    refine s_iconst (q := 22) (v := (-1)) hX dX7_spent_21 rfl rfl ?_
    refine s_iret hX dX7_spent_22 (Or.inl rfl) ⟨Nat.le_refl _, Nat.le_refl _, Nat.le_refl _, ?_⟩
    exact hcon.ret (by first | (unfold gA.spent; rw [ra]; dsimp only; rw [rw]) | (unfold gA.spent; rw [ra])) hS0 (fun _ _ => rfl)
  · subst ei
    refine ⟨_, rfl, ?_⟩
    refine s_if_eq_f (q := 8) (r := 21) hX dX7_spent_5 rfl rfl (by decide) ?_
    refine s_iload_n (q := 9) hX dX7_spent_8 rfl rfl ?_
    refine s_iconst (q := 10) (v := 0) hX dX7_spent_9 rfl rfl ?_
    refine s_aload_n (q := 11) hX dX7_spent_10 rfl rfl ?_
    refine s_iload_n (q := 12) hX dX7_spent_11 rfl rfl ?_
    have hla := gN.la_le g6 i S.N.n (Nat.le_refl _)
    refine s_invv1_1 (q := 15) hX dX7_spent_12 rfl glk_7_170 (by assumption) (Nat.le_of_ble_eq_true rfl) ⟨Nat.le_refl _, Nat.le_refl _⟩ (by omega) (m_lastOf (d := 0) hC0 hS0 hk0 hb hi ?_) 
    refine ⟨_, rfl, ?_⟩
    refine s_invs3_1 (q := 18) hX dX7_spent_15 rfl glk_7_66 (by decide) (Nat.le_of_ble_eq_true rfl) ⟨Nat.le_refl _, Nat.le_refl _⟩ (by omega) (m_rng (d := 0) (x := y) (lo := 0) (n := S.N.la i S.N.n + 1) rfl (by rw [show (1 : Int32) = nI 1 from rfl, pk_sub (by omega)]; rfl) (by decide) (by omega) (fun rw => ?_) (fun k rw lk hk ek => ?_)) 
    · refine ⟨_, rfl, ?_⟩
      refine s_if_ne_f (q := 21) (r := 23) hX dX7_spent_18 rfl rfl (by decide) ?_
      refine s_iconst (q := 22) (v := (-1)) hX dX7_spent_21 rfl rfl ?_
      refine s_iret hX dX7_spent_22 (Or.inl rfl) ⟨Nat.le_refl _, Nat.le_refl _, Nat.le_refl _, ?_⟩
      exact hcon.ret (by first | (unfold gA.spent; rw [ra]; dsimp only; rw [rw]) | (unfold gA.spent; rw [ra])) hS0 (fun _ _ => rfl)
    · subst ek
      refine ⟨_, rfl, ?_⟩
      refine s_if_ne_t (q := 21) (r := 23) hX dX7_spent_18 rfl rfl (by decide) ?_
      refine s_aload_n (q := 24) hX dX7_spent_23 rfl rfl ?_
      refine s_iload_n (q := 25) hX dX7_spent_24 rfl rfl ?_
      refine s_invv1_1 (q := 28) hX dX7_spent_25 rfl glk_7_170 (by assumption) (Nat.le_of_ble_eq_true rfl) ⟨Nat.le_refl _, Nat.le_refl _⟩ (by omega) (m_lastOf (d := 0) hC0 hS0 hk0 hb hi ?_) 
      refine ⟨_, rfl, ?_⟩
      refine s_istore_n (q := 29) (lv' := [(0, _), (1, _), (2, _), (3, _)]) hX dX7_spent_28 rfl (Nat.le_of_ble_eq_true rfl) rfl ?_
      refine s_iconst (q := 30) (v := 0) hX dX7_spent_29 rfl rfl ?_
      refine s_istore (q := 32) (lv' := [(0, _), (1, _), (2, _), (3, _), (4, _)]) hX dX7_spent_30 rfl (Nat.le_of_ble_eq_true rfl) rfl ?_
      refine s_bipush (q := 34) (v := (-4)) hX dX7_spent_32 rfl rfl (by decide) ?_
      refine s_istore (q := 36) (lv' := [(0, _), (1, _), (2, _), (3, _), (4, _), (5, _)]) hX dX7_spent_34 rfl (Nat.le_of_ble_eq_true rfl) rfl ?_
      refine s_iconst (q := 37) (v := 0) hX dX7_spent_36 rfl rfl ?_
      refine s_istore (q := 39) (lv' := [(0, _), (1, _), (2, _), (3, _), (4, _), (5, _), (6, _)]) hX dX7_spent_37 rfl (Nat.le_of_ble_eq_true rfl) rfl ?_
      have hBB : ∀ r, r ≤ 4 → 0 < (S.T.D + 1) ^ r ∧ (S.T.D + 1) ^ r ≤ 2401 := fun r hr => ⟨Nat.pow_pos (by omega), Nat.le_trans (Nat.pow_le_pow_left (show S.T.D + 1 ≤ 7 by omega) r) (Nat.pow_le_pow_right (show 0 < 7 by omega) hr)⟩
      have hB4 := hBB (S.N.la i S.N.n) hla
      obtain ⟨pv, hpv⟩ : ∃ pv : Nat → Bool, pv = S.T.pvc S.N i (S.N.la i S.N.n) (S.U.d % 7) 0 (S.U.tr i) := ⟨_, rfl⟩
      have hwy : S.T.wy S.N i (S.N.la i S.N.n) (S.U.d % 7) 0 (S.U.tr i) = sumN (fun c => if pv c = true then 1 else 0) ((S.T.D + 1) ^ (S.N.la i S.N.n)) := by rw [hpv]; exact S.T.wy_pvc S.N i _ _ _ _
      have hfp := S.T.fp_fcd S.N i (S.N.la i S.N.n) (S.U.d % 7) 0 (S.U.tr i)
      unfold gT.fcd at hfp
      rw [← hpv] at hfp
      have hcn : ∀ n, sumN (fun c => if pv c = true then 1 else 0) n ≤ n := fun n => Nat.le_trans (sumN_bd (c := 1) n (fun k _ => by split <;> omega)) (by omega)
      have hcf : ∀ n, (sumN (fun c => if pv c = true then 1 else 0) n = 0 ↔ fstN (fun c => if pv c = true then some c else none) n = none) := fun n => sumN_fst n (fun k _ => by cases pv k <;> simp)
      have L : ∀ (m c : Nat) (M1 : gM), c + m = (S.T.D + 1) ^ (S.N.la i S.N.n) → MOD M1 S → (∀ c, c < 83 → M1 c = M c) → X 39 [(0, .ref 83), (1, .int (nI i)), (2, .int (nI k)), (3, .int (nI (S.N.la i S.N.n))), (4, .int (nI (sumN (fun c => if pv c = true then 1 else 0) c))), (5, .int (lwI (fstN (fun c => if pv c = true then some c else none) c))), (6, .int (nI c))] [] sh M1 0 0 := by
        intro m
        induction m with
        | zero =>
          intro c M1 hc m1 f1
          have e : c = (S.T.D + 1) ^ (S.N.la i S.N.n) := by omega
          have hcl := hcn c
          have hcff := hcf c
          rw [← e] at hfp hwy
          rcases hfp with ⟨e1, e2⟩ | ⟨cc, p, e1, e2, e3, e4⟩
          · have hz := hcff.mpr e1
            rw [hz, e1]
            refine s_iload (q := 41) hX dX7_spent_39 rfl rfl ?_
            refine s_aload_n (q := 42) hX dX7_spent_41 rfl rfl ?_
            refine s_iload_n (q := 43) hX dX7_spent_42 rfl rfl ?_
            refine s_invv1_1 (q := 46) hX dX7_spent_43 rfl glk_7_167 (by assumption) (Nat.le_of_ble_eq_true rfl) ⟨Nat.le_refl _, Nat.le_refl _⟩ (by omega) (m_power (d := 0) (n := S.N.la i S.N.n) hC0 m1 hk0 hb (by omega) ?_) 
            refine ⟨_, rfl, ?_⟩
            refine s_icmp_ge_t (q := 49) (r := 83) hX dX7_spent_46 rfl rfl (nI_le (by omega) (by omega)) ?_
            refine s_iload_n (q := 84) hX dX7_spent_83 rfl rfl ?_
            refine s_nif_eq (a := k) (b := 0) (q := 87) (r := 92) hX dX7_spent_84 rfl rfl rfl rfl (by omega) (by omega) (fun c84 => ?_) (fun c84 => ?_)
            · refine s_iload_n (q := 93) hX dX7_spent_92 rfl rfl ?_
              refine s_nif_ne (a := k) (b := 0) (q := 96) (r := 101) hX dX7_spent_93 rfl rfl rfl rfl (by omega) (by omega) (fun c93 => ?_) (fun c93 => ?_)
              · refine s_bipush (q := 103) (v := (-4)) hX dX7_spent_101 rfl rfl (by decide) ?_
                refine s_iret hX dX7_spent_103 (Or.inl rfl) ⟨Nat.le_refl _, Nat.le_refl _, Nat.le_refl _, ?_⟩
                first
                  | (exfalso; omega)
                  | exact hcon.ret (by unfold gA.spent; rw [ra]; dsimp only; rw [rw]; dsimp only; rw [if_neg (by omega), e2]) m1 f1
              · refine s_iload (q := 98) hX dX7_spent_96 rfl rfl ?_
                refine s_goto (q := 103) hX dX7_spent_98 rfl ?_
                refine s_iret hX dX7_spent_103 (Or.inl rfl) ⟨Nat.le_refl _, Nat.le_refl _, Nat.le_refl _, ?_⟩
                first
                  | (exfalso; omega)
                  | exact hcon.ret (by unfold gA.spent; rw [ra]; dsimp only; rw [rw]; dsimp only; rw [if_pos (by omega), hwy, hz]) m1 f1
            · refine s_iload (q := 89) hX dX7_spent_87 rfl rfl ?_
              refine s_if_ne_f (q := 92) (r := 104) hX dX7_spent_89 rfl rfl (by decide) ?_
              refine s_iload_n (q := 93) hX dX7_spent_92 rfl rfl ?_
              refine s_nif_ne (a := k) (b := 0) (q := 96) (r := 101) hX dX7_spent_93 rfl rfl rfl rfl (by omega) (by omega) (fun c93_1 => ?_) (fun c93_1 => ?_)
              · refine s_bipush (q := 103) (v := (-4)) hX dX7_spent_101 rfl rfl (by decide) ?_
                refine s_iret hX dX7_spent_103 (Or.inl rfl) ⟨Nat.le_refl _, Nat.le_refl _, Nat.le_refl _, ?_⟩
                first
                  | (exfalso; omega)
                  | exact hcon.ret (by unfold gA.spent; rw [ra]; dsimp only; rw [rw]; dsimp only; rw [if_neg (by omega), e2]) m1 f1
              · refine s_iload (q := 98) hX dX7_spent_96 rfl rfl ?_
                refine s_goto (q := 103) hX dX7_spent_98 rfl ?_
                refine s_iret hX dX7_spent_103 (Or.inl rfl) ⟨Nat.le_refl _, Nat.le_refl _, Nat.le_refl _, ?_⟩
                first
                  | (exfalso; omega)
                  | exact hcon.ret (by unfold gA.spent; rw [ra]; dsimp only; rw [rw]; dsimp only; rw [if_pos (by omega), hwy, hz]) m1 f1
          · have hnz : ¬ sumN (fun c => if pv c = true then 1 else 0) c = 0 := fun z => by rw [hcff.mp z] at e1; cases e1
            rw [e1]
            refine s_iload (q := 41) hX dX7_spent_39 rfl rfl ?_
            refine s_aload_n (q := 42) hX dX7_spent_41 rfl rfl ?_
            refine s_iload_n (q := 43) hX dX7_spent_42 rfl rfl ?_
            refine s_invv1_1 (q := 46) hX dX7_spent_43 rfl glk_7_167 (by assumption) (Nat.le_of_ble_eq_true rfl) ⟨Nat.le_refl _, Nat.le_refl _⟩ (by omega) (m_power (d := 0) (n := S.N.la i S.N.n) hC0 m1 hk0 hb (by omega) ?_) 
            refine ⟨_, rfl, ?_⟩
            refine s_icmp_ge_t (q := 49) (r := 83) hX dX7_spent_46 rfl rfl (nI_le (by omega) (by omega)) ?_
            refine s_iload_n (q := 84) hX dX7_spent_83 rfl rfl ?_
            refine s_nif_eq (a := k) (b := 0) (q := 87) (r := 92) hX dX7_spent_84 rfl rfl rfl rfl (by omega) (by omega) (fun c84 => ?_) (fun c84 => ?_)
            · refine s_iload_n (q := 93) hX dX7_spent_92 rfl rfl ?_
              refine s_nif_ne (a := k) (b := 0) (q := 96) (r := 101) hX dX7_spent_93 rfl rfl rfl rfl (by omega) (by omega) (fun c93 => ?_) (fun c93 => ?_)
              · refine s_bipush (q := 103) (v := (-4)) hX dX7_spent_101 rfl rfl (by decide) ?_
                refine s_iret hX dX7_spent_103 (Or.inl rfl) ⟨Nat.le_refl _, Nat.le_refl _, Nat.le_refl _, ?_⟩
                exfalso; omega
              · refine s_iload (q := 98) hX dX7_spent_96 rfl rfl ?_
                refine s_goto (q := 103) hX dX7_spent_98 rfl ?_
                refine s_iret hX dX7_spent_103 (Or.inl rfl) ⟨Nat.le_refl _, Nat.le_refl _, Nat.le_refl _, ?_⟩
                exact hcon.ret (by unfold gA.spent; rw [ra]; dsimp only; rw [rw]; dsimp only; rw [if_pos (by omega), hwy]) m1 f1
            · refine s_iload (q := 89) hX dX7_spent_87 rfl rfl ?_
              refine s_nif_ne (a := sumN (fun c => if pv c = true then 1 else 0) c) (b := 0) (q := 92) (r := 104) hX dX7_spent_89 rfl rfl rfl rfl (by omega) (by omega) (fun c89 => ?_) (fun c89 => ?_)
              · have hBk := hBB (S.N.la i S.N.n - k) (by omega)
                have hdl : cc / (S.T.D + 1) ^ (S.N.la i S.N.n - k) ≤ cc := Nat.div_le_self _ _
                have hml : cc / (S.T.D + 1) ^ (S.N.la i S.N.n - k) % (S.T.D + 1) < S.T.D + 1 := Nat.mod_lt _ (by omega)
                refine s_iload (q := 106) hX dX7_spent_104 rfl rfl ?_
                refine s_aload_n (q := 107) hX dX7_spent_106 rfl rfl ?_
                refine s_iload_n (q := 108) hX dX7_spent_107 rfl rfl ?_
                refine s_iload_n (q := 109) hX dX7_spent_108 rfl rfl ?_
                refine s_isub (q := 110) (v := nI (S.N.la i S.N.n - k)) hX dX7_spent_109 rfl (pk_sub (by omega)) ?_
                refine s_invv1_1 (q := 113) hX dX7_spent_110 rfl glk_7_167 (by assumption) (Nat.le_of_ble_eq_true rfl) ⟨Nat.le_refl _, Nat.le_refl _⟩ (by omega) (m_power (d := 0) (n := S.N.la i S.N.n - k) hC0 m1 hk0 hb (by omega) ?_) 
                refine ⟨_, rfl, ?_⟩
                refine s_idiv (q := 114) (v := nI (cc / (S.T.D + 1) ^ (S.N.la i S.N.n - k))) hX dX7_spent_113 rfl (pk_div (by omega) (by omega) (by omega)) (nI_ne0 (by omega) (by omega)) ?_
                refine s_aload_n (q := 115) hX dX7_spent_114 rfl rfl ?_
                refine s_getr (q := 118) hX dX7_spent_115 rfl gfl_7_23 (by assumption) rfl ?_
                refine s_iconst (q := 119) (v := 0) hX dX7_spent_118 rfl rfl ?_
                refine s_iald (k := 0) (q := 120) hX dX7_spent_119 rfl (by assumption) rfl (by omega) (by omega) ?_
                refine s_topi (v := nI (S.T.D)) m1.2.1.2.1 ?_
                refine s_iconst (q := 121) (v := 1) hX dX7_spent_120 rfl rfl ?_
                refine s_iadd (q := 122) (v := nI (S.T.D + 1)) hX dX7_spent_121 rfl (nI_add (S.T.D) (1)) ?_
                refine s_irem (q := 123) (v := nI (cc / (S.T.D + 1) ^ (S.N.la i S.N.n - k) % (S.T.D + 1))) hX dX7_spent_122 rfl (pk_rem (a := cc / (S.T.D + 1) ^ (S.N.la i S.N.n - k)) (d := S.T.D + 1) (by omega) (by omega) (by omega)) (nI_ne0 (by omega) (by omega)) ?_
                refine s_istore (q := 125) (lv' := [(0, _), (1, _), (2, _), (3, _), (4, _), (5, _), (6, _)]) hX dX7_spent_123 rfl (Nat.le_of_ble_eq_true rfl) rfl ?_
                refine s_iload (q := 127) hX dX7_spent_125 rfl rfl ?_
                refine s_nif_ne (a := cc / (S.T.D + 1) ^ (S.N.la i S.N.n - k) % (S.T.D + 1)) (b := 0) (q := 130) (r := 135) hX dX7_spent_127 rfl rfl rfl rfl (by omega) (by omega) (fun c127 => ?_) (fun c127 => ?_)
                · refine s_iload (q := 137) hX dX7_spent_135 rfl rfl ?_
                  refine s_iconst (q := 138) (v := 1) hX dX7_spent_137 rfl rfl ?_
                  refine s_isub (q := 139) (v := nI (cc / (S.T.D + 1) ^ (S.N.la i S.N.n - k) % (S.T.D + 1) - 1)) hX dX7_spent_138 rfl (pk_sub (b := 1) (by omega)) ?_
                  refine s_iret hX dX7_spent_139 (Or.inl rfl) ⟨Nat.le_refl _, Nat.le_refl _, Nat.le_refl _, ?_⟩
                  have hp9 := e4 (k - 1) (by omega) (by omega)
                  rw [show 0 + S.N.la i S.N.n - 1 - (k - 1) = S.N.la i S.N.n - k by omega] at hp9
                  exact hcon.ret (by unfold gA.spent; rw [ra]; dsimp only; rw [rw]; dsimp only; rw [if_neg (by omega), e2]; dsimp only; rw [hp9]; unfold chv; rw [if_neg (by omega)]) m1 f1
                · refine s_bipush (q := 132) (v := (-4)) hX dX7_spent_130 rfl rfl (by decide) ?_
                  refine s_goto (q := 139) hX dX7_spent_132 rfl ?_
                  refine s_iret hX dX7_spent_139 (Or.inl rfl) ⟨Nat.le_refl _, Nat.le_refl _, Nat.le_refl _, ?_⟩
                  have hp9 := e4 (k - 1) (by omega) (by omega)
                  rw [show 0 + S.N.la i S.N.n - 1 - (k - 1) = S.N.la i S.N.n - k by omega] at hp9
                  exact hcon.ret (by unfold gA.spent; rw [ra]; dsimp only; rw [rw]; dsimp only; rw [if_neg (by omega), e2]; dsimp only; rw [hp9]; unfold chv; rw [if_pos (by omega)]) m1 f1
              · refine s_iload_n (q := 93) hX dX7_spent_92 rfl rfl ?_
                refine s_nif_ne (a := k) (b := 0) (q := 96) (r := 101) hX dX7_spent_93 rfl rfl rfl rfl (by omega) (by omega) (fun c93_1 => ?_) (fun c93_1 => ?_)
                · refine s_bipush (q := 103) (v := (-4)) hX dX7_spent_101 rfl rfl (by decide) ?_
                  refine s_iret hX dX7_spent_103 (Or.inl rfl) ⟨Nat.le_refl _, Nat.le_refl _, Nat.le_refl _, ?_⟩
                  exfalso; omega
                · refine s_iload (q := 98) hX dX7_spent_96 rfl rfl ?_
                  refine s_goto (q := 103) hX dX7_spent_98 rfl ?_
                  refine s_iret hX dX7_spent_103 (Or.inl rfl) ⟨Nat.le_refl _, Nat.le_refl _, Nat.le_refl _, ?_⟩
                  exact hcon.ret (by unfold gA.spent; rw [ra]; dsimp only; rw [rw]; dsimp only; rw [if_pos (by omega), hwy]) m1 f1
        | succ m ih =>
          intro c M1 hc m1 f1
          have hcl := hcn c
          have hcff := hcf c
          have hx := ih (c + 1)
          have es : sumN (fun c => if pv c = true then 1 else 0) (c + 1) = sumN (fun c => if pv c = true then 1 else 0) c + (if pv c = true then 1 else 0) := rfl
          rw [es] at hx
          by_cases hp : pv c = true
          · have hp2 := hp
            rw [hpv] at hp2
            rw [if_pos hp] at hx
            cases hf : fstN (fun c => if pv c = true then some c else none) c with
            | none =>
              have hz := hcff.mpr hf
              rw [show fstN (fun c => if pv c = true then some c else none) (c + 1) = some c from (fstN_z9 hf).trans (if_pos hp), hz] at hx
              rw [hz]
              refine s_iload (q := 41) hX dX7_spent_39 rfl rfl ?_
              refine s_aload_n (q := 42) hX dX7_spent_41 rfl rfl ?_
              refine s_iload_n (q := 43) hX dX7_spent_42 rfl rfl ?_
              refine s_invv1_1 (q := 46) hX dX7_spent_43 rfl glk_7_167 (by assumption) (Nat.le_of_ble_eq_true rfl) ⟨Nat.le_refl _, Nat.le_refl _⟩ (by omega) (m_power (d := 0) (n := S.N.la i S.N.n) hC0 m1 hk0 hb (by omega) ?_) 
              refine ⟨_, rfl, ?_⟩
              refine s_icmp_ge_f (q := 49) (r := 83) hX dX7_spent_46 rfl rfl (nI_ge (by omega) (by omega)) ?_
              refine s_aload_n (q := 50) hX dX7_spent_49 rfl rfl ?_
              refine s_iload_n (q := 51) hX dX7_spent_50 rfl rfl ?_
              refine s_iload_n (q := 52) hX dX7_spent_51 rfl rfl ?_
              refine s_iload (q := 54) hX dX7_spent_52 rfl rfl ?_
              refine s_invv3_1 (q := 57) hX dX7_spent_54 rfl glk_7_173 (by assumption) (Nat.le_of_ble_eq_true rfl) ⟨Nat.le_refl _, Nat.le_refl _⟩ (by omega) (m_isSpent (d := 3) (c := c) (L := S.N.la i S.N.n) (Nat.le_refl _) hC0 m1 hk0 hb hi (by omega) (by omega) (fun M2 m2 f2 => ?_)) 
              refine ⟨_, rfl, ?_⟩
              refine s_topi (v := 1) (if_pos hp2) ?_
              refine s_if_eq_f (q := 60) (r := 77) hX dX7_spent_57 rfl rfl (by decide) ?_
              refine s_iload (q := 62) hX dX7_spent_60 rfl rfl ?_
              refine s_if_ne_f (q := 65) (r := 70) hX dX7_spent_62 rfl rfl (by decide) ?_
              refine s_iload (q := 67) hX dX7_spent_65 rfl rfl ?_
              refine s_goto (q := 72) hX dX7_spent_67 rfl ?_
              refine s_istore (q := 74) (lv' := [(0, _), (1, _), (2, _), (3, _), (4, _), (5, _), (6, _)]) hX dX7_spent_72 rfl (Nat.le_of_ble_eq_true rfl) rfl ?_
              refine s_iinc (q := 77) (v := 1) (lv' := [(0, _), (1, _), (2, _), (3, _), (4, _), (5, _), (6, _)]) hX dX7_spent_74 rfl rfl (by decide) (Nat.le_of_ble_eq_true rfl) rfl ?_
              refine s_iinc (q := 80) (v := nI (c + 1)) (lv' := [(0, _), (1, _), (2, _), (3, _), (4, _), (5, _), (6, _)]) hX dX7_spent_77 rfl rfl (nI_add (c) 1) (Nat.le_of_ble_eq_true rfl) rfl ?_
              refine s_goto (q := 39) hX dX7_spent_80 rfl ?_
              exact hx M2 (by omega) m2 (fun c hc => by rw [f2 c hc]; exact f1 c hc)
            | some f =>
              have hnz : ¬ sumN (fun c => if pv c = true then 1 else 0) c = 0 := fun z => by rw [hcff.mp z] at hf; cases hf
              rw [fstN_w9 hf] at hx
              refine s_iload (q := 41) hX dX7_spent_39 rfl rfl ?_
              refine s_aload_n (q := 42) hX dX7_spent_41 rfl rfl ?_
              refine s_iload_n (q := 43) hX dX7_spent_42 rfl rfl ?_
              refine s_invv1_1 (q := 46) hX dX7_spent_43 rfl glk_7_167 (by assumption) (Nat.le_of_ble_eq_true rfl) ⟨Nat.le_refl _, Nat.le_refl _⟩ (by omega) (m_power (d := 0) (n := S.N.la i S.N.n) hC0 m1 hk0 hb (by omega) ?_) 
              refine ⟨_, rfl, ?_⟩
              refine s_icmp_ge_f (q := 49) (r := 83) hX dX7_spent_46 rfl rfl (nI_ge (by omega) (by omega)) ?_
              refine s_aload_n (q := 50) hX dX7_spent_49 rfl rfl ?_
              refine s_iload_n (q := 51) hX dX7_spent_50 rfl rfl ?_
              refine s_iload_n (q := 52) hX dX7_spent_51 rfl rfl ?_
              refine s_iload (q := 54) hX dX7_spent_52 rfl rfl ?_
              refine s_invv3_1 (q := 57) hX dX7_spent_54 rfl glk_7_173 (by assumption) (Nat.le_of_ble_eq_true rfl) ⟨Nat.le_refl _, Nat.le_refl _⟩ (by omega) (m_isSpent (d := 3) (c := c) (L := S.N.la i S.N.n) (Nat.le_refl _) hC0 m1 hk0 hb hi (by omega) (by omega) (fun M2 m2 f2 => ?_)) 
              refine ⟨_, rfl, ?_⟩
              refine s_topi (v := 1) (if_pos hp2) ?_
              refine s_if_eq_f (q := 60) (r := 77) hX dX7_spent_57 rfl rfl (by decide) ?_
              refine s_iload (q := 62) hX dX7_spent_60 rfl rfl ?_
              refine s_nif_ne (a := sumN (fun c => if pv c = true then 1 else 0) c) (b := 0) (q := 65) (r := 70) hX dX7_spent_62 rfl rfl rfl rfl (by omega) (by omega) (fun c62 => ?_) (fun c62 => ?_)
              · refine s_iload (q := 72) hX dX7_spent_70 rfl rfl ?_
                refine s_istore (q := 74) (lv' := [(0, _), (1, _), (2, _), (3, _), (4, _), (5, _), (6, _)]) hX dX7_spent_72 rfl (Nat.le_of_ble_eq_true rfl) rfl ?_
                refine s_iinc (q := 77) (v := nI (sumN (fun c => if pv c = true then 1 else 0) c + 1)) (lv' := [(0, _), (1, _), (2, _), (3, _), (4, _), (5, _), (6, _)]) hX dX7_spent_74 rfl rfl (nI_add (sumN (fun c => if pv c = true then 1 else 0) c) 1) (Nat.le_of_ble_eq_true rfl) rfl ?_
                refine s_iinc (q := 80) (v := nI (c + 1)) (lv' := [(0, _), (1, _), (2, _), (3, _), (4, _), (5, _), (6, _)]) hX dX7_spent_77 rfl rfl (nI_add (c) 1) (Nat.le_of_ble_eq_true rfl) rfl ?_
                refine s_goto (q := 39) hX dX7_spent_80 rfl ?_
                first
                  | (exfalso; omega)
                  | exact hx M2 (by omega) m2 (fun c hc => by rw [f2 c hc]; exact f1 c hc)
              · refine s_iload (q := 67) hX dX7_spent_65 rfl rfl ?_
                refine s_goto (q := 72) hX dX7_spent_67 rfl ?_
                refine s_istore (q := 74) (lv' := [(0, _), (1, _), (2, _), (3, _), (4, _), (5, _), (6, _)]) hX dX7_spent_72 rfl (Nat.le_of_ble_eq_true rfl) rfl ?_
                refine s_iinc (q := 77) (v := nI (sumN (fun c => if pv c = true then 1 else 0) c + 1)) (lv' := [(0, _), (1, _), (2, _), (3, _), (4, _), (5, _), (6, _)]) hX dX7_spent_74 rfl rfl (nI_add (sumN (fun c => if pv c = true then 1 else 0) c) 1) (Nat.le_of_ble_eq_true rfl) rfl ?_
                refine s_iinc (q := 80) (v := nI (c + 1)) (lv' := [(0, _), (1, _), (2, _), (3, _), (4, _), (5, _), (6, _)]) hX dX7_spent_77 rfl rfl (nI_add (c) 1) (Nat.le_of_ble_eq_true rfl) rfl ?_
                refine s_goto (q := 39) hX dX7_spent_80 rfl ?_
                first
                  | (exfalso; omega)
                  | exact hx M2 (by omega) m2 (fun c hc => by rw [f2 c hc]; exact f1 c hc)
          · have hp2 := hp
            rw [hpv] at hp2
            rw [if_neg hp, fstN_y9 (if_neg hp)] at hx
            refine s_iload (q := 41) hX dX7_spent_39 rfl rfl ?_
            refine s_aload_n (q := 42) hX dX7_spent_41 rfl rfl ?_
            refine s_iload_n (q := 43) hX dX7_spent_42 rfl rfl ?_
            refine s_invv1_1 (q := 46) hX dX7_spent_43 rfl glk_7_167 (by assumption) (Nat.le_of_ble_eq_true rfl) ⟨Nat.le_refl _, Nat.le_refl _⟩ (by omega) (m_power (d := 0) (n := S.N.la i S.N.n) hC0 m1 hk0 hb (by omega) ?_) 
            refine ⟨_, rfl, ?_⟩
            refine s_icmp_ge_f (q := 49) (r := 83) hX dX7_spent_46 rfl rfl (nI_ge (by omega) (by omega)) ?_
            refine s_aload_n (q := 50) hX dX7_spent_49 rfl rfl ?_
            refine s_iload_n (q := 51) hX dX7_spent_50 rfl rfl ?_
            refine s_iload_n (q := 52) hX dX7_spent_51 rfl rfl ?_
            refine s_iload (q := 54) hX dX7_spent_52 rfl rfl ?_
            refine s_invv3_1 (q := 57) hX dX7_spent_54 rfl glk_7_173 (by assumption) (Nat.le_of_ble_eq_true rfl) ⟨Nat.le_refl _, Nat.le_refl _⟩ (by omega) (m_isSpent (d := 3) (c := c) (L := S.N.la i S.N.n) (Nat.le_refl _) hC0 m1 hk0 hb hi (by omega) (by omega) (fun M2 m2 f2 => ?_)) 
            refine ⟨_, rfl, ?_⟩
            refine s_topi (v := 0) (if_neg hp2) ?_
            refine s_if_eq_t (q := 60) (r := 77) hX dX7_spent_57 rfl rfl (by decide) ?_
            refine s_iinc (q := 80) (v := nI (c + 1)) (lv' := [(0, _), (1, _), (2, _), (3, _), (4, _), (5, _), (6, _)]) hX dX7_spent_77 rfl rfl (nI_add (c) 1) (Nat.le_of_ble_eq_true rfl) rfl ?_
            refine s_goto (q := 39) hX dX7_spent_80 rfl ?_
            exact hx M2 (by omega) m2 (fun c hc => by rw [f2 c hc]; exact f1 c hc)
      exact L ((S.T.D + 1) ^ (S.N.la i S.N.n)) 0 M (by omega) hS0 (fun _ _ => rfl)
