theorem TRM.init {M M1 : gM} {S : gA} (hS : MOD M S) (hP : S.T.P ≤ 6) (hu : S.un.1 ≤ 8) (hk : S.kp.1 ≤ 2) (f1 : ∀ c, c ≠ 93 → M1 c = M c) (f2 : ∀ k, k < 31 → M1 93 (341 + k) = M 93 (0 + k)) (f3 : ∀ j, (j < 341 ∨ 341 + 31 ≤ j) → M1 93 j = M 93 j) : TRM M M1 S S.U :=
  ⟨hS.kp hP hu hk (fun k _ => by rw [f1 83 (by decide)]) (fun c _ _ h _ _ => f1 c h) (fun j hj => f3 j (by omega)), hS.2.2.1.mv hP f2, fun c hc => f1 c (by omega)⟩
theorem stm_tk {M M' : gM} {a P j0 : Nat} {U : gU} (hU : STM M a P U) (hP : P ≤ 6) (hj : j0 < 3 * P) (hM : M' 93 = upd (M 93) (a + 1 + j0) (nI (U.h j0 - 1))) : STM M' a P (U.tk j0) := by
  refine ⟨?_, fun j hj => ?_, fun j hj => ?_, fun j hj => ?_⟩
  · rw [hM, pk_un (by omega)]; exact hU.1
  · show _ = nI (if j = j0 then U.h j - 1 else U.h j)
    rw [hM]
    by_cases e : j = j0
    · subst e; rw [pk_us, if_pos rfl]
    · rw [pk_un (by omega), if_neg e]; exact hU.2.1 j hj
  · rw [hM, pk_un (by omega)]; exact hU.2.2.1 j hj
  · rw [hM, pk_un (by omega)]; exact hU.2.2.2 j hj
theorem tk_ok {U : gU} {P j0 : Nat} (h : U.ok P) : (U.tk j0).ok P := by
  refine ⟨fun j hj => ?_, h.2⟩
  have := h.1 j hj
  show (if j = j0 then U.h j - 1 else U.h j) ≤ 99
  split <;> omega
set_option maxHeartbeats 4000000 in
set_option maxRecDepth 100000 in
theorem p_levy {d b : Nat} {z w : Int32} {S : gA} {sh : List gS} {M : gM} {Q : Option Value → List gS → gM → Prop} (hd : 2 ≤ d) (hC : isMod sh) (hS : MOD M S) (hk : S.ok b) (hb : b ≤ 20000) (hcon : kM sh M (S.levy z w) Q) : gC mX7_levy d 0 0 [.ref 83, .int z, .int w] sh M Q := by
  have hC0 := hC
  obtain ⟨y0, y1, y2, y3, y4, y5, y6, y7, y8, y9, y10, y11, y12, y13, y14, y15⟩ := hC
  have hS0 := hS
  have hk0 := hk
  obtain ⟨⟨a1, a1x⟩, a2, a3, ⟨a4, a4x⟩, ⟨a5, a5x⟩, a6⟩ := hS
  obtain ⟨g1, g2, g3, g4, g5, g6, g7⟩ := hk
  have g0 := g1
  obtain ⟨o1, o2, o3, o4, o5, o6, o7, o8⟩ := g0
  refine gC_of (rt := 1) (ini := false) gm_X7_levy rfl (by decide) (Nat.le_of_ble_eq_true rfl) (fun X hX => ?_)
  refine s_iload_n (q := 1) hX dX7_levy_0 rfl rfl ?_
  refine s_invs1_1 (q := 4) hX dX7_levy_1 rfl glk_7_147 (by decide) (Nat.le_of_ble_eq_true rfl) ⟨Nat.le_refl _, Nat.le_refl _⟩ (by omega) (m_isSort (d := 1) (x := z) (Nat.le_refl _) (fun rc => ?_) (fun s rc hs es => ?_)) 
  · refine ⟨_, rfl, ?_⟩
    refine s_if_eq_t (q := 7) (r := 17) hX dX7_levy_4 rfl rfl (by decide) ?_
    refine s_iconst (q := 18) (v := (-1)) hX dX7_levy_17 rfl rfl ?_
    refine s_iret hX dX7_levy_18 (Or.inl rfl) ⟨Nat.le_refl _, Nat.le_refl _, Nat.le_refl _, ?_⟩
    exact hcon.ret (by first | (unfold gA.levy; rw [rc]; dsimp only; rw [rw]) | (unfold gA.levy; rw [rc])) hS0 (fun _ _ => rfl)
  · subst es
    refine ⟨_, rfl, ?_⟩
    refine s_if_eq_f (q := 7) (r := 17) hX dX7_levy_4 rfl rfl (by decide) ?_
    refine s_iload_n (q := 8) hX dX7_levy_7 rfl rfl ?_
    refine s_iconst (q := 9) (v := 1) hX dX7_levy_8 rfl rfl ?_
    refine s_bipush (q := 11) (v := 99) hX dX7_levy_9 rfl rfl (by decide) ?_
    refine s_invs3_1 (q := 14) hX dX7_levy_11 rfl glk_7_66 (by decide) (Nat.le_of_ble_eq_true rfl) ⟨Nat.le_refl _, Nat.le_refl _⟩ (by omega) (m_rng (d := 0) (x := w) (lo := 1) (n := 100) rfl rfl (by decide) (by decide) (fun rw => ?_) (fun n rw ln hn en => ?_)) 
    · refine ⟨_, rfl, ?_⟩
      refine s_if_ne_f (q := 17) (r := 19) hX dX7_levy_14 rfl rfl (by decide) ?_
      refine s_iconst (q := 18) (v := (-1)) hX dX7_levy_17 rfl rfl ?_
      refine s_iret hX dX7_levy_18 (Or.inl rfl) ⟨Nat.le_refl _, Nat.le_refl _, Nat.le_refl _, ?_⟩
      exact hcon.ret (by first | (unfold gA.levy; rw [rc]; dsimp only; rw [rw]) | (unfold gA.levy; rw [rc])) hS0 (fun _ _ => rfl)
    · subst en
      refine ⟨_, rfl, ?_⟩
      refine s_if_ne_t (q := 17) (r := 19) hX dX7_levy_14 rfl rfl (by decide) ?_
      refine s_aload_n (q := 20) hX dX7_levy_19 rfl rfl ?_
      refine s_invv0_0 (q := 23) hX dX7_levy_20 rfl glk_7_134 (by assumption) (Nat.le_of_ble_eq_true rfl) ⟨Nat.le_refl _, Nat.le_refl _⟩ (by omega) (m_know (d := 1) (Nat.le_refl _) hC0 hS0 hk0 hb (fun M1 w1 w2 => ?_)) 
      refine ⟨rfl, ?_⟩
      refine s_iconst (q := 24) (v := 0) hX dX7_levy_23 rfl rfl ?_
      refine s_istore_n (q := 25) (lv' := [(0, _), (1, _), (2, _), (3, _)]) hX dX7_levy_24 rfl (Nat.le_of_ble_eq_true rfl) rfl ?_
      have L : ∀ (m k : Nat) (V : gU) (M' : gM), k + m = n → k + (S.T.lev s m V).1 = (S.T.lev s n S.U).1 → (S.T.lev s m V).2 = (S.T.lev s n S.U).2 → V.ok S.T.P → MOD M' (S.know.setU V) → (∀ c, c < 83 → M' c = M c) → X 25 [(0, .ref 83), (1, .int (nI s)), (2, .int (nI n)), (3, .int (nI k))] [] sh M' 0 0 := by
        intro m
        induction m with
        | zero =>
          intro k V M' h1 h2 h3 h4 h5 h6
          have e : k = n := by omega
          subst e
          refine s_iload_n (q := 26) hX dX7_levy_25 rfl rfl ?_
          refine s_iload_n (q := 27) hX dX7_levy_26 rfl rfl ?_
          refine s_icmp_ge_t (q := 30) (r := 132) hX dX7_levy_27 rfl rfl (Int32.le_refl _) ?_
          refine s_iload_n (q := 133) hX dX7_levy_132 rfl rfl ?_
          refine s_iret hX dX7_levy_133 (Or.inl rfl) ⟨Nat.le_refl _, Nat.le_refl _, Nat.le_refl _, ?_⟩
          exact hcon.ret (by unfold gA.levy; rw [rc]; dsimp only; rw [rw]; dsimp only; rw [← h2, ← h3]; rfl) h5 h6
        | succ m ih =>
          intro k V M' h1 h2 h3 h4 h5 h6
          have hW' : TWM M' S.T := h5.2.1
          have hV : STM M' 0 S.T.P V := h5.2.2.1
          have hmx := V.mx_lt s S.T.P g2
          have I : ∀ (q i : Nat), 1 ≤ i → i + q = S.T.P → X 36 [(0, .ref 83), (1, .int (nI s)), (2, .int (nI n)), (3, .int (nI k)), (4, .int (nI (V.mx s i))), (5, .int (nI i))] [] sh M' 0 0 := by
            intro q
            induction q with
            | zero =>
              intro i hi1 hi
              have e : i = S.T.P := by omega
              rw [e]
              have hh := hV.2.1 (3 * V.mx s S.T.P + s) (by omega)
              have h99 := h4.1 (3 * V.mx s S.T.P + s) (by omega)
              have hlv : S.T.lev s (m + 1) V = if V.h (3 * V.mx s S.T.P + s) = 0 then (0, V) else ((S.T.lev s m (V.tk (3 * V.mx s S.T.P + s))).1 + 1, (S.T.lev s m (V.tk (3 * V.mx s S.T.P + s))).2) := rfl
              refine s_iload (q := 38) hX dX7_levy_36 rfl rfl ?_
              refine s_aload_n (q := 39) hX dX7_levy_38 rfl rfl ?_
              refine s_getr (q := 42) hX dX7_levy_39 rfl gfl_7_13 (by assumption) rfl ?_
              refine s_iconst (q := 43) (v := 0) hX dX7_levy_42 rfl rfl ?_
              refine s_iald (k := 0) (q := 44) hX dX7_levy_43 rfl (by assumption) rfl (by omega) (by omega) ?_
              refine s_topi (v := nI (S.T.P)) hW'.1 ?_
              refine s_icmp_ge_t (q := 47) (r := 91) hX dX7_levy_44 rfl rfl (Int32.le_refl _) ?_
              refine s_aload_n (q := 92) hX dX7_levy_91 rfl rfl ?_
              refine s_getr (q := 95) hX dX7_levy_92 rfl gfl_7_38 (by assumption) rfl ?_
              refine s_iconst (q := 96) (v := 1) hX dX7_levy_95 rfl rfl ?_
              refine s_iconst (q := 97) (v := 3) hX dX7_levy_96 rfl rfl ?_
              refine s_iload (q := 99) hX dX7_levy_97 rfl rfl ?_
              refine s_imul (q := 100) (v := nI (3 * (V.mx s S.T.P))) hX dX7_levy_99 rfl (pk_mul (3) (V.mx s S.T.P)) ?_
              refine s_iadd (q := 101) (v := nI (1 + (3 * (V.mx s S.T.P)))) hX dX7_levy_100 rfl (nI_add (1) (3 * (V.mx s S.T.P))) ?_
              refine s_iload_n (q := 102) hX dX7_levy_101 rfl rfl ?_
              refine s_iadd (q := 103) (v := nI (1 + (3 * (V.mx s S.T.P)) + s)) hX dX7_levy_102 rfl (nI_add (1 + (3 * (V.mx s S.T.P))) (s)) ?_
              refine s_iald (k := 1 + (3 * (V.mx s S.T.P)) + s) (q := 104) hX dX7_levy_103 rfl (by assumption) rfl (by omega) (by omega) ?_
              refine s_topi (v := nI (V.h (3 * V.mx s S.T.P + s))) (by rw [show 1 + 3 * V.mx s S.T.P + s = 0 + 1 + (3 * V.mx s S.T.P + s) by omega]; exact hh) ?_
              refine s_nif_ne (a := V.h (3 * V.mx s S.T.P + s)) (b := 0) (q := 107) (r := 109) hX dX7_levy_104 rfl rfl rfl rfl (by omega) (by omega) (fun c104 => ?_) (fun c104 => ?_)
              · refine s_aload_n (q := 110) hX dX7_levy_109 rfl rfl ?_
                refine s_getr (q := 113) hX dX7_levy_110 rfl gfl_7_38 (by assumption) rfl ?_
                refine s_iconst (q := 114) (v := 1) hX dX7_levy_113 rfl rfl ?_
                refine s_iconst (q := 115) (v := 3) hX dX7_levy_114 rfl rfl ?_
                refine s_iload (q := 117) hX dX7_levy_115 rfl rfl ?_
                refine s_imul (q := 118) (v := nI (3 * (V.mx s S.T.P))) hX dX7_levy_117 rfl (pk_mul (3) (V.mx s S.T.P)) ?_
                refine s_iadd (q := 119) (v := nI (1 + (3 * (V.mx s S.T.P)))) hX dX7_levy_118 rfl (nI_add (1) (3 * (V.mx s S.T.P))) ?_
                refine s_iload_n (q := 120) hX dX7_levy_119 rfl rfl ?_
                refine s_iadd (q := 121) (v := nI (1 + (3 * (V.mx s S.T.P)) + s)) hX dX7_levy_120 rfl (nI_add (1 + (3 * (V.mx s S.T.P))) (s)) ?_
                refine s_dup2 (q := 122) hX dX7_levy_121 rfl rfl rfl ?_
                refine s_iald (k := 1 + (3 * (V.mx s S.T.P)) + s) (q := 123) hX dX7_levy_122 rfl (by assumption) rfl (by omega) (by omega) ?_
                refine s_topi (v := nI (V.h (3 * V.mx s S.T.P + s))) (by rw [show 1 + 3 * V.mx s S.T.P + s = 0 + 1 + (3 * V.mx s S.T.P + s) by omega]; exact hh) ?_
                refine s_iconst (q := 124) (v := 1) hX dX7_levy_123 rfl rfl ?_
                refine s_isub (q := 125) (v := nI (V.h (3 * V.mx s S.T.P + s) - 1)) hX dX7_levy_124 rfl (pk_sub (a := V.h (3 * V.mx s S.T.P + s)) (b := 1) (by omega)) ?_
                refine s_iast (k := 1 + (3 * (V.mx s S.T.P)) + s) (q := 126) hX dX7_levy_125 rfl (by assumption) rfl (by omega) (by omega) ?_
                refine s_iinc (q := 129) (v := nI (k + 1)) (lv' := [(0, _), (1, _), (2, _), (3, _), (4, _), (5, _)]) hX dX7_levy_126 rfl rfl (nI_add (k) 1) (Nat.le_of_ble_eq_true rfl) rfl ?_
                refine s_goto (q := 25) hX dX7_levy_129 rfl ?_
                rw [hlv, if_neg (by omega)] at h2 h3
                have h2 : k + ((S.T.lev s m (V.tk (3 * V.mx s S.T.P + s))).1 + 1) = _ := h2
                refine s_dl hX (s_dl hX (ih (k + 1) (V.tk (3 * V.mx s S.T.P + s)) _ (by omega) (by omega) h3 (tk_ok h4) (MOD.stU (S := S.know.setU V) h5 o1 (Nat.min_le_left _ _) g5.1 (stm_tk (j0 := 3 * V.mx s S.T.P + s) hV o1 (show 3 * V.mx s S.T.P + s < 3 * S.T.P by omega) ?_) (FRM.one (by omega) (by omega))) (fun c hc => by rw [gsr_n _ _ (by omega)]; exact h6 c hc)))
                rw [gsr_s, show 1 + 3 * V.mx s S.T.P + s = 0 + 1 + (3 * V.mx s S.T.P + s) by omega]
              · refine s_iload_n (q := 108) hX dX7_levy_107 rfl rfl ?_
                refine s_iret hX dX7_levy_108 (Or.inl rfl) ⟨Nat.le_refl _, Nat.le_refl _, Nat.le_refl _, ?_⟩
                rw [hlv, if_pos (by omega)] at h2 h3
                exact hcon.ret (by unfold gA.levy; rw [rc]; dsimp only; rw [rw]; dsimp only; rw [← h2, ← h3]; rfl) h5 h6
            | succ q ihq =>
              intro i hi1 hi
              have hm1 := V.mx_lt s i (by omega)
              have hE : V.mx s (i + 1) = if V.h (3 * V.mx s i + s) < V.h (3 * i + s) then i else V.mx s i := if_neg (by omega)
              have hx := ihq (i + 1) (by omega) (by omega)
              rw [hE] at hx
              have q1 := h4.1 (3 * i + s) (by omega)
              have q2 := h4.1 (3 * V.mx s i + s) (by omega)
              refine s_iload (q := 38) hX dX7_levy_36 rfl rfl ?_
              refine s_aload_n (q := 39) hX dX7_levy_38 rfl rfl ?_
              refine s_getr (q := 42) hX dX7_levy_39 rfl gfl_7_13 (by assumption) rfl ?_
              refine s_iconst (q := 43) (v := 0) hX dX7_levy_42 rfl rfl ?_
              refine s_iald (k := 0) (q := 44) hX dX7_levy_43 rfl (by assumption) rfl (by omega) (by omega) ?_
              refine s_topi (v := nI (S.T.P)) hW'.1 ?_
              refine s_icmp_ge_f (q := 47) (r := 91) hX dX7_levy_44 rfl rfl (Int32.not_le.mpr (nI_lt (by omega) (by omega))) ?_
              refine s_aload_n (q := 48) hX dX7_levy_47 rfl rfl ?_
              refine s_getr (q := 51) hX dX7_levy_48 rfl gfl_7_38 (by assumption) rfl ?_
              refine s_iconst (q := 52) (v := 1) hX dX7_levy_51 rfl rfl ?_
              refine s_iconst (q := 53) (v := 3) hX dX7_levy_52 rfl rfl ?_
              refine s_iload (q := 55) hX dX7_levy_53 rfl rfl ?_
              refine s_imul (q := 56) (v := nI (3 * i)) hX dX7_levy_55 rfl (pk_mul (3) (i)) ?_
              refine s_iadd (q := 57) (v := nI (1 + (3 * i))) hX dX7_levy_56 rfl (nI_add (1) (3 * i)) ?_
              refine s_iload_n (q := 58) hX dX7_levy_57 rfl rfl ?_
              refine s_iadd (q := 59) (v := nI (1 + (3 * i) + s)) hX dX7_levy_58 rfl (nI_add (1 + (3 * i)) (s)) ?_
              refine s_iald (k := 1 + (3 * i) + s) (q := 60) hX dX7_levy_59 rfl (by assumption) rfl (by omega) (by omega) ?_
              refine s_topi (v := nI (V.h (3 * i + s))) (by rw [show 1 + 3 * i + s = 0 + 1 + (3 * i + s) by omega]; exact hV.2.1 _ (by omega)) ?_
              refine s_aload_n (q := 61) hX dX7_levy_60 rfl rfl ?_
              refine s_getr (q := 64) hX dX7_levy_61 rfl gfl_7_38 (by assumption) rfl ?_
              refine s_iconst (q := 65) (v := 1) hX dX7_levy_64 rfl rfl ?_
              refine s_iconst (q := 66) (v := 3) hX dX7_levy_65 rfl rfl ?_
              refine s_iload (q := 68) hX dX7_levy_66 rfl rfl ?_
              refine s_imul (q := 69) (v := nI (3 * (V.mx s i))) hX dX7_levy_68 rfl (pk_mul (3) (V.mx s i)) ?_
              refine s_iadd (q := 70) (v := nI (1 + (3 * (V.mx s i)))) hX dX7_levy_69 rfl (nI_add (1) (3 * (V.mx s i))) ?_
              refine s_iload_n (q := 71) hX dX7_levy_70 rfl rfl ?_
              refine s_iadd (q := 72) (v := nI (1 + (3 * (V.mx s i)) + s)) hX dX7_levy_71 rfl (nI_add (1 + (3 * (V.mx s i))) (s)) ?_
              refine s_iald (k := 1 + (3 * (V.mx s i)) + s) (q := 73) hX dX7_levy_72 rfl (by assumption) rfl (by omega) (by omega) ?_
              refine s_topi (v := nI (V.h (3 * V.mx s i + s))) (by rw [show 1 + 3 * V.mx s i + s = 0 + 1 + (3 * V.mx s i + s) by omega]; exact hV.2.1 _ (by omega)) ?_
              refine s_nicmp_le (a := V.h (3 * i + s)) (b := V.h (3 * V.mx s i + s)) (q := 76) (r := 81) hX dX7_levy_73 rfl rfl rfl rfl (by omega) (by omega) (fun c73 => ?_) (fun c73 => ?_)
              · refine s_iload (q := 83) hX dX7_levy_81 rfl rfl ?_
                refine s_istore (q := 85) (lv' := [(0, _), (1, _), (2, _), (3, _), (4, _), (5, _)]) hX dX7_levy_83 rfl (Nat.le_of_ble_eq_true rfl) rfl ?_
                refine s_iinc (q := 88) (v := nI (i + 1)) (lv' := [(0, _), (1, _), (2, _), (3, _), (4, _), (5, _)]) hX dX7_levy_85 rfl rfl (nI_add (i) 1) (Nat.le_of_ble_eq_true rfl) rfl ?_
                refine s_goto (q := 36) hX dX7_levy_88 rfl ?_
                rw [if_neg (by omega)] at hx
                exact hx
              · refine s_iload (q := 78) hX dX7_levy_76 rfl rfl ?_
                refine s_goto (q := 83) hX dX7_levy_78 rfl ?_
                refine s_istore (q := 85) (lv' := [(0, _), (1, _), (2, _), (3, _), (4, _), (5, _)]) hX dX7_levy_83 rfl (Nat.le_of_ble_eq_true rfl) rfl ?_
                refine s_iinc (q := 88) (v := nI (i + 1)) (lv' := [(0, _), (1, _), (2, _), (3, _), (4, _), (5, _)]) hX dX7_levy_85 rfl rfl (nI_add (i) 1) (Nat.le_of_ble_eq_true rfl) rfl ?_
                refine s_goto (q := 36) hX dX7_levy_88 rfl ?_
                rw [if_pos (by omega)] at hx
                exact hx
          refine s_iload_n (q := 26) hX dX7_levy_25 rfl rfl ?_
          refine s_iload_n (q := 27) hX dX7_levy_26 rfl rfl ?_
          refine s_icmp_ge_f (q := 30) (r := 132) hX dX7_levy_27 rfl rfl (nI_ge (by omega) (by omega)) ?_
          refine s_iconst (q := 31) (v := 0) hX dX7_levy_30 rfl rfl ?_
          refine s_istore (q := 33) (lv' := [(0, _), (1, _), (2, _), (3, _), (4, _)]) hX dX7_levy_31 rfl (Nat.le_of_ble_eq_true rfl) rfl ?_
          refine s_iconst (q := 34) (v := 1) hX dX7_levy_33 rfl rfl ?_
          refine s_istore (q := 36) (lv' := [(0, _), (1, _), (2, _), (3, _), (4, _), (5, _)]) hX dX7_levy_34 rfl (Nat.le_of_ble_eq_true rfl) rfl ?_
          have i1 := I (S.T.P - 1) 1 (by omega) (by omega)
          rw [show V.mx s 1 = 0 from rfl] at i1
          exact i1
      exact L n 0 S.U M1 (by omega) (Nat.zero_add _) rfl g3.1 w1 w2
set_option maxHeartbeats 4000000 in
set_option maxRecDepth 100000 in
theorem p_behind {d b : Nat} {x y z : Int32} {S : gA} {sh : List gS} {M : gM} {Q : Option Value → List gS → gM → Prop} (hd : 4 ≤ d) (hC : isMod sh) (hS : MOD M S) (hk : S.ok b) (hb : b ≤ 20000) (hcon : kM sh M (S.behind x y z) Q) : gC mX7_behind d 0 0 [.ref 83, .int x, .int y, .int z] sh M Q := by
  have hC0 := hC
  obtain ⟨y0, y1, y2, y3, y4, y5, y6, y7, y8, y9, y10, y11, y12, y13, y14, y15⟩ := hC
  have hS0 := hS
  have hk0 := hk
  obtain ⟨⟨a1, a1x⟩, a2, a3, ⟨a4, a4x⟩, ⟨a5, a5x⟩, a6⟩ := hS
  obtain ⟨g1, g2, g3, g4, g5, g6, g7⟩ := hk
  have g0 := g1
  obtain ⟨o1, o2, o3, o4, o5, o6, o7, o8⟩ := g0
  refine gC_of (rt := 1) (ini := false) gm_X7_behind rfl (by decide) (Nat.le_of_ble_eq_true rfl) (fun X hX => ?_)
  refine s_iload_n (q := 1) hX dX7_behind_0 rfl rfl ?_
  refine s_iconst (q := 2) (v := 0) hX dX7_behind_1 rfl rfl ?_
  refine s_bipush (q := 4) (v := 60) hX dX7_behind_2 rfl rfl (by decide) ?_
  refine s_invs3_1 (q := 7) hX dX7_behind_4 rfl glk_7_66 (by decide) (Nat.le_of_ble_eq_true rfl) ⟨Nat.le_refl _, Nat.le_refl _⟩ (by omega) (m_rng (d := 0) (x := x) (lo := 0) (n := 61) rfl rfl (by decide) (by decide) (fun rx => ?_) (fun n rx ln hn en => ?_)) 
  · refine ⟨_, rfl, ?_⟩
    refine s_if_eq_t (q := 10) (r := 27) hX dX7_behind_7 rfl rfl (by decide) ?_
    refine s_iconst (q := 28) (v := (-1)) hX dX7_behind_27 rfl rfl ?_
    refine s_iret hX dX7_behind_28 (Or.inl rfl) ⟨Nat.le_refl _, Nat.le_refl _, Nat.le_refl _, ?_⟩
    exact hcon.ret (by first | (unfold gA.behind; rw [rx]; dsimp only; rw [ry]; dsimp only; rw [rw]) | (unfold gA.behind; rw [rx]; dsimp only; rw [ry]) | (unfold gA.behind; rw [rx])) hS0 (fun _ _ => rfl)
  · subst en
    refine ⟨_, rfl, ?_⟩
    refine s_if_eq_f (q := 10) (r := 27) hX dX7_behind_7 rfl rfl (by decide) ?_
    refine s_aload_n (q := 11) hX dX7_behind_10 rfl rfl ?_
    refine s_iload_n (q := 12) hX dX7_behind_11 rfl rfl ?_
    refine s_invv1_1 (q := 15) hX dX7_behind_12 rfl glk_7_104 (by assumption) (Nat.le_of_ble_eq_true rfl) ⟨Nat.le_refl _, Nat.le_refl _⟩ (by omega) (m_isPerson (d := 1) (x := y) (Nat.le_refl _) hC0 a2 g1 (fun ry => ?_) (fun i ry hi ei => ?_)) 
    · refine ⟨_, rfl, ?_⟩
      refine s_if_eq_t (q := 18) (r := 27) hX dX7_behind_15 rfl rfl (by decide) ?_
      refine s_iconst (q := 28) (v := (-1)) hX dX7_behind_27 rfl rfl ?_
      refine s_iret hX dX7_behind_28 (Or.inl rfl) ⟨Nat.le_refl _, Nat.le_refl _, Nat.le_refl _, ?_⟩
      exact hcon.ret (by first | (unfold gA.behind; rw [rx]; dsimp only; rw [ry]; dsimp only; rw [rw]) | (unfold gA.behind; rw [rx]; dsimp only; rw [ry]) | (unfold gA.behind; rw [rx])) hS0 (fun _ _ => rfl)
    · subst ei
      refine ⟨_, rfl, ?_⟩
      refine s_if_eq_f (q := 18) (r := 27) hX dX7_behind_15 rfl rfl (by decide) ?_
      refine s_iload_n (q := 19) hX dX7_behind_18 rfl rfl ?_
      refine s_iconst (q := 20) (v := 0) hX dX7_behind_19 rfl rfl ?_
      refine s_iconst (q := 21) (v := 4) hX dX7_behind_20 rfl rfl ?_
      refine s_invs3_1 (q := 24) hX dX7_behind_21 rfl glk_7_66 (by decide) (Nat.le_of_ble_eq_true rfl) ⟨Nat.le_refl _, Nat.le_refl _⟩ (by omega) (m_rng (d := 0) (x := z) (lo := 0) (n := 5) rfl rfl (by decide) (by decide) (fun rw => ?_) (fun w rw lw hw ew => ?_)) 
      · refine ⟨_, rfl, ?_⟩
        refine s_if_ne_f (q := 27) (r := 29) hX dX7_behind_24 rfl rfl (by decide) ?_
        refine s_iconst (q := 28) (v := (-1)) hX dX7_behind_27 rfl rfl ?_
        refine s_iret hX dX7_behind_28 (Or.inl rfl) ⟨Nat.le_refl _, Nat.le_refl _, Nat.le_refl _, ?_⟩
        exact hcon.ret (by first | (unfold gA.behind; rw [rx]; dsimp only; rw [ry]; dsimp only; rw [rw]) | (unfold gA.behind; rw [rx]; dsimp only; rw [ry]) | (unfold gA.behind; rw [rx])) hS0 (fun _ _ => rfl)
      · subst ew
        refine ⟨_, rfl, ?_⟩
        refine s_if_ne_t (q := 27) (r := 29) hX dX7_behind_24 rfl rfl (by decide) ?_
        refine s_aload_n (q := 30) hX dX7_behind_29 rfl rfl ?_
        refine s_iconst (q := 31) (v := 0) hX dX7_behind_30 rfl rfl ?_
        refine s_sipush (q := 34) (v := 341) hX dX7_behind_31 rfl rfl (by decide) ?_
        refine s_invv2_0 (q := 37) hX dX7_behind_34 rfl glk_7_131 (by assumption) (Nat.le_of_ble_eq_true rfl) ⟨Nat.le_refl _, Nat.le_refl _⟩ (by omega) (m_copy (d := 0) (f := 0) (t := 341) hC0 (by omega) (by omega) (by omega) (fun M1 f1 f2 f3 => ?_)) 
        refine ⟨rfl, ?_⟩
        refine s_iconst (q := 38) (v := 0) hX dX7_behind_37 rfl rfl ?_
        refine s_istore (q := 40) (lv' := [(0, _), (1, _), (2, _), (3, _), (4, _)]) hX dX7_behind_38 rfl (Nat.le_of_ble_eq_true rfl) rfl ?_
        have L : ∀ (m j : Nat) (V : gU) (M' : gM), j + m = n → S.T.days m V = S.T.days n S.U → V.ok S.T.P → V.d + m ≤ 100000 → TRM M M' S V → X 40 [(0, .ref 83), (1, .int (nI n)), (2, .int (nI i)), (3, .int (nI w)), (4, .int (nI j))] [] sh M' 0 0 := by
          intro m
          induction m with
          | zero =>
            intro j V M' h1 h2 h3 h4 h5
            have e : j = n := by omega
            subst e
            have h2 : V = S.T.days j S.U := h2
            obtain ⟨h6, h7, h8⟩ := h5
            have hU0 : STM M' 0 S.T.P S.U := h6.2.2.1
            refine s_iload (q := 42) hX dX7_behind_40 rfl rfl ?_
            refine s_iload_n (q := 43) hX dX7_behind_42 rfl rfl ?_
            refine s_icmp_ge_t (q := 46) (r := 73) hX dX7_behind_43 rfl rfl (Int32.le_refl _) ?_
            refine s_iload_n (q := 74) hX dX7_behind_73 rfl rfl ?_
            refine s_iconst (q := 75) (v := 3) hX dX7_behind_74 rfl rfl ?_
            refine s_nicmp_ge (a := w) (b := 3) (q := 78) (r := 95) hX dX7_behind_75 rfl rfl rfl rfl (by omega) (by omega) (fun c75 => ?_) (fun c75 => ?_)
            · refine s_iload_n (q := 96) hX dX7_behind_95 rfl rfl ?_
              refine s_iconst (q := 97) (v := 3) hX dX7_behind_96 rfl rfl ?_
              refine s_nicmp_ne (a := w) (b := 3) (q := 100) (r := 111) hX dX7_behind_97 rfl rfl rfl rfl (by omega) (by omega) (fun c97 => ?_) (fun c97 => ?_)
              · refine s_aload_n (q := 112) hX dX7_behind_111 rfl rfl ?_
                refine s_getr (q := 115) hX dX7_behind_112 rfl gfl_7_38 (by assumption) rfl ?_
                refine s_sipush (q := 118) (v := 366) hX dX7_behind_115 rfl rfl (by decide) ?_
                refine s_iload_n (q := 119) hX dX7_behind_118 rfl rfl ?_
                refine s_iadd (q := 120) (v := nI (366 + i)) hX dX7_behind_119 rfl (nI_add (366) (i)) ?_
                refine s_iald (k := 366 + i) (q := 121) hX dX7_behind_120 rfl (by assumption) rfl (by omega) (by omega) ?_
                refine s_aload_n (q := 122) hX dX7_behind_121 rfl rfl ?_
                refine s_getr (q := 125) hX dX7_behind_122 rfl gfl_7_38 (by assumption) rfl ?_
                refine s_bipush (q := 127) (v := 25) hX dX7_behind_125 rfl rfl (by decide) ?_
                refine s_iload_n (q := 128) hX dX7_behind_127 rfl rfl ?_
                refine s_iadd (q := 129) (v := nI (25 + i)) hX dX7_behind_128 rfl (nI_add (25) (i)) ?_
                refine s_iald (k := 25 + i) (q := 130) hX dX7_behind_129 rfl (by assumption) rfl (by omega) (by omega) ?_
                refine s_isub (q := 131) hX dX7_behind_130 rfl rfl ?_
                refine s_iret hX dX7_behind_131 (Or.inl rfl) ⟨Nat.le_refl _, Nat.le_refl _, Nat.le_refl _, ?_⟩
                exact hcon.ret (by unfold gA.behind; rw [rx]; dsimp only; rw [ry]; dsimp only; rw [rw]; dsimp only; rw [← h2]; rw [if_neg (by omega), if_pos (by omega), ← h7.2.2.2 i hi, ← hU0.2.2.2 i hi]) h6 h8
              · refine s_aload_n (q := 101) hX dX7_behind_100 rfl rfl ?_
                refine s_sipush (q := 104) (v := 341) hX dX7_behind_101 rfl rfl (by decide) ?_
                refine s_iload_n (q := 105) hX dX7_behind_104 rfl rfl ?_
                refine s_invv2_1 (q := 108) hX dX7_behind_105 rfl glk_7_108 (by assumption) (Nat.le_of_ble_eq_true rfl) ⟨Nat.le_refl _, Nat.le_refl _⟩ (by omega) (m_hue (d := 0) (a := 341) (T := S.T) (U := V) hC0 h6.2.1 g1 h7 h3 (by omega) hi ?_) 
                refine ⟨_, rfl, ?_⟩
                refine s_goto (q := 131) hX dX7_behind_108 rfl ?_
                refine s_iret hX dX7_behind_131 (Or.inl rfl) ⟨Nat.le_refl _, Nat.le_refl _, Nat.le_refl _, ?_⟩
                exact hcon.ret (by unfold gA.behind; rw [rx]; dsimp only; rw [ry]; dsimp only; rw [rw]; dsimp only; rw [← h2]; rw [if_pos (by omega)]) h6 h8
            · refine s_aload_n (q := 79) hX dX7_behind_78 rfl rfl ?_
              refine s_getr (q := 82) hX dX7_behind_79 rfl gfl_7_38 (by assumption) rfl ?_
              refine s_sipush (q := 85) (v := 342) hX dX7_behind_82 rfl rfl (by decide) ?_
              refine s_iconst (q := 86) (v := 3) hX dX7_behind_85 rfl rfl ?_
              refine s_iload_n (q := 87) hX dX7_behind_86 rfl rfl ?_
              refine s_imul (q := 88) (v := nI (3 * i)) hX dX7_behind_87 rfl (pk_mul (3) (i)) ?_
              refine s_iadd (q := 89) (v := nI (342 + (3 * i))) hX dX7_behind_88 rfl (nI_add (342) (3 * i)) ?_
              refine s_iload_n (q := 90) hX dX7_behind_89 rfl rfl ?_
              refine s_iadd (q := 91) (v := nI (342 + (3 * i) + w)) hX dX7_behind_90 rfl (nI_add (342 + (3 * i)) (w)) ?_
              refine s_iald (k := 342 + (3 * i) + w) (q := 92) hX dX7_behind_91 rfl (by assumption) rfl (by omega) (by omega) ?_
              refine s_topi (v := nI (V.h (3 * i + w))) (by rw [show 342 + 3 * i + w = 341 + 1 + (3 * i + w) by omega]; exact h7.2.1 _ (by omega)) ?_
              refine s_goto (q := 131) hX dX7_behind_92 rfl ?_
              refine s_iret hX dX7_behind_131 (Or.inl rfl) ⟨Nat.le_refl _, Nat.le_refl _, Nat.le_refl _, ?_⟩
              exact hcon.ret (by unfold gA.behind; rw [rx]; dsimp only; rw [ry]; dsimp only; rw [rw]; dsimp only; rw [← h2]; rw [if_neg (by omega), if_neg (by omega)]) h6 h8
          | succ m ih =>
            intro j V M' h1 h2 h3 h4 h5
            obtain ⟨h6, h7, h8⟩ := h5
            obtain ⟨t1, t2⟩ := S.T.told_ok h3 S.T.P
            have t3 := S.T.sea_ok t1
            obtain ⟨t4, t5⟩ := S.T.day_ok h3 (by omega)
            refine s_iload (q := 42) hX dX7_behind_40 rfl rfl ?_
            refine s_iload_n (q := 43) hX dX7_behind_42 rfl rfl ?_
            refine s_icmp_ge_f (q := 46) (r := 73) hX dX7_behind_43 rfl rfl (nI_ge (by omega) (by omega)) ?_
            refine s_aload_n (q := 47) hX dX7_behind_46 rfl rfl ?_
            refine s_sipush (q := 50) (v := 341) hX dX7_behind_47 rfl rfl (by decide) ?_
            refine s_invv1_0 (q := 53) hX dX7_behind_50 rfl glk_7_137 (by assumption) (Nat.le_of_ble_eq_true rfl) ⟨Nat.le_refl _, Nat.le_refl _⟩ (by omega) (m_toldDeeds (d := 3) (a := 341) (T := S.T) (U := V) (Nat.le_refl _) hC0 h6.2.1 g1 h7 h3 (by omega) (fun M1 f1 u1 => ?_)) 
            refine ⟨rfl, ?_⟩
            refine s_aload_n (q := 54) hX dX7_behind_53 rfl rfl ?_
            refine s_sipush (q := 57) (v := 341) hX dX7_behind_54 rfl rfl (by decide) ?_
            refine s_invv1_0 (q := 60) hX dX7_behind_57 rfl glk_7_141 (by assumption) (Nat.le_of_ble_eq_true rfl) ⟨Nat.le_refl _, Nat.le_refl _⟩ (by omega) (m_seaAll (d := 1) (a := 341) (T := S.T) (Nat.le_refl _) hC0 (f1.tw h6.2.1) g1 u1 t1 (by omega) (fun M2 f2 u2 => ?_)) 
            refine ⟨rfl, ?_⟩
            refine s_aload_n (q := 61) hX dX7_behind_60 rfl rfl ?_
            refine s_sipush (q := 64) (v := 341) hX dX7_behind_61 rfl rfl (by decide) ?_
            refine s_invv1_0 (q := 67) hX dX7_behind_64 rfl glk_7_144 (by assumption) (Nat.le_of_ble_eq_true rfl) ⟨Nat.le_refl _, Nat.le_refl _⟩ (by omega) (m_over (d := 0) (a := 341) (T := S.T) hC0 (f2.tw (f1.tw h6.2.1)) g1 u2 t3 (by omega) (fun M3 f3 u3 => ?_)) 
            refine ⟨rfl, ?_⟩
            refine s_iinc (q := 70) (v := nI (j + 1)) (lv' := [(0, _), (1, _), (2, _), (3, _), (4, _)]) hX dX7_behind_67 rfl rfl (nI_add (j) 1) (Nat.le_of_ble_eq_true rfl) rfl ?_
            refine s_goto (q := 40) hX dX7_behind_70 rfl ?_
            exact ih (j + 1) (S.T.day V) M3 (by omega) h2 t4 (by omega) (TRM.st ⟨h6, h7, h8⟩ o1 g4.1 g5.1 (f1.tr (f2.tr f3)) u3)
        exact L n 0 S.U M1 (by omega) rfl g3.1 (by omega) (TRM.init hS0 o1 g4.1 g5.1 f1 f2 f3)
set_option maxHeartbeats 4000000 in
set_option maxRecDepth 100000 in
theorem p_grey {d b : Nat} {x : Int32} {S : gA} {sh : List gS} {M : gM} {Q : Option Value → List gS → gM → Prop} (hd : 4 ≤ d) (hC : isMod sh) (hS : MOD M S) (hk : S.ok b) (hb : b ≤ 20000) (hcon : kM sh M (S.grey x) Q) : gC mX7_grey d 0 0 [.ref 83, .int x] sh M Q := by
  have hC0 := hC
  obtain ⟨y0, y1, y2, y3, y4, y5, y6, y7, y8, y9, y10, y11, y12, y13, y14, y15⟩ := hC
  have hS0 := hS
  have hk0 := hk
  obtain ⟨⟨a1, a1x⟩, a2, a3, ⟨a4, a4x⟩, ⟨a5, a5x⟩, a6⟩ := hS
  obtain ⟨g1, g2, g3, g4, g5, g6, g7⟩ := hk
  have g0 := g1
  obtain ⟨o1, o2, o3, o4, o5, o6, o7, o8⟩ := g0
  refine gC_of (rt := 1) (ini := false) gm_X7_grey rfl (by decide) (Nat.le_of_ble_eq_true rfl) (fun X hX => ?_)
  refine s_iload_n (q := 1) hX dX7_grey_0 rfl rfl ?_
  refine s_iconst (q := 2) (v := 0) hX dX7_grey_1 rfl rfl ?_
  refine s_iconst (q := 3) (v := 1) hX dX7_grey_2 rfl rfl ?_
  refine s_invs3_1 (q := 6) hX dX7_grey_3 rfl glk_7_66 (by decide) (Nat.le_of_ble_eq_true rfl) ⟨Nat.le_refl _, Nat.le_refl _⟩ (by omega) (m_rng (d := 0) (x := x) (lo := 0) (n := 2) rfl rfl (by decide) (by decide) (fun rx => ?_) (fun w rx lw hw ew => ?_)) 
  · refine ⟨_, rfl, ?_⟩
    refine s_if_ne_f (q := 9) (r := 11) hX dX7_grey_6 rfl rfl (by decide) ?_
    refine s_iconst (q := 10) (v := (-1)) hX dX7_grey_9 rfl rfl ?_
    refine s_iret hX dX7_grey_10 (Or.inl rfl) ⟨Nat.le_refl _, Nat.le_refl _, Nat.le_refl _, ?_⟩
    exact hcon.ret (by first | (unfold gA.grey; rw [rx])) hS0 (fun _ _ => rfl)
  · subst ew
    refine ⟨_, rfl, ?_⟩
    refine s_if_ne_t (q := 9) (r := 11) hX dX7_grey_6 rfl rfl (by decide) ?_
    refine s_aload_n (q := 12) hX dX7_grey_11 rfl rfl ?_
    refine s_iconst (q := 13) (v := 0) hX dX7_grey_12 rfl rfl ?_
    refine s_sipush (q := 16) (v := 341) hX dX7_grey_13 rfl rfl (by decide) ?_
    refine s_invv2_0 (q := 19) hX dX7_grey_16 rfl glk_7_131 (by assumption) (Nat.le_of_ble_eq_true rfl) ⟨Nat.le_refl _, Nat.le_refl _⟩ (by omega) (m_copy (d := 0) (f := 0) (t := 341) hC0 (by omega) (by omega) (by omega) (fun M1 f1 f2 f3 => ?_)) 
    refine ⟨rfl, ?_⟩
    refine s_iconst (q := 20) (v := 1) hX dX7_grey_19 rfl rfl ?_
    refine s_istore_n (q := 21) (lv' := [(0, _), (1, _), (2, _)]) hX dX7_grey_20 rfl (Nat.le_of_ble_eq_true rfl) rfl ?_
    have L : ∀ (m e : Nat) (V : gU) (M' : gM), e + m = 61 → S.T.gry m V = S.T.gry 60 S.U → V.ok S.T.P → V.d + m ≤ 100000 → TRM M M' S V → X 21 [(0, .ref 83), (1, .int (nI w)), (2, .int (nI e))] [] sh M' 0 0 := by
      intro m
      induction m with
      | zero =>
        intro e V M' h1 h2 h3 h4 h5
        have e9 : e = 61 := by omega
        subst e9
        refine s_iload_n (q := 22) hX dX7_grey_21 rfl rfl ?_
        refine s_bipush (q := 24) (v := 60) hX dX7_grey_22 rfl rfl (by decide) ?_
        refine s_icmp_gt_t (q := 27) (r := 93) hX dX7_grey_24 rfl rfl (by decide) ?_
        refine s_bipush (q := 95) (v := (-4)) hX dX7_grey_93 rfl rfl (by decide) ?_
        refine s_iret hX dX7_grey_95 (Or.inl rfl) ⟨Nat.le_refl _, Nat.le_refl _, Nat.le_refl _, ?_⟩
        exact hcon.ret (by unfold gA.grey; rw [rx]; dsimp only; rw [← h2]; rfl) h5.1 h5.2.2
      | succ m ih =>
        intro e V M' h1 h2 h3 h4 h5
        obtain ⟨h6, h7, h8⟩ := h5
        obtain ⟨t1, t2⟩ := S.T.told_ok h3 S.T.P
        have t3 := S.T.sea_ok t1
        obtain ⟨t4, t5⟩ := S.T.day_ok h3 (by omega)
        refine s_iload_n (q := 22) hX dX7_grey_21 rfl rfl ?_
        refine s_bipush (q := 24) (v := 60) hX dX7_grey_22 rfl rfl (by decide) ?_
        refine s_nicmp_gt (a := e) (b := 60) (q := 27) (r := 93) hX dX7_grey_24 rfl rfl rfl rfl (by omega) (by omega) (fun c24 => ?_) (fun c24 => ?_)
        · exact absurd c24 (by omega)
        · refine s_aload_n (q := 28) hX dX7_grey_27 rfl rfl ?_
          refine s_sipush (q := 31) (v := 341) hX dX7_grey_28 rfl rfl (by decide) ?_
          refine s_invv1_0 (q := 34) hX dX7_grey_31 rfl glk_7_137 (by assumption) (Nat.le_of_ble_eq_true rfl) ⟨Nat.le_refl _, Nat.le_refl _⟩ (by omega) (m_toldDeeds (d := 3) (a := 341) (T := S.T) (U := V) (Nat.le_refl _) hC0 h6.2.1 g1 h7 h3 (by omega) (fun M1 f1 u1 => ?_)) 
          refine ⟨rfl, ?_⟩
          refine s_aload_n (q := 35) hX dX7_grey_34 rfl rfl ?_
          refine s_sipush (q := 38) (v := 341) hX dX7_grey_35 rfl rfl (by decide) ?_
          refine s_invv1_0 (q := 41) hX dX7_grey_38 rfl glk_7_141 (by assumption) (Nat.le_of_ble_eq_true rfl) ⟨Nat.le_refl _, Nat.le_refl _⟩ (by omega) (m_seaAll (d := 1) (a := 341) (T := S.T) (Nat.le_refl _) hC0 (f1.tw h6.2.1) g1 u1 t1 (by omega) (fun M2 f2 u2 => ?_)) 
          refine ⟨rfl, ?_⟩
          refine s_iconst (q := 42) (v := 0) hX dX7_grey_41 rfl rfl ?_
          refine s_istore_n (q := 43) (lv' := [(0, _), (1, _), (2, _), (3, _)]) hX dX7_grey_42 rfl (Nat.le_of_ble_eq_true rfl) rfl ?_
          have hm2 : TRM M M2 S (S.T.sea (S.T.told S.T.P V)) := TRM.st ⟨h6, h7, h8⟩ o1 g4.1 g5.1 (f1.tr f2) u2
          obtain ⟨W, hWe⟩ : ∃ W, W = S.T.sea (S.T.told S.T.P V) := ⟨_, rfl⟩
          rw [← hWe] at u2 t3 hm2
          have hgr : S.T.gry (m + 1) V = (match W.fg S.T.P with
            | some i => some (i, 60 - m)
            | none => S.T.gry m (S.T.over W)) := by rw [hWe]; rfl
          have I : ∀ (q i : Nat), i + q = S.T.P → W.fg i = none → X 43 [(0, .ref 83), (1, .int (nI w)), (2, .int (nI e)), (3, .int (nI i))] [] sh M2 0 0 := by
            intro q
            induction q with
            | zero =>
              intro i hi hfg
              have e9 : i = S.T.P := by omega
              rw [e9]
              rw [e9] at hfg
              rw [hfg] at hgr
              refine s_iload_n (q := 44) hX dX7_grey_43 rfl rfl ?_
              refine s_aload_n (q := 45) hX dX7_grey_44 rfl rfl ?_
              refine s_getr (q := 48) hX dX7_grey_45 rfl gfl_7_13 (by assumption) rfl ?_
              refine s_iconst (q := 49) (v := 0) hX dX7_grey_48 rfl rfl ?_
              refine s_iald (k := 0) (q := 50) hX dX7_grey_49 rfl (by assumption) rfl (by omega) (by omega) ?_
              refine s_topi (v := nI (S.T.P)) hm2.1.2.1.1 ?_
              refine s_icmp_ge_t (q := 53) (r := 80) hX dX7_grey_50 rfl rfl (Int32.le_refl _) ?_
              refine s_aload_n (q := 81) hX dX7_grey_80 rfl rfl ?_
              refine s_sipush (q := 84) (v := 341) hX dX7_grey_81 rfl rfl (by decide) ?_
              refine s_invv1_0 (q := 87) hX dX7_grey_84 rfl glk_7_144 (by assumption) (Nat.le_of_ble_eq_true rfl) ⟨Nat.le_refl _, Nat.le_refl _⟩ (by omega) (m_over (d := 0) (a := 341) (T := S.T) (U := W) hC0 hm2.1.2.1 g1 u2 t3 (by omega) (fun M3 f3 u3 => ?_)) 
              refine ⟨rfl, ?_⟩
              refine s_iinc (q := 90) (v := nI (e + 1)) (lv' := [(0, _), (1, _), (2, _), (3, _)]) hX dX7_grey_87 rfl rfl (nI_add (e) 1) (Nat.le_of_ble_eq_true rfl) rfl ?_
              refine s_goto (q := 21) hX dX7_grey_90 rfl ?_
              refine s_dl hX (ih (e + 1) (S.T.over W) M3 (by omega) ?_ ?_ ?_ (hm2.st o1 g4.1 g5.1 f3 u3))
              · rw [← h2, hgr]
              · rw [hWe]; exact t4
              · rw [hWe]; show (S.T.day V).d + m ≤ _; omega
            | succ q ihq =>
              intro i hi hfg
              have hhu := hueN_lt (W.tr i)
              refine s_iload_n (q := 44) hX dX7_grey_43 rfl rfl ?_
              refine s_aload_n (q := 45) hX dX7_grey_44 rfl rfl ?_
              refine s_getr (q := 48) hX dX7_grey_45 rfl gfl_7_13 (by assumption) rfl ?_
              refine s_iconst (q := 49) (v := 0) hX dX7_grey_48 rfl rfl ?_
              refine s_iald (k := 0) (q := 50) hX dX7_grey_49 rfl (by assumption) rfl (by omega) (by omega) ?_
              refine s_topi (v := nI (S.T.P)) hm2.1.2.1.1 ?_
              refine s_icmp_ge_f (q := 53) (r := 80) hX dX7_grey_50 rfl rfl (Int32.not_le.mpr (nI_lt (by omega) (by omega))) ?_
              refine s_aload_n (q := 54) hX dX7_grey_53 rfl rfl ?_
              refine s_sipush (q := 57) (v := 341) hX dX7_grey_54 rfl rfl (by decide) ?_
              refine s_iload_n (q := 58) hX dX7_grey_57 rfl rfl ?_
              refine s_invv2_1 (q := 61) hX dX7_grey_58 rfl glk_7_108 (by assumption) (Nat.le_of_ble_eq_true rfl) ⟨Nat.le_refl _, Nat.le_refl _⟩ (by omega) (m_hue (d := 0) (a := 341) (T := S.T) (U := W) hC0 hm2.1.2.1 g1 u2 t3 (by omega) (by omega) ?_) 
              refine ⟨_, rfl, ?_⟩
              refine s_nif_ne (a := hueN (W.tr i)) (b := 0) (q := 64) (r := 74) hX dX7_grey_61 rfl rfl rfl rfl (by omega) (by omega) (fun c61 => ?_) (fun c61 => ?_)
              · refine s_iinc (q := 77) (v := nI (i + 1)) (lv' := [(0, _), (1, _), (2, _), (3, _)]) hX dX7_grey_74 rfl rfl (nI_add (i) 1) (Nat.le_of_ble_eq_true rfl) rfl ?_
                refine s_goto (q := 43) hX dX7_grey_77 rfl ?_
                refine ihq (i + 1) (by omega) ?_
                show (match W.fg i with
                  | some a => some a
                  | none => if hueN (W.tr i) = 0 then some i else none) = none
                rw [hfg]; exact if_neg (by omega)
              · refine s_iload_n (q := 65) hX dX7_grey_64 rfl rfl ?_
                refine s_nif_ne (a := w) (b := 0) (q := 68) (r := 72) hX dX7_grey_65 rfl rfl rfl rfl (by omega) (by omega) (fun c65 => ?_) (fun c65 => ?_)
                · refine s_iload_n (q := 73) hX dX7_grey_72 rfl rfl ?_
                  refine s_iret hX dX7_grey_73 (Or.inl rfl) ⟨Nat.le_refl _, Nat.le_refl _, Nat.le_refl _, ?_⟩
                  have hf : W.fg S.T.P = some i := W.fg_up (n := i + 1) (by
                    show (match W.fg i with
                      | some a => some a
                      | none => if hueN (W.tr i) = 0 then some i else none) = some i
                    rw [hfg]; exact if_pos (by omega)) (by omega)
                  rw [hf] at hgr
                  have hg : S.T.gry 60 S.U = some (i, 60 - m) := by rw [← h2, hgr]
                  exact hcon.ret (by unfold gA.grey; rw [rx]; dsimp only; rw [hg]; dsimp only; rw [if_neg (by omega)]; rw [show 60 - m = e by omega]) hm2.1 hm2.2.2
                · refine s_iload_n (q := 69) hX dX7_grey_68 rfl rfl ?_
                  refine s_goto (q := 73) hX dX7_grey_69 rfl ?_
                  refine s_iret hX dX7_grey_73 (Or.inl rfl) ⟨Nat.le_refl _, Nat.le_refl _, Nat.le_refl _, ?_⟩
                  have hf : W.fg S.T.P = some i := W.fg_up (n := i + 1) (by
                    show (match W.fg i with
                      | some a => some a
                      | none => if hueN (W.tr i) = 0 then some i else none) = some i
                    rw [hfg]; exact if_pos (by omega)) (by omega)
                  rw [hf] at hgr
                  have hg : S.T.gry 60 S.U = some (i, 60 - m) := by rw [← h2, hgr]
                  exact hcon.ret (by unfold gA.grey; rw [rx]; dsimp only; rw [hg]; dsimp only; rw [if_pos (by omega)]) hm2.1 hm2.2.2
          exact I S.T.P 0 (by omega) rfl
    exact L 60 1 S.U M1 (by omega) rfl g3.1 (by omega) (TRM.init hS0 o1 g4.1 g5.1 f1 f2 f3)
set_option maxHeartbeats 4000000 in
set_option maxRecDepth 100000 in
theorem p_count {d b : Nat} {x : Int32} {S : gA} {sh : List gS} {M : gM} {Q : Option Value → List gS → gM → Prop} (hd : 2 ≤ d) (hC : isMod sh) (hS : MOD M S) (hk : S.ok b) (hb : b ≤ 20000) (hcon : kM sh M (S.count x) Q) : gC mX7_count d 0 0 [.ref 83, .int x] sh M Q := by
  have hC0 := hC
  obtain ⟨y0, y1, y2, y3, y4, y5, y6, y7, y8, y9, y10, y11, y12, y13, y14, y15⟩ := hC
  have hS0 := hS
  have hk0 := hk
  obtain ⟨⟨a1, a1x⟩, a2, a3, ⟨a4, a4x⟩, ⟨a5, a5x⟩, a6⟩ := hS
  obtain ⟨g1, g2, g3, g4, g5, g6, g7⟩ := hk
  have g0 := g1
  obtain ⟨o1, o2, o3, o4, o5, o6, o7, o8⟩ := g0
  refine gC_of (rt := 1) (ini := false) gm_X7_count rfl (by decide) (Nat.le_of_ble_eq_true rfl) (fun X hX => ?_)
  have L : ∀ (m i : Nat), i + m = S.T.P → X 7 [(0, .ref 83), (1, .int x), (2, .int (sumI (fun j => nI (S.U.h j)) (3 * i))), (3, .int (nI (S.U.gc i))), (4, .int (nI i))] [] sh M 0 0 := by
    intro m
    induction m with
    | zero =>
      intro i hi
      have e : i = S.T.P := by omega
      subst e
      refine s_iload (q := 9) hX dX7_count_7 rfl rfl ?_
      refine s_aload_n (q := 10) hX dX7_count_9 rfl rfl ?_
      refine s_getr (q := 13) hX dX7_count_10 rfl gfl_7_13 (by assumption) rfl ?_
      refine s_iconst (q := 14) (v := 0) hX dX7_count_13 rfl rfl ?_
      refine s_iald (k := 0) (q := 15) hX dX7_count_14 rfl (by assumption) rfl (by omega) (by omega) ?_
      refine s_topi (v := nI (S.T.P)) a2.1 ?_
      refine s_icmp_ge_t (q := 18) (r := 74) hX dX7_count_15 rfl rfl (Int32.le_refl _) ?_
      refine s_iload_n (q := 75) hX dX7_count_74 rfl rfl ?_
      refine s_table hX dX7_count_75 rfl (fun c75 => ?_) ⟨fun c75 => ?_, fun c75 => ?_, fun c75 => ?_, fun c75 => ?_, fun c75 => ?_, fun c75 => ?_, fun c75 => ?_, fun c75 => ?_, fun c75 => ?_, fun c75 => ?_, trivial⟩
      · refine s_to (r := 183) rfl ?_
        refine s_iconst (q := 184) (v := (-1)) hX dX7_count_183 rfl rfl ?_
        refine s_iret hX dX7_count_184 (Or.inl rfl) ⟨Nat.le_refl _, Nat.le_refl _, Nat.le_refl _, ?_⟩
        exact hcon.ret (by unfold gA.count; rw [mrng_no (by omega)]) hS0 (fun _ _ => rfl)
      · refine s_to (r := 128) rfl ?_
        refine s_aload_n (q := 129) hX dX7_count_128 rfl rfl ?_
        refine s_getr (q := 132) hX dX7_count_129 rfl gfl_7_13 (by assumption) rfl ?_
        refine s_iconst (q := 133) (v := 0) hX dX7_count_132 rfl rfl ?_
        refine s_iald (k := 0) (q := 134) hX dX7_count_133 rfl (by assumption) rfl (by omega) (by omega) ?_
        refine s_topi (v := nI (S.T.P)) a2.1 ?_
        refine s_iret hX dX7_count_134 (Or.inl rfl) ⟨Nat.le_refl _, Nat.le_refl _, Nat.le_refl _, ?_⟩
        exact hcon.ret (by unfold gA.count; rw [mrng_at (k := 0) (by omega) (by omega) (by omega)]; dsimp only; rw [if_pos rfl]) hS0 (fun _ _ => rfl)
      · refine s_to (r := 135) rfl ?_
        refine s_aload_n (q := 136) hX dX7_count_135 rfl rfl ?_
        refine s_getr (q := 139) hX dX7_count_136 rfl gfl_7_23 (by assumption) rfl ?_
        refine s_iconst (q := 140) (v := 0) hX dX7_count_139 rfl rfl ?_
        refine s_iald (k := 0) (q := 141) hX dX7_count_140 rfl (by assumption) rfl (by omega) (by omega) ?_
        refine s_topi (v := nI (S.T.D)) a2.2.1 ?_
        refine s_iret hX dX7_count_141 (Or.inl rfl) ⟨Nat.le_refl _, Nat.le_refl _, Nat.le_refl _, ?_⟩
        exact hcon.ret (by unfold gA.count; rw [mrng_at (k := 1) (by omega) (by omega) (by omega)]; dsimp only; rw [if_neg (by omega), if_pos rfl]) hS0 (fun _ _ => rfl)
      · refine s_to (r := 142) rfl ?_
        refine s_aload_n (q := 143) hX dX7_count_142 rfl rfl ?_
        refine s_getr (q := 146) hX dX7_count_143 rfl gfl_7_38 (by assumption) rfl ?_
        refine s_iconst (q := 147) (v := 0) hX dX7_count_146 rfl rfl ?_
        refine s_iald (k := 0) (q := 148) hX dX7_count_147 rfl (by assumption) rfl (by omega) (by omega) ?_
        refine s_topi (v := nI (S.U.d)) a3.1 ?_
        refine s_bipush (q := 150) (v := 7) hX dX7_count_148 rfl rfl (by decide) ?_
        refine s_irem (q := 151) (v := nI ((S.U.d) % 7)) hX dX7_count_150 rfl (pk_rem (a := S.U.d) (d := 7) (by omega) (by decide) (by decide)) (by decide) ?_
        refine s_iret hX dX7_count_151 (Or.inl rfl) ⟨Nat.le_refl _, Nat.le_refl _, Nat.le_refl _, ?_⟩
        exact hcon.ret (by unfold gA.count; rw [mrng_at (k := 2) (by omega) (by omega) (by omega)]; dsimp only; rw [if_neg (by omega), if_neg (by omega), if_pos rfl]) hS0 (fun _ _ => rfl)
      · refine s_to (r := 152) rfl ?_
        refine s_aload_n (q := 153) hX dX7_count_152 rfl rfl ?_
        refine s_getr (q := 156) hX dX7_count_153 rfl gfl_7_38 (by assumption) rfl ?_
        refine s_iconst (q := 157) (v := 0) hX dX7_count_156 rfl rfl ?_
        refine s_iald (k := 0) (q := 158) hX dX7_count_157 rfl (by assumption) rfl (by omega) (by omega) ?_
        refine s_topi (v := nI (S.U.d)) a3.1 ?_
        refine s_iret hX dX7_count_158 (Or.inl rfl) ⟨Nat.le_refl _, Nat.le_refl _, Nat.le_refl _, ?_⟩
        exact hcon.ret (by unfold gA.count; rw [mrng_at (k := 3) (by omega) (by omega) (by omega)]; dsimp only; rw [if_neg (by omega), if_neg (by omega), if_neg (by omega), if_pos rfl]) hS0 (fun _ _ => rfl)
      · refine s_to (r := 159) rfl ?_
        refine s_iload_n (q := 160) hX dX7_count_159 rfl rfl ?_
        refine s_iret hX dX7_count_160 (Or.inl rfl) ⟨Nat.le_refl _, Nat.le_refl _, Nat.le_refl _, ?_⟩
        exact hcon.ret (by unfold gA.count; rw [mrng_at (k := 4) (by omega) (by omega) (by omega)]; dsimp only; rw [if_neg (by omega), if_neg (by omega), if_neg (by omega), if_neg (by omega), if_pos rfl]) hS0 (fun _ _ => rfl)
      · refine s_to (r := 161) rfl ?_
        refine s_iload_n (q := 162) hX dX7_count_161 rfl rfl ?_
        refine s_iret hX dX7_count_162 (Or.inl rfl) ⟨Nat.le_refl _, Nat.le_refl _, Nat.le_refl _, ?_⟩
        exact hcon.ret (by unfold gA.count; rw [mrng_at (k := 5) (by omega) (by omega) (by omega)]; dsimp only; rw [if_neg (by omega), if_neg (by omega), if_neg (by omega), if_neg (by omega), if_neg (by omega), if_pos rfl]) hS0 (fun _ _ => rfl)
      · refine s_to (r := 163) rfl ?_
        refine s_aload_n (q := 164) hX dX7_count_163 rfl rfl ?_
        refine s_geti (q := 167) hX dX7_count_164 rfl gfl_7_98 (by assumption) rfl ?_
        refine s_topi (v := nI (S.N.n)) a6.1 ?_
        refine s_iret hX dX7_count_167 (Or.inl rfl) ⟨Nat.le_refl _, Nat.le_refl _, Nat.le_refl _, ?_⟩
        exact hcon.ret (by unfold gA.count; rw [mrng_at (k := 6) (by omega) (by omega) (by omega)]; dsimp only; rw [if_neg (by omega), if_neg (by omega), if_neg (by omega), if_neg (by omega), if_neg (by omega), if_neg (by omega), if_pos rfl]) hS0 (fun _ _ => rfl)
      · refine s_to (r := 168) rfl ?_
        refine s_aload_n (q := 169) hX dX7_count_168 rfl rfl ?_
        refine s_geti (q := 172) hX dX7_count_169 rfl gfl_7_92 (by assumption) rfl ?_
        refine s_topi (v := nI (S.un.1)) a4 ?_
        refine s_iret hX dX7_count_172 (Or.inl rfl) ⟨Nat.le_refl _, Nat.le_refl _, Nat.le_refl _, ?_⟩
        exact hcon.ret (by unfold gA.count; rw [mrng_at (k := 7) (by omega) (by omega) (by omega)]; dsimp only; rw [if_neg (by omega), if_neg (by omega), if_neg (by omega), if_neg (by omega), if_neg (by omega), if_neg (by omega), if_neg (by omega), if_pos rfl]) hS0 (fun _ _ => rfl)
      · refine s_to (r := 173) rfl ?_
        refine s_aload_n (q := 174) hX dX7_count_173 rfl rfl ?_
        refine s_geti (q := 177) hX dX7_count_174 rfl gfl_7_95 (by assumption) rfl ?_
        refine s_topi (v := nI (S.kp.1)) a5 ?_
        refine s_iret hX dX7_count_177 (Or.inl rfl) ⟨Nat.le_refl _, Nat.le_refl _, Nat.le_refl _, ?_⟩
        exact hcon.ret (by unfold gA.count; rw [mrng_at (k := 8) (by omega) (by omega) (by omega)]; dsimp only; rw [if_neg (by omega), if_neg (by omega), if_neg (by omega), if_neg (by omega), if_neg (by omega), if_neg (by omega), if_neg (by omega), if_neg (by omega), if_pos rfl]) hS0 (fun _ _ => rfl)
      · refine s_to (r := 178) rfl ?_
        refine s_aload_n (q := 179) hX dX7_count_178 rfl rfl ?_
        refine s_geti (q := 182) hX dX7_count_179 rfl gfl_7_70 (by assumption) rfl ?_
        refine s_topi (v := nI (S.tx.1)) a1 ?_
        refine s_iret hX dX7_count_182 (Or.inl rfl) ⟨Nat.le_refl _, Nat.le_refl _, Nat.le_refl _, ?_⟩
        exact hcon.ret (by unfold gA.count; rw [mrng_at (k := 9) (by omega) (by omega) (by omega)]; dsimp only; rw [if_neg (by omega), if_neg (by omega), if_neg (by omega), if_neg (by omega), if_neg (by omega), if_neg (by omega), if_neg (by omega), if_neg (by omega), if_neg (by omega)]) hS0 (fun _ _ => rfl)
    | succ m ih =>
      intro i hi
      have hhu := hueN_lt (S.U.tr i)
      have hgc : S.U.gc (i + 1) = S.U.gc i + (if hueN (S.U.tr i) = 0 then 1 else 0) := rfl
      have hx := ih (i + 1) (by omega)
      rw [hgc, show 3 * (i + 1) = 3 * i + 1 + 1 + 1 by omega] at hx
      have n0 : M 93 (1 + 3 * i + 0) = nI (S.U.h (3 * i)) := by rw [show 1 + 3 * i + 0 = 0 + 1 + 3 * i by omega]; exact a3.2.1 _ (by omega)
      have n1 : M 93 (1 + 3 * i + 1) = nI (S.U.h (3 * i + 1)) := by rw [show 1 + 3 * i + 1 = 0 + 1 + (3 * i + 1) by omega]; exact a3.2.1 _ (by omega)
      have n2 : M 93 (1 + 3 * i + 2) = nI (S.U.h (3 * i + 1 + 1)) := by rw [show 1 + 3 * i + 2 = 0 + 1 + (3 * i + 2) by omega]; exact a3.2.1 _ (by omega)
      refine s_iload (q := 9) hX dX7_count_7 rfl rfl ?_
      refine s_aload_n (q := 10) hX dX7_count_9 rfl rfl ?_
      refine s_getr (q := 13) hX dX7_count_10 rfl gfl_7_13 (by assumption) rfl ?_
      refine s_iconst (q := 14) (v := 0) hX dX7_count_13 rfl rfl ?_
      refine s_iald (k := 0) (q := 15) hX dX7_count_14 rfl (by assumption) rfl (by omega) (by omega) ?_
      refine s_topi (v := nI (S.T.P)) a2.1 ?_
      refine s_icmp_ge_f (q := 18) (r := 74) hX dX7_count_15 rfl rfl (Int32.not_le.mpr (nI_lt (by omega) (by omega))) ?_
      refine s_iload_n (q := 19) hX dX7_count_18 rfl rfl ?_
      refine s_aload_n (q := 20) hX dX7_count_19 rfl rfl ?_
      refine s_iconst (q := 21) (v := 0) hX dX7_count_20 rfl rfl ?_
      refine s_iload (q := 23) hX dX7_count_21 rfl rfl ?_
      refine s_invv2_1 (q := 26) hX dX7_count_23 rfl glk_7_108 (by assumption) (Nat.le_of_ble_eq_true rfl) ⟨Nat.le_refl _, Nat.le_refl _⟩ (by omega) (m_hue (d := 0) (a := 0) (T := S.T) (U := S.U) hC0 a2 g1 a3 g3.1 (by omega) (by omega) ?_) 
      refine ⟨_, rfl, ?_⟩
      refine s_nif_ne (a := hueN (S.U.tr i)) (b := 0) (q := 29) (r := 33) hX dX7_count_26 rfl rfl rfl rfl (by omega) (by omega) (fun c26 => ?_) (fun c26 => ?_)
      · refine s_iconst (q := 34) (v := 0) hX dX7_count_33 rfl rfl ?_
        refine s_iadd (q := 35) (v := nI (S.U.gc i + 0)) hX dX7_count_34 rfl (nI_add (S.U.gc i) (0)) ?_
        refine s_istore_n (q := 36) (lv' := [(0, _), (1, _), (2, _), (3, _), (4, _)]) hX dX7_count_35 rfl (Nat.le_of_ble_eq_true rfl) rfl ?_
        refine s_iconst (q := 37) (v := 0) hX dX7_count_36 rfl rfl ?_
        refine s_istore (q := 39) (lv' := [(0, _), (1, _), (2, _), (3, _), (4, _), (5, _)]) hX dX7_count_37 rfl (Nat.le_of_ble_eq_true rfl) rfl ?_
        refine s_iload (q := 41) hX dX7_count_39 rfl rfl ?_
        refine s_iconst (q := 42) (v := 3) hX dX7_count_41 rfl rfl ?_
        refine s_icmp_ge_f (q := 45) (r := 68) hX dX7_count_42 rfl rfl (by decide) ?_
        refine s_iload_n (q := 46) hX dX7_count_45 rfl rfl ?_
        refine s_aload_n (q := 47) hX dX7_count_46 rfl rfl ?_
        refine s_getr (q := 50) hX dX7_count_47 rfl gfl_7_38 (by assumption) rfl ?_
        refine s_iconst (q := 51) (v := 1) hX dX7_count_50 rfl rfl ?_
        refine s_iconst (q := 52) (v := 3) hX dX7_count_51 rfl rfl ?_
        refine s_iload (q := 54) hX dX7_count_52 rfl rfl ?_
        refine s_imul (q := 55) (v := nI (3 * i)) hX dX7_count_54 rfl (pk_mul (3) (i)) ?_
        refine s_iadd (q := 56) (v := nI (1 + (3 * i))) hX dX7_count_55 rfl (nI_add (1) (3 * i)) ?_
        refine s_iload (q := 58) hX dX7_count_56 rfl rfl ?_
        refine s_iadd (q := 59) (v := nI (1 + (3 * i) + 0)) hX dX7_count_58 rfl (nI_add (1 + (3 * i)) (0)) ?_
        refine s_iald (k := 1 + (3 * i) + 0) (q := 60) hX dX7_count_59 rfl (by assumption) rfl (by omega) (by omega) ?_
        refine s_iadd (q := 61) hX dX7_count_60 rfl rfl ?_
        refine s_istore_n (q := 62) (lv' := [(0, _), (1, _), (2, _), (3, _), (4, _), (5, _)]) hX dX7_count_61 rfl (Nat.le_of_ble_eq_true rfl) rfl ?_
        refine s_iinc (q := 65) (v := 1) (lv' := [(0, _), (1, _), (2, _), (3, _), (4, _), (5, _)]) hX dX7_count_62 rfl rfl (by decide) (Nat.le_of_ble_eq_true rfl) rfl ?_
        refine s_goto (q := 39) hX dX7_count_65 rfl ?_
        refine s_iload (q := 41) hX dX7_count_39 rfl rfl ?_
        refine s_iconst (q := 42) (v := 3) hX dX7_count_41 rfl rfl ?_
        refine s_icmp_ge_f (q := 45) (r := 68) hX dX7_count_42 rfl rfl (by decide) ?_
        refine s_iload_n (q := 46) hX dX7_count_45 rfl rfl ?_
        refine s_aload_n (q := 47) hX dX7_count_46 rfl rfl ?_
        refine s_getr (q := 50) hX dX7_count_47 rfl gfl_7_38 (by assumption) rfl ?_
        refine s_iconst (q := 51) (v := 1) hX dX7_count_50 rfl rfl ?_
        refine s_iconst (q := 52) (v := 3) hX dX7_count_51 rfl rfl ?_
        refine s_iload (q := 54) hX dX7_count_52 rfl rfl ?_
        refine s_imul (q := 55) (v := nI (3 * i)) hX dX7_count_54 rfl (pk_mul (3) (i)) ?_
        refine s_iadd (q := 56) (v := nI (1 + (3 * i))) hX dX7_count_55 rfl (nI_add (1) (3 * i)) ?_
        refine s_iload (q := 58) hX dX7_count_56 rfl rfl ?_
        refine s_iadd (q := 59) (v := nI (1 + (3 * i) + 1)) hX dX7_count_58 rfl (nI_add (1 + (3 * i)) (1)) ?_
        refine s_iald (k := 1 + (3 * i) + 1) (q := 60) hX dX7_count_59 rfl (by assumption) rfl (by omega) (by omega) ?_
        refine s_iadd (q := 61) hX dX7_count_60 rfl rfl ?_
        refine s_istore_n (q := 62) (lv' := [(0, _), (1, _), (2, _), (3, _), (4, _), (5, _)]) hX dX7_count_61 rfl (Nat.le_of_ble_eq_true rfl) rfl ?_
        refine s_iinc (q := 65) (v := 2) (lv' := [(0, _), (1, _), (2, _), (3, _), (4, _), (5, _)]) hX dX7_count_62 rfl rfl (by decide) (Nat.le_of_ble_eq_true rfl) rfl ?_
        refine s_goto (q := 39) hX dX7_count_65 rfl ?_
        refine s_iload (q := 41) hX dX7_count_39 rfl rfl ?_
        refine s_iconst (q := 42) (v := 3) hX dX7_count_41 rfl rfl ?_
        refine s_icmp_ge_f (q := 45) (r := 68) hX dX7_count_42 rfl rfl (by decide) ?_
        refine s_iload_n (q := 46) hX dX7_count_45 rfl rfl ?_
        refine s_aload_n (q := 47) hX dX7_count_46 rfl rfl ?_
        refine s_getr (q := 50) hX dX7_count_47 rfl gfl_7_38 (by assumption) rfl ?_
        refine s_iconst (q := 51) (v := 1) hX dX7_count_50 rfl rfl ?_
        refine s_iconst (q := 52) (v := 3) hX dX7_count_51 rfl rfl ?_
        refine s_iload (q := 54) hX dX7_count_52 rfl rfl ?_
        refine s_imul (q := 55) (v := nI (3 * i)) hX dX7_count_54 rfl (pk_mul (3) (i)) ?_
        refine s_iadd (q := 56) (v := nI (1 + (3 * i))) hX dX7_count_55 rfl (nI_add (1) (3 * i)) ?_
        refine s_iload (q := 58) hX dX7_count_56 rfl rfl ?_
        refine s_iadd (q := 59) (v := nI (1 + (3 * i) + 2)) hX dX7_count_58 rfl (nI_add (1 + (3 * i)) (2)) ?_
        refine s_iald (k := 1 + (3 * i) + 2) (q := 60) hX dX7_count_59 rfl (by assumption) rfl (by omega) (by omega) ?_
        refine s_iadd (q := 61) hX dX7_count_60 rfl rfl ?_
        refine s_istore_n (q := 62) (lv' := [(0, _), (1, _), (2, _), (3, _), (4, _), (5, _)]) hX dX7_count_61 rfl (Nat.le_of_ble_eq_true rfl) rfl ?_
        refine s_iinc (q := 65) (v := 3) (lv' := [(0, _), (1, _), (2, _), (3, _), (4, _), (5, _)]) hX dX7_count_62 rfl rfl (by decide) (Nat.le_of_ble_eq_true rfl) rfl ?_
        refine s_goto (q := 39) hX dX7_count_65 rfl ?_
        refine s_iload (q := 41) hX dX7_count_39 rfl rfl ?_
        refine s_iconst (q := 42) (v := 3) hX dX7_count_41 rfl rfl ?_
        refine s_icmp_ge_t (q := 45) (r := 68) hX dX7_count_42 rfl rfl (by decide) ?_
        refine s_iinc (q := 71) (v := nI (i + 1)) (lv' := [(0, _), (1, _), (2, _), (3, _), (4, _), (5, _)]) hX dX7_count_68 rfl rfl (nI_add (i) 1) (Nat.le_of_ble_eq_true rfl) rfl ?_
        refine s_goto (q := 7) hX dX7_count_71 rfl ?_
        rw [if_neg (by omega)] at hx
        rw [n0, n1, n2]
        exact s_dl hX hx
      · refine s_iconst (q := 30) (v := 1) hX dX7_count_29 rfl rfl ?_
        refine s_goto (q := 34) hX dX7_count_30 rfl ?_
        refine s_iadd (q := 35) (v := nI (S.U.gc i + 1)) hX dX7_count_34 rfl (nI_add (S.U.gc i) (1)) ?_
        refine s_istore_n (q := 36) (lv' := [(0, _), (1, _), (2, _), (3, _), (4, _)]) hX dX7_count_35 rfl (Nat.le_of_ble_eq_true rfl) rfl ?_
        refine s_iconst (q := 37) (v := 0) hX dX7_count_36 rfl rfl ?_
        refine s_istore (q := 39) (lv' := [(0, _), (1, _), (2, _), (3, _), (4, _), (5, _)]) hX dX7_count_37 rfl (Nat.le_of_ble_eq_true rfl) rfl ?_
        refine s_iload (q := 41) hX dX7_count_39 rfl rfl ?_
        refine s_iconst (q := 42) (v := 3) hX dX7_count_41 rfl rfl ?_
        refine s_icmp_ge_f (q := 45) (r := 68) hX dX7_count_42 rfl rfl (by decide) ?_
        refine s_iload_n (q := 46) hX dX7_count_45 rfl rfl ?_
        refine s_aload_n (q := 47) hX dX7_count_46 rfl rfl ?_
        refine s_getr (q := 50) hX dX7_count_47 rfl gfl_7_38 (by assumption) rfl ?_
        refine s_iconst (q := 51) (v := 1) hX dX7_count_50 rfl rfl ?_
        refine s_iconst (q := 52) (v := 3) hX dX7_count_51 rfl rfl ?_
        refine s_iload (q := 54) hX dX7_count_52 rfl rfl ?_
        refine s_imul (q := 55) (v := nI (3 * i)) hX dX7_count_54 rfl (pk_mul (3) (i)) ?_
        refine s_iadd (q := 56) (v := nI (1 + (3 * i))) hX dX7_count_55 rfl (nI_add (1) (3 * i)) ?_
        refine s_iload (q := 58) hX dX7_count_56 rfl rfl ?_
        refine s_iadd (q := 59) (v := nI (1 + (3 * i) + 0)) hX dX7_count_58 rfl (nI_add (1 + (3 * i)) (0)) ?_
        refine s_iald (k := 1 + (3 * i) + 0) (q := 60) hX dX7_count_59 rfl (by assumption) rfl (by omega) (by omega) ?_
        refine s_iadd (q := 61) hX dX7_count_60 rfl rfl ?_
        refine s_istore_n (q := 62) (lv' := [(0, _), (1, _), (2, _), (3, _), (4, _), (5, _)]) hX dX7_count_61 rfl (Nat.le_of_ble_eq_true rfl) rfl ?_
        refine s_iinc (q := 65) (v := 1) (lv' := [(0, _), (1, _), (2, _), (3, _), (4, _), (5, _)]) hX dX7_count_62 rfl rfl (by decide) (Nat.le_of_ble_eq_true rfl) rfl ?_
        refine s_goto (q := 39) hX dX7_count_65 rfl ?_
        refine s_iload (q := 41) hX dX7_count_39 rfl rfl ?_
        refine s_iconst (q := 42) (v := 3) hX dX7_count_41 rfl rfl ?_
        refine s_icmp_ge_f (q := 45) (r := 68) hX dX7_count_42 rfl rfl (by decide) ?_
        refine s_iload_n (q := 46) hX dX7_count_45 rfl rfl ?_
        refine s_aload_n (q := 47) hX dX7_count_46 rfl rfl ?_
        refine s_getr (q := 50) hX dX7_count_47 rfl gfl_7_38 (by assumption) rfl ?_
        refine s_iconst (q := 51) (v := 1) hX dX7_count_50 rfl rfl ?_
        refine s_iconst (q := 52) (v := 3) hX dX7_count_51 rfl rfl ?_
        refine s_iload (q := 54) hX dX7_count_52 rfl rfl ?_
        refine s_imul (q := 55) (v := nI (3 * i)) hX dX7_count_54 rfl (pk_mul (3) (i)) ?_
        refine s_iadd (q := 56) (v := nI (1 + (3 * i))) hX dX7_count_55 rfl (nI_add (1) (3 * i)) ?_
        refine s_iload (q := 58) hX dX7_count_56 rfl rfl ?_
        refine s_iadd (q := 59) (v := nI (1 + (3 * i) + 1)) hX dX7_count_58 rfl (nI_add (1 + (3 * i)) (1)) ?_
        refine s_iald (k := 1 + (3 * i) + 1) (q := 60) hX dX7_count_59 rfl (by assumption) rfl (by omega) (by omega) ?_
        refine s_iadd (q := 61) hX dX7_count_60 rfl rfl ?_
        refine s_istore_n (q := 62) (lv' := [(0, _), (1, _), (2, _), (3, _), (4, _), (5, _)]) hX dX7_count_61 rfl (Nat.le_of_ble_eq_true rfl) rfl ?_
        refine s_iinc (q := 65) (v := 2) (lv' := [(0, _), (1, _), (2, _), (3, _), (4, _), (5, _)]) hX dX7_count_62 rfl rfl (by decide) (Nat.le_of_ble_eq_true rfl) rfl ?_
        refine s_goto (q := 39) hX dX7_count_65 rfl ?_
        refine s_iload (q := 41) hX dX7_count_39 rfl rfl ?_
        refine s_iconst (q := 42) (v := 3) hX dX7_count_41 rfl rfl ?_
        refine s_icmp_ge_f (q := 45) (r := 68) hX dX7_count_42 rfl rfl (by decide) ?_
        refine s_iload_n (q := 46) hX dX7_count_45 rfl rfl ?_
        refine s_aload_n (q := 47) hX dX7_count_46 rfl rfl ?_
        refine s_getr (q := 50) hX dX7_count_47 rfl gfl_7_38 (by assumption) rfl ?_
        refine s_iconst (q := 51) (v := 1) hX dX7_count_50 rfl rfl ?_
        refine s_iconst (q := 52) (v := 3) hX dX7_count_51 rfl rfl ?_
        refine s_iload (q := 54) hX dX7_count_52 rfl rfl ?_
        refine s_imul (q := 55) (v := nI (3 * i)) hX dX7_count_54 rfl (pk_mul (3) (i)) ?_
        refine s_iadd (q := 56) (v := nI (1 + (3 * i))) hX dX7_count_55 rfl (nI_add (1) (3 * i)) ?_
        refine s_iload (q := 58) hX dX7_count_56 rfl rfl ?_
        refine s_iadd (q := 59) (v := nI (1 + (3 * i) + 2)) hX dX7_count_58 rfl (nI_add (1 + (3 * i)) (2)) ?_
        refine s_iald (k := 1 + (3 * i) + 2) (q := 60) hX dX7_count_59 rfl (by assumption) rfl (by omega) (by omega) ?_
        refine s_iadd (q := 61) hX dX7_count_60 rfl rfl ?_
        refine s_istore_n (q := 62) (lv' := [(0, _), (1, _), (2, _), (3, _), (4, _), (5, _)]) hX dX7_count_61 rfl (Nat.le_of_ble_eq_true rfl) rfl ?_
        refine s_iinc (q := 65) (v := 3) (lv' := [(0, _), (1, _), (2, _), (3, _), (4, _), (5, _)]) hX dX7_count_62 rfl rfl (by decide) (Nat.le_of_ble_eq_true rfl) rfl ?_
        refine s_goto (q := 39) hX dX7_count_65 rfl ?_
        refine s_iload (q := 41) hX dX7_count_39 rfl rfl ?_
        refine s_iconst (q := 42) (v := 3) hX dX7_count_41 rfl rfl ?_
        refine s_icmp_ge_t (q := 45) (r := 68) hX dX7_count_42 rfl rfl (by decide) ?_
        refine s_iinc (q := 71) (v := nI (i + 1)) (lv' := [(0, _), (1, _), (2, _), (3, _), (4, _), (5, _)]) hX dX7_count_68 rfl rfl (nI_add (i) 1) (Nat.le_of_ble_eq_true rfl) rfl ?_
        refine s_goto (q := 7) hX dX7_count_71 rfl ?_
        rw [if_pos (by omega)] at hx
        rw [n0, n1, n2]
        exact s_dl hX hx
  refine s_iconst (q := 1) (v := 0) hX dX7_count_0 rfl rfl ?_
  refine s_istore_n (q := 2) (lv' := [(0, _), (1, _), (2, _)]) hX dX7_count_1 rfl (Nat.le_of_ble_eq_true rfl) rfl ?_
  refine s_iconst (q := 3) (v := 0) hX dX7_count_2 rfl rfl ?_
  refine s_istore_n (q := 4) (lv' := [(0, _), (1, _), (2, _), (3, _)]) hX dX7_count_3 rfl (Nat.le_of_ble_eq_true rfl) rfl ?_
  refine s_iconst (q := 5) (v := 0) hX dX7_count_4 rfl rfl ?_
  refine s_istore (q := 7) (lv' := [(0, _), (1, _), (2, _), (3, _), (4, _)]) hX dX7_count_5 rfl (Nat.le_of_ble_eq_true rfl) rfl ?_
  exact L S.T.P 0 (by omega)
