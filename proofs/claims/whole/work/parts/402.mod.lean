theorem STM.cg {M : gM} {a P : Nat} {U V : gU} (h : STM M a P U) (hd : U.d = V.d) (hh : ∀ j, j < 3 * P → U.h j = V.h j) (hc : ∀ i, i < P → U.c i = V.c i) (hw : ∀ i, i < P → U.w i = V.w i) : STM M a P V := by
  obtain ⟨h1, h2, h3, h4⟩ := h
  refine ⟨by rw [← hd]; exact h1, fun j hj => ?_, fun i hi => ?_, fun i hi => ?_⟩
  · rw [← hh j hj]; exact h2 j hj
  · rw [← hc i hi]; exact h3 i hi
  · rw [← hw i hi]; exact h4 i hi
theorem stm_act {M M' : gM} {a i k : Nat} {T : gT} {U : gU} {p : Nat → Nat} {y : Int32} (hU : STM M a T.P U) (hP : T.P ≤ 6) (hi : i < T.P) (hc : T.can i k (U.tr i) = true) (hp : p = T.pay i k (U.tr i)) (hw : y = U.w i + nI (T.wo k)) (hM : M' 93 = upd (upd (upd (upd (M 93) (a + 1 + 3 * i + 0) (nI (U.h (3 * i + 0) - p 0))) (a + 1 + 3 * i + 1) (nI (U.h (3 * i + 1) - p 1))) (a + 1 + 3 * i + 2) (nI (U.h (3 * i + 2) - p 2))) (a + 25 + i) y) : STM M' a T.P (T.act i k U) := by
  unfold gT.act
  rw [if_pos hc, ← hp]
  refine ⟨?_, fun j hj => ?_, fun j hj => ?_, fun j hj => ?_⟩
  · rw [hM, pk_un (by omega), pk_un (by omega), pk_un (by omega), pk_un (by omega)]; exact hU.1
  · rw [hM, pk_un (by omega)]
    show _ = nI (if j / 3 = i then U.h j - p (j % 3) else U.h j)
    by_cases e2 : j = 3 * i + 2
    · subst e2
      rw [show a + 1 + (3 * i + 2) = a + 1 + 3 * i + 2 by omega, pk_us, if_pos (by omega), show (3 * i + 2) % 3 = 2 by omega]
    · rw [pk_un (by omega)]
      by_cases e1 : j = 3 * i + 1
      · subst e1
        rw [show a + 1 + (3 * i + 1) = a + 1 + 3 * i + 1 by omega, pk_us, if_pos (by omega), show (3 * i + 1) % 3 = 1 by omega]
      · rw [pk_un (by omega)]
        by_cases e0 : j = 3 * i + 0
        · subst e0
          rw [show a + 1 + (3 * i + 0) = a + 1 + 3 * i + 0 by omega, pk_us, if_pos (by omega), show (3 * i + 0) % 3 = 0 by omega]
        · rw [pk_un (by omega), if_neg (by omega)]; exact hU.2.1 j hj
  · rw [hM, pk_un (by omega), pk_un (by omega), pk_un (by omega), pk_un (by omega)]; exact hU.2.2.1 j hj
  · show _ = upd U.w i (U.w i + nI (T.wo k)) j
    rw [hM]
    by_cases e : j = i
    · subst e; rw [pk_us, pk_us, hw]
    · rw [pk_un (by omega), pk_un (by omega), pk_un (by omega), pk_un (by omega), pk_un e]; exact hU.2.2.2 j hj
def gT.sea1 (T : gT) (i : Nat) (U : gU) : gU := (fun j => if j = 3 * i + 2 ∧ T.kd i = 2 then U.h j - 1 else U.h j, U.c, U.w, U.d)
theorem stm_sea {M M' : gM} {a i v : Nat} {T : gT} {U : gU} (hU : STM M a T.P U) (hP : T.P ≤ 6) (hi : i < T.P) (hM : M' 93 = upd (M 93) (a + 1 + 3 * i + 2) (nI v)) (hv : v = if T.kd i = 2 then U.h (3 * i + 2) - 1 else U.h (3 * i + 2)) : STM M' a T.P (T.sea1 i U) := by
  refine ⟨?_, fun j hj => ?_, fun j hj => ?_, fun j hj => ?_⟩
  · rw [hM, pk_un (by omega)]; exact hU.1
  · show _ = nI (if j = 3 * i + 2 ∧ T.kd i = 2 then U.h j - 1 else U.h j)
    rw [hM]
    by_cases e : j = 3 * i + 2
    · subst e
      rw [show a + 1 + (3 * i + 2) = a + 1 + 3 * i + 2 by omega, pk_us, hv]
      by_cases e2 : T.kd i = 2
      · rw [if_pos e2, if_pos ⟨rfl, e2⟩]
      · rw [if_neg e2, if_neg (fun z => e2 z.2)]
    · rw [pk_un (by omega), if_neg (fun z => e z.1)]; exact hU.2.1 j hj
  · rw [hM, pk_un (by omega)]; exact hU.2.2.1 j hj
  · rw [hM, pk_un (by omega)]; exact hU.2.2.2 j hj
theorem gT.sea1_ok {T : gT} {i P : Nat} {U : gU} (h : U.ok P) : (T.sea1 i U).ok P := by
  refine ⟨fun j hj => ?_, h.2⟩
  have h0 := h.1 j hj
  show (if j = 3 * i + 2 ∧ T.kd i = 2 then U.h j - 1 else U.h j) ≤ 99
  split <;> omega
theorem gT.seaN_ok {T : gT} {n P : Nat} {U : gU} (h : U.ok P) : (T.seaN n U).ok P := by
  refine ⟨fun j hj => ?_, h.2⟩
  have h0 := h.1 j hj
  show (if j / 3 < n ∧ T.kd (j / 3) = 2 ∧ j % 3 = 2 then U.h j - 1 else U.h j) ≤ 99
  split <;> omega
/-- the first n places of rations -/
def gT.ovk (T : gT) (n : Nat) (U : gU) : gU := (fun j => if j < n then T.rn (j / 3) (U.tr (j / 3)) (j % 3) else U.h j, U.c, U.w, U.d)
theorem stm_ov {M M' : gM} {a k v : Nat} {T : gT} {U : gU} (hU : STM M a T.P (T.ovk k U)) (hP : T.P ≤ 6) (hk : k < 3 * T.P) (hM : M' 93 = upd (M 93) (a + 1 + k) (nI v)) (hv : v = T.rn (k / 3) (U.tr (k / 3)) (k % 3)) : STM M' a T.P (T.ovk (k + 1) U) := by
  refine ⟨?_, fun j hj => ?_, fun j hj => ?_, fun j hj => ?_⟩
  · rw [hM, pk_un (by omega)]; exact hU.1
  · show _ = nI (if j < k + 1 then T.rn (j / 3) (U.tr (j / 3)) (j % 3) else U.h j)
    rw [hM]
    by_cases e : j = k
    · subst e; rw [pk_us, if_pos (by omega), hv]
    · rw [pk_un (by omega), hU.2.1 j hj]
      show nI (if j < k then T.rn (j / 3) (U.tr (j / 3)) (j % 3) else U.h j) = _
      by_cases e2 : j < k
      · rw [if_pos e2, if_pos (by omega)]
      · rw [if_neg e2, if_neg (by omega)]
  · rw [hM, pk_un (by omega)]; exact hU.2.2.1 j hj
  · rw [hM, pk_un (by omega)]; exact hU.2.2.2 j hj
theorem FRM.one {M : gM} {a j : Nat} {x : Int32} (h1 : a ≤ j) (h2 : j < a + 31) : FRM M (gsr M 93 (upd (M 93) j x)) a := ⟨fun c h _ => gsr_n _ _ h, fun q hq => by rw [gsr_s, pk_un (by omega)]⟩
set_option maxHeartbeats 4000000 in
set_option maxRecDepth 100000 in
theorem m_doIt {d a : Nat} {T : gT} {U : gU} {i k : Nat} {sh : List gS} {M : gM} {Q : Option Value → List gS → gM → Prop} (hd : 2 ≤ d) (hC : isMod sh) (hW : TWM M T) (g1 : T.ok) (hU : STM M a T.P U) (hUk : U.ok T.P) (ha : a + 31 ≤ 372) (hi : i < T.P) (hk : k < T.D) (hcon0 : T.can i k (U.tr i) = false → ∀ M', FRM M M' a → STM M' a T.P U → Q (some (.int (-2))) sh M') (hcon1 : T.can i k (U.tr i) = true → ∀ M', FRM M M' a → STM M' a T.P (T.act i k U) → Q (some (.int (nI (T.pay i k (U.tr i) 0 + T.pay i k (U.tr i) 1 + T.pay i k (U.tr i) 2)))) sh M') : gC mX7_doIt d 0 0 [.ref 83, .int (nI a), .int (nI i), .int (nI k)] sh M Q := by
  have hC0 := hC
  obtain ⟨y0, y1, y2, y3, y4, y5, y6, y7, y8, y9, y10, y11, y12, y13, y14, y15⟩ := hC
  have g0 := g1
  obtain ⟨o1, o2, o3, o4, o5, o6, o7, o8⟩ := g0
  have hwo := hW.2.2.2.2.2.2.1 k hk
  have h0 : M 93 (a + 1 + 3 * i + 0) = nI (U.h (3 * i + 0)) := by rw [Nat.add_assoc (a + 1)]; exact hU.2.1 _ (by omega)
  have b0 := hUk.1 (3 * i + 0) (by omega)
  have h1 : M 93 (a + 1 + 3 * i + 1) = nI (U.h (3 * i + 1)) := by rw [Nat.add_assoc (a + 1)]; exact hU.2.1 _ (by omega)
  have b1 := hUk.1 (3 * i + 1) (by omega)
  have h2 : M 93 (a + 1 + 3 * i + 2) = nI (U.h (3 * i + 2)) := by rw [Nat.add_assoc (a + 1)]; exact hU.2.1 _ (by omega)
  have b2 := hUk.1 (3 * i + 2) (by omega)
  refine gC_of (rt := 1) (ini := false) gm_X7_doIt rfl (by decide) (Nat.le_of_ble_eq_true rfl) (fun X hX => ?_)
  refine s_aload_n (q := 1) hX dX7_doIt_0 rfl rfl ?_
  refine s_iload_n (q := 2) hX dX7_doIt_1 rfl rfl ?_
  refine s_iload_n (q := 3) hX dX7_doIt_2 rfl rfl ?_
  refine s_iload_n (q := 4) hX dX7_doIt_3 rfl rfl ?_
  refine s_invv3_1 (q := 7) hX dX7_doIt_4 rfl glk_7_122 (by assumption) (Nat.le_of_ble_eq_true rfl) ⟨Nat.le_refl _, Nat.le_refl _⟩ (by omega) (m_canDo (d := 1) (Nat.le_refl _) hC0 hW g1 hU hUk ha hi hk (fun g hg => ?_)) 
  refine ⟨_, rfl, ?_⟩
  refine s_if_ne (q := 10) (r := 13) hX dX7_doIt_7 rfl rfl (fun c7 => ?_) (fun c7 => ?_)
  · have hc := gif_t c7
    have gg := hg hc
    have hp : ∀ s, s < 3 → T.pay i k (U.tr i) s ≤ U.h (3 * i + s) := payC_le hc
    obtain ⟨p, hpe⟩ : ∃ p, p = T.pay i k (U.tr i) := ⟨_, rfl⟩
    rw [← hpe] at gg hp hcon1
    have p0 := hp 0 (by omega)
    have p1 := hp 1 (by omega)
    have p2 := hp 2 (by omega)
    refine s_iconst (q := 14) (v := 0) hX dX7_doIt_13 rfl rfl ?_
    refine s_istore (q := 16) (lv' := [(0, _), (1, _), (2, _), (3, _), (4, _)]) hX dX7_doIt_14 rfl (Nat.le_of_ble_eq_true rfl) rfl ?_
    refine s_iconst (q := 17) (v := 0) hX dX7_doIt_16 rfl rfl ?_
    refine s_istore (q := 19) (lv' := [(0, _), (1, _), (2, _), (3, _), (4, _), (5, _)]) hX dX7_doIt_17 rfl (Nat.le_of_ble_eq_true rfl) rfl ?_
    refine s_iload (q := 21) hX dX7_doIt_19 rfl rfl ?_
    refine s_iconst (q := 22) (v := 3) hX dX7_doIt_21 rfl rfl ?_
    refine s_icmp_ge_f (q := 25) (r := 68) hX dX7_doIt_22 rfl rfl (by decide) ?_
    refine s_aload_n (q := 26) hX dX7_doIt_25 rfl rfl ?_
    refine s_getr (q := 29) hX dX7_doIt_26 rfl gfl_7_38 (by assumption) rfl ?_
    refine s_iload_n (q := 30) hX dX7_doIt_29 rfl rfl ?_
    refine s_iconst (q := 31) (v := 1) hX dX7_doIt_30 rfl rfl ?_
    refine s_iadd (q := 32) (v := nI (a + 1)) hX dX7_doIt_31 rfl (nI_add (a) (1)) ?_
    refine s_iconst (q := 33) (v := 3) hX dX7_doIt_32 rfl rfl ?_
    refine s_iload_n (q := 34) hX dX7_doIt_33 rfl rfl ?_
    refine s_imul (q := 35) (v := nI (3 * i)) hX dX7_doIt_34 rfl (pk_mul (3) (i)) ?_
    refine s_iadd (q := 36) (v := nI (a + 1 + (3 * i))) hX dX7_doIt_35 rfl (nI_add (a + 1) (3 * i)) ?_
    refine s_iload (q := 38) hX dX7_doIt_36 rfl rfl ?_
    refine s_iadd (q := 39) (v := nI (a + 1 + (3 * i) + 0)) hX dX7_doIt_38 rfl (nI_add (a + 1 + (3 * i)) (0)) ?_
    refine s_dup2 (q := 40) hX dX7_doIt_39 rfl rfl rfl ?_
    refine s_iald (k := a + 1 + (3 * i) + 0) (q := 41) hX dX7_doIt_40 rfl (by assumption) rfl (by omega) (by omega) ?_
    refine s_topi (v := nI (U.h (3 * i + 0))) (by simp only [gsr_s, gsr_n _ _ (show (94 : Nat) ≠ 93 by decide), gsr_n _ _ (show (93 : Nat) ≠ 94 by decide)]; first | exact h0 | (rw [pk_un (by omega)]; exact h0) | (rw [pk_un (by omega), pk_un (by omega)]; exact h0)) ?_
    refine s_aload_n (q := 42) hX dX7_doIt_41 rfl rfl ?_
    refine s_getr (q := 45) hX dX7_doIt_42 rfl gfl_7_41 (by assumption) rfl ?_
    refine s_iload (q := 47) hX dX7_doIt_45 rfl rfl ?_
    refine s_iald (k := 0) (q := 48) hX dX7_doIt_47 rfl (by assumption) rfl (by omega) (by omega) ?_
    refine s_topi (v := nI (p 0)) (by simp only [gsr_s, gsr_n _ _ (show (94 : Nat) ≠ 93 by decide), gsr_n _ _ (show (93 : Nat) ≠ 94 by decide)]; exact gg 0 (by omega)) ?_
    refine s_isub (q := 49) (v := nI (U.h (3 * i + 0) - p 0)) hX dX7_doIt_48 rfl (pk_sub (by omega)) ?_
    refine s_iast (k := a + 1 + (3 * i) + 0) (q := 50) hX dX7_doIt_49 rfl (by assumption) rfl (by omega) (by omega) ?_
    refine s_iload (q := 52) hX dX7_doIt_50 rfl rfl ?_
    refine s_aload_n (q := 53) hX dX7_doIt_52 rfl rfl ?_
    refine s_getr (q := 56) hX dX7_doIt_53 rfl gfl_7_41 (by assumption) rfl ?_
    refine s_iload (q := 58) hX dX7_doIt_56 rfl rfl ?_
    refine s_iald (k := 0) (q := 59) hX dX7_doIt_58 rfl (by assumption) rfl (by omega) (by omega) ?_
    refine s_topi (v := nI (p 0)) (by simp only [gsr_s, gsr_n _ _ (show (94 : Nat) ≠ 93 by decide), gsr_n _ _ (show (93 : Nat) ≠ 94 by decide)]; exact gg 0 (by omega)) ?_
    refine s_iadd (q := 60) (v := nI (0 + (p 0))) hX dX7_doIt_59 rfl (nI_add (0) (p 0)) ?_
    refine s_istore (q := 62) (lv' := [(0, _), (1, _), (2, _), (3, _), (4, _), (5, _)]) hX dX7_doIt_60 rfl (Nat.le_of_ble_eq_true rfl) rfl ?_
    refine s_iinc (q := 65) (v := 1) (lv' := [(0, _), (1, _), (2, _), (3, _), (4, _), (5, _)]) hX dX7_doIt_62 rfl rfl (by decide) (Nat.le_of_ble_eq_true rfl) rfl ?_
    refine s_goto (q := 19) hX dX7_doIt_65 rfl ?_
    refine s_iload (q := 21) hX dX7_doIt_19 rfl rfl ?_
    refine s_iconst (q := 22) (v := 3) hX dX7_doIt_21 rfl rfl ?_
    refine s_icmp_ge_f (q := 25) (r := 68) hX dX7_doIt_22 rfl rfl (by decide) ?_
    refine s_aload_n (q := 26) hX dX7_doIt_25 rfl rfl ?_
    refine s_getr (q := 29) hX dX7_doIt_26 rfl gfl_7_38 (by assumption) rfl ?_
    refine s_iload_n (q := 30) hX dX7_doIt_29 rfl rfl ?_
    refine s_iconst (q := 31) (v := 1) hX dX7_doIt_30 rfl rfl ?_
    refine s_iadd (q := 32) (v := nI (a + 1)) hX dX7_doIt_31 rfl (nI_add (a) (1)) ?_
    refine s_iconst (q := 33) (v := 3) hX dX7_doIt_32 rfl rfl ?_
    refine s_iload_n (q := 34) hX dX7_doIt_33 rfl rfl ?_
    refine s_imul (q := 35) (v := nI (3 * i)) hX dX7_doIt_34 rfl (pk_mul (3) (i)) ?_
    refine s_iadd (q := 36) (v := nI (a + 1 + (3 * i))) hX dX7_doIt_35 rfl (nI_add (a + 1) (3 * i)) ?_
    refine s_iload (q := 38) hX dX7_doIt_36 rfl rfl ?_
    refine s_iadd (q := 39) (v := nI (a + 1 + (3 * i) + 1)) hX dX7_doIt_38 rfl (nI_add (a + 1 + (3 * i)) (1)) ?_
    refine s_dup2 (q := 40) hX dX7_doIt_39 rfl rfl rfl ?_
    refine s_iald (k := a + 1 + (3 * i) + 1) (q := 41) hX dX7_doIt_40 rfl (by assumption) rfl (by omega) (by omega) ?_
    refine s_topi (v := nI (U.h (3 * i + 1))) (by simp only [gsr_s, gsr_n _ _ (show (94 : Nat) ≠ 93 by decide), gsr_n _ _ (show (93 : Nat) ≠ 94 by decide)]; first | exact h1 | (rw [pk_un (by omega)]; exact h1) | (rw [pk_un (by omega), pk_un (by omega)]; exact h1)) ?_
    refine s_aload_n (q := 42) hX dX7_doIt_41 rfl rfl ?_
    refine s_getr (q := 45) hX dX7_doIt_42 rfl gfl_7_41 (by assumption) rfl ?_
    refine s_iload (q := 47) hX dX7_doIt_45 rfl rfl ?_
    refine s_iald (k := 1) (q := 48) hX dX7_doIt_47 rfl (by assumption) rfl (by omega) (by omega) ?_
    refine s_topi (v := nI (p 1)) (by simp only [gsr_s, gsr_n _ _ (show (94 : Nat) ≠ 93 by decide), gsr_n _ _ (show (93 : Nat) ≠ 94 by decide)]; exact gg 1 (by omega)) ?_
    refine s_isub (q := 49) (v := nI (U.h (3 * i + 1) - p 1)) hX dX7_doIt_48 rfl (pk_sub (by omega)) ?_
    refine s_iast (k := a + 1 + (3 * i) + 1) (q := 50) hX dX7_doIt_49 rfl (by assumption) rfl (by omega) (by omega) ?_
    refine s_iload (q := 52) hX dX7_doIt_50 rfl rfl ?_
    refine s_aload_n (q := 53) hX dX7_doIt_52 rfl rfl ?_
    refine s_getr (q := 56) hX dX7_doIt_53 rfl gfl_7_41 (by assumption) rfl ?_
    refine s_iload (q := 58) hX dX7_doIt_56 rfl rfl ?_
    refine s_iald (k := 1) (q := 59) hX dX7_doIt_58 rfl (by assumption) rfl (by omega) (by omega) ?_
    refine s_topi (v := nI (p 1)) (by simp only [gsr_s, gsr_n _ _ (show (94 : Nat) ≠ 93 by decide), gsr_n _ _ (show (93 : Nat) ≠ 94 by decide)]; exact gg 1 (by omega)) ?_
    refine s_iadd (q := 60) (v := nI (0 + (p 0) + (p 1))) hX dX7_doIt_59 rfl (nI_add (0 + (p 0)) (p 1)) ?_
    refine s_istore (q := 62) (lv' := [(0, _), (1, _), (2, _), (3, _), (4, _), (5, _)]) hX dX7_doIt_60 rfl (Nat.le_of_ble_eq_true rfl) rfl ?_
    refine s_iinc (q := 65) (v := 2) (lv' := [(0, _), (1, _), (2, _), (3, _), (4, _), (5, _)]) hX dX7_doIt_62 rfl rfl (by decide) (Nat.le_of_ble_eq_true rfl) rfl ?_
    refine s_goto (q := 19) hX dX7_doIt_65 rfl ?_
    refine s_iload (q := 21) hX dX7_doIt_19 rfl rfl ?_
    refine s_iconst (q := 22) (v := 3) hX dX7_doIt_21 rfl rfl ?_
    refine s_icmp_ge_f (q := 25) (r := 68) hX dX7_doIt_22 rfl rfl (by decide) ?_
    refine s_aload_n (q := 26) hX dX7_doIt_25 rfl rfl ?_
    refine s_getr (q := 29) hX dX7_doIt_26 rfl gfl_7_38 (by assumption) rfl ?_
    refine s_iload_n (q := 30) hX dX7_doIt_29 rfl rfl ?_
    refine s_iconst (q := 31) (v := 1) hX dX7_doIt_30 rfl rfl ?_
    refine s_iadd (q := 32) (v := nI (a + 1)) hX dX7_doIt_31 rfl (nI_add (a) (1)) ?_
    refine s_iconst (q := 33) (v := 3) hX dX7_doIt_32 rfl rfl ?_
    refine s_iload_n (q := 34) hX dX7_doIt_33 rfl rfl ?_
    refine s_imul (q := 35) (v := nI (3 * i)) hX dX7_doIt_34 rfl (pk_mul (3) (i)) ?_
    refine s_iadd (q := 36) (v := nI (a + 1 + (3 * i))) hX dX7_doIt_35 rfl (nI_add (a + 1) (3 * i)) ?_
    refine s_iload (q := 38) hX dX7_doIt_36 rfl rfl ?_
    refine s_iadd (q := 39) (v := nI (a + 1 + (3 * i) + 2)) hX dX7_doIt_38 rfl (nI_add (a + 1 + (3 * i)) (2)) ?_
    refine s_dup2 (q := 40) hX dX7_doIt_39 rfl rfl rfl ?_
    refine s_iald (k := a + 1 + (3 * i) + 2) (q := 41) hX dX7_doIt_40 rfl (by assumption) rfl (by omega) (by omega) ?_
    refine s_topi (v := nI (U.h (3 * i + 2))) (by simp only [gsr_s, gsr_n _ _ (show (94 : Nat) ≠ 93 by decide), gsr_n _ _ (show (93 : Nat) ≠ 94 by decide)]; first | exact h2 | (rw [pk_un (by omega)]; exact h2) | (rw [pk_un (by omega), pk_un (by omega)]; exact h2)) ?_
    refine s_aload_n (q := 42) hX dX7_doIt_41 rfl rfl ?_
    refine s_getr (q := 45) hX dX7_doIt_42 rfl gfl_7_41 (by assumption) rfl ?_
    refine s_iload (q := 47) hX dX7_doIt_45 rfl rfl ?_
    refine s_iald (k := 2) (q := 48) hX dX7_doIt_47 rfl (by assumption) rfl (by omega) (by omega) ?_
    refine s_topi (v := nI (p 2)) (by simp only [gsr_s, gsr_n _ _ (show (94 : Nat) ≠ 93 by decide), gsr_n _ _ (show (93 : Nat) ≠ 94 by decide)]; exact gg 2 (by omega)) ?_
    refine s_isub (q := 49) (v := nI (U.h (3 * i + 2) - p 2)) hX dX7_doIt_48 rfl (pk_sub (by omega)) ?_
    refine s_iast (k := a + 1 + (3 * i) + 2) (q := 50) hX dX7_doIt_49 rfl (by assumption) rfl (by omega) (by omega) ?_
    refine s_iload (q := 52) hX dX7_doIt_50 rfl rfl ?_
    refine s_aload_n (q := 53) hX dX7_doIt_52 rfl rfl ?_
    refine s_getr (q := 56) hX dX7_doIt_53 rfl gfl_7_41 (by assumption) rfl ?_
    refine s_iload (q := 58) hX dX7_doIt_56 rfl rfl ?_
    refine s_iald (k := 2) (q := 59) hX dX7_doIt_58 rfl (by assumption) rfl (by omega) (by omega) ?_
    refine s_topi (v := nI (p 2)) (by simp only [gsr_s, gsr_n _ _ (show (94 : Nat) ≠ 93 by decide), gsr_n _ _ (show (93 : Nat) ≠ 94 by decide)]; exact gg 2 (by omega)) ?_
    refine s_iadd (q := 60) (v := nI (0 + (p 0) + (p 1) + (p 2))) hX dX7_doIt_59 rfl (nI_add (0 + (p 0) + (p 1)) (p 2)) ?_
    refine s_istore (q := 62) (lv' := [(0, _), (1, _), (2, _), (3, _), (4, _), (5, _)]) hX dX7_doIt_60 rfl (Nat.le_of_ble_eq_true rfl) rfl ?_
    refine s_iinc (q := 65) (v := 3) (lv' := [(0, _), (1, _), (2, _), (3, _), (4, _), (5, _)]) hX dX7_doIt_62 rfl rfl (by decide) (Nat.le_of_ble_eq_true rfl) rfl ?_
    refine s_goto (q := 19) hX dX7_doIt_65 rfl ?_
    refine s_iload (q := 21) hX dX7_doIt_19 rfl rfl ?_
    refine s_iconst (q := 22) (v := 3) hX dX7_doIt_21 rfl rfl ?_
    refine s_icmp_ge_t (q := 25) (r := 68) hX dX7_doIt_22 rfl rfl (by decide) ?_
    refine s_aload_n (q := 69) hX dX7_doIt_68 rfl rfl ?_
    refine s_getr (q := 72) hX dX7_doIt_69 rfl gfl_7_38 (by assumption) rfl ?_
    refine s_iload_n (q := 73) hX dX7_doIt_72 rfl rfl ?_
    refine s_bipush (q := 75) (v := 25) hX dX7_doIt_73 rfl rfl (by decide) ?_
    refine s_iadd (q := 76) (v := nI (a + 25)) hX dX7_doIt_75 rfl (nI_add (a) (25)) ?_
    refine s_iload_n (q := 77) hX dX7_doIt_76 rfl rfl ?_
    refine s_iadd (q := 78) (v := nI (a + 25 + i)) hX dX7_doIt_77 rfl (nI_add (a + 25) (i)) ?_
    refine s_dup2 (q := 79) hX dX7_doIt_78 rfl rfl rfl ?_
    refine s_iald (k := a + 25 + i) (q := 80) hX dX7_doIt_79 rfl (by assumption) rfl (by omega) (by omega) ?_
    refine s_aload_n (q := 81) hX dX7_doIt_80 rfl rfl ?_
    refine s_getr (q := 84) hX dX7_doIt_81 rfl gfl_7_29 (by assumption) rfl ?_
    refine s_iload_n (q := 85) hX dX7_doIt_84 rfl rfl ?_
    refine s_iald (k := k) (q := 86) hX dX7_doIt_85 rfl (by assumption) rfl (by omega) (by omega) ?_
    refine s_topi (v := nI (T.wo k)) (by simp only [gsr_n _ _ (show (90 : Nat) ≠ 93 by decide), gsr_n _ _ (show (90 : Nat) ≠ 94 by decide)]; exact hwo) ?_
    refine s_iadd (q := 87) hX dX7_doIt_86 rfl rfl ?_
    refine s_iast (k := a + 25 + i) (q := 88) hX dX7_doIt_87 rfl (by assumption) rfl (by omega) (by omega) ?_
    refine s_iload (q := 90) hX dX7_doIt_88 rfl rfl ?_
    refine s_iret hX dX7_doIt_90 (Or.inl rfl) ⟨Nat.le_refl _, Nat.le_refl _, Nat.le_refl _, ?_⟩
    refine gqv (hcon1 hc _ ⟨fun c h1 h2 => by simp only [gsr_n _ _ h1, gsr_n _ _ h2], fun j hj => by simp only [gsr_s, gsr_n _ _ (show (94 : Nat) ≠ 93 by decide), gsr_n _ _ (show (93 : Nat) ≠ 94 by decide)]; rw [pk_un (by omega), pk_un (by omega), pk_un (by omega), pk_un (by omega)]⟩ (stm_act (p := p) hU o1 hi hc hpe (y := U.w i + nI (T.wo k)) rfl ?_)) (congrArg nI (by omega)) rfl
    simp only [gsr_s, gsr_n _ _ (show (94 : Nat) ≠ 93 by decide), gsr_n _ _ (show (93 : Nat) ≠ 94 by decide)]
    rw [pk_un (by omega), pk_un (by omega), pk_un (by omega), hU.2.2.2 i hi]
  · refine s_bipush (q := 12) (v := (-2)) hX dX7_doIt_10 rfl rfl (by decide) ?_
    refine s_iret hX dX7_doIt_12 (Or.inl rfl) ⟨Nat.le_refl _, Nat.le_refl _, Nat.le_refl _, ?_⟩
    have hc : T.can i k (U.tr i) = false := by
      have := gif_f2 c7
      simpa using this
    exact hcon0 hc _ ⟨fun c h1 h2 => gsr_n _ _ h2, fun j hj => by rw [gsr_n _ _ (by decide)]⟩ (hU.kp o1 (fun j h1 h2 => by rw [gsr_n _ _ (by decide)]))
set_option maxHeartbeats 4000000 in
set_option maxRecDepth 100000 in
theorem m_sea {d a : Nat} {T : gT} {U : gU} {i : Nat} {sh : List gS} {M : gM} {Q : Option Value → List gS → gM → Prop} (hC : isMod sh) (hW : TWM M T) (g1 : T.ok) (hU : STM M a T.P U) (hUk : U.ok T.P) (ha : a + 31 ≤ 372) (hi : i < T.P) (hcon : ∀ M', FRM M M' a → STM M' a T.P (T.sea1 i U) → Q none sh M') : gC mX7_sea d 0 0 [.ref 83, .int (nI a), .int (nI i)] sh M Q := by
  have hC0 := hC
  obtain ⟨y0, y1, y2, y3, y4, y5, y6, y7, y8, y9, y10, y11, y12, y13, y14, y15⟩ := hC
  have g0 := g1
  obtain ⟨o1, o2, o3, o4, o5, o6, o7, o8⟩ := g0
  have hkd := hW.2.2.2.1 i hi
  have bkd := o4 i hi
  have h2 : M 93 (a + 1 + 3 * i + 2) = nI (U.h (3 * i + 2)) := by rw [Nat.add_assoc (a + 1)]; exact hU.2.1 _ (by omega)
  have b2 := hUk.1 (3 * i + 2) (by omega)
  refine gC_of (rt := 0) (ini := false) gm_X7_sea rfl (by decide) (Nat.le_of_ble_eq_true rfl) (fun X hX => ?_)
  refine s_iload_n (q := 1) hX dX7_sea_0 rfl rfl ?_
  refine s_iconst (q := 2) (v := 1) hX dX7_sea_1 rfl rfl ?_
  refine s_iadd (q := 3) (v := nI (a + 1)) hX dX7_sea_2 rfl (nI_add (a) (1)) ?_
  refine s_iconst (q := 4) (v := 3) hX dX7_sea_3 rfl rfl ?_
  refine s_iload_n (q := 5) hX dX7_sea_4 rfl rfl ?_
  refine s_imul (q := 6) (v := nI (3 * i)) hX dX7_sea_5 rfl (pk_mul (3) (i)) ?_
  refine s_iadd (q := 7) (v := nI (a + 1 + (3 * i))) hX dX7_sea_6 rfl (nI_add (a + 1) (3 * i)) ?_
  refine s_iconst (q := 8) (v := 2) hX dX7_sea_7 rfl rfl ?_
  refine s_iadd (q := 9) (v := nI (a + 1 + (3 * i) + 2)) hX dX7_sea_8 rfl (nI_add (a + 1 + (3 * i)) (2)) ?_
  refine s_istore_n (q := 10) (lv' := [(0, _), (1, _), (2, _), (3, _)]) hX dX7_sea_9 rfl (Nat.le_of_ble_eq_true rfl) rfl ?_
  refine s_aload_n (q := 11) hX dX7_sea_10 rfl rfl ?_
  refine s_getr (q := 14) hX dX7_sea_11 rfl gfl_7_38 (by assumption) rfl ?_
  refine s_iload_n (q := 15) hX dX7_sea_14 rfl rfl ?_
  refine s_dup2 (q := 16) hX dX7_sea_15 rfl rfl rfl ?_
  refine s_iald (k := a + 1 + (3 * i) + 2) (q := 17) hX dX7_sea_16 rfl (by assumption) rfl (by omega) (by omega) ?_
  refine s_topi (v := nI (U.h (3 * i + 2))) h2 ?_
  refine s_aload_n (q := 18) hX dX7_sea_17 rfl rfl ?_
  refine s_getr (q := 21) hX dX7_sea_18 rfl gfl_7_17 (by assumption) rfl ?_
  refine s_iload_n (q := 22) hX dX7_sea_21 rfl rfl ?_
  refine s_iald (k := i) (q := 23) hX dX7_sea_22 rfl (by assumption) rfl (by omega) (by omega) ?_
  refine s_topi (v := nI (T.kd i)) hkd ?_
  refine s_iconst (q := 24) (v := 2) hX dX7_sea_23 rfl rfl ?_
  refine s_nicmp_ne (a := T.kd i) (b := 2) (q := 27) (r := 40) hX dX7_sea_24 rfl rfl rfl rfl (by omega) (by omega) (fun c24 => ?_) (fun c24 => ?_)
  · refine s_iconst (q := 41) (v := 0) hX dX7_sea_40 rfl rfl ?_
    refine s_isub (q := 42) (v := nI (U.h (3 * i + 2) - 0)) hX dX7_sea_41 rfl (pk_sub (a := U.h (3 * i + 2)) (b := 0) (by omega)) ?_
    refine s_iast (k := a + 1 + (3 * i) + 2) (q := 43) hX dX7_sea_42 rfl (by assumption) rfl (by omega) (by omega) ?_
    refine s_ret hX dX7_sea_43 rfl ⟨Nat.le_refl _, Nat.le_refl _, Nat.le_refl _, ?_⟩
    exact hcon _ (FRM.one (by omega) (by omega)) (stm_sea hU o1 hi (gsr_s _ _ _) (by split <;> omega))
  · refine s_aload_n (q := 28) hX dX7_sea_27 rfl rfl ?_
    refine s_getr (q := 31) hX dX7_sea_28 rfl gfl_7_38 (by assumption) rfl ?_
    refine s_iload_n (q := 32) hX dX7_sea_31 rfl rfl ?_
    refine s_iald (k := a + 1 + (3 * i) + 2) (q := 33) hX dX7_sea_32 rfl (by assumption) rfl (by omega) (by omega) ?_
    refine s_topi (v := nI (U.h (3 * i + 2))) h2 ?_
    refine s_nif_le (a := U.h (3 * i + 2)) (b := 0) (q := 36) (r := 40) hX dX7_sea_33 rfl rfl rfl rfl (by omega) (by omega) (fun c33 => ?_) (fun c33 => ?_)
    · refine s_iconst (q := 41) (v := 0) hX dX7_sea_40 rfl rfl ?_
      refine s_isub (q := 42) (v := nI (U.h (3 * i + 2) - 0)) hX dX7_sea_41 rfl (pk_sub (a := U.h (3 * i + 2)) (b := 0) (by omega)) ?_
      refine s_iast (k := a + 1 + (3 * i) + 2) (q := 43) hX dX7_sea_42 rfl (by assumption) rfl (by omega) (by omega) ?_
      refine s_ret hX dX7_sea_43 rfl ⟨Nat.le_refl _, Nat.le_refl _, Nat.le_refl _, ?_⟩
      exact hcon _ (FRM.one (by omega) (by omega)) (stm_sea hU o1 hi (gsr_s _ _ _) (by split <;> omega))
    · refine s_iconst (q := 37) (v := 1) hX dX7_sea_36 rfl rfl ?_
      refine s_goto (q := 41) hX dX7_sea_37 rfl ?_
      refine s_isub (q := 42) (v := nI (U.h (3 * i + 2) - 1)) hX dX7_sea_41 rfl (pk_sub (a := U.h (3 * i + 2)) (b := 1) (by omega)) ?_
      refine s_iast (k := a + 1 + (3 * i) + 2) (q := 43) hX dX7_sea_42 rfl (by assumption) rfl (by omega) (by omega) ?_
      refine s_ret hX dX7_sea_43 rfl ⟨Nat.le_refl _, Nat.le_refl _, Nat.le_refl _, ?_⟩
      exact hcon _ (FRM.one (by omega) (by omega)) (stm_sea hU o1 hi (gsr_s _ _ _) (by split <;> omega))
set_option maxHeartbeats 4000000 in
set_option maxRecDepth 100000 in
theorem m_seaAll {d a : Nat} {T : gT} {U : gU} {sh : List gS} {M : gM} {Q : Option Value → List gS → gM → Prop} (hd : 1 ≤ d) (hC : isMod sh) (hW : TWM M T) (g1 : T.ok) (hU : STM M a T.P U) (hUk : U.ok T.P) (ha : a + 31 ≤ 372) (hcon : ∀ M', FRM M M' a → STM M' a T.P (T.sea U) → Q none sh M') : gC mX7_seaAll d 0 0 [.ref 83, .int (nI a)] sh M Q := by
  have hC0 := hC
  obtain ⟨y0, y1, y2, y3, y4, y5, y6, y7, y8, y9, y10, y11, y12, y13, y14, y15⟩ := hC
  have g0 := g1
  obtain ⟨o1, o2, o3, o4, o5, o6, o7, o8⟩ := g0
  refine gC_of (rt := 0) (ini := false) gm_X7_seaAll rfl (by decide) (Nat.le_of_ble_eq_true rfl) (fun X hX => ?_)
  have L : ∀ (m i : Nat) (M' : gM), i ≤ T.P → T.P < i + m → STM M' a T.P (T.seaN i U) → FRM M M' a → X 2 [(0, .ref 83), (1, .int (nI a)), (2, .int (nI i))] [] sh M' 0 0 := by
    intro m
    induction m with
    | zero => intro i M' h1 h2; omega
    | succ m ih =>
      intro i M' hi hm hU' hF
      have hW' := hF.tw hW
      refine s_iload_n (q := 3) hX dX7_seaAll_2 rfl rfl ?_
      refine s_aload_n (q := 4) hX dX7_seaAll_3 rfl rfl ?_
      refine s_getr (q := 7) hX dX7_seaAll_4 rfl gfl_7_13 (by assumption) rfl ?_
      refine s_iconst (q := 8) (v := 0) hX dX7_seaAll_7 rfl rfl ?_
      refine s_iald (k := 0) (q := 9) hX dX7_seaAll_8 rfl (by assumption) rfl (by omega) (by omega) ?_
      refine s_topi (v := nI (T.P)) hW'.1 ?_
      refine s_nicmp_ge (a := i) (b := T.P) (q := 12) (r := 24) hX dX7_seaAll_9 rfl rfl rfl rfl (by omega) (by omega) (fun c9 => ?_) (fun c9 => ?_)
      · refine s_ret hX dX7_seaAll_24 rfl ⟨Nat.le_refl _, Nat.le_refl _, Nat.le_refl _, ?_⟩
        have e : i = T.P := by omega
        subst e
        refine hcon M' hF (hU'.cg rfl (fun j hj => ?_) (fun _ _ => rfl) (fun _ _ => rfl))
        show (if j / 3 < T.P ∧ T.kd (j / 3) = 2 ∧ j % 3 = 2 then U.h j - 1 else U.h j) = if T.kd (j / 3) = 2 ∧ j % 3 = 2 then U.h j - 1 else U.h j
        by_cases e3 : T.kd (j / 3) = 2 ∧ j % 3 = 2
        · rw [if_pos ⟨by omega, e3⟩, if_pos e3]
        · rw [if_neg (fun z => e3 z.2), if_neg e3]
      · refine s_aload_n (q := 13) hX dX7_seaAll_12 rfl rfl ?_
        refine s_iload_n (q := 14) hX dX7_seaAll_13 rfl rfl ?_
        refine s_iload_n (q := 15) hX dX7_seaAll_14 rfl rfl ?_
        refine s_invv2_0 (q := 18) hX dX7_seaAll_15 rfl glk_7_128 (by assumption) (Nat.le_of_ble_eq_true rfl) ⟨Nat.le_refl _, Nat.le_refl _⟩ (by omega) (m_sea (d := 0) hC0 hW' g1 hU' (gT.seaN_ok hUk) ha (by omega) (fun M1 f1 u1 => ?_)) 
        refine ⟨rfl, ?_⟩
        refine s_iinc (q := 21) (v := nI (i + 1)) (lv' := [(0, _), (1, _), (2, _)]) hX dX7_seaAll_18 rfl rfl (nI_add (i) 1) (Nat.le_of_ble_eq_true rfl) rfl ?_
        refine s_goto (q := 2) hX dX7_seaAll_21 rfl ?_
        refine ih (i + 1) M1 (by omega) (by omega) (u1.cg rfl (fun j hj => ?_) (fun _ _ => rfl) (fun _ _ => rfl)) (hF.tr f1)
        rw [seaN_row T U i j]
        show (if j = 3 * i + 2 ∧ T.kd i = 2 then (T.seaN i U).h j - 1 else (T.seaN i U).h j) = _
        by_cases e : j = 3 * i + 2 ∧ T.kd i = 2
        · rw [if_pos e, if_pos e, show (T.seaN i U).h j = U.h j from if_neg (by omega)]
        · rw [if_neg e, if_neg e]
  refine s_iconst (q := 1) (v := 0) hX dX7_seaAll_0 rfl rfl ?_
  refine s_istore_n (q := 2) (lv' := [(0, _), (1, _), (2, _)]) hX dX7_seaAll_1 rfl (Nat.le_of_ble_eq_true rfl) rfl ?_
  refine L (T.P + 1) 0 M (by omega) (by omega) (hU.cg rfl (fun j hj => ?_) (fun _ _ => rfl) (fun _ _ => rfl)) FRM.rf
  show U.h j = if j / 3 < 0 ∧ T.kd (j / 3) = 2 ∧ j % 3 = 2 then U.h j - 1 else U.h j
  rw [if_neg (by omega)]
set_option maxHeartbeats 4000000 in
set_option maxRecDepth 100000 in
theorem m_toldDeeds {d a : Nat} {T : gT} {U : gU} {sh : List gS} {M : gM} {Q : Option Value → List gS → gM → Prop} (hd : 3 ≤ d) (hC : isMod sh) (hW : TWM M T) (g1 : T.ok) (hU : STM M a T.P U) (hUk : U.ok T.P) (ha : a + 31 ≤ 372) (hcon : ∀ M', FRM M M' a → STM M' a T.P (T.told T.P U) → Q none sh M') : gC mX7_toldDeeds d 0 0 [.ref 83, .int (nI a)] sh M Q := by
  have hC0 := hC
  obtain ⟨y0, y1, y2, y3, y4, y5, y6, y7, y8, y9, y10, y11, y12, y13, y14, y15⟩ := hC
  have g0 := g1
  obtain ⟨o1, o2, o3, o4, o5, o6, o7, o8⟩ := g0
  have hd9 := hUk.2
  refine gC_of (rt := 0) (ini := false) gm_X7_toldDeeds rfl (by decide) (Nat.le_of_ble_eq_true rfl) (fun X hX => ?_)
  have L : ∀ (m i : Nat) (M' : gM), i ≤ T.P → T.P < i + m → STM M' a T.P (T.told i U) → FRM M M' a → X 2 [(0, .ref 83), (1, .int (nI a)), (2, .int (nI i))] [] sh M' 0 0 := by
    intro m
    induction m with
    | zero => intro i M' h1 h2; omega
    | succ m ih =>
      intro i M' hi hm hU' hF
      have hW' := hF.tw hW
      obtain ⟨k1, k2⟩ := T.told_ok hUk i
      have hdd : M' 93 (a + 0) = nI U.d := by rw [← k2]; exact hU'.1
      by_cases hiP : i = T.P
      · subst hiP
        refine s_iload_n (q := 3) hX dX7_toldDeeds_2 rfl rfl ?_
        refine s_aload_n (q := 4) hX dX7_toldDeeds_3 rfl rfl ?_
        refine s_getr (q := 7) hX dX7_toldDeeds_4 rfl gfl_7_13 (by assumption) rfl ?_
        refine s_iconst (q := 8) (v := 0) hX dX7_toldDeeds_7 rfl rfl ?_
        refine s_iald (k := 0) (q := 9) hX dX7_toldDeeds_8 rfl (by assumption) rfl (by omega) (by omega) ?_
        refine s_topi (v := nI (T.P)) hW'.1 ?_
        refine s_icmp_ge_t (q := 12) (r := 54) hX dX7_toldDeeds_9 rfl rfl (Int32.le_refl _) ?_
        refine s_ret hX dX7_toldDeeds_54 rfl ⟨Nat.le_refl _, Nat.le_refl _, Nat.le_refl _, ?_⟩
        exact hcon M' hF hU'
      · have hpl := hW'.2.2.2.2.2.2.2 (7 * i + U.d % 7) (by omega)
        rcases o8 (7 * i + U.d % 7) (by omega) with hp | ⟨k, hk, hp⟩
        · refine s_iload_n (q := 3) hX dX7_toldDeeds_2 rfl rfl ?_
          refine s_aload_n (q := 4) hX dX7_toldDeeds_3 rfl rfl ?_
          refine s_getr (q := 7) hX dX7_toldDeeds_4 rfl gfl_7_13 (by assumption) rfl ?_
          refine s_iconst (q := 8) (v := 0) hX dX7_toldDeeds_7 rfl rfl ?_
          refine s_iald (k := 0) (q := 9) hX dX7_toldDeeds_8 rfl (by assumption) rfl (by omega) (by omega) ?_
          refine s_topi (v := nI (T.P)) hW'.1 ?_
          refine s_icmp_ge_f (q := 12) (r := 54) hX dX7_toldDeeds_9 rfl rfl (nI_ge (by omega) (by omega)) ?_
          refine s_aload_n (q := 13) hX dX7_toldDeeds_12 rfl rfl ?_
          refine s_getr (q := 16) hX dX7_toldDeeds_13 rfl gfl_7_32 (by assumption) rfl ?_
          refine s_bipush (q := 18) (v := 7) hX dX7_toldDeeds_16 rfl rfl (by decide) ?_
          refine s_iload_n (q := 19) hX dX7_toldDeeds_18 rfl rfl ?_
          refine s_imul (q := 20) (v := nI (7 * i)) hX dX7_toldDeeds_19 rfl (pk_mul (7) (i)) ?_
          refine s_aload_n (q := 21) hX dX7_toldDeeds_20 rfl rfl ?_
          refine s_getr (q := 24) hX dX7_toldDeeds_21 rfl gfl_7_38 (by assumption) rfl ?_
          refine s_iload_n (q := 25) hX dX7_toldDeeds_24 rfl rfl ?_
          refine s_iconst (q := 26) (v := 0) hX dX7_toldDeeds_25 rfl rfl ?_
          refine s_iadd (q := 27) (v := nI (a + 0)) hX dX7_toldDeeds_26 rfl (nI_add (a) (0)) ?_
          refine s_iald (k := a + 0) (q := 28) hX dX7_toldDeeds_27 rfl (by assumption) rfl (by omega) (by omega) ?_
          refine s_topi (v := nI (U.d)) hdd ?_
          refine s_bipush (q := 30) (v := 7) hX dX7_toldDeeds_28 rfl rfl (by decide) ?_
          refine s_irem (q := 31) (v := nI ((U.d) % 7)) hX dX7_toldDeeds_30 rfl (pk_rem (a := U.d) (d := 7) (by omega) (by decide) (by decide)) (by decide) ?_
          refine s_iadd (q := 32) (v := nI (7 * i + ((U.d) % 7))) hX dX7_toldDeeds_31 rfl (nI_add (7 * i) ((U.d) % 7)) ?_
          refine s_iald (k := 7 * i + ((U.d) % 7)) (q := 33) hX dX7_toldDeeds_32 rfl (by assumption) rfl (by omega) (by omega) ?_
          refine s_topi (v := (-4)) (by rw [hpl]; exact hp) ?_
          refine s_istore_n (q := 34) (lv' := [(0, _), (1, _), (2, _), (3, _)]) hX dX7_toldDeeds_33 rfl (Nat.le_of_ble_eq_true rfl) rfl ?_
          refine s_iload_n (q := 35) hX dX7_toldDeeds_34 rfl rfl ?_
          refine s_bipush (q := 37) (v := (-4)) hX dX7_toldDeeds_35 rfl rfl (by decide) ?_
          refine s_icmp_eq_t (q := 40) (r := 48) hX dX7_toldDeeds_37 rfl rfl (by decide) ?_
          refine s_iinc (q := 51) (v := nI (i + 1)) (lv' := [(0, _), (1, _), (2, _), (3, _)]) hX dX7_toldDeeds_48 rfl rfl (nI_add (i) 1) (Nat.le_of_ble_eq_true rfl) rfl ?_
          refine s_goto (q := 2) hX dX7_toldDeeds_51 rfl ?_
          have e : T.told (i + 1) U = T.told i U := by
            show T.told1 i (T.told i U) = _
            unfold gT.told1
            rw [k2, if_pos hp]
          refine s_dl hX (ih (i + 1) M' (by omega) (by omega) ?_ hF)
          rw [e]; exact hU'
        · refine s_iload_n (q := 3) hX dX7_toldDeeds_2 rfl rfl ?_
          refine s_aload_n (q := 4) hX dX7_toldDeeds_3 rfl rfl ?_
          refine s_getr (q := 7) hX dX7_toldDeeds_4 rfl gfl_7_13 (by assumption) rfl ?_
          refine s_iconst (q := 8) (v := 0) hX dX7_toldDeeds_7 rfl rfl ?_
          refine s_iald (k := 0) (q := 9) hX dX7_toldDeeds_8 rfl (by assumption) rfl (by omega) (by omega) ?_
          refine s_topi (v := nI (T.P)) hW'.1 ?_
          refine s_icmp_ge_f (q := 12) (r := 54) hX dX7_toldDeeds_9 rfl rfl (nI_ge (by omega) (by omega)) ?_
          refine s_aload_n (q := 13) hX dX7_toldDeeds_12 rfl rfl ?_
          refine s_getr (q := 16) hX dX7_toldDeeds_13 rfl gfl_7_32 (by assumption) rfl ?_
          refine s_bipush (q := 18) (v := 7) hX dX7_toldDeeds_16 rfl rfl (by decide) ?_
          refine s_iload_n (q := 19) hX dX7_toldDeeds_18 rfl rfl ?_
          refine s_imul (q := 20) (v := nI (7 * i)) hX dX7_toldDeeds_19 rfl (pk_mul (7) (i)) ?_
          refine s_aload_n (q := 21) hX dX7_toldDeeds_20 rfl rfl ?_
          refine s_getr (q := 24) hX dX7_toldDeeds_21 rfl gfl_7_38 (by assumption) rfl ?_
          refine s_iload_n (q := 25) hX dX7_toldDeeds_24 rfl rfl ?_
          refine s_iconst (q := 26) (v := 0) hX dX7_toldDeeds_25 rfl rfl ?_
          refine s_iadd (q := 27) (v := nI (a + 0)) hX dX7_toldDeeds_26 rfl (nI_add (a) (0)) ?_
          refine s_iald (k := a + 0) (q := 28) hX dX7_toldDeeds_27 rfl (by assumption) rfl (by omega) (by omega) ?_
          refine s_topi (v := nI (U.d)) hdd ?_
          refine s_bipush (q := 30) (v := 7) hX dX7_toldDeeds_28 rfl rfl (by decide) ?_
          refine s_irem (q := 31) (v := nI ((U.d) % 7)) hX dX7_toldDeeds_30 rfl (pk_rem (a := U.d) (d := 7) (by omega) (by decide) (by decide)) (by decide) ?_
          refine s_iadd (q := 32) (v := nI (7 * i + ((U.d) % 7))) hX dX7_toldDeeds_31 rfl (nI_add (7 * i) ((U.d) % 7)) ?_
          refine s_iald (k := 7 * i + ((U.d) % 7)) (q := 33) hX dX7_toldDeeds_32 rfl (by assumption) rfl (by omega) (by omega) ?_
          refine s_topi (v := nI (k)) (by rw [hpl]; exact hp) ?_
          refine s_istore_n (q := 34) (lv' := [(0, _), (1, _), (2, _), (3, _)]) hX dX7_toldDeeds_33 rfl (Nat.le_of_ble_eq_true rfl) rfl ?_
          refine s_iload_n (q := 35) hX dX7_toldDeeds_34 rfl rfl ?_
          refine s_bipush (q := 37) (v := (-4)) hX dX7_toldDeeds_35 rfl rfl (by decide) ?_
          refine s_icmp_eq_f (q := 40) (r := 48) hX dX7_toldDeeds_37 rfl rfl (gnI4 (by omega)) ?_
          refine s_aload_n (q := 41) hX dX7_toldDeeds_40 rfl rfl ?_
          refine s_iload_n (q := 42) hX dX7_toldDeeds_41 rfl rfl ?_
          refine s_iload_n (q := 43) hX dX7_toldDeeds_42 rfl rfl ?_
          refine s_iload_n (q := 44) hX dX7_toldDeeds_43 rfl rfl ?_
          refine s_invv3_1 (q := 47) hX dX7_toldDeeds_44 rfl glk_7_125 (by assumption) (Nat.le_of_ble_eq_true rfl) ⟨Nat.le_refl _, Nat.le_refl _⟩ (by omega) (m_doIt (d := 2) (Nat.le_refl _) hC0 hW' g1 hU' k1 ha (by omega) hk (fun hc M1 f1 u1 => ?_) (fun hc M1 f1 u2 => ?_)) 
          · have u2 : STM M1 a T.P (T.act i k (T.told i U)) := by unfold gT.act; rw [if_neg (by rw [hc]; decide)]; exact u1
            refine ⟨_, rfl, ?_⟩
            refine s_pop (q := 48) hX dX7_toldDeeds_47 rfl rfl ?_
            refine s_iinc (q := 51) (v := nI (i + 1)) (lv' := [(0, _), (1, _), (2, _), (3, _)]) hX dX7_toldDeeds_48 rfl rfl (nI_add (i) 1) (Nat.le_of_ble_eq_true rfl) rfl ?_
            refine s_goto (q := 2) hX dX7_toldDeeds_51 rfl ?_
            refine s_dl hX (ih (i + 1) M1 (by omega) (by omega) ?_ (hF.tr f1))
            show STM M1 a T.P (T.told1 i (T.told i U))
            unfold gT.told1
            rw [k2, if_neg (by rw [hp]; exact gnI4 (by omega)), hp, nI_clamp (by omega)]
            exact u2
          · refine ⟨_, rfl, ?_⟩
            refine s_pop (q := 48) hX dX7_toldDeeds_47 rfl rfl ?_
            refine s_iinc (q := 51) (v := nI (i + 1)) (lv' := [(0, _), (1, _), (2, _), (3, _)]) hX dX7_toldDeeds_48 rfl rfl (nI_add (i) 1) (Nat.le_of_ble_eq_true rfl) rfl ?_
            refine s_goto (q := 2) hX dX7_toldDeeds_51 rfl ?_
            refine s_dl hX (ih (i + 1) M1 (by omega) (by omega) ?_ (hF.tr f1))
            show STM M1 a T.P (T.told1 i (T.told i U))
            unfold gT.told1
            rw [k2, if_neg (by rw [hp]; exact gnI4 (by omega)), hp, nI_clamp (by omega)]
            exact u2
  refine s_iconst (q := 1) (v := 0) hX dX7_toldDeeds_0 rfl rfl ?_
  refine s_istore_n (q := 2) (lv' := [(0, _), (1, _), (2, _)]) hX dX7_toldDeeds_1 rfl (Nat.le_of_ble_eq_true rfl) rfl ?_
  exact L (T.P + 1) 0 M (by omega) (by omega) hU FRM.rf
set_option maxHeartbeats 4000000 in
set_option maxRecDepth 100000 in
theorem m_over {d a : Nat} {T : gT} {U : gU} {sh : List gS} {M : gM} {Q : Option Value → List gS → gM → Prop} (hC : isMod sh) (hW : TWM M T) (g1 : T.ok) (hU : STM M a T.P U) (hUk : U.ok T.P) (ha : a + 31 ≤ 372) (hcon : ∀ M', FRM M M' a → STM M' a T.P (T.over U) → Q none sh M') : gC mX7_over d 0 0 [.ref 83, .int (nI a)] sh M Q := by
  have hC0 := hC
  obtain ⟨y0, y1, y2, y3, y4, y5, y6, y7, y8, y9, y10, y11, y12, y13, y14, y15⟩ := hC
  have g0 := g1
  obtain ⟨o1, o2, o3, o4, o5, o6, o7, o8⟩ := g0
  have hd9 := hUk.2
  have hdd : M 93 (a + 0) = nI U.d := hU.1
  refine gC_of (rt := 0) (ini := false) gm_X7_over rfl (by decide) (Nat.le_of_ble_eq_true rfl) (fun X hX => ?_)
  have E : ∀ (h' : Nat → Nat) (M' : gM), STM M' a T.P (h', U.c, U.w, U.d) → FRM M M' a → (∀ j, j < 3 * T.P → h' j = (T.over U).h j) → X 105 [(0, .ref 83), (1, .int (nI a))] [] sh M' 0 0 := by
    intro h' M' hU' hF he
    have hdd : M' 93 (a + 0) = nI U.d := hU'.1
    refine s_aload_n (q := 106) hX dX7_over_105 rfl rfl ?_
    refine s_getr (q := 109) hX dX7_over_106 rfl gfl_7_38 (by assumption) rfl ?_
    refine s_iload_n (q := 110) hX dX7_over_109 rfl rfl ?_
    refine s_iconst (q := 111) (v := 0) hX dX7_over_110 rfl rfl ?_
    refine s_iadd (q := 112) (v := nI (a + 0)) hX dX7_over_111 rfl (nI_add (a) (0)) ?_
    refine s_dup2 (q := 113) hX dX7_over_112 rfl rfl rfl ?_
    refine s_iald (k := a + 0) (q := 114) hX dX7_over_113 rfl (by assumption) rfl (by omega) (by omega) ?_
    refine s_topi (v := nI (U.d)) hdd ?_
    refine s_iconst (q := 115) (v := 1) hX dX7_over_114 rfl rfl ?_
    refine s_iadd (q := 116) (v := nI (U.d + 1)) hX dX7_over_115 rfl (nI_add (U.d) (1)) ?_
    refine s_iast (k := a + 0) (q := 117) hX dX7_over_116 rfl (by assumption) rfl (by omega) (by omega) ?_
    refine s_ret hX dX7_over_117 rfl ⟨Nat.le_refl _, Nat.le_refl _, Nat.le_refl _, ?_⟩
    refine hcon _ (hF.tr (FRM.one (by omega) (by omega))) ⟨?_, fun j hj => ?_, fun j hj => ?_, fun j hj => ?_⟩
    · rw [gsr_s]; exact pk_us
    · rw [gsr_s, pk_un (by omega), hU'.2.1 j hj]; congr 1; exact he j hj
    · rw [gsr_s, pk_un (by omega)]; exact hU'.2.2.1 j hj
    · rw [gsr_s, pk_un (by omega)]; exact hU'.2.2.2 j hj
  have L : ∀ (m k : Nat) (M' : gM), U.d % 7 = 6 → k ≤ 3 * T.P → 3 * T.P < k + m → STM M' a T.P (T.ovk k U) → FRM M M' a → X 24 [(0, .ref 83), (1, .int (nI a)), (2, .int 1), (3, .int (nI k))] [] sh M' 0 0 := by
    intro m
    induction m with
    | zero => intro i M' h0 h1 h2; omega
    | succ m ih =>
      intro k M' h6 hi hm hU' hF
      have hW' := hF.tw hW
      have hrow : k < 3 * T.P → M' 93 (a + 1 + k) = nI (U.h k) := by
        intro h
        rw [hU'.2.1 k h]
        congr 1
        exact if_neg (by omega)
      have hk3 : k < 3 * T.P → U.h k ≤ 99 := fun h => hUk.1 k h
      have hr3 : k < 3 * T.P → T.ra k ≤ 9 := fun h => o5 k h
      have hd3 : k < 3 * T.P → T.kd (k / 3) ≤ 4 := fun h => o4 (k / 3) (by omega)
      have e3 : 3 * (k / 3) + k % 3 = k := by omega
      refine s_iload_n (q := 25) hX dX7_over_24 rfl rfl ?_
      refine s_iconst (q := 26) (v := 3) hX dX7_over_25 rfl rfl ?_
      refine s_aload_n (q := 27) hX dX7_over_26 rfl rfl ?_
      refine s_getr (q := 30) hX dX7_over_27 rfl gfl_7_13 (by assumption) rfl ?_
      refine s_iconst (q := 31) (v := 0) hX dX7_over_30 rfl rfl ?_
      refine s_iald (k := 0) (q := 32) hX dX7_over_31 rfl (by assumption) rfl (by omega) (by omega) ?_
      refine s_topi (v := nI (T.P)) hW'.1 ?_
      refine s_imul (q := 33) (v := nI (3 * (T.P))) hX dX7_over_32 rfl (pk_mul (3) (T.P)) ?_
      refine s_nicmp_ge (a := k) (b := 3 * (T.P)) (q := 36) (r := 105) hX dX7_over_33 rfl rfl rfl rfl (by omega) (by omega) (fun c33 => ?_) (fun c33 => ?_)
      · have e : k = 3 * T.P := by omega
        subst e
        refine s_dl hX (s_dl hX (E (T.ovk (3 * T.P) U).h M' hU' hF (fun j hj => ?_)))
        show (if j < 3 * T.P then T.rn (j / 3) (U.tr (j / 3)) (j % 3) else U.h j) = (if U.d % 7 = 6 then (fun j => T.rn (j / 3) (U.tr (j / 3)) (j % 3)) else U.h) j
        rw [if_pos (by omega), if_pos h6]
      · refine s_iload_n (q := 37) hX dX7_over_36 rfl rfl ?_
        refine s_if_eq_f (q := 40) (r := 105) hX dX7_over_37 rfl rfl (by decide) ?_
        refine s_aload_n (q := 41) hX dX7_over_40 rfl rfl ?_
        refine s_getr (q := 44) hX dX7_over_41 rfl gfl_7_20 (by assumption) rfl ?_
        refine s_iload_n (q := 45) hX dX7_over_44 rfl rfl ?_
        refine s_iald (k := k) (q := 46) hX dX7_over_45 rfl (by assumption) rfl (by omega) (by omega) ?_
        refine s_topi (v := nI (T.ra k)) (hW'.2.2.2.2.1 k (by omega)) ?_
        refine s_aload_n (q := 47) hX dX7_over_46 rfl rfl ?_
        refine s_getr (q := 50) hX dX7_over_47 rfl gfl_7_17 (by assumption) rfl ?_
        refine s_iload_n (q := 51) hX dX7_over_50 rfl rfl ?_
        refine s_iconst (q := 52) (v := 3) hX dX7_over_51 rfl rfl ?_
        refine s_idiv (q := 53) (v := nI (k / 3)) hX dX7_over_52 rfl (pk_div (a := k) (d := 3) (by omega) (by decide) (by decide)) (by decide) ?_
        refine s_iald (k := k / 3) (q := 54) hX dX7_over_53 rfl (by assumption) rfl (by omega) (by omega) ?_
        refine s_topi (v := nI (T.kd (k / 3))) (hW'.2.2.2.1 (k / 3) (by omega)) ?_
        have hd4 := hd3 (by omega)
        have hr4 := hr3 (by omega)
        have hk4 := hk3 (by omega)
        refine s_iconst (q := 55) (v := 1) hX dX7_over_54 rfl rfl ?_
        refine s_nicmp_ne (a := T.kd (k / 3)) (b := 1) (q := 58) (r := 71) hX dX7_over_55 rfl rfl rfl rfl (by omega) (by omega) (fun c55 => ?_) (fun c55 => ?_)
        · refine s_iconst (q := 72) (v := 0) hX dX7_over_71 rfl rfl ?_
          refine s_iadd (q := 73) (v := nI (T.ra k + 0)) hX dX7_over_72 rfl (nI_add (T.ra k) (0)) ?_
          refine s_istore (q := 75) (lv' := [(0, _), (1, _), (2, _), (3, _), (4, _)]) hX dX7_over_73 rfl (Nat.le_of_ble_eq_true rfl) rfl ?_
          refine s_aload_n (q := 76) hX dX7_over_75 rfl rfl ?_
          refine s_getr (q := 79) hX dX7_over_76 rfl gfl_7_38 (by assumption) rfl ?_
          refine s_iload_n (q := 80) hX dX7_over_79 rfl rfl ?_
          refine s_iconst (q := 81) (v := 1) hX dX7_over_80 rfl rfl ?_
          refine s_iadd (q := 82) (v := nI (a + 1)) hX dX7_over_81 rfl (nI_add (a) (1)) ?_
          refine s_iload_n (q := 83) hX dX7_over_82 rfl rfl ?_
          refine s_iadd (q := 84) (v := nI (a + 1 + k)) hX dX7_over_83 rfl (nI_add (a + 1) (k)) ?_
          refine s_iload (q := 86) hX dX7_over_84 rfl rfl ?_
          refine s_bipush (q := 88) (v := 99) hX dX7_over_86 rfl rfl (by decide) ?_
          refine s_nicmp_le (a := T.ra k + 0) (b := 99) (q := 91) (r := 96) hX dX7_over_88 rfl rfl rfl rfl (by omega) (by omega) (fun c88 => ?_) (fun c88 => ?_)
          · refine s_iload (q := 98) hX dX7_over_96 rfl rfl ?_
            refine s_iast (k := a + 1 + k) (q := 99) hX dX7_over_98 rfl (by assumption) rfl (by omega) (by omega) ?_
            refine s_iinc (q := 102) (v := nI (k + 1)) (lv' := [(0, _), (1, _), (2, _), (3, _), (4, _)]) hX dX7_over_99 rfl rfl (nI_add (k) 1) (Nat.le_of_ble_eq_true rfl) rfl ?_
            refine s_goto (q := 24) hX dX7_over_102 rfl ?_
            refine s_dl hX (ih (k + 1) _ h6 (by omega) (by omega) (stm_ov hU' o1 (by omega) (gsr_s _ _ _) ?_) (hF.tr (FRM.one (by omega) (by omega))))
            unfold gT.rn gU.tr
            rw [e3]
            split <;> omega
          · refine s_bipush (q := 93) (v := 99) hX dX7_over_91 rfl rfl (by decide) ?_
            refine s_goto (q := 98) hX dX7_over_93 rfl ?_
            refine s_iast (k := a + 1 + k) (q := 99) hX dX7_over_98 rfl (by assumption) rfl (by omega) (by omega) ?_
            refine s_iinc (q := 102) (v := nI (k + 1)) (lv' := [(0, _), (1, _), (2, _), (3, _), (4, _)]) hX dX7_over_99 rfl rfl (nI_add (k) 1) (Nat.le_of_ble_eq_true rfl) rfl ?_
            refine s_goto (q := 24) hX dX7_over_102 rfl ?_
            refine s_dl hX (ih (k + 1) _ h6 (by omega) (by omega) (stm_ov hU' o1 (by omega) (gsr_s _ _ _) ?_) (hF.tr (FRM.one (by omega) (by omega))))
            unfold gT.rn gU.tr
            rw [e3]
            split <;> omega
        · refine s_aload_n (q := 59) hX dX7_over_58 rfl rfl ?_
          refine s_getr (q := 62) hX dX7_over_59 rfl gfl_7_38 (by assumption) rfl ?_
          refine s_iload_n (q := 63) hX dX7_over_62 rfl rfl ?_
          refine s_iconst (q := 64) (v := 1) hX dX7_over_63 rfl rfl ?_
          refine s_iadd (q := 65) (v := nI (a + 1)) hX dX7_over_64 rfl (nI_add (a) (1)) ?_
          refine s_iload_n (q := 66) hX dX7_over_65 rfl rfl ?_
          refine s_iadd (q := 67) (v := nI (a + 1 + k)) hX dX7_over_66 rfl (nI_add (a + 1) (k)) ?_
          refine s_iald (k := a + 1 + k) (q := 68) hX dX7_over_67 rfl (by assumption) rfl (by omega) (by omega) ?_
          refine s_topi (v := nI (U.h k)) (hrow (by omega)) ?_
          refine s_goto (q := 72) hX dX7_over_68 rfl ?_
          refine s_iadd (q := 73) (v := nI (T.ra k + (U.h k))) hX dX7_over_72 rfl (nI_add (T.ra k) (U.h k)) ?_
          refine s_istore (q := 75) (lv' := [(0, _), (1, _), (2, _), (3, _), (4, _)]) hX dX7_over_73 rfl (Nat.le_of_ble_eq_true rfl) rfl ?_
          refine s_aload_n (q := 76) hX dX7_over_75 rfl rfl ?_
          refine s_getr (q := 79) hX dX7_over_76 rfl gfl_7_38 (by assumption) rfl ?_
          refine s_iload_n (q := 80) hX dX7_over_79 rfl rfl ?_
          refine s_iconst (q := 81) (v := 1) hX dX7_over_80 rfl rfl ?_
          refine s_iadd (q := 82) (v := nI (a + 1)) hX dX7_over_81 rfl (nI_add (a) (1)) ?_
          refine s_iload_n (q := 83) hX dX7_over_82 rfl rfl ?_
          refine s_iadd (q := 84) (v := nI (a + 1 + k)) hX dX7_over_83 rfl (nI_add (a + 1) (k)) ?_
          refine s_iload (q := 86) hX dX7_over_84 rfl rfl ?_
          refine s_bipush (q := 88) (v := 99) hX dX7_over_86 rfl rfl (by decide) ?_
          refine s_nicmp_le (a := T.ra k + (U.h k)) (b := 99) (q := 91) (r := 96) hX dX7_over_88 rfl rfl rfl rfl (by omega) (by omega) (fun c88_1 => ?_) (fun c88_1 => ?_)
          · refine s_iload (q := 98) hX dX7_over_96 rfl rfl ?_
            refine s_iast (k := a + 1 + k) (q := 99) hX dX7_over_98 rfl (by assumption) rfl (by omega) (by omega) ?_
            refine s_iinc (q := 102) (v := nI (k + 1)) (lv' := [(0, _), (1, _), (2, _), (3, _), (4, _)]) hX dX7_over_99 rfl rfl (nI_add (k) 1) (Nat.le_of_ble_eq_true rfl) rfl ?_
            refine s_goto (q := 24) hX dX7_over_102 rfl ?_
            refine s_dl hX (ih (k + 1) _ h6 (by omega) (by omega) (stm_ov hU' o1 (by omega) (gsr_s _ _ _) ?_) (hF.tr (FRM.one (by omega) (by omega))))
            unfold gT.rn gU.tr
            rw [e3]
            split <;> omega
          · refine s_bipush (q := 93) (v := 99) hX dX7_over_91 rfl rfl (by decide) ?_
            refine s_goto (q := 98) hX dX7_over_93 rfl ?_
            refine s_iast (k := a + 1 + k) (q := 99) hX dX7_over_98 rfl (by assumption) rfl (by omega) (by omega) ?_
            refine s_iinc (q := 102) (v := nI (k + 1)) (lv' := [(0, _), (1, _), (2, _), (3, _), (4, _)]) hX dX7_over_99 rfl rfl (nI_add (k) 1) (Nat.le_of_ble_eq_true rfl) rfl ?_
            refine s_goto (q := 24) hX dX7_over_102 rfl ?_
            refine s_dl hX (ih (k + 1) _ h6 (by omega) (by omega) (stm_ov hU' o1 (by omega) (gsr_s _ _ _) ?_) (hF.tr (FRM.one (by omega) (by omega))))
            unfold gT.rn gU.tr
            rw [e3]
            split <;> omega
  have N : ¬ U.d % 7 = 6 → X 24 [(0, .ref 83), (1, .int (nI a)), (2, .int 0), (3, .int 0)] [] sh M 0 0 := by
    intro h6
    refine s_iload_n (q := 25) hX dX7_over_24 rfl rfl ?_
    refine s_iconst (q := 26) (v := 3) hX dX7_over_25 rfl rfl ?_
    refine s_aload_n (q := 27) hX dX7_over_26 rfl rfl ?_
    refine s_getr (q := 30) hX dX7_over_27 rfl gfl_7_13 (by assumption) rfl ?_
    refine s_iconst (q := 31) (v := 0) hX dX7_over_30 rfl rfl ?_
    refine s_iald (k := 0) (q := 32) hX dX7_over_31 rfl (by assumption) rfl (by omega) (by omega) ?_
    refine s_topi (v := nI (T.P)) hW.1 ?_
    refine s_imul (q := 33) (v := nI (3 * (T.P))) hX dX7_over_32 rfl (pk_mul (3) (T.P)) ?_
    refine s_nicmp_ge (a := 0) (b := 3 * (T.P)) (q := 36) (r := 105) hX dX7_over_33 rfl rfl rfl rfl (by omega) (by omega) (fun c33 => ?_) (fun c33 => ?_)
    · refine s_dl hX (s_dl hX (E U.h M hU FRM.rf (fun j hj => ?_)))
      show _ = (if U.d % 7 = 6 then (fun j => T.rn (j / 3) (U.tr (j / 3)) (j % 3)) else U.h) j
      rw [if_neg h6]
    · refine s_iload_n (q := 37) hX dX7_over_36 rfl rfl ?_
      refine s_if_eq_t (q := 40) (r := 105) hX dX7_over_37 rfl rfl (by decide) ?_
      refine s_dl hX (s_dl hX (E U.h M hU FRM.rf (fun j hj => ?_)))
      show _ = (if U.d % 7 = 6 then (fun j => T.rn (j / 3) (U.tr (j / 3)) (j % 3)) else U.h) j
      rw [if_neg h6]
  refine s_aload_n (q := 1) hX dX7_over_0 rfl rfl ?_
  refine s_getr (q := 4) hX dX7_over_1 rfl gfl_7_38 (by assumption) rfl ?_
  refine s_iload_n (q := 5) hX dX7_over_4 rfl rfl ?_
  refine s_iconst (q := 6) (v := 0) hX dX7_over_5 rfl rfl ?_
  refine s_iadd (q := 7) (v := nI (a + 0)) hX dX7_over_6 rfl (nI_add (a) (0)) ?_
  refine s_iald (k := a + 0) (q := 8) hX dX7_over_7 rfl (by assumption) rfl (by omega) (by omega) ?_
  refine s_topi (v := nI (U.d)) hdd ?_
  refine s_bipush (q := 10) (v := 7) hX dX7_over_8 rfl rfl (by decide) ?_
  refine s_irem (q := 11) (v := nI ((U.d) % 7)) hX dX7_over_10 rfl (pk_rem (a := U.d) (d := 7) (by omega) (by decide) (by decide)) (by decide) ?_
  refine s_bipush (q := 13) (v := 6) hX dX7_over_11 rfl rfl (by decide) ?_
  refine s_nicmp_ne (a := (U.d) % 7) (b := 6) (q := 16) (r := 20) hX dX7_over_13 rfl rfl rfl rfl (by omega) (by omega) (fun c13 => ?_) (fun c13 => ?_)
  · refine s_iconst (q := 21) (v := 0) hX dX7_over_20 rfl rfl ?_
    refine s_istore_n (q := 22) (lv' := [(0, _), (1, _), (2, _)]) hX dX7_over_21 rfl (Nat.le_of_ble_eq_true rfl) rfl ?_
    refine s_iconst (q := 23) (v := 0) hX dX7_over_22 rfl rfl ?_
    refine s_istore_n (q := 24) (lv' := [(0, _), (1, _), (2, _), (3, _)]) hX dX7_over_23 rfl (Nat.le_of_ble_eq_true rfl) rfl ?_
    exact N (by omega)
  · refine s_iconst (q := 17) (v := 1) hX dX7_over_16 rfl rfl ?_
    refine s_goto (q := 21) hX dX7_over_17 rfl ?_
    refine s_istore_n (q := 22) (lv' := [(0, _), (1, _), (2, _)]) hX dX7_over_21 rfl (Nat.le_of_ble_eq_true rfl) rfl ?_
    refine s_iconst (q := 23) (v := 0) hX dX7_over_22 rfl rfl ?_
    refine s_istore_n (q := 24) (lv' := [(0, _), (1, _), (2, _), (3, _)]) hX dX7_over_23 rfl (Nat.le_of_ble_eq_true rfl) rfl ?_
    refine L (3 * T.P + 1) 0 M (by omega) (by omega) (by omega) (hU.cg rfl (fun j hj => ?_) (fun _ _ => rfl) (fun _ _ => rfl)) FRM.rf
    show U.h j = if j < 0 then T.rn (j / 3) (U.tr (j / 3)) (j % 3) else U.h j
    rw [if_neg (by omega)]
