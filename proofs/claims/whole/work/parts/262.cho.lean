theorem gkv_s1 (n : Nat) : nI n - 1 = gkv n := by
  rw [← gkv_m1, Int32.sub_eq_add_neg]; rfl
set_option maxHeartbeats 4000000 in
set_option maxRecDepth 100000 in
theorem c_cchoose {d e t s i : Nat} {T : gT} {U : gU} {sh : List gS} {M : gM} {Q : Option Value → List gS → gM → Prop} (hd : 11 ≤ d) (hE : isCho sh e) (hT : isTown sh t) (hW : TWN M t T) (hTk : T.ok) (hap : t + 6 < e ∨ e + 4 < t) (hi : i < T.P) (hS : isStreet sh s) (hU : STR M s T.P U) (hUk : U.ok T.P) (haps : s + 3 < e ∨ e + 4 < s) (hcon : ∀ M', CHO M' e T.D (T.bs i T.D 0 (U.tr i) 0 0 0 (0, 0, 0)) → (∀ a, a ≠ e → a ≠ e + 1 → a ≠ e + 2 → a ≠ e + 3 → a ≠ e + 4 → a ≠ t + 6 → M' a = M a) → Q none sh M') : gC mX0_choose d 0 0 [.ref e, .ref t, .int (nI i), .ref s] sh M Q := by
  have hE0 := hE
  have hT0 := hT
  have hTk0 := hTk
  obtain ⟨v0, v1, v2, v3, v4⟩ := hE
  obtain ⟨z0, z1, z2, z3, z4, z5, z6⟩ := hT
  obtain ⟨s0, s1, s2, s3⟩ := hS
  obtain ⟨o1, o2, o3, o4, o5, o6, o7, o8⟩ := hTk
  have hb : ∀ x, x < 3 → U.tr i x ≤ 99 := fun x hx => hUk.1 _ (by omega)
  have hhp := gT.hp_le o7 T.D 0 (by omega)
  refine gC_of (rt := 0) (ini := false) gm_X0_choose rfl (by decide) (Nat.le_of_ble_eq_true rfl) (fun X hX => ?_)
  have L : ∀ (n1 : Nat) (v : Int32) (M' : gM), v = gkv n1 → n1 ≤ T.D → M' e 4 = -1 → M' e 5 = 0 → (∀ x y, n1 ≤ x → x + y = T.D → M' (e + 4) x = nI (T.hp y x)) → (∀ a, a ≠ e → a ≠ e + 4 → M' a = M a) → X 28 [(0, .ref e), (1, .ref t), (2, .int (nI i)), (3, .ref s), (4, .int v)] [] sh M' 0 0 := by
    intro n1
    induction n1 with
    | zero =>
      intro v M' hv hn e4 e5 hx f
      have hv1 : v = -1 := hv
      subst hv1
      generalize hM1 : gsr M' (e + 1) (va_cpy (M' (s + 1)) (M' (e + 1)) (i * 3) 108 3) = M1
      have r9 : ∀ b, b ≠ e + 1 → M1 b = M' b := fun b hb => by rw [← hM1, gsr_n _ _ hb]
      have hW1 : TWN M1 t T := hW.keep (fun c a b => by rw [r9 c (by omega), f c (by omega) (by omega)])
      refine s_iload (q := 30) hX dX0_choose_28 rfl rfl ?_
      refine s_if_lt_t (q := 33) (r := 65) hX dX0_choose_30 rfl rfl (by decide) ?_
      refine s_aload_n (q := 66) hX dX0_choose_65 rfl rfl ?_
      refine s_getr (q := 69) hX dX0_choose_66 rfl gfl_0_39 (by assumption) rfl ?_
      refine s_iload_n (q := 70) hX dX0_choose_69 rfl rfl ?_
      refine s_iconst (q := 71) (v := 3) hX dX0_choose_70 rfl rfl ?_
      refine s_imul (q := 72) (v := nI (i * 3)) hX dX0_choose_71 rfl (pk_mul (i) (3)) ?_
      refine s_aload_n (q := 73) hX dX0_choose_72 rfl rfl ?_
      refine s_getr (q := 76) hX dX0_choose_73 rfl gfl_0_11 (by assumption) rfl ?_
      refine s_bipush (q := 78) (v := 108) hX dX0_choose_76 rfl rfl (by decide) ?_
      refine s_iconst (q := 79) (v := 3) hX dX0_choose_78 rfl rfl ?_
      refine s_cpy (k0 := i * 3) (k1 := 108) (n := 3) (q := 82) hX dX0_choose_79 rfl glk_0_44 (by omega) (Nat.le_of_ble_eq_true rfl) (by assumption) (by assumption) rfl rfl rfl (by omega) (by omega) (by omega) (by omega) ?_
      rw [hM1]
      refine s_aload_n (q := 83) hX dX0_choose_82 rfl rfl ?_
      refine s_aload_n (q := 84) hX dX0_choose_83 rfl rfl ?_
      refine s_iload_n (q := 85) hX dX0_choose_84 rfl rfl ?_
      refine s_iconst (q := 86) (v := 0) hX dX0_choose_85 rfl rfl ?_
      refine s_bipush (q := 88) (v := 108) hX dX0_choose_86 rfl rfl (by decide) ?_
      refine s_iconst (q := 89) (v := 0) hX dX0_choose_88 rfl rfl ?_
      refine s_iconst (q := 90) (v := 0) hX dX0_choose_89 rfl rfl ?_
      refine s_invv6_0 (q := 93) hX dX0_choose_90 rfl glk_0_50 (by assumption) (Nat.le_of_ble_eq_true rfl) ⟨Nat.le_refl _, Nat.le_refl _⟩ (by omega) (c_csearch hE0 hT0 hTk0 hap hi T.D 0 108 0 0 0 (U.tr i) (0, 0, 0) M1 _ (by omega) hW1 (by omega) (Or.inr rfl) (fun x hx => by rw [← hM1, gsr_s, pk_cpy_in (by omega) (by omega), show i * 3 + (108 + x - 108) = 3 * i + x by omega, f (s + 1) (by omega) (by omega)]; exact hU.2.1 _ (by omega)) hb ⟨by rw [r9 e (by omega), e4]; rfl, by rw [r9 e (by omega), e5]; rfl, fun z => absurd z (by decide)⟩ ⟨by decide, by decide⟩ (fun x y hxy => by rw [r9 _ (by omega)]; exact hx x y (Nat.zero_le _) hxy) (fun x hx => absurd hx (by omega)) (by omega) (by omega) (fun M2 q1 q2 q3 q4 => ?_)) 
      · refine ⟨rfl, ?_⟩
        refine s_ret hX dX0_choose_93 rfl ⟨Nat.le_refl _, Nat.le_refl _, Nat.le_refl _, ?_⟩
        exact hcon M2 q1 (fun b h1 h2 h3 h4 h5 h6 => by rw [q4 b h1 h2 h3 h4 h6, r9 b h2, f b h1 h5])
    | succ n ih =>
      intro v M' hv hn e4 e5 hx f
      have hv1 : v = nI n := by rw [hv]; unfold gkv; rw [if_neg (by omega)]; rfl
      subst hv1
      have h1 : M' (e + 4) (n + 1) = nI (T.hp (T.D - (n + 1)) (n + 1)) := hx (n + 1) (T.D - (n + 1)) (Nat.le_refl _) (by omega)
      have h2 : M' (t + 4) n = nI (T.wo n) := by rw [f (t + 4) (by omega) (by omega)]; exact hW.2.2.2.2.2.2.1 n (by omega)
      refine s_iload (q := 30) hX dX0_choose_28 rfl rfl ?_
      refine s_if_lt_f (q := 33) (r := 65) hX dX0_choose_30 rfl rfl (nI_pos (by omega)) ?_
      refine s_aload_n (q := 34) hX dX0_choose_33 rfl rfl ?_
      refine s_getr (q := 37) hX dX0_choose_34 rfl gfl_0_21 (by assumption) rfl ?_
      refine s_iload (q := 39) hX dX0_choose_37 rfl rfl ?_
      refine s_aload_n (q := 40) hX dX0_choose_39 rfl rfl ?_
      refine s_getr (q := 43) hX dX0_choose_40 rfl gfl_0_21 (by assumption) rfl ?_
      refine s_iload (q := 45) hX dX0_choose_43 rfl rfl ?_
      refine s_iconst (q := 46) (v := 1) hX dX0_choose_45 rfl rfl ?_
      refine s_iadd (q := 47) (v := nI (n + 1)) hX dX0_choose_46 rfl (nI_add (n) (1)) ?_
      refine s_iald (k := n + 1) (q := 48) hX dX0_choose_47 rfl (by assumption) rfl (by omega) (by omega) ?_
      refine s_topi (v := nI (T.hp (T.D - (n + 1)) (n + 1))) h1 ?_
      refine s_iconst (q := 49) (v := 5) hX dX0_choose_48 rfl rfl ?_
      refine s_aload_n (q := 50) hX dX0_choose_49 rfl rfl ?_
      refine s_getr (q := 53) hX dX0_choose_50 rfl gfl_0_36 (by assumption) rfl ?_
      refine s_iload (q := 55) hX dX0_choose_53 rfl rfl ?_
      refine s_iald (k := n) (q := 56) hX dX0_choose_55 rfl (by assumption) rfl (by omega) (by omega) ?_
      refine s_topi (v := nI (T.wo n)) h2 ?_
      refine s_imul (q := 57) (v := nI (5 * (T.wo n))) hX dX0_choose_56 rfl (pk_mul (5) (T.wo n)) ?_
      refine s_iadd (q := 58) (v := nI (T.hp (T.D - (n + 1)) (n + 1) + (5 * (T.wo n)))) hX dX0_choose_57 rfl (nI_add (T.hp (T.D - (n + 1)) (n + 1)) (5 * (T.wo n))) ?_
      refine s_iast (k := n) (q := 59) hX dX0_choose_58 rfl (by assumption) rfl (by omega) (by omega) ?_
      refine s_iinc (q := 62) (lv' := [(0, _), (1, _), (2, _), (3, _), (4, _)]) hX dX0_choose_59 rfl rfl rfl (Nat.le_of_ble_eq_true rfl) rfl ?_
      refine s_goto (q := 28) hX dX0_choose_62 rfl ?_
      refine ih _ _ (gkv_m1 n) (by omega) ?_ ?_ (fun x y hnx hxy => ?_) (fun b h3 h4 => ?_)
      · rw [gsr_n _ _ (by omega)]; exact e4
      · rw [gsr_n _ _ (by omega)]; exact e5
      · rw [gsr_s]
        by_cases z : x = n
        · subst z
          rw [pk_us, show y = (T.D - (x + 1)) + 1 by omega]; rfl
        · rw [pk_un z]; exact hx x y (by omega) hxy
      · rw [gsr_n _ _ h4]; exact f b h3 h4
  refine s_aload_n (q := 1) hX dX0_choose_0 rfl rfl ?_
  refine s_iconst (q := 2) (v := (-1)) hX dX0_choose_1 rfl rfl ?_
  refine s_puti (q := 5) hX dX0_choose_2 rfl gfl_0_24 (by assumption) rfl ?_
  refine s_aload_n (q := 6) hX dX0_choose_5 rfl rfl ?_
  refine s_iconst (q := 7) (v := 0) hX dX0_choose_6 rfl rfl ?_
  refine s_puti (q := 10) hX dX0_choose_7 rfl gfl_0_28 (by assumption) rfl ?_
  refine s_aload_n (q := 11) hX dX0_choose_10 rfl rfl ?_
  refine s_getr (q := 14) hX dX0_choose_11 rfl gfl_0_21 (by assumption) rfl ?_
  refine s_aload_n (q := 15) hX dX0_choose_14 rfl rfl ?_
  refine s_geti (q := 18) hX dX0_choose_15 rfl gfl_0_31 (by assumption) rfl ?_
  refine s_topi (v := nI (T.D)) (by rw [gsr_n _ _ (by omega), gsr_n _ _ (by omega)]; exact hW.2.1) ?_
  refine s_iconst (q := 19) (v := 0) hX dX0_choose_18 rfl rfl ?_
  refine s_iast (k := T.D) (q := 20) hX dX0_choose_19 rfl (by assumption) rfl (by omega) (by omega) ?_
  refine s_aload_n (q := 21) hX dX0_choose_20 rfl rfl ?_
  refine s_geti (q := 24) hX dX0_choose_21 rfl gfl_0_31 (by assumption) rfl ?_
  refine s_topi (v := nI (T.D)) (by rw [gsr_n _ _ (by omega), gsr_n _ _ (by omega), gsr_n _ _ (by omega)]; exact hW.2.1) ?_
  refine s_iconst (q := 25) (v := 1) hX dX0_choose_24 rfl rfl ?_
  refine s_isub (q := 26) hX dX0_choose_25 rfl rfl ?_
  refine s_istore (q := 28) (lv' := [(0, _), (1, _), (2, _), (3, _), (4, _)]) hX dX0_choose_26 rfl (Nat.le_of_ble_eq_true rfl) rfl ?_
  refine L T.D _ _ (gkv_s1 _) (Nat.le_refl _) ?_ ?_ (fun x y hnx hxy => ?_) (fun b h3 h4 => ?_)
  · rw [gsr_n _ _ (by omega), gsr_s, pk_un (by omega), gsr_s, pk_us]
  · rw [gsr_n _ _ (by omega), gsr_s, pk_us]
  · have e1 : x = T.D := by omega
    have e2 : y = 0 := by omega
    subst e1 e2
    rw [gsr_s, pk_us]; rfl
  · rw [gsr_n _ _ h4, gsr_n _ _ h3, gsr_n _ _ h3]
