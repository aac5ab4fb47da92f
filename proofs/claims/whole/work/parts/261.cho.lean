set_option maxHeartbeats 4000000 in
set_option maxRecDepth 100000 in
theorem c_csearch {e t i : Nat} {T : gT} {sh : List gS} (hE : isCho sh e) (hT : isTown sh t) (hTk : T.ok) (hap : t + 6 < e ∨ e + 4 < t) (hi : i < T.P) : ∀ (r k a w s c : Nat) (h : Nat → Nat) (B : gB) (M : gM) (Q : Option Value → List gS → gM → Prop), k + r = T.D → TWN M t T → a + 3 ≤ 111 → (a + 3 ≤ k * 18 ∨ a = 108) → (∀ s, s < 3 → M (e + 1) (a + s) = nI (h s)) → (∀ s, s < 3 → h s ≤ 99) → CHO M e T.D B → gB.ok B → (∀ x y, x + y = T.D → M (e + 4) x = nI (T.hp y x)) → (∀ x, x < k → M (e + 2) x = nI (c / 6 ^ (k - 1 - x) % 6)) → w + T.hp r k ≤ 900 → s + 5 * r ≤ 900 → (∀ M', CHO M' e T.D (T.bs i r k h w s c B) → (∀ j, (j < k * 18 ∨ 108 ≤ j) → M' (e + 1) j = M (e + 1) j) → (∀ x, x < k → M' (e + 2) x = M (e + 2) x) → (∀ a, a ≠ e → a ≠ e + 1 → a ≠ e + 2 → a ≠ e + 3 → a ≠ t + 6 → M' a = M a) → Q none sh M') → gC mX0_search (4 + r) 0 0 [.ref e, .ref t, .int (nI i), .int (nI k), .int (nI a), .int (nI w), .int (nI s)] sh M Q := by
  have hE0 := hE
  have hT0 := hT
  have hTk0 := hTk
  obtain ⟨v0, v1, v2, v3, v4⟩ := hE
  obtain ⟨z0, z1, z2, z3, z4, z5, z6⟩ := hT
  obtain ⟨o1, o2, o3, o4, o5, o6, o7, o8⟩ := hTk
  intro r
  induction r with
  | zero =>
    intro k a w s c h B M Q hkr hW ha ha2 hh hb hC hB hho hti hwl hsl hcon
    have hkD : k = T.D := by omega
    have hw9 : w ≤ 900 := by have : w + 0 ≤ 900 := hwl; omega
    have hhk : M (e + 4) k = nI 0 := hho k 0 (by omega)
    have hDD := hW.2.1
    refine gC_of (rt := 0) (ini := false) gm_X0_search rfl (by decide) (Nat.le_of_ble_eq_true rfl) (fun X hX => ?_)
    refine s_aload_n (q := 1) hX dX0_search_0 rfl rfl ?_
    refine s_iload (q := 3) hX dX0_search_1 rfl rfl ?_
    refine s_aload_n (q := 4) hX dX0_search_3 rfl rfl ?_
    refine s_getr (q := 7) hX dX0_search_4 rfl gfl_0_21 (by assumption) rfl ?_
    refine s_iload_n (q := 8) hX dX0_search_7 rfl rfl ?_
    refine s_iald (k := k) (q := 9) hX dX0_search_8 rfl (by assumption) rfl (by omega) (by omega) ?_
    refine s_topi (v := nI (0)) hhk ?_
    refine s_iadd (q := 10) (v := nI (w + 0)) hX dX0_search_9 rfl (nI_add (w) (0)) ?_
    refine s_iload (q := 12) hX dX0_search_10 rfl rfl ?_
    refine s_invv2_1 (q := 15) hX dX0_search_12 rfl glk_0_54 (by assumption) (Nat.le_of_ble_eq_true rfl) ⟨Nat.le_refl _, Nat.le_refl _⟩ (by omega) (c_isBetter (d := 0) (w := w + 0) (s := s) (B := B) hE0 hC.1 hC.2.1 hB (by omega) (by omega) ?_) 
    · refine ⟨_, rfl, ?_⟩
      refine s_if_ne (q := 18) (r := 19) hX dX0_search_15 rfl rfl (fun c15 => ?_) (fun c15 => ?_)
      · refine s_iload_n (q := 20) hX dX0_search_19 rfl rfl ?_
        refine s_aload_n (q := 21) hX dX0_search_20 rfl rfl ?_
        refine s_geti (q := 24) hX dX0_search_21 rfl gfl_0_31 (by assumption) rfl ?_
        refine s_topi (v := nI (T.D)) hDD ?_
        refine s_icmp_lt_f (q := 27) (r := 55) hX dX0_search_24 rfl rfl (Int32.not_lt.mpr ((nI_leI (by omega) (by omega)).mpr (by omega))) ?_
        refine s_aload_n (q := 28) hX dX0_search_27 rfl rfl ?_
        refine s_iload (q := 30) hX dX0_search_28 rfl rfl ?_
        refine s_puti (q := 33) hX dX0_search_30 rfl gfl_0_24 (by assumption) rfl ?_
        refine s_aload_n (q := 34) hX dX0_search_33 rfl rfl ?_
        refine s_iload (q := 36) hX dX0_search_34 rfl rfl ?_
        refine s_puti (q := 39) hX dX0_search_36 rfl gfl_0_28 (by assumption) rfl ?_
        refine s_aload_n (q := 40) hX dX0_search_39 rfl rfl ?_
        refine s_getr (q := 43) hX dX0_search_40 rfl gfl_0_15 (by assumption) rfl ?_
        refine s_iconst (q := 44) (v := 0) hX dX0_search_43 rfl rfl ?_
        refine s_aload_n (q := 45) hX dX0_search_44 rfl rfl ?_
        refine s_getr (q := 48) hX dX0_search_45 rfl gfl_0_18 (by assumption) rfl ?_
        refine s_iconst (q := 49) (v := 0) hX dX0_search_48 rfl rfl ?_
        refine s_bipush (q := 51) (v := 6) hX dX0_search_49 rfl rfl (by decide) ?_
        refine s_cpy (k0 := 0) (k1 := 0) (n := 6) (q := 54) hX dX0_search_51 rfl glk_0_44 (by omega) (Nat.le_of_ble_eq_true rfl) (by assumption) (by assumption) rfl rfl rfl (by omega) (by omega) (by omega) (by omega) ?_
        refine s_ret hX dX0_search_54 rfl ⟨Nat.le_refl _, Nat.le_refl _, Nat.le_refl _, ?_⟩
        have hy : bet w s B := gif_t c15
        have e9 : T.bs i 0 k h w s c B = (w + 1, s, c) := if_pos hy
        refine hcon _ ?_ (fun j hj => ?_) (fun x hx => ?_) (fun b h1 h2 h3 h4 h5 => ?_)
        · rw [e9]
          refine ⟨?_, ?_, fun _ x hx => ?_⟩
          · rw [gsr_n _ _ (by omega), gsr_s, pk_un (by omega), gsr_s, pk_us]
            show nI w = gkv (w + 1)
            unfold gkv; rw [if_neg (by omega)]; rfl
          · rw [gsr_n _ _ (by omega), gsr_s, pk_us]
          · rw [gsr_s, pk_cpy_in (by omega) (by omega), gsr_n _ _ (by omega), gsr_n _ _ (by omega), show 0 + (x - 0) = x by omega, hti x (by omega), hkD]
        · rw [gsr_n _ _ (by omega), gsr_n _ _ (by omega), gsr_n _ _ (by omega)]
        · rw [gsr_n _ _ (by omega), gsr_n _ _ (by omega), gsr_n _ _ (by omega)]
        · rw [gsr_n _ _ h4, gsr_n _ _ h1, gsr_n _ _ h1]
      · refine s_ret hX dX0_search_18 rfl ⟨Nat.le_refl _, Nat.le_refl _, Nat.le_refl _, ?_⟩
        have hn : ¬ bet w s B := gif_f2 c15
        have e9 : T.bs i 0 k h w s c B = B := if_neg hn
        exact hcon M (by rw [e9]; exact hC) (fun _ _ => rfl) (fun _ _ => rfl) (fun _ _ _ _ _ _ => rfl)
  | succ r ih =>
    intro k a w s c h B M Q hkr hW ha ha2 hh hb hC hB hho hti hwl hsl hcon
    have hkD : k < T.D := by omega
    have hhk : M (e + 4) k = nI (T.hp (r + 1) k) := hho k (r + 1) (by omega)
    have hDD := hW.2.1
    have hpe : T.hp (r + 1) k = T.hp r (k + 1) + 5 * T.wo k := rfl
    have hwo := o7 k hkD
    generalize hF : (fun n g B => T.bs i r (k + 1) g (w + n * T.wo k) (s + n) (c * 6 + n) B) = F at *
    have hbe : T.bs i (r + 1) k h w s c B = dnB (T.rp i k h) F 6 B := by rw [← hF]; rfl
    refine gC_of (rt := 0) (ini := false) gm_X0_search rfl (by decide) (Nat.le_of_ble_eq_true rfl) (fun X hX => ?_)
    have L : ∀ (n1 : Nat) (v : Int32) (B1 : gB) (M' : gM), v = gkv n1 → n1 ≤ 6 → (∀ x, x < n1 → ∃ g, T.rp i k h x = some g ∧ ∀ s, s < 3 → M' (e + 1) (k * 18 + x * 3 + s) = nI (g s)) → CHO M' e T.D B1 → gB.ok B1 → dnB (T.rp i k h) F n1 B1 = T.bs i (r + 1) k h w s c B → (∀ j, (j < k * 18 ∨ 108 ≤ j) → M' (e + 1) j = M (e + 1) j) → (∀ x, x < k → M' (e + 2) x = M (e + 2) x) → (∀ a, a ≠ e → a ≠ e + 1 → a ≠ e + 2 → a ≠ e + 3 → a ≠ t + 6 → M' a = M a) → X 66 [(0, .ref e), (1, .ref t), (2, .int (nI i)), (3, .int (nI k)), (4, .int (nI a)), (5, .int (nI w)), (6, .int (nI s)), (7, .int v)] [] sh M' 0 0 := by
      intro n1
      induction n1 with
      | zero =>
        intro v B1 M' hv hn hr hC1 hB1 heq f1 f2 f3
        have hv1 : v = -1 := hv
        subst hv1
        refine s_iload (q := 68) hX dX0_search_66 rfl rfl ?_
        refine s_if_lt_t (q := 71) (r := 120) hX dX0_search_68 rfl rfl (by decide) ?_
        refine s_ret hX dX0_search_120 rfl ⟨Nat.le_refl _, Nat.le_refl _, Nat.le_refl _, ?_⟩
        exact hcon M' (by rw [← heq]; exact hC1) f1 f2 f3
      | succ n ihn =>
        intro v B1 M' hv hn hr hC1 hB1 heq f1 f2 f3
        have hv1 : v = nI n := by rw [hv]; unfold gkv; rw [if_neg (by omega)]; rfl
        subst hv1
        obtain ⟨g, hg0, hg1⟩ := hr n (by omega)
        have bg := gT.rp_le hb n g hg0
        have hW' : TWN M' t T := hW.keep (fun c a b => f3 c (by omega) (by omega) (by omega) (by omega) (by omega))
        have hwk := hW'.2.2.2.2.2.2.1 k hkD
        have hnw : n * T.wo k ≤ 5 * T.wo k := Nat.mul_le_mul_right _ (by omega)
        generalize hM1 : gsr M' (e + 2) (upd (M' (e + 2)) k (nI n)) = M1
        have r2 : ∀ x, x < k + 1 → M1 (e + 2) x = nI ((c * 6 + n) / 6 ^ (k + 1 - 1 - x) % 6) := fun x hx => by
          rw [← hM1, gsr_s]
          by_cases z : x = k
          · subst z; rw [pk_us, show x + 1 - 1 - x = 0 by omega]; congr 1; rw [Nat.pow_zero, Nat.div_one]; omega
          · rw [pk_un z, f2 x (by omega), hti x (by omega), show k + 1 - 1 - x = k - x by omega, gdig (by omega) (by omega)]
        have r3 : ∀ x, x < k → M1 (e + 2) x = M' (e + 2) x := fun x hx => by rw [← hM1, gsr_s, pk_un (by omega)]
        have r9 : ∀ b, b ≠ e + 2 → M1 b = M' b := fun b hb => by rw [← hM1, gsr_n _ _ hb]
        have hW1 : TWN M1 t T := hW'.keep (fun c a b => r9 c (by omega))
        have hC2 : CHO M1 e T.D B1 := by unfold CHO; rw [r9 e (by omega), r9 (e + 3) (by omega)]; exact hC1
        have hFn : F n g B1 = T.bs i r (k + 1) g (w + n * T.wo k) (s + n) (c * 6 + n) B1 := by rw [← hF]
        have heq2 : dnB (T.rp i k h) F n (F n g B1) = T.bs i (r + 1) k h w s c B := by
          rw [← heq]
          show _ = dnB (T.rp i k h) F n (match T.rp i k h n with
            | none => B1
            | some g => F n g B1)
          rw [hg0]
        refine s_iload (q := 68) hX dX0_search_66 rfl rfl ?_
        refine s_if_lt_f (q := 71) (r := 120) hX dX0_search_68 rfl rfl (nI_pos (by omega)) ?_
        refine s_aload_n (q := 72) hX dX0_search_71 rfl rfl ?_
        refine s_getr (q := 75) hX dX0_search_72 rfl gfl_0_15 (by assumption) rfl ?_
        refine s_iload_n (q := 76) hX dX0_search_75 rfl rfl ?_
        refine s_iload (q := 78) hX dX0_search_76 rfl rfl ?_
        refine s_iast (k := k) (q := 79) hX dX0_search_78 rfl (by assumption) rfl (by omega) (by omega) ?_
        rw [hM1]
        refine s_aload_n (q := 80) hX dX0_search_79 rfl rfl ?_
        refine s_aload_n (q := 81) hX dX0_search_80 rfl rfl ?_
        refine s_iload_n (q := 82) hX dX0_search_81 rfl rfl ?_
        refine s_iload_n (q := 83) hX dX0_search_82 rfl rfl ?_
        refine s_iconst (q := 84) (v := 1) hX dX0_search_83 rfl rfl ?_
        refine s_iadd (q := 85) (v := nI (k + 1)) hX dX0_search_84 rfl (nI_add (k) (1)) ?_
        refine s_iload_n (q := 86) hX dX0_search_85 rfl rfl ?_
        refine s_bipush (q := 88) (v := 18) hX dX0_search_86 rfl rfl (by decide) ?_
        refine s_imul (q := 89) (v := nI (k * 18)) hX dX0_search_88 rfl (pk_mul (k) (18)) ?_
        refine s_iload (q := 91) hX dX0_search_89 rfl rfl ?_
        refine s_iconst (q := 92) (v := 3) hX dX0_search_91 rfl rfl ?_
        refine s_imul (q := 93) (v := nI (n * 3)) hX dX0_search_92 rfl (pk_mul (n) (3)) ?_
        refine s_iadd (q := 94) (v := nI (k * 18 + (n * 3))) hX dX0_search_93 rfl (nI_add (k * 18) (n * 3)) ?_
        refine s_iload (q := 96) hX dX0_search_94 rfl rfl ?_
        refine s_iload (q := 98) hX dX0_search_96 rfl rfl ?_
        refine s_aload_n (q := 99) hX dX0_search_98 rfl rfl ?_
        refine s_getr (q := 102) hX dX0_search_99 rfl gfl_0_36 (by assumption) rfl ?_
        refine s_iload_n (q := 103) hX dX0_search_102 rfl rfl ?_
        refine s_iald (k := k) (q := 104) hX dX0_search_103 rfl (by assumption) rfl (by omega) (by omega) ?_
        refine s_topi (v := nI (T.wo k)) (by rw [r9 _ (by omega)]; exact hwk) ?_
        refine s_imul (q := 105) (v := nI (n * (T.wo k))) hX dX0_search_104 rfl (pk_mul (n) (T.wo k)) ?_
        refine s_iadd (q := 106) (v := nI (w + (n * (T.wo k)))) hX dX0_search_105 rfl (nI_add (w) (n * (T.wo k))) ?_
        refine s_iload (q := 108) hX dX0_search_106 rfl rfl ?_
        refine s_iload (q := 110) hX dX0_search_108 rfl rfl ?_
        refine s_iadd (q := 111) (v := nI (s + n)) hX dX0_search_110 rfl (nI_add (s) (n)) ?_
        refine s_invv6_0 (q := 114) hX dX0_search_111 rfl glk_0_50 (by assumption) (Nat.le_of_ble_eq_true rfl) ⟨Nat.le_refl _, Nat.le_refl _⟩ (by omega) (ih (k + 1) (k * 18 + n * 3) (w + n * T.wo k) (s + n) (c * 6 + n) g B1 M1 _ (by omega) hW1 (by omega) (by omega) (fun s hs => by rw [r9 _ (by omega)]; exact hg1 s hs) bg hC2 hB1 (fun x y hxy => by rw [r9 _ (by omega), f3 _ (by omega) (by omega) (by omega) (by omega) (by omega)]; exact hho x y hxy) r2 (by omega) (by omega) (fun M2 q1 q2 q3 q4 => ?_)) 
        · refine ⟨rfl, ?_⟩
          refine s_iinc (q := 117) (lv' := [(0, _), (1, _), (2, _), (3, _), (4, _), (5, _), (6, _), (7, _)]) hX dX0_search_114 rfl rfl rfl (Nat.le_of_ble_eq_true rfl) rfl ?_
          refine s_goto (q := 66) hX dX0_search_117 rfl ?_
          refine ihn _ (F n g B1) M2 (gkv_m1 n) (by omega) (fun x hx => ?_) (by rw [hFn]; exact q1) (by rw [hFn]; exact T.bs_ok i r (k + 1) g _ _ _ B1 hB1 (by omega) (by omega)) heq2 (fun j hj => ?_) (fun x hx => ?_) (fun b h1 h2 h3 h4 h5 => ?_)
          · obtain ⟨g1, hx1, hx2⟩ := hr x (by omega)
            refine ⟨g1, hx1, fun s hs => ?_⟩
            rw [q2 _ (by omega), r9 _ (by omega)]; exact hx2 s hs
          · rw [q2 j (by omega), r9 _ (by omega)]; exact f1 j hj
          · rw [q3 x (by omega), r3 x hx]; exact f2 x hx
          · rw [q4 b h1 h2 h3 h4 h5, r9 b h3]; exact f3 b h1 h2 h3 h4 h5
    refine s_aload_n (q := 1) hX dX0_search_0 rfl rfl ?_
    refine s_iload (q := 3) hX dX0_search_1 rfl rfl ?_
    refine s_aload_n (q := 4) hX dX0_search_3 rfl rfl ?_
    refine s_getr (q := 7) hX dX0_search_4 rfl gfl_0_21 (by assumption) rfl ?_
    refine s_iload_n (q := 8) hX dX0_search_7 rfl rfl ?_
    refine s_iald (k := k) (q := 9) hX dX0_search_8 rfl (by assumption) rfl (by omega) (by omega) ?_
    refine s_topi (v := nI (T.hp (r + 1) k)) hhk ?_
    refine s_iadd (q := 10) (v := nI (w + (T.hp (r + 1) k))) hX dX0_search_9 rfl (nI_add (w) (T.hp (r + 1) k)) ?_
    refine s_iload (q := 12) hX dX0_search_10 rfl rfl ?_
    refine s_invv2_1 (q := 15) hX dX0_search_12 rfl glk_0_54 (by assumption) (Nat.le_of_ble_eq_true rfl) ⟨Nat.le_refl _, Nat.le_refl _⟩ (by omega) (c_isBetter (d := 0) (w := w + T.hp (r + 1) k) (s := s) (B := B) hE0 hC.1 hC.2.1 hB (by omega) (by omega) ?_) 
    · refine ⟨_, rfl, ?_⟩
      refine s_if_ne (q := 18) (r := 19) hX dX0_search_15 rfl rfl (fun c15 => ?_) (fun c15 => ?_)
      · refine s_iload_n (q := 20) hX dX0_search_19 rfl rfl ?_
        refine s_aload_n (q := 21) hX dX0_search_20 rfl rfl ?_
        refine s_geti (q := 24) hX dX0_search_21 rfl gfl_0_31 (by assumption) rfl ?_
        refine s_icmp_lt_t (q := 27) (r := 55) hX dX0_search_24 rfl rfl (by rw [hDD]; exact nI_lt (by omega) (by omega)) ?_
        refine s_aload_n (q := 56) hX dX0_search_55 rfl rfl ?_
        refine s_aload_n (q := 57) hX dX0_search_56 rfl rfl ?_
        refine s_iload_n (q := 58) hX dX0_search_57 rfl rfl ?_
        refine s_iload_n (q := 59) hX dX0_search_58 rfl rfl ?_
        refine s_iload (q := 61) hX dX0_search_59 rfl rfl ?_
        refine s_invv4_1 (q := 64) hX dX0_search_61 rfl glk_0_58 (by assumption) (Nat.le_of_ble_eq_true rfl) ⟨Nat.le_refl _, Nat.le_refl _⟩ (by omega) (c_repeat (d := 3) (h := h) (Nat.le_refl _) hE0 hT0 hW hTk0 hap hi hkD ha ha2 hh hb (fun m M1 hm hr hm5 f1 f2 => ?_)) 
        refine ⟨_, rfl, ?_⟩
        refine s_istore (q := 66) (lv' := [(0, _), (1, _), (2, _), (3, _), (4, _), (5, _), (6, _), (7, _)]) hX dX0_search_64 rfl (Nat.le_of_ble_eq_true rfl) rfl ?_
        refine L (m + 1) (nI m) B M1 (by unfold gkv; rw [if_neg (by omega)]; rfl) (by omega) (fun x hx => hr x (by omega)) ?_ hB ?_ (fun j hj => f1 j (by omega)) (fun x hx => ?_) (fun b h1 h2 h3 h4 h5 => f2 b h2 h5)
        · unfold CHO; rw [f2 e (by omega) (by omega), f2 (e + 3) (by omega) (by omega)]; exact hC
        · rw [hbe]
          rcases hm5 with rfl | hm5
          · rfl
          · have := dnB_up (r := T.rp i k h) (F := F) (B := B) (m := m + 1) (5 - m) (T.rp_none hm5)
            rw [show m + 1 + (5 - m) = 6 by omega] at this
            exact this.symm
        · rw [f2 (e + 2) (by omega) (by omega)]
      · refine s_ret hX dX0_search_18 rfl ⟨Nat.le_refl _, Nat.le_refl _, Nat.le_refl _, ?_⟩
        have hn : ¬ bet (w + T.hp (r + 1) k) s B := gif_f2 c15
        have e9 := T.bs_cut i (r + 1) k h w s c B hn
        exact hcon M (by rw [e9]; exact hC) (fun _ _ => rfl) (fun _ _ => rfl) (fun _ _ _ _ _ _ => rfl)
