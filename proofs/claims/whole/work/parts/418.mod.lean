set_option maxHeartbeats 4000000 in
set_option maxRecDepth 100000 in
theorem m_here {d a : Nat} {tx : Nat → Nat} {len : Nat} {sh : List gS} {M : gM} {Q : Option Value → List gS → gM → Prop} (hC : isMod sh) (hT : TXM M tx len) (hat : M 83 10 = nI a) (ha : a ≤ 1000) (hl : len ≤ 200) (hcon0 : ¬ a < len → Q (some (.int (-1))) sh M) (hcon1 : a < len → Q (some (.int (nI (tx a)))) sh M) : gC mX7_here d 0 0 [.ref 83] sh M Q := by
  have hC0 := hC
  obtain ⟨y0, y1, y2, y3, y4, y5, y6, y7, y8, y9, y10, y11, y12, y13, y14, y15⟩ := hC
  refine gC_of (rt := 1) (ini := false) gm_X7_here rfl (by decide) (Nat.le_of_ble_eq_true rfl) (fun X hX => ?_)
  refine s_aload_n (q := 1) hX dX7_here_0 rfl rfl ?_
  refine s_geti (q := 4) hX dX7_here_1 rfl gfl_7_74 (by assumption) rfl ?_
  refine s_topi (v := nI (a)) hat ?_
  refine s_aload_n (q := 5) hX dX7_here_4 rfl rfl ?_
  refine s_geti (q := 8) hX dX7_here_5 rfl gfl_7_70 (by assumption) rfl ?_
  refine s_topi (v := nI (len)) hT.1 ?_
  refine s_nicmp_ge (a := a) (b := len) (q := 11) (r := 23) hX dX7_here_8 rfl rfl rfl rfl (by omega) (by omega) (fun c8 => ?_) (fun c8 => ?_)
  · refine s_iconst (q := 24) (v := (-1)) hX dX7_here_23 rfl rfl ?_
    refine s_iret hX dX7_here_24 (Or.inl rfl) ⟨Nat.le_refl _, Nat.le_refl _, Nat.le_refl _, ?_⟩
    exact hcon0 (by omega)
  · refine s_aload_n (q := 12) hX dX7_here_11 rfl rfl ?_
    refine s_getr (q := 15) hX dX7_here_12 rfl gfl_7_7 (by assumption) rfl ?_
    refine s_aload_n (q := 16) hX dX7_here_15 rfl rfl ?_
    refine s_geti (q := 19) hX dX7_here_16 rfl gfl_7_74 (by assumption) rfl ?_
    refine s_topi (v := nI (a)) hat ?_
    refine s_bald (k := a) (q := 20) hX dX7_here_19 rfl (by assumption) rfl (by omega) (by omega) ?_
    refine s_topi (v := nI (tx a)) (hT.2 a (by omega)) ?_
    refine s_goto (q := 24) hX dX7_here_20 rfl ?_
    refine s_iret hX dX7_here_24 (Or.inl rfl) ⟨Nat.le_refl _, Nat.le_refl _, Nat.le_refl _, ?_⟩
    exact hcon1 (by omega)
set_option maxHeartbeats 4000000 in
set_option maxRecDepth 100000 in
theorem m_number {d a hn be : Nat} {s : Bool} {hi : Int32} {tx : Nat → Nat} {len : Nat} {sh : List gS} {M : gM} {Q : Option Value → List gS → gM → Prop} (hd : 1 ≤ d) (hC : isMod sh) (hT : TXM M tx len) (hok : txok tx len) (hat : M 83 10 = nI a) (ha : a ≤ 500) (hso : M 83 11 = if s = true then 1 else 0) (hhi : hi = nI hn - 1) (hhn : hn ≤ 1000) (hbe : be ≤ 99) (hcon : ∀ M', M' 83 10 = nI (nxt tx len a) → (M' 83 11 = if (s && nok tx len a hn be) = true then 1 else 0) → (∀ k, k ≠ 10 → k ≠ 11 → M' 83 k = M 83 k) → (∀ c, c ≠ 83 → M' c = M c) → Q (some (.int (nI (nvl tx len a)))) sh M') : gC mX7_number d 0 0 [.ref 83, .int 0, .int hi, .int (nI be)] sh M Q := by
  have hC0 := hC
  obtain ⟨y0, y1, y2, y3, y4, y5, y6, y7, y8, y9, y10, y11, y12, y13, y14, y15⟩ := hC
  obtain ⟨k1, k2⟩ := hok
  refine gC_of (rt := 1) (ini := false) gm_X7_number rfl (by decide) (Nat.le_of_ble_eq_true rfl) (fun X hX => ?_)
  have Z : ∀ (v n a' : Nat) (M1 : gM), M1 83 10 = nI a' → ((∀ k, k ≠ 10 → M1 83 k = M 83 k) ∧ (∀ c, c ≠ 83 → M1 c = M c)) → rdNum tx len a = (if n = 0 then none else some v, a') → n ≤ 2 → v ≤ 99 → (n = 0 → v = 0) → a' ≤ 600 → X 57 [(0, .ref 83), (1, .int 0), (2, .int hi), (3, .int (nI be)), (4, .int (nI v)), (5, .int (nI n))] [] sh M1 0 0 := by
    intro v n a' M1 h1 h2 h3 h4 h5 h6 h7
    have hT1 : TXM M1 tx len := ⟨by rw [h2.1 1 (by decide)]; exact hT.1, fun j hj => by rw [h2.2 84 (by decide)]; exact hT.2 j hj⟩
    have hv : nvl tx len a = v := by
      unfold nvl; rw [h3]
      by_cases e : n = 0
      · rw [if_pos e, h6 e]; rfl
      · rw [if_neg e]; rfl
    rw [hv] at hcon
    have hnk : nok tx len a hn be = (decide (¬ n = 0) && (decide (a' < len ∧ tx a' = be) && decide (v < hn))) := by
      unfold nok kok; rw [hv, h3]
      by_cases e : n = 0
      · rw [if_pos e, e]; rfl
      · rw [if_neg e, decide_eq_true e]; simp
    have hs1 : M1 83 11 = if s = true then 1 else 0 := by rw [h2.1 11 (by decide)]; exact hso
    cases hss : s with
    | false =>
      rw [hss] at hs1
      refine s_aload_n (q := 58) hX dX7_number_57 rfl rfl ?_
      refine s_aload_n (q := 59) hX dX7_number_58 rfl rfl ?_
      refine s_geti (q := 62) hX dX7_number_59 rfl gfl_7_81 (by assumption) rfl ?_
      refine s_topi (v := 0) hs1 ?_
      refine s_if_eq_t (q := 65) (r := 92) hX dX7_number_62 rfl rfl (by decide) ?_
      refine s_iconst (q := 93) (v := 0) hX dX7_number_92 rfl rfl ?_
      refine s_putz (q := 96) hX dX7_number_93 rfl gfl_7_81 (by assumption) rfl (Or.inl rfl) ?_
      refine s_aload_n (q := 97) hX dX7_number_96 rfl rfl ?_
      refine s_dup (q := 98) hX dX7_number_97 rfl rfl ?_
      refine s_geti (q := 101) hX dX7_number_98 rfl gfl_7_74 (by assumption) rfl ?_
      refine s_topi (v := nI (a')) (by rw [gsr_s, pk_un (by decide)]; exact h1) ?_
      refine s_iconst (q := 102) (v := 1) hX dX7_number_101 rfl rfl ?_
      refine s_iadd (q := 103) (v := nI (a' + 1)) hX dX7_number_102 rfl (nI_add (a') (1)) ?_
      refine s_puti (q := 106) hX dX7_number_103 rfl gfl_7_74 (by assumption) rfl ?_
      refine s_iload (q := 108) hX dX7_number_106 rfl rfl ?_
      refine s_iret hX dX7_number_108 (Or.inl rfl) ⟨Nat.le_refl _, Nat.le_refl _, Nat.le_refl _, ?_⟩
      refine hcon _ ?_ ?_ (fun k z1 z2 => ?_) (fun c z => ?_)
      · rw [gsr_s, pk_us]; unfold nxt; rw [h3]
      · rw [gsr_s, pk_un (by decide), gsr_s, pk_us]
        rw [hss]
        rfl
      · rw [gsr_s, pk_un z1, gsr_s, pk_un z2]; exact h2.1 k z1
      · rw [gsr_n _ _ z, gsr_n _ _ z]; exact h2.2 c z
    | true =>
      rw [hss] at hs1
      refine s_aload_n (q := 58) hX dX7_number_57 rfl rfl ?_
      refine s_aload_n (q := 59) hX dX7_number_58 rfl rfl ?_
      refine s_geti (q := 62) hX dX7_number_59 rfl gfl_7_81 (by assumption) rfl ?_
      refine s_topi (v := 1) hs1 ?_
      refine s_if_eq_f (q := 65) (r := 92) hX dX7_number_62 rfl rfl (by decide) ?_
      refine s_iload (q := 67) hX dX7_number_65 rfl rfl ?_
      refine s_nif_le (a := n) (b := 0) (q := 70) (r := 92) hX dX7_number_67 rfl rfl rfl rfl (by omega) (by omega) (fun c67 => ?_) (fun c67 => ?_)
      · have hB : (s && nok tx len a hn be) = false := by
          rw [hss, hnk]
          simp only [Bool.true_and, Bool.and_eq_false_iff, decide_eq_false_iff_not]
          omega
        refine s_iconst (q := 93) (v := 0) hX dX7_number_92 rfl rfl ?_
        refine s_putz (q := 96) hX dX7_number_93 rfl gfl_7_81 (by assumption) rfl (Or.inl rfl) ?_
        refine s_aload_n (q := 97) hX dX7_number_96 rfl rfl ?_
        refine s_dup (q := 98) hX dX7_number_97 rfl rfl ?_
        refine s_geti (q := 101) hX dX7_number_98 rfl gfl_7_74 (by assumption) rfl ?_
        refine s_topi (v := nI (a')) (by rw [gsr_s, pk_un (by decide)]; exact h1) ?_
        refine s_iconst (q := 102) (v := 1) hX dX7_number_101 rfl rfl ?_
        refine s_iadd (q := 103) (v := nI (a' + 1)) hX dX7_number_102 rfl (nI_add (a') (1)) ?_
        refine s_puti (q := 106) hX dX7_number_103 rfl gfl_7_74 (by assumption) rfl ?_
        refine s_iload (q := 108) hX dX7_number_106 rfl rfl ?_
        refine s_iret hX dX7_number_108 (Or.inl rfl) ⟨Nat.le_refl _, Nat.le_refl _, Nat.le_refl _, ?_⟩
        refine hcon _ ?_ ?_ (fun k z1 z2 => ?_) (fun c z => ?_)
        · rw [gsr_s, pk_us]; unfold nxt; rw [h3]
        · rw [gsr_s, pk_un (by decide), gsr_s, pk_us]
          rw [hB]
          rfl
        · rw [gsr_s, pk_un z1, gsr_s, pk_un z2]; exact h2.1 k z1
        · rw [gsr_n _ _ z, gsr_n _ _ z]; exact h2.2 c z
      · refine s_iload (q := 72) hX dX7_number_70 rfl rfl ?_
        refine s_iload_n (q := 73) hX dX7_number_72 rfl rfl ?_
        refine s_iload_n (q := 74) hX dX7_number_73 rfl rfl ?_
        refine s_invs3_1 (q := 77) hX dX7_number_74 rfl glk_7_66 (by decide) (Nat.le_of_ble_eq_true rfl) ⟨Nat.le_refl _, Nat.le_refl _⟩ (by omega) (m_rngN (d := 0) (lo := 0) (n := hn) (k := v) rfl hhi (by decide) (by omega) (by omega) (fun hr => ?_) (fun _ hr => ?_)) 
        · refine ⟨_, rfl, ?_⟩
          refine s_if_eq_t (q := 80) (r := 92) hX dX7_number_77 rfl rfl (by decide) ?_
          have hB : (s && nok tx len a hn be) = false := by
            rw [hss, hnk]
            simp only [Bool.true_and, Bool.and_eq_false_iff, decide_eq_false_iff_not]
            omega
          refine s_iconst (q := 93) (v := 0) hX dX7_number_92 rfl rfl ?_
          refine s_putz (q := 96) hX dX7_number_93 rfl gfl_7_81 (by assumption) rfl (Or.inl rfl) ?_
          refine s_aload_n (q := 97) hX dX7_number_96 rfl rfl ?_
          refine s_dup (q := 98) hX dX7_number_97 rfl rfl ?_
          refine s_geti (q := 101) hX dX7_number_98 rfl gfl_7_74 (by assumption) rfl ?_
          refine s_topi (v := nI (a')) (by rw [gsr_s, pk_un (by decide)]; exact h1) ?_
          refine s_iconst (q := 102) (v := 1) hX dX7_number_101 rfl rfl ?_
          refine s_iadd (q := 103) (v := nI (a' + 1)) hX dX7_number_102 rfl (nI_add (a') (1)) ?_
          refine s_puti (q := 106) hX dX7_number_103 rfl gfl_7_74 (by assumption) rfl ?_
          refine s_iload (q := 108) hX dX7_number_106 rfl rfl ?_
          refine s_iret hX dX7_number_108 (Or.inl rfl) ⟨Nat.le_refl _, Nat.le_refl _, Nat.le_refl _, ?_⟩
          refine hcon _ ?_ ?_ (fun k z1 z2 => ?_) (fun c z => ?_)
          · rw [gsr_s, pk_us]; unfold nxt; rw [h3]
          · rw [gsr_s, pk_un (by decide), gsr_s, pk_us]
            rw [hB]
            rfl
          · rw [gsr_s, pk_un z1, gsr_s, pk_un z2]; exact h2.1 k z1
          · rw [gsr_n _ _ z, gsr_n _ _ z]; exact h2.2 c z
        · refine ⟨_, rfl, ?_⟩
          refine s_if_eq_f (q := 80) (r := 92) hX dX7_number_77 rfl rfl (by decide) ?_
          refine s_aload_n (q := 81) hX dX7_number_80 rfl rfl ?_
          refine s_invv0_1 (q := 84) hX dX7_number_81 rfl glk_7_77 (by assumption) (Nat.le_of_ble_eq_true rfl) ⟨Nat.le_refl _, Nat.le_refl _⟩ (by omega) (m_here (d := 0) (a := a') hC0 hT1 h1 (by omega) (by omega) (fun hh => ?_) (fun hh => ?_)) 
          · have hng : ¬ (be : Nat) = 1000000 := by omega
            refine ⟨_, rfl, ?_⟩
            refine s_iload_n (q := 85) hX dX7_number_84 rfl rfl ?_
            refine s_icmp_ne (q := 88) (r := 92) hX dX7_number_85 rfl rfl (fun c85 => ?_) (fun c85 => ?_)
            · have hB : (s && nok tx len a hn be) = false := by
                rw [hss, hnk]
                simp only [Bool.true_and, Bool.and_eq_false_iff, decide_eq_false_iff_not]
                omega
              refine s_iconst (q := 93) (v := 0) hX dX7_number_92 rfl rfl ?_
              refine s_putz (q := 96) hX dX7_number_93 rfl gfl_7_81 (by assumption) rfl (Or.inl rfl) ?_
              refine s_aload_n (q := 97) hX dX7_number_96 rfl rfl ?_
              refine s_dup (q := 98) hX dX7_number_97 rfl rfl ?_
              refine s_geti (q := 101) hX dX7_number_98 rfl gfl_7_74 (by assumption) rfl ?_
              refine s_topi (v := nI (a')) (by rw [gsr_s, pk_un (by decide)]; exact h1) ?_
              refine s_iconst (q := 102) (v := 1) hX dX7_number_101 rfl rfl ?_
              refine s_iadd (q := 103) (v := nI (a' + 1)) hX dX7_number_102 rfl (nI_add (a') (1)) ?_
              refine s_puti (q := 106) hX dX7_number_103 rfl gfl_7_74 (by assumption) rfl ?_
              refine s_iload (q := 108) hX dX7_number_106 rfl rfl ?_
              refine s_iret hX dX7_number_108 (Or.inl rfl) ⟨Nat.le_refl _, Nat.le_refl _, Nat.le_refl _, ?_⟩
              refine hcon _ ?_ ?_ (fun k z1 z2 => ?_) (fun c z => ?_)
              · rw [gsr_s, pk_us]; unfold nxt; rw [h3]
              · rw [gsr_s, pk_un (by decide), gsr_s, pk_us]
                rw [hB]
                rfl
              · rw [gsr_s, pk_un z1, gsr_s, pk_un z2]; exact h2.1 k z1
              · rw [gsr_n _ _ z, gsr_n _ _ z]; exact h2.2 c z
            · have hB : (s && nok tx len a hn be) = true := by
                first
                  | exact absurd (Classical.not_not.mp c85).symm (gnIm1 (by omega))
                  | (rw [hss, hnk]
                     simp only [Bool.true_and, Bool.and_eq_true, decide_eq_true_eq]
                     omega)
              refine s_iconst (q := 89) (v := 1) hX dX7_number_88 rfl rfl ?_
              refine s_goto (q := 93) hX dX7_number_89 rfl ?_
              refine s_putz (q := 96) hX dX7_number_93 rfl gfl_7_81 (by assumption) rfl (Or.inr rfl) ?_
              refine s_aload_n (q := 97) hX dX7_number_96 rfl rfl ?_
              refine s_dup (q := 98) hX dX7_number_97 rfl rfl ?_
              refine s_geti (q := 101) hX dX7_number_98 rfl gfl_7_74 (by assumption) rfl ?_
              refine s_topi (v := nI (a')) (by rw [gsr_s, pk_un (by decide)]; exact h1) ?_
              refine s_iconst (q := 102) (v := 1) hX dX7_number_101 rfl rfl ?_
              refine s_iadd (q := 103) (v := nI (a' + 1)) hX dX7_number_102 rfl (nI_add (a') (1)) ?_
              refine s_puti (q := 106) hX dX7_number_103 rfl gfl_7_74 (by assumption) rfl ?_
              refine s_iload (q := 108) hX dX7_number_106 rfl rfl ?_
              refine s_iret hX dX7_number_108 (Or.inl rfl) ⟨Nat.le_refl _, Nat.le_refl _, Nat.le_refl _, ?_⟩
              refine hcon _ ?_ ?_ (fun k z1 z2 => ?_) (fun c z => ?_)
              · rw [gsr_s, pk_us]; unfold nxt; rw [h3]
              · rw [gsr_s, pk_un (by decide), gsr_s, pk_us]
                rw [hB]
                rfl
              · rw [gsr_s, pk_un z1, gsr_s, pk_un z2]; exact h2.1 k z1
              · rw [gsr_n _ _ z, gsr_n _ _ z]; exact h2.2 c z
          · have hx9 := k2 a' hh
            refine ⟨_, rfl, ?_⟩
            refine s_iload_n (q := 85) hX dX7_number_84 rfl rfl ?_
            refine s_nicmp_ne (a := tx a') (b := be) (q := 88) (r := 92) hX dX7_number_85 rfl rfl rfl rfl (by omega) (by omega) (fun c85_1 => ?_) (fun c85_1 => ?_)
            · have hB : (s && nok tx len a hn be) = false := by
                rw [hss, hnk]
                simp only [Bool.true_and, Bool.and_eq_false_iff, decide_eq_false_iff_not]
                omega
              refine s_iconst (q := 93) (v := 0) hX dX7_number_92 rfl rfl ?_
              refine s_putz (q := 96) hX dX7_number_93 rfl gfl_7_81 (by assumption) rfl (Or.inl rfl) ?_
              refine s_aload_n (q := 97) hX dX7_number_96 rfl rfl ?_
              refine s_dup (q := 98) hX dX7_number_97 rfl rfl ?_
              refine s_geti (q := 101) hX dX7_number_98 rfl gfl_7_74 (by assumption) rfl ?_
              refine s_topi (v := nI (a')) (by rw [gsr_s, pk_un (by decide)]; exact h1) ?_
              refine s_iconst (q := 102) (v := 1) hX dX7_number_101 rfl rfl ?_
              refine s_iadd (q := 103) (v := nI (a' + 1)) hX dX7_number_102 rfl (nI_add (a') (1)) ?_
              refine s_puti (q := 106) hX dX7_number_103 rfl gfl_7_74 (by assumption) rfl ?_
              refine s_iload (q := 108) hX dX7_number_106 rfl rfl ?_
              refine s_iret hX dX7_number_108 (Or.inl rfl) ⟨Nat.le_refl _, Nat.le_refl _, Nat.le_refl _, ?_⟩
              refine hcon _ ?_ ?_ (fun k z1 z2 => ?_) (fun c z => ?_)
              · rw [gsr_s, pk_us]; unfold nxt; rw [h3]
              · rw [gsr_s, pk_un (by decide), gsr_s, pk_us]
                rw [hB]
                rfl
              · rw [gsr_s, pk_un z1, gsr_s, pk_un z2]; exact h2.1 k z1
              · rw [gsr_n _ _ z, gsr_n _ _ z]; exact h2.2 c z
            · have hB : (s && nok tx len a hn be) = true := by
                first
                  | exact absurd (Classical.not_not.mp c85).symm (gnIm1 (by omega))
                  | (rw [hss, hnk]
                     simp only [Bool.true_and, Bool.and_eq_true, decide_eq_true_eq]
                     omega)
              refine s_iconst (q := 89) (v := 1) hX dX7_number_88 rfl rfl ?_
              refine s_goto (q := 93) hX dX7_number_89 rfl ?_
              refine s_putz (q := 96) hX dX7_number_93 rfl gfl_7_81 (by assumption) rfl (Or.inr rfl) ?_
              refine s_aload_n (q := 97) hX dX7_number_96 rfl rfl ?_
              refine s_dup (q := 98) hX dX7_number_97 rfl rfl ?_
              refine s_geti (q := 101) hX dX7_number_98 rfl gfl_7_74 (by assumption) rfl ?_
              refine s_topi (v := nI (a')) (by rw [gsr_s, pk_un (by decide)]; exact h1) ?_
              refine s_iconst (q := 102) (v := 1) hX dX7_number_101 rfl rfl ?_
              refine s_iadd (q := 103) (v := nI (a' + 1)) hX dX7_number_102 rfl (nI_add (a') (1)) ?_
              refine s_puti (q := 106) hX dX7_number_103 rfl gfl_7_74 (by assumption) rfl ?_
              refine s_iload (q := 108) hX dX7_number_106 rfl rfl ?_
              refine s_iret hX dX7_number_108 (Or.inl rfl) ⟨Nat.le_refl _, Nat.le_refl _, Nat.le_refl _, ?_⟩
              refine hcon _ ?_ ?_ (fun k z1 z2 => ?_) (fun c z => ?_)
              · rw [gsr_s, pk_us]; unfold nxt; rw [h3]
              · rw [gsr_s, pk_un (by decide), gsr_s, pk_us]
                rw [hB]
                rfl
              · rw [gsr_s, pk_un z1, gsr_s, pk_un z2]; exact h2.1 k z1
              · rw [gsr_n _ _ z, gsr_n _ _ z]; exact h2.2 c z
  have N0 : ∀ (a' : Nat), ¬ (a' < len ∧ 48 ≤ tx a' ∧ tx a' ≤ 57) → a' = a → rdNum tx len a = (none, a) := by
    intro a' h e
    subst e
    unfold rdNum; rw [if_neg h]
  have N1 : (a < len ∧ 48 ≤ tx a ∧ tx a ≤ 57) → ¬ (a + 1 < len ∧ 48 ≤ tx (a + 1) ∧ tx (a + 1) ≤ 57) → rdNum tx len a = (some (tx a - 48), a + 1) := by
    intro h h2
    unfold rdNum; rw [if_pos h, if_neg h2]
  have N2 : (a < len ∧ 48 ≤ tx a ∧ tx a ≤ 57) → (a + 1 < len ∧ 48 ≤ tx (a + 1) ∧ tx (a + 1) ≤ 57) → rdNum tx len a = (some ((tx a - 48) * 10 + (tx (a + 1) - 48)), a + 2) := by
    intro h h2
    unfold rdNum; rw [if_pos h, if_pos h2]
  refine s_iconst (q := 1) (v := 0) hX dX7_number_0 rfl rfl ?_
  refine s_istore (q := 3) (lv' := [(0, _), (1, _), (2, _), (3, _), (4, _)]) hX dX7_number_1 rfl (Nat.le_of_ble_eq_true rfl) rfl ?_
  refine s_iconst (q := 4) (v := 0) hX dX7_number_3 rfl rfl ?_
  refine s_istore (q := 6) (lv' := [(0, _), (1, _), (2, _), (3, _), (4, _), (5, _)]) hX dX7_number_4 rfl (Nat.le_of_ble_eq_true rfl) rfl ?_
  refine s_iload (q := 8) hX dX7_number_6 rfl rfl ?_
  refine s_iconst (q := 9) (v := 2) hX dX7_number_8 rfl rfl ?_
  refine s_icmp_ge_f (q := 12) (r := 57) hX dX7_number_9 rfl rfl (by decide) ?_
  refine s_aload_n (q := 13) hX dX7_number_12 rfl rfl ?_
  refine s_invv0_1 (q := 16) hX dX7_number_13 rfl glk_7_77 (by assumption) (Nat.le_of_ble_eq_true rfl) ⟨Nat.le_refl _, Nat.le_refl _⟩ (by omega) (m_here (d := 0) (a := a) hC0 hT hat (by omega) (by omega) (fun hh => ?_) (fun hh => ?_)) 
  · refine ⟨_, rfl, ?_⟩
    refine s_bipush (q := 18) (v := 48) hX dX7_number_16 rfl rfl (by decide) ?_
    refine s_bipush (q := 20) (v := 57) hX dX7_number_18 rfl rfl (by decide) ?_
    refine s_invs3_1 (q := 23) hX dX7_number_20 rfl glk_7_66 (by decide) (Nat.le_of_ble_eq_true rfl) ⟨Nat.le_refl _, Nat.le_refl _⟩ (by omega) (m_rng (d := 0) (x := -1) (lo := 48) (n := 58) rfl rfl (by decide) (by decide) (fun _ => ?_) (fun i9 _ _ h9 e9 => ?_)) 
    · refine ⟨_, rfl, ?_⟩
      refine s_if_eq_t (q := 26) (r := 57) hX dX7_number_23 rfl rfl (by decide) ?_
      exact Z 0 0 a M hat ⟨fun _ _ => rfl, fun _ _ => rfl⟩ (by rw [N0 a (by omega) rfl]; rfl) (by omega) (by omega) (fun _ => rfl) (by omega)
    · exact absurd e9.symm (gnIm1 (by omega))
  · have hx9 := k2 a hh
    refine ⟨_, rfl, ?_⟩
    refine s_bipush (q := 18) (v := 48) hX dX7_number_16 rfl rfl (by decide) ?_
    refine s_bipush (q := 20) (v := 57) hX dX7_number_18 rfl rfl (by decide) ?_
    refine s_invs3_1 (q := 23) hX dX7_number_20 rfl glk_7_66 (by decide) (Nat.le_of_ble_eq_true rfl) ⟨Nat.le_refl _, Nat.le_refl _⟩ (by omega) (m_rngN (d := 0) (lo := 48) (n := 58) (k := tx a) rfl rfl (by decide) (by decide) (by omega) (fun hg => ?_) (fun hga hgb => ?_)) 
    · refine ⟨_, rfl, ?_⟩
      refine s_if_eq_t (q := 26) (r := 57) hX dX7_number_23 rfl rfl (by decide) ?_
      exact Z 0 0 a M hat ⟨fun _ _ => rfl, fun _ _ => rfl⟩ (by rw [N0 a (by omega) rfl]; rfl) (by omega) (by omega) (fun _ => rfl) (by omega)
    · refine ⟨_, rfl, ?_⟩
      refine s_if_eq_f (q := 26) (r := 57) hX dX7_number_23 rfl rfl (by decide) ?_
      refine s_bipush (q := 28) (v := 10) hX dX7_number_26 rfl rfl (by decide) ?_
      refine s_iload (q := 30) hX dX7_number_28 rfl rfl ?_
      refine s_imul (q := 31) (v := 0) hX dX7_number_30 rfl (by decide) ?_
      refine s_aload_n (q := 32) hX dX7_number_31 rfl rfl ?_
      refine s_invv0_1 (q := 35) hX dX7_number_32 rfl glk_7_77 (by assumption) (Nat.le_of_ble_eq_true rfl) ⟨Nat.le_refl _, Nat.le_refl _⟩ (by omega) (m_here (d := 0) (a := a) hC0 hT hat (by omega) (by omega) (fun hq => ?_) (fun _ => ?_)) 
      · exact absurd hh hq
      · refine ⟨_, rfl, ?_⟩
        refine s_iadd (q := 36) (v := nI (0 + (tx a))) hX dX7_number_35 rfl (nI_add (0) (tx a)) ?_
        refine s_bipush (q := 38) (v := 48) hX dX7_number_36 rfl rfl (by decide) ?_
        refine s_isub (q := 39) (v := nI (tx a - 48)) hX dX7_number_38 rfl (by rw [show (48 : Int32) = nI 48 from rfl, pk_sub (by omega)]; exact congrArg nI (by omega)) ?_
        refine s_istore (q := 41) (lv' := [(0, _), (1, _), (2, _), (3, _), (4, _), (5, _)]) hX dX7_number_39 rfl (Nat.le_of_ble_eq_true rfl) rfl ?_
        refine s_aload_n (q := 42) hX dX7_number_41 rfl rfl ?_
        refine s_dup (q := 43) hX dX7_number_42 rfl rfl ?_
        refine s_geti (q := 46) hX dX7_number_43 rfl gfl_7_74 (by assumption) rfl ?_
        refine s_topi (v := nI (a)) hat ?_
        refine s_iconst (q := 47) (v := 1) hX dX7_number_46 rfl rfl ?_
        refine s_iadd (q := 48) (v := nI (a + 1)) hX dX7_number_47 rfl (nI_add (a) (1)) ?_
        refine s_puti (q := 51) hX dX7_number_48 rfl gfl_7_74 (by assumption) rfl ?_
        refine s_iinc (q := 54) (v := 1) (lv' := [(0, _), (1, _), (2, _), (3, _), (4, _), (5, _)]) hX dX7_number_51 rfl rfl (by decide) (Nat.le_of_ble_eq_true rfl) rfl ?_
        refine s_goto (q := 6) hX dX7_number_54 rfl ?_
        refine s_iload (q := 8) hX dX7_number_6 rfl rfl ?_
        refine s_iconst (q := 9) (v := 2) hX dX7_number_8 rfl rfl ?_
        refine s_icmp_ge_f (q := 12) (r := 57) hX dX7_number_9 rfl rfl (by decide) ?_
        refine s_aload_n (q := 13) hX dX7_number_12 rfl rfl ?_
        refine s_invv0_1 (q := 16) hX dX7_number_13 rfl glk_7_77 (by assumption) (Nat.le_of_ble_eq_true rfl) ⟨Nat.le_refl _, Nat.le_refl _⟩ (by omega) (m_here (d := 0) (a := a + 1) hC0 (show TXM (gsr M 83 (upd (M 83) 10 (nI (a + 1)))) tx len from ⟨by rw [gsr_s, pk_un (by decide)]; exact hT.1, fun j hj => by rw [gsr_n _ _ (by decide)]; exact hT.2 j hj⟩) (by rw [gsr_s, pk_us]) (by omega) (by omega) (fun hh1 => ?_) (fun hh1 => ?_)) 
        · refine ⟨_, rfl, ?_⟩
          refine s_bipush (q := 18) (v := 48) hX dX7_number_16 rfl rfl (by decide) ?_
          refine s_bipush (q := 20) (v := 57) hX dX7_number_18 rfl rfl (by decide) ?_
          refine s_invs3_1 (q := 23) hX dX7_number_20 rfl glk_7_66 (by decide) (Nat.le_of_ble_eq_true rfl) ⟨Nat.le_refl _, Nat.le_refl _⟩ (by omega) (m_rng (d := 0) (x := -1) (lo := 48) (n := 58) rfl rfl (by decide) (by decide) (fun _ => ?_) (fun i9 _ _ h9 e9 => ?_)) 
          · refine ⟨_, rfl, ?_⟩
            refine s_if_eq_t (q := 26) (r := 57) hX dX7_number_23 rfl rfl (by decide) ?_
            exact Z (tx a - 48) 1 (a + 1) _ (by rw [gsr_s, pk_us]) ⟨fun k z => by rw [gsr_s, pk_un z], fun c z => gsr_n _ _ z⟩ (by rw [N1 (by omega) (by omega)]; rfl) (by omega) (by omega) (fun z => absurd z (by decide)) (by omega)
          · exact absurd e9.symm (gnIm1 (by omega))
        · have hx8 := k2 (a + 1) hh1
          refine ⟨_, rfl, ?_⟩
          refine s_bipush (q := 18) (v := 48) hX dX7_number_16 rfl rfl (by decide) ?_
          refine s_bipush (q := 20) (v := 57) hX dX7_number_18 rfl rfl (by decide) ?_
          refine s_invs3_1 (q := 23) hX dX7_number_20 rfl glk_7_66 (by decide) (Nat.le_of_ble_eq_true rfl) ⟨Nat.le_refl _, Nat.le_refl _⟩ (by omega) (m_rngN (d := 0) (lo := 48) (n := 58) (k := tx (a + 1)) rfl rfl (by decide) (by decide) (by omega) (fun hg1 => ?_) (fun hg1a hg1b => ?_)) 
          · refine ⟨_, rfl, ?_⟩
            refine s_if_eq_t (q := 26) (r := 57) hX dX7_number_23 rfl rfl (by decide) ?_
            exact Z (tx a - 48) 1 (a + 1) _ (by rw [gsr_s, pk_us]) ⟨fun k z => by rw [gsr_s, pk_un z], fun c z => gsr_n _ _ z⟩ (by rw [N1 (by omega) (by omega)]; rfl) (by omega) (by omega) (fun z => absurd z (by decide)) (by omega)
          · refine ⟨_, rfl, ?_⟩
            refine s_if_eq_f (q := 26) (r := 57) hX dX7_number_23 rfl rfl (by decide) ?_
            refine s_bipush (q := 28) (v := 10) hX dX7_number_26 rfl rfl (by decide) ?_
            refine s_iload (q := 30) hX dX7_number_28 rfl rfl ?_
            refine s_imul (q := 31) (v := nI (10 * (tx a - 48))) hX dX7_number_30 rfl (pk_mul (10) (tx a - 48)) ?_
            refine s_aload_n (q := 32) hX dX7_number_31 rfl rfl ?_
            refine s_invv0_1 (q := 35) hX dX7_number_32 rfl glk_7_77 (by assumption) (Nat.le_of_ble_eq_true rfl) ⟨Nat.le_refl _, Nat.le_refl _⟩ (by omega) (m_here (d := 0) (a := a + 1) hC0 (show TXM (gsr M 83 (upd (M 83) 10 (nI (a + 1)))) tx len from ⟨by rw [gsr_s, pk_un (by decide)]; exact hT.1, fun j hj => by rw [gsr_n _ _ (by decide)]; exact hT.2 j hj⟩) (by rw [gsr_s, pk_us]) (by omega) (by omega) (fun hq => ?_) (fun _ => ?_)) 
            · exact absurd hh1 hq
            · refine ⟨_, rfl, ?_⟩
              refine s_iadd (q := 36) (v := nI (10 * (tx a - 48) + (tx (a + 1)))) hX dX7_number_35 rfl (nI_add (10 * (tx a - 48)) (tx (a + 1))) ?_
              refine s_bipush (q := 38) (v := 48) hX dX7_number_36 rfl rfl (by decide) ?_
              refine s_isub (q := 39) (v := nI ((tx a - 48) * 10 + (tx (a + 1) - 48))) hX dX7_number_38 rfl (by rw [show (48 : Int32) = nI 48 from rfl, pk_sub (by omega)]; exact congrArg nI (by omega)) ?_
              refine s_istore (q := 41) (lv' := [(0, _), (1, _), (2, _), (3, _), (4, _), (5, _)]) hX dX7_number_39 rfl (Nat.le_of_ble_eq_true rfl) rfl ?_
              refine s_aload_n (q := 42) hX dX7_number_41 rfl rfl ?_
              refine s_dup (q := 43) hX dX7_number_42 rfl rfl ?_
              refine s_geti (q := 46) hX dX7_number_43 rfl gfl_7_74 (by assumption) rfl ?_
              refine s_topi (v := nI (a + 1)) (by rw [gsr_s, pk_us]) ?_
              refine s_iconst (q := 47) (v := 1) hX dX7_number_46 rfl rfl ?_
              refine s_iadd (q := 48) (v := nI (a + 1 + 1)) hX dX7_number_47 rfl (nI_add (a + 1) (1)) ?_
              refine s_puti (q := 51) hX dX7_number_48 rfl gfl_7_74 (by assumption) rfl ?_
              refine s_iinc (q := 54) (v := 2) (lv' := [(0, _), (1, _), (2, _), (3, _), (4, _), (5, _)]) hX dX7_number_51 rfl rfl (by decide) (Nat.le_of_ble_eq_true rfl) rfl ?_
              refine s_goto (q := 6) hX dX7_number_54 rfl ?_
              refine s_iload (q := 8) hX dX7_number_6 rfl rfl ?_
              refine s_iconst (q := 9) (v := 2) hX dX7_number_8 rfl rfl ?_
              refine s_icmp_ge_t (q := 12) (r := 57) hX dX7_number_9 rfl rfl (by decide) ?_
              exact Z ((tx a - 48) * 10 + (tx (a + 1) - 48)) 2 (a + 2) _ (by rw [gsr_s, pk_us]) ⟨fun k z => by rw [gsr_s, pk_un z, gsr_s, pk_un z], fun c z => by rw [gsr_n _ _ z, gsr_n _ _ z]⟩ (by rw [N2 (by omega) (by omega)]; rfl) (by omega) (by omega) (fun z => absurd z (by decide)) (by omega)
theorem TWX.fp {M M' : gM} {T : gT} {v : Nat → Nat} (h : TWX M T) (hdr : T.dr) (hP : T.P < 6) (e85 : M' 85 1 = nI (T.P + 1)) (e88 : M' 88 = M 88) (e92 : M' 92 = M 92) (e86 : M' 86 = upd (M 86) (6 + T.P) (nI (v 0))) (e87 : M' 87 = upd (upd (upd (M 87) (3 * (6 + T.P)) (nI (v 1))) (3 * (6 + T.P) + 1) (nI (v 2))) (3 * (6 + T.P) + 2) (nI (v 3))) (e89 : M' 89 = M 89) (e90 : M' 90 = M 90) (e91 : (∀ j, j < 7 → M' 91 (7 * (6 + T.P) + j) = -4) ∧ ∀ j, j < 7 * (6 + T.P) → M' 91 j = M 91 j) : TWX M' (T.sP v) := by
  obtain ⟨h1, h2, h3, h4, h5, h6, h7, h8⟩ := h
  refine ⟨e85, by rw [e88]; exact h2, by rw [e92]; exact h3, fun i hi => ?_, fun j hj => ?_, fun j hj => by rw [e89]; exact h6 j hj, fun k hk => by rw [e90]; exact h7 k hk, fun j hj => ?_⟩
  · have hi : i < T.P + 1 := hi
    rw [e86]
    show _ = nI (if i = T.P then v 0 else T.kd i)
    by_cases e : i = T.P
    · rw [if_pos e, e, pk_us]
    · rw [if_neg e, pk_un (by omega)]; exact h4 i (by omega)
  · have hj : j < 3 * (T.P + 1) := hj
    rw [e87]
    show _ = nI (if j / 3 = T.P then v (j % 3 + 1) else T.ra j)
    by_cases e : j / 3 = T.P
    · rw [if_pos e]
      rcases (show j = 3 * T.P ∨ j = 3 * T.P + 1 ∨ j = 3 * T.P + 2 by omega) with z | z | z
      · rw [show j % 3 + 1 = 1 by omega, pk_un (by omega), pk_un (by omega), show 18 + j = 3 * (6 + T.P) by omega, pk_us]
      · rw [show j % 3 + 1 = 2 by omega, pk_un (by omega), show 18 + j = 3 * (6 + T.P) + 1 by omega, pk_us]
      · rw [show j % 3 + 1 = 3 by omega, show 18 + j = 3 * (6 + T.P) + 2 by omega, pk_us]
    · rw [if_neg e, pk_un (by omega), pk_un (by omega), pk_un (by omega)]; exact h5 j (by omega)
  · have hj : j < 7 * (T.P + 1) := hj
    show _ = T.pl j
    by_cases e : j < 7 * T.P
    · rw [e91.2 _ (by omega)]; exact h8 j e
    · rw [show 42 + j = 7 * (6 + T.P) + (j - 7 * T.P) by omega, e91.1 _ (by omega), hdr.2 j (by omega) (by omega)]
set_option maxHeartbeats 4000000 in
set_option maxRecDepth 100000 in
theorem m_firstPerson {d : Nat} {T : gT} {v : Nat → Nat} {x0 x1 x2 x3 : Int32} {sh : List gS} {M : gM} {Q : Option Value → List gS → gM → Prop} (hC : isMod sh) (hX9 : TWX M T) (hdr : T.dr) (hP : T.P < 6) (e0 : x0 = nI (v 0)) (e1 : x1 = nI (v 1)) (e2 : x2 = nI (v 2)) (e3 : x3 = nI (v 3)) (hcon : ∀ M', TWX M' (T.sP v) → FRX M M' → M' 83 = M 83 → Q none sh M') : gC mX7_firstPerson d 0 0 [.ref 83, .int x0, .int x1, .int x2, .int x3] sh M Q := by
  subst e0 e1 e2 e3
  have hC0 := hC
  obtain ⟨y0, y1, y2, y3, y4, y5, y6, y7, y8, y9, y10, y11, y12, y13, y14, y15⟩ := hC
  refine gC_of (rt := 0) (ini := false) gm_X7_firstPerson rfl (by decide) (Nat.le_of_ble_eq_true rfl) (fun X hX => ?_)
  have L : ∀ (m i : Nat) (M1 : gM), i + m = 7 → M1 86 = upd (M 86) (6 + T.P) (nI (v 0)) → M1 87 = upd (upd (upd (M 87) (3 * (6 + T.P)) (nI (v 1))) (3 * (6 + T.P) + 1) (nI (v 2))) (3 * (6 + T.P) + 2) (nI (v 3)) → ((∀ j, j < i → M1 91 (7 * (6 + T.P) + j) = -4) ∧ ∀ j, j < 7 * (6 + T.P) → M1 91 j = M 91 j) → FRX M M1 → (∀ c, c ≠ 86 → c ≠ 87 → c ≠ 91 → M1 c = M c) → X 57 [(0, .ref 83), (1, .int (nI (v 0))), (2, .int (nI (v 1))), (3, .int (nI (v 2))), (4, .int (nI (v 3))), (5, .int (nI (6 + T.P))), (6, .int (nI i))] [] sh M1 0 0 := by
    intro m
    induction m with
    | zero =>
      intro i M1 hi h86 h87 h91 hF hc
      have e : i = 7 := by omega
      subst e
      refine s_iload (q := 59) hX dX7_firstPerson_57 rfl rfl ?_
      refine s_bipush (q := 61) (v := 7) hX dX7_firstPerson_59 rfl rfl (by decide) ?_
      refine s_icmp_ge_t (q := 64) (r := 85) hX dX7_firstPerson_61 rfl rfl (by decide) ?_
      refine s_aload_n (q := 86) hX dX7_firstPerson_85 rfl rfl ?_
      refine s_getr (q := 89) hX dX7_firstPerson_86 rfl gfl_7_13 (by assumption) rfl ?_
      refine s_iconst (q := 90) (v := 1) hX dX7_firstPerson_89 rfl rfl ?_
      refine s_dup2 (q := 91) hX dX7_firstPerson_90 rfl rfl rfl ?_
      refine s_iald (k := 1) (q := 92) hX dX7_firstPerson_91 rfl (by assumption) rfl (by omega) (by omega) ?_
      refine s_topi (v := nI (T.P)) (by rw [hc 85 (by decide) (by decide) (by decide)]; exact hX9.1) ?_
      refine s_iconst (q := 93) (v := 1) hX dX7_firstPerson_92 rfl rfl ?_
      refine s_iadd (q := 94) (v := nI (T.P + 1)) hX dX7_firstPerson_93 rfl (nI_add (T.P) (1)) ?_
      refine s_iast (k := 1) (q := 95) hX dX7_firstPerson_94 rfl (by assumption) rfl (by omega) (by omega) ?_
      refine s_ret hX dX7_firstPerson_95 rfl ⟨Nat.le_refl _, Nat.le_refl _, Nat.le_refl _, ?_⟩
      refine hcon _ (TWX.fp hX9 hdr hP ?_ ?_ ?_ ?_ ?_ ?_ ?_ ?_) (hF.put (by unfold dft; omega)) ?_
      · rw [gsr_s, pk_us]
      · rw [gsr_n _ _ (by decide)]; exact hc 88 (by decide) (by decide) (by decide)
      · rw [gsr_n _ _ (by decide)]; exact hc 92 (by decide) (by decide) (by decide)
      · rw [gsr_n _ _ (by decide)]; exact h86
      · rw [gsr_n _ _ (by decide)]; exact h87
      · rw [gsr_n _ _ (by decide)]; exact hc 89 (by decide) (by decide) (by decide)
      · rw [gsr_n _ _ (by decide)]; exact hc 90 (by decide) (by decide) (by decide)
      · rw [gsr_n _ _ (by decide)]; exact h91
      · rw [gsr_n _ _ (by decide)]; exact hc 83 (by decide) (by decide) (by decide)
    | succ m ih =>
      intro i M1 hi h86 h87 h91 hF hc
      refine s_iload (q := 59) hX dX7_firstPerson_57 rfl rfl ?_
      refine s_bipush (q := 61) (v := 7) hX dX7_firstPerson_59 rfl rfl (by decide) ?_
      refine s_icmp_ge_f (q := 64) (r := 85) hX dX7_firstPerson_61 rfl rfl (Int32.not_le.mpr (nI_lt (b := 7) (by omega) (by omega))) ?_
      refine s_aload_n (q := 65) hX dX7_firstPerson_64 rfl rfl ?_
      refine s_getr (q := 68) hX dX7_firstPerson_65 rfl gfl_7_32 (by assumption) rfl ?_
      refine s_bipush (q := 70) (v := 7) hX dX7_firstPerson_68 rfl rfl (by decide) ?_
      refine s_iload (q := 72) hX dX7_firstPerson_70 rfl rfl ?_
      refine s_imul (q := 73) (v := nI (7 * (6 + T.P))) hX dX7_firstPerson_72 rfl (pk_mul (7) (6 + T.P)) ?_
      refine s_iload (q := 75) hX dX7_firstPerson_73 rfl rfl ?_
      refine s_iadd (q := 76) (v := nI (7 * (6 + T.P) + i)) hX dX7_firstPerson_75 rfl (nI_add (7 * (6 + T.P)) (i)) ?_
      refine s_bipush (q := 78) (v := (-4)) hX dX7_firstPerson_76 rfl rfl (by decide) ?_
      refine s_iast (k := 7 * (6 + T.P) + i) (q := 79) hX dX7_firstPerson_78 rfl (by assumption) rfl (by omega) (by omega) ?_
      refine s_iinc (q := 82) (v := nI (i + 1)) (lv' := [(0, _), (1, _), (2, _), (3, _), (4, _), (5, _), (6, _)]) hX dX7_firstPerson_79 rfl rfl (nI_add (i) 1) (Nat.le_of_ble_eq_true rfl) rfl ?_
      refine s_goto (q := 57) hX dX7_firstPerson_82 rfl ?_
      refine ih (i + 1) _ (by omega) ?_ ?_ ⟨fun j hj => ?_, fun j hj => ?_⟩ (hF.put (by unfold dft; omega)) (fun c z1 z2 z3 => ?_)
      · rw [gsr_n _ _ (by decide)]; exact h86
      · rw [gsr_n _ _ (by decide)]; exact h87
      · rw [gsr_s]
        by_cases e : j = i
        · subst e; exact pk_us
        · rw [pk_un (by omega)]; exact h91.1 j (by omega)
      · rw [gsr_s, pk_un (by omega)]; exact h91.2 j hj
      · rw [gsr_n _ _ z3]; exact hc c z1 z2 z3
  refine s_bipush (q := 2) (v := 6) hX dX7_firstPerson_0 rfl rfl (by decide) ?_
  refine s_aload_n (q := 3) hX dX7_firstPerson_2 rfl rfl ?_
  refine s_getr (q := 6) hX dX7_firstPerson_3 rfl gfl_7_13 (by assumption) rfl ?_
  refine s_iconst (q := 7) (v := 1) hX dX7_firstPerson_6 rfl rfl ?_
  refine s_iald (k := 1) (q := 8) hX dX7_firstPerson_7 rfl (by assumption) rfl (by omega) (by omega) ?_
  refine s_topi (v := nI (T.P)) hX9.1 ?_
  refine s_iadd (q := 9) (v := nI (6 + (T.P))) hX dX7_firstPerson_8 rfl (nI_add (6) (T.P)) ?_
  refine s_istore (q := 11) (lv' := [(0, _), (1, _), (2, _), (3, _), (4, _), (5, _)]) hX dX7_firstPerson_9 rfl (Nat.le_of_ble_eq_true rfl) rfl ?_
  refine s_aload_n (q := 12) hX dX7_firstPerson_11 rfl rfl ?_
  refine s_getr (q := 15) hX dX7_firstPerson_12 rfl gfl_7_17 (by assumption) rfl ?_
  refine s_iload (q := 17) hX dX7_firstPerson_15 rfl rfl ?_
  refine s_iload_n (q := 18) hX dX7_firstPerson_17 rfl rfl ?_
  refine s_iast (k := 6 + (T.P)) (q := 19) hX dX7_firstPerson_18 rfl (by assumption) rfl (by omega) (by omega) ?_
  refine s_aload_n (q := 20) hX dX7_firstPerson_19 rfl rfl ?_
  refine s_getr (q := 23) hX dX7_firstPerson_20 rfl gfl_7_20 (by assumption) rfl ?_
  refine s_iconst (q := 24) (v := 3) hX dX7_firstPerson_23 rfl rfl ?_
  refine s_iload (q := 26) hX dX7_firstPerson_24 rfl rfl ?_
  refine s_imul (q := 27) (v := nI (3 * (6 + (T.P)))) hX dX7_firstPerson_26 rfl (pk_mul (3) (6 + (T.P))) ?_
  refine s_iload_n (q := 28) hX dX7_firstPerson_27 rfl rfl ?_
  refine s_iast (k := 3 * (6 + (T.P))) (q := 29) hX dX7_firstPerson_28 rfl (by assumption) rfl (by omega) (by omega) ?_
  refine s_aload_n (q := 30) hX dX7_firstPerson_29 rfl rfl ?_
  refine s_getr (q := 33) hX dX7_firstPerson_30 rfl gfl_7_20 (by assumption) rfl ?_
  refine s_iconst (q := 34) (v := 3) hX dX7_firstPerson_33 rfl rfl ?_
  refine s_iload (q := 36) hX dX7_firstPerson_34 rfl rfl ?_
  refine s_imul (q := 37) (v := nI (3 * (6 + (T.P)))) hX dX7_firstPerson_36 rfl (pk_mul (3) (6 + (T.P))) ?_
  refine s_iconst (q := 38) (v := 1) hX dX7_firstPerson_37 rfl rfl ?_
  refine s_iadd (q := 39) (v := nI (3 * (6 + (T.P)) + 1)) hX dX7_firstPerson_38 rfl (nI_add (3 * (6 + (T.P))) (1)) ?_
  refine s_iload_n (q := 40) hX dX7_firstPerson_39 rfl rfl ?_
  refine s_iast (k := 3 * (6 + (T.P)) + 1) (q := 41) hX dX7_firstPerson_40 rfl (by assumption) rfl (by omega) (by omega) ?_
  refine s_aload_n (q := 42) hX dX7_firstPerson_41 rfl rfl ?_
  refine s_getr (q := 45) hX dX7_firstPerson_42 rfl gfl_7_20 (by assumption) rfl ?_
  refine s_iconst (q := 46) (v := 3) hX dX7_firstPerson_45 rfl rfl ?_
  refine s_iload (q := 48) hX dX7_firstPerson_46 rfl rfl ?_
  refine s_imul (q := 49) (v := nI (3 * (6 + (T.P)))) hX dX7_firstPerson_48 rfl (pk_mul (3) (6 + (T.P))) ?_
  refine s_iconst (q := 50) (v := 2) hX dX7_firstPerson_49 rfl rfl ?_
  refine s_iadd (q := 51) (v := nI (3 * (6 + (T.P)) + 2)) hX dX7_firstPerson_50 rfl (nI_add (3 * (6 + (T.P))) (2)) ?_
  refine s_iload (q := 53) hX dX7_firstPerson_51 rfl rfl ?_
  refine s_iast (k := 3 * (6 + (T.P)) + 2) (q := 54) hX dX7_firstPerson_53 rfl (by assumption) rfl (by omega) (by omega) ?_
  refine s_iconst (q := 55) (v := 0) hX dX7_firstPerson_54 rfl rfl ?_
  refine s_istore (q := 57) (lv' := [(0, _), (1, _), (2, _), (3, _), (4, _), (5, _), (6, _)]) hX dX7_firstPerson_55 rfl (Nat.le_of_ble_eq_true rfl) rfl ?_
  refine L 7 0 _ (by omega) ?_ ?_ ⟨fun j hj => absurd hj (by omega), fun j hj => ?_⟩ ?_ (fun c z1 z2 z3 => ?_)
  · rw [gsr_n _ _ (by decide), gsr_n _ _ (by decide), gsr_n _ _ (by decide), gsr_s]
  · simp only [gsr_s, gsr_gsr]; rw [gsr_n _ _ (by decide)]
  · rw [gsr_n _ _ (by decide), gsr_n _ _ (by decide), gsr_n _ _ (by decide), gsr_n _ _ (by decide)]
  · exact (((FRX.rf.put (by unfold dft; omega)).put (by unfold dft; omega)).put (by unfold dft; omega)).put (by unfold dft; omega)
  · rw [gsr_n _ _ z2, gsr_n _ _ z2, gsr_n _ _ z2, gsr_n _ _ z1]
set_option maxHeartbeats 4000000 in
set_option maxRecDepth 100000 in
theorem m_firstDeed {d : Nat} {T : gT} {v : Nat → Nat} {x0 x1 x2 x3 : Int32} {sh : List gS} {M : gM} {Q : Option Value → List gS → gM → Prop} (hC : isMod sh) (hX9 : TWX M T) (hD : T.D < 6) (hP6 : T.P ≤ 6) (e0 : x0 = nI (v 0)) (e1 : x1 = nI (v 1)) (e2 : x2 = nI (v 2)) (e3 : x3 = nI (v 3)) (hcon : ∀ M', TWX M' (T.sD v) → FRX M M' → M' 83 = M 83 → Q none sh M') : gC mX7_firstDeed d 0 0 [.ref 83, .int x0, .int x1, .int x2, .int x3] sh M Q := by
  subst e0 e1 e2 e3
  have hC0 := hC
  obtain ⟨y0, y1, y2, y3, y4, y5, y6, y7, y8, y9, y10, y11, y12, y13, y14, y15⟩ := hC
  obtain ⟨h1, h2, h3, h4, h5, h6, h7, h8⟩ := hX9
  refine gC_of (rt := 0) (ini := false) gm_X7_firstDeed rfl (by decide) (Nat.le_of_ble_eq_true rfl) (fun X hX => ?_)
  refine s_bipush (q := 2) (v := 6) hX dX7_firstDeed_0 rfl rfl (by decide) ?_
  refine s_aload_n (q := 3) hX dX7_firstDeed_2 rfl rfl ?_
  refine s_getr (q := 6) hX dX7_firstDeed_3 rfl gfl_7_23 (by assumption) rfl ?_
  refine s_iconst (q := 7) (v := 1) hX dX7_firstDeed_6 rfl rfl ?_
  refine s_iald (k := 1) (q := 8) hX dX7_firstDeed_7 rfl (by assumption) rfl (by omega) (by omega) ?_
  refine s_topi (v := nI (T.D)) h2 ?_
  refine s_iadd (q := 9) (v := nI (6 + (T.D))) hX dX7_firstDeed_8 rfl (nI_add (6) (T.D)) ?_
  refine s_istore (q := 11) (lv' := [(0, _), (1, _), (2, _), (3, _), (4, _), (5, _)]) hX dX7_firstDeed_9 rfl (Nat.le_of_ble_eq_true rfl) rfl ?_
  refine s_aload_n (q := 12) hX dX7_firstDeed_11 rfl rfl ?_
  refine s_getr (q := 15) hX dX7_firstDeed_12 rfl gfl_7_26 (by assumption) rfl ?_
  refine s_iconst (q := 16) (v := 3) hX dX7_firstDeed_15 rfl rfl ?_
  refine s_iload (q := 18) hX dX7_firstDeed_16 rfl rfl ?_
  refine s_imul (q := 19) (v := nI (3 * (6 + (T.D)))) hX dX7_firstDeed_18 rfl (pk_mul (3) (6 + (T.D))) ?_
  refine s_iload_n (q := 20) hX dX7_firstDeed_19 rfl rfl ?_
  refine s_iast (k := 3 * (6 + (T.D))) (q := 21) hX dX7_firstDeed_20 rfl (by assumption) rfl (by omega) (by omega) ?_
  refine s_aload_n (q := 22) hX dX7_firstDeed_21 rfl rfl ?_
  refine s_getr (q := 25) hX dX7_firstDeed_22 rfl gfl_7_26 (by assumption) rfl ?_
  refine s_iconst (q := 26) (v := 3) hX dX7_firstDeed_25 rfl rfl ?_
  refine s_iload (q := 28) hX dX7_firstDeed_26 rfl rfl ?_
  refine s_imul (q := 29) (v := nI (3 * (6 + (T.D)))) hX dX7_firstDeed_28 rfl (pk_mul (3) (6 + (T.D))) ?_
  refine s_iconst (q := 30) (v := 1) hX dX7_firstDeed_29 rfl rfl ?_
  refine s_iadd (q := 31) (v := nI (3 * (6 + (T.D)) + 1)) hX dX7_firstDeed_30 rfl (nI_add (3 * (6 + (T.D))) (1)) ?_
  refine s_iload_n (q := 32) hX dX7_firstDeed_31 rfl rfl ?_
  refine s_iast (k := 3 * (6 + (T.D)) + 1) (q := 33) hX dX7_firstDeed_32 rfl (by assumption) rfl (by omega) (by omega) ?_
  refine s_aload_n (q := 34) hX dX7_firstDeed_33 rfl rfl ?_
  refine s_getr (q := 37) hX dX7_firstDeed_34 rfl gfl_7_26 (by assumption) rfl ?_
  refine s_iconst (q := 38) (v := 3) hX dX7_firstDeed_37 rfl rfl ?_
  refine s_iload (q := 40) hX dX7_firstDeed_38 rfl rfl ?_
  refine s_imul (q := 41) (v := nI (3 * (6 + (T.D)))) hX dX7_firstDeed_40 rfl (pk_mul (3) (6 + (T.D))) ?_
  refine s_iconst (q := 42) (v := 2) hX dX7_firstDeed_41 rfl rfl ?_
  refine s_iadd (q := 43) (v := nI (3 * (6 + (T.D)) + 2)) hX dX7_firstDeed_42 rfl (nI_add (3 * (6 + (T.D))) (2)) ?_
  refine s_iload_n (q := 44) hX dX7_firstDeed_43 rfl rfl ?_
  refine s_iast (k := 3 * (6 + (T.D)) + 2) (q := 45) hX dX7_firstDeed_44 rfl (by assumption) rfl (by omega) (by omega) ?_
  refine s_aload_n (q := 46) hX dX7_firstDeed_45 rfl rfl ?_
  refine s_getr (q := 49) hX dX7_firstDeed_46 rfl gfl_7_29 (by assumption) rfl ?_
  refine s_iload (q := 51) hX dX7_firstDeed_49 rfl rfl ?_
  refine s_iload (q := 53) hX dX7_firstDeed_51 rfl rfl ?_
  refine s_iast (k := 6 + (T.D)) (q := 54) hX dX7_firstDeed_53 rfl (by assumption) rfl (by omega) (by omega) ?_
  refine s_aload_n (q := 55) hX dX7_firstDeed_54 rfl rfl ?_
  refine s_getr (q := 58) hX dX7_firstDeed_55 rfl gfl_7_23 (by assumption) rfl ?_
  refine s_iconst (q := 59) (v := 1) hX dX7_firstDeed_58 rfl rfl ?_
  refine s_dup2 (q := 60) hX dX7_firstDeed_59 rfl rfl rfl ?_
  refine s_iald (k := 1) (q := 61) hX dX7_firstDeed_60 rfl (by assumption) rfl (by omega) (by omega) ?_
  refine s_topi (v := nI (T.D)) (by rw [gsr_n _ _ (by decide), gsr_n _ _ (by decide), gsr_n _ _ (by decide), gsr_n _ _ (by decide)]; exact h2) ?_
  refine s_iconst (q := 62) (v := 1) hX dX7_firstDeed_61 rfl rfl ?_
  refine s_iadd (q := 63) (v := nI (T.D + 1)) hX dX7_firstDeed_62 rfl (nI_add (T.D) (1)) ?_
  refine s_iast (k := 1) (q := 64) hX dX7_firstDeed_63 rfl (by assumption) rfl (by omega) (by omega) ?_
  refine s_ret hX dX7_firstDeed_64 rfl ⟨Nat.le_refl _, Nat.le_refl _, Nat.le_refl _, ?_⟩
  refine hcon _ ⟨?_, ?_, ?_, fun i hi => ?_, fun j hj => ?_, fun j hj => ?_, fun k hk => ?_, fun j hj => ?_⟩ (((((FRX.rf.put (by unfold dft; omega)).put (by unfold dft; omega)).put (by unfold dft; omega)).put (by unfold dft; omega)).put (by unfold dft; omega)) ?_
  · rw [gsr_n _ _ (by decide), gsr_n _ _ (by decide), gsr_n _ _ (by decide), gsr_n _ _ (by decide), gsr_n _ _ (by decide)]; exact h1
  · rw [gsr_s, pk_us]; rfl
  · rw [gsr_n _ _ (by decide), gsr_n _ _ (by decide), gsr_n _ _ (by decide), gsr_n _ _ (by decide), gsr_n _ _ (by decide)]; exact h3
  · rw [gsr_n _ _ (by decide), gsr_n _ _ (by decide), gsr_n _ _ (by decide), gsr_n _ _ (by decide), gsr_n _ _ (by decide)]; exact h4 i hi
  · rw [gsr_n _ _ (by decide), gsr_n _ _ (by decide), gsr_n _ _ (by decide), gsr_n _ _ (by decide), gsr_n _ _ (by decide)]; exact h5 j hj
  · have hj : j < 3 * (T.D + 1) := hj
    rw [gsr_n _ _ (by decide), gsr_n _ _ (by decide)]
    simp only [gsr_s, gsr_gsr]
    show _ = nI (if j / 3 = T.D then v (j % 3) else T.co j)
    by_cases e : j / 3 = T.D
    · rw [if_pos e]
      rcases (show j = 3 * T.D ∨ j = 3 * T.D + 1 ∨ j = 3 * T.D + 2 by omega) with z | z | z
      · rw [show j % 3 = 0 by omega, pk_un (by omega), pk_un (by omega), show 18 + j = 3 * (6 + T.D) by omega, pk_us]
      · rw [show j % 3 = 1 by omega, pk_un (by omega), show 18 + j = 3 * (6 + T.D) + 1 by omega, pk_us]
      · rw [show j % 3 = 2 by omega, show 18 + j = 3 * (6 + T.D) + 2 by omega, pk_us]
    · rw [if_neg e, pk_un (by omega), pk_un (by omega), pk_un (by omega)]; exact h6 j (by omega)
  · have hk : k < T.D + 1 := hk
    rw [gsr_n _ _ (by decide), gsr_s, gsr_n _ _ (by decide), gsr_n _ _ (by decide), gsr_n _ _ (by decide)]
    show _ = nI (if k = T.D then v 3 else T.wo k)
    by_cases e : k = T.D
    · rw [if_pos e, e, pk_us]
    · rw [if_neg e, pk_un (by omega)]; exact h7 k (by omega)
  · rw [gsr_n _ _ (by decide), gsr_n _ _ (by decide), gsr_n _ _ (by decide), gsr_n _ _ (by decide), gsr_n _ _ (by decide)]; exact h8 j hj
  · rw [gsr_n _ _ (by decide), gsr_n _ _ (by decide), gsr_n _ _ (by decide), gsr_n _ _ (by decide), gsr_n _ _ (by decide)]
