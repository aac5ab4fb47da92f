theorem gkv_m (n : Nat) : nI n - 1 = gkv n := by
  rw [← gkv_m1, Int32.sub_eq_add_neg]
  rfl
theorem gkv_neg : gkv 0 = -1 := rfl
theorem gkv_suc (n : Nat) : gkv (n + 1) = nI n := by unfold gkv; rw [if_neg (by omega)]; rfl
/-- the model's own fields 10, 11, 17, 18 may change, and the row of digits -/
theorem TRM.f8 {M0 M : gM} {S : gA} {U : gU} {k : Nat} {x : Int32} (h : TRM M0 M S U) (hP : S.T.P ≤ 6) (hu : S.un.1 ≤ 8) (hk : S.kp.1 ≤ 2) (h1 : k = 10 ∨ k = 11 ∨ k = 17 ∨ k = 18) : TRM M0 (gsr M 83 (upd (M 83) k x)) S U :=
  ⟨h.1.kp hP hu hk (fun q hq => by rw [gsr_s, pk_un (by omega)]) (fun c _ _ _ _ _ => gsr_n _ _ (by omega)) (fun j hj => by rw [gsr_n _ _ (by decide)]), h.2.1.kp hP (fun j _ _ => by rw [gsr_n _ _ (by decide)]), fun c hc => by rw [gsr_n _ _ (by omega)]; exact h.2.2 c hc⟩
theorem TRM.f95 {M0 M : gM} {S : gA} {U : gU} {f : Nat → Int32} (h : TRM M0 M S U) (hP : S.T.P ≤ 6) (hu : S.un.1 ≤ 8) (hk : S.kp.1 ≤ 2) : TRM M0 (gsr M 95 f) S U :=
  ⟨h.1.kp hP hu hk (fun q hq => by rw [gsr_n _ _ (by decide)]) (fun c _ _ _ _ h5 => gsr_n _ _ h5) (fun j hj => by rw [gsr_n _ _ (by decide)]), h.2.1.kp hP (fun j _ _ => by rw [gsr_n _ _ (by decide)]), fun c hc => by rw [gsr_n _ _ (by omega)]; exact h.2.2 c hc⟩
set_option maxHeartbeats 4000000 in
set_option maxRecDepth 100000 in
theorem m_tryRow {d b i v : Nat} {S : gA} {sh : List gS} {M : gM} {Q : Option Value → List gS → gM → Prop} (hd : 3 ≤ d) (hC : isMod sh) (hS : MOD M S) (hk : S.ok b) (hb : b ≤ 20000) (hi : i < S.T.P) (hv : v < 100000) (hcon0 : S.T.ev i S.T.D 0 (S.U.tr i) 0 0 (dgt S.T.D v) = none → ∀ M', MOD M' S → (∀ c, c < 83 → M' c = M c) → (∀ k, k < S.T.D → M' 95 k = nI (dgt S.T.D v k)) → Q (some (.int 0)) sh M') (hcon1 : ∀ q, S.T.ev i S.T.D 0 (S.U.tr i) 0 0 (dgt S.T.D v) = some q → ∀ M', MOD M' S → (∀ c, c < 83 → M' c = M c) → (∀ k, k < S.T.D → M' 95 k = nI (dgt S.T.D v k)) → M' 83 17 = nI q.1 → M' 83 18 = nI q.2 → Q (some (.int 1)) sh M') : gC mX7_tryRow d 0 0 [.ref 83, .int (nI i), .int (nI v)] sh M Q := by
  have hC0 := hC
  obtain ⟨y0, y1, y2, y3, y4, y5, y6, y7, y8, y9, y10, y11, y12, y13, y14, y15⟩ := hC
  have hS0 := hS
  have hk0 := hk
  obtain ⟨⟨a1, a1x⟩, a2, a3, ⟨a4, a4x⟩, ⟨a5, a5x⟩, a6⟩ := hS
  obtain ⟨g1, g2, g3, g4, g5, g6, g7⟩ := hk
  have g0 := g1
  obtain ⟨o1, o2, o3, o4, o5, o6, o7, o8⟩ := g0
  have hd6 : ∀ k, dgt S.T.D v k < 6 := fun k => Nat.mod_lt _ (by decide)
  obtain ⟨R, hR⟩ : ∃ R, R = S.T.ev i S.T.D 0 (S.U.tr i) 0 0 (dgt S.T.D v) := ⟨_, rfl⟩
  rw [← hR] at hcon0 hcon1
  have gsr83 : ∀ (M : gM) (f : Nat → Int32) (c : Nat), c ≠ 83 → gsr M 83 f c = M c := fun M f c h => gsr_n _ _ h
  refine gC_of (rt := 2) (ini := false) gm_X7_tryRow rfl (by decide) (Nat.le_of_ble_eq_true rfl) (fun X hX => ?_)
  have F : ∀ (y : Int32) (p k : Nat) (M1 : gM), k + p = S.T.D → R = none → MOD M1 S → (∀ c, c < 83 → M1 c = M c) → (∀ k, k < S.T.D → M1 95 k = nI (dgt S.T.D v k)) → X 63 [(0, .ref 83), (1, .int (nI i)), (2, .int (nI v)), (3, .int y), (4, .int 0), (5, .int (nI k))] [] sh M1 0 0 := by
    intro y p
    induction p with
    | zero =>
      intro k M1 hk h1 h2 h3 h4
      have e : k = S.T.D := by omega
      rw [e]
      refine s_iload (q := 65) hX dX7_tryRow_63 rfl rfl ?_
      refine s_aload_n (q := 66) hX dX7_tryRow_65 rfl rfl ?_
      refine s_getr (q := 69) hX dX7_tryRow_66 rfl gfl_7_23 (by assumption) rfl ?_
      refine s_iconst (q := 70) (v := 0) hX dX7_tryRow_69 rfl rfl ?_
      refine s_iald (k := 0) (q := 71) hX dX7_tryRow_70 rfl (by assumption) rfl (by omega) (by omega) ?_
      refine s_topi (v := nI (S.T.D)) h2.2.1.2.1 ?_
      refine s_icmp_ge_t (q := 74) (r := 152) hX dX7_tryRow_71 rfl rfl (Int32.le_refl _) ?_
      refine s_iload (q := 154) hX dX7_tryRow_152 rfl rfl ?_
      refine s_iret hX dX7_tryRow_154 (Or.inr ⟨rfl, Or.inl rfl⟩) ⟨Nat.le_refl _, Nat.le_refl _, Nat.le_refl _, ?_⟩
      exact hcon0 h1 M1 h2 h3 h4
    | succ p ihp =>
      intro k M1 hk h1 h2 h3 h4
      have h6 := hd6 k
      refine s_iload (q := 65) hX dX7_tryRow_63 rfl rfl ?_
      refine s_aload_n (q := 66) hX dX7_tryRow_65 rfl rfl ?_
      refine s_getr (q := 69) hX dX7_tryRow_66 rfl gfl_7_23 (by assumption) rfl ?_
      refine s_iconst (q := 70) (v := 0) hX dX7_tryRow_69 rfl rfl ?_
      refine s_iald (k := 0) (q := 71) hX dX7_tryRow_70 rfl (by assumption) rfl (by omega) (by omega) ?_
      refine s_topi (v := nI (S.T.D)) h2.2.1.2.1 ?_
      refine s_icmp_ge_f (q := 74) (r := 152) hX dX7_tryRow_71 rfl rfl (Int32.not_le.mpr (nI_lt (by omega) (by omega))) ?_
      refine s_iconst (q := 75) (v := 0) hX dX7_tryRow_74 rfl rfl ?_
      refine s_istore (q := 77) (lv' := [(0, _), (1, _), (2, _), (3, _), (4, _), (5, _), (6, _)]) hX dX7_tryRow_75 rfl (Nat.le_of_ble_eq_true rfl) rfl ?_
      refine s_iload (q := 79) hX dX7_tryRow_77 rfl rfl ?_
      refine s_aload_n (q := 80) hX dX7_tryRow_79 rfl rfl ?_
      refine s_getr (q := 83) hX dX7_tryRow_80 rfl gfl_7_44 (by assumption) rfl ?_
      refine s_iload (q := 85) hX dX7_tryRow_83 rfl rfl ?_
      refine s_iald (k := k) (q := 86) hX dX7_tryRow_85 rfl (by assumption) rfl (by omega) (by omega) ?_
      refine s_topi (v := nI (dgt S.T.D v k)) (h4 k (by omega)) ?_
      refine s_nicmp_ge (a := 0) (b := dgt S.T.D v k) (q := 89) (r := 146) hX dX7_tryRow_86 rfl rfl rfl rfl (by omega) (by omega) (fun c86 => ?_) (fun c86 => ?_)
      · refine s_iinc (q := 149) (v := nI (k + 1)) (lv' := [(0, _), (1, _), (2, _), (3, _), (4, _), (5, _), (6, _)]) hX dX7_tryRow_146 rfl rfl (nI_add (k) 1) (Nat.le_of_ble_eq_true rfl) rfl ?_
        refine s_goto (q := 63) hX dX7_tryRow_149 rfl ?_
        exact s_dl hX (ihp (k + 1) M1 (by omega) h1 h2 h3 h4)
      · refine s_iload (q := 91) hX dX7_tryRow_89 rfl rfl ?_
        refine s_if_eq_t (q := 94) (r := 146) hX dX7_tryRow_91 rfl rfl (by decide) ?_
        refine s_iinc (q := 149) (v := nI (k + 1)) (lv' := [(0, _), (1, _), (2, _), (3, _), (4, _), (5, _), (6, _)]) hX dX7_tryRow_146 rfl rfl (nI_add (k) 1) (Nat.le_of_ble_eq_true rfl) rfl ?_
        refine s_goto (q := 63) hX dX7_tryRow_149 rfl ?_
        exact s_dl hX (ihp (k + 1) M1 (by omega) h1 h2 h3 h4)
  have L : ∀ (y : Int32) (r k : Nat) (V : gU) (h : Nat → Nat) (w s : Nat) (M1 : gM), k + r = S.T.D → S.T.ev i r k h w s (dgt S.T.D v) = R → V.ok S.T.P → (∀ s, s < 3 → h s = V.tr i s) → TRM M M1 S V → (∀ k, k < S.T.D → M1 95 k = nI (dgt S.T.D v k)) → M1 83 17 = nI w → M1 83 18 = nI s → X 63 [(0, .ref 83), (1, .int (nI i)), (2, .int (nI v)), (3, .int y), (4, .int 1), (5, .int (nI k))] [] sh M1 0 0 := by
    intro y r
    induction r with
    | zero =>
      intro k V h w s M1 hk h1 h2 h3 h4 h5 h6 h7
      have e : k = S.T.D := by omega
      rw [e]
      refine s_iload (q := 65) hX dX7_tryRow_63 rfl rfl ?_
      refine s_aload_n (q := 66) hX dX7_tryRow_65 rfl rfl ?_
      refine s_getr (q := 69) hX dX7_tryRow_66 rfl gfl_7_23 (by assumption) rfl ?_
      refine s_iconst (q := 70) (v := 0) hX dX7_tryRow_69 rfl rfl ?_
      refine s_iald (k := 0) (q := 71) hX dX7_tryRow_70 rfl (by assumption) rfl (by omega) (by omega) ?_
      refine s_topi (v := nI (S.T.D)) h4.1.2.1.2.1 ?_
      refine s_icmp_ge_t (q := 74) (r := 152) hX dX7_tryRow_71 rfl rfl (Int32.le_refl _) ?_
      refine s_iload (q := 154) hX dX7_tryRow_152 rfl rfl ?_
      refine s_iret hX dX7_tryRow_154 (Or.inr ⟨rfl, Or.inr rfl⟩) ⟨Nat.le_refl _, Nat.le_refl _, Nat.le_refl _, ?_⟩
      exact hcon1 (w, s) h1.symm M1 h4.1 h4.2.2 h5 h6 h7
    | succ r ih =>
      intro k V h w s M1 hk h1 h2 h3 h4 h5 h6 h7
      have hdk := hd6 k
      have h1 : (match S.T.rp i k h (dgt S.T.D v k) with
        | none => none
        | some g => S.T.ev i r (k + 1) g (w + dgt S.T.D v k * S.T.wo k) (s + dgt S.T.D v k) (dgt S.T.D v)) = R := h1
      have I : ∀ (p t : Nat) (V' : gU) (g : Nat → Nat) (M2 : gM), t + p = dgt S.T.D v k → S.T.rp i k h t = some g → V'.ok S.T.P → (∀ s, s < 3 → g s = V'.tr i s) → TRM M M2 S V' → (∀ k, k < S.T.D → M2 95 k = nI (dgt S.T.D v k)) → M2 83 17 = nI (w + t * S.T.wo k) → M2 83 18 = nI (s + t) → X 77 [(0, .ref 83), (1, .int (nI i)), (2, .int (nI v)), (3, .int y), (4, .int 1), (5, .int (nI k)), (6, .int (nI t))] [] sh M2 0 0 := by
        intro p
        induction p with
        | zero =>
          intro t V' g M2 ht e1 e2 e3 e4 e5 e6 e7
          have e : t = dgt S.T.D v k := by omega
          rw [e] at e1 e6 e7 ⊢
          rw [e1] at h1
          refine s_iload (q := 79) hX dX7_tryRow_77 rfl rfl ?_
          refine s_aload_n (q := 80) hX dX7_tryRow_79 rfl rfl ?_
          refine s_getr (q := 83) hX dX7_tryRow_80 rfl gfl_7_44 (by assumption) rfl ?_
          refine s_iload (q := 85) hX dX7_tryRow_83 rfl rfl ?_
          refine s_iald (k := k) (q := 86) hX dX7_tryRow_85 rfl (by assumption) rfl (by omega) (by omega) ?_
          refine s_topi (v := nI (dgt S.T.D v k)) (e5 k (by omega)) ?_
          refine s_icmp_ge_t (q := 89) (r := 146) hX dX7_tryRow_86 rfl rfl (Int32.le_refl _) ?_
          refine s_iinc (q := 149) (v := nI (k + 1)) (lv' := [(0, _), (1, _), (2, _), (3, _), (4, _), (5, _), (6, _)]) hX dX7_tryRow_146 rfl rfl (nI_add (k) 1) (Nat.le_of_ble_eq_true rfl) rfl ?_
          refine s_goto (q := 63) hX dX7_tryRow_149 rfl ?_
          exact s_dl hX (ih (k + 1) V' g _ _ M2 (by omega) h1 e2 e3 e4 e5 e6 e7)
        | succ p ihp =>
          intro t V' g M2 ht e1 e2 e3 e4 e5 e6 e7
          have hcg : S.T.can i k g = S.T.can i k (V'.tr i) := S.T.can_cg e3
          have hrp : S.T.rp i k h (t + 1) = S.T.s1 i g (k + 1) := by
            show (match S.T.rp i k h t with
              | none => none
              | some g => S.T.s1 i g (k + 1)) = _
            rw [e1]
          have hs1 : S.T.s1 i g (k + 1) = if S.T.can i k g = true then some (fun s => g s - S.T.pay i k g s) else none := rfl
          refine s_iload (q := 79) hX dX7_tryRow_77 rfl rfl ?_
          refine s_aload_n (q := 80) hX dX7_tryRow_79 rfl rfl ?_
          refine s_getr (q := 83) hX dX7_tryRow_80 rfl gfl_7_44 (by assumption) rfl ?_
          refine s_iload (q := 85) hX dX7_tryRow_83 rfl rfl ?_
          refine s_iald (k := k) (q := 86) hX dX7_tryRow_85 rfl (by assumption) rfl (by omega) (by omega) ?_
          refine s_topi (v := nI (dgt S.T.D v k)) (e5 k (by omega)) ?_
          refine s_nicmp_ge (a := t) (b := dgt S.T.D v k) (q := 89) (r := 146) hX dX7_tryRow_86 rfl rfl rfl rfl (by omega) (by omega) (fun c86 => ?_) (fun c86 => ?_)
          · refine s_iinc (q := 149) (v := nI (k + 1)) (lv' := [(0, _), (1, _), (2, _), (3, _), (4, _), (5, _), (6, _)]) hX dX7_tryRow_146 rfl rfl (nI_add (k) 1) (Nat.le_of_ble_eq_true rfl) rfl ?_
            refine s_goto (q := 63) hX dX7_tryRow_149 rfl ?_
            exact absurd c86 (by omega)
          · refine s_iload (q := 91) hX dX7_tryRow_89 rfl rfl ?_
            refine s_if_eq_f (q := 94) (r := 146) hX dX7_tryRow_91 rfl rfl (by decide) ?_
            refine s_aload_n (q := 95) hX dX7_tryRow_94 rfl rfl ?_
            refine s_sipush (q := 98) (v := 341) hX dX7_tryRow_95 rfl rfl (by decide) ?_
            refine s_iload_n (q := 99) hX dX7_tryRow_98 rfl rfl ?_
            refine s_iload (q := 101) hX dX7_tryRow_99 rfl rfl ?_
            refine s_invv3_1 (q := 104) hX dX7_tryRow_101 rfl glk_7_125 (by assumption) (Nat.le_of_ble_eq_true rfl) ⟨Nat.le_refl _, Nat.le_refl _⟩ (by omega) (m_doIt (d := 2) (a := 341) (T := S.T) (U := V') (Nat.le_refl _) hC0 e4.1.2.1 g1 e4.2.1 e2 (by omega) hi (by omega) (fun hc M3 ff u3 => ?_) (fun hc M3 ff u3 => ?_)) 
            · have x2 : M3 83 = M2 83 := ff.1 83 (by decide) (by decide)
              have x3 : M3 83 18 = nI (s + t) := by rw [x2]; exact e7
              refine ⟨_, rfl, ?_⟩
              refine s_if_lt_t (q := 107) (r := 111) hX dX7_tryRow_104 rfl rfl (by decide) ?_
              refine s_iconst (q := 112) (v := 0) hX dX7_tryRow_111 rfl rfl ?_
              refine s_istore (q := 114) (lv' := [(0, _), (1, _), (2, _), (3, _), (4, _), (5, _), (6, _)]) hX dX7_tryRow_112 rfl (Nat.le_of_ble_eq_true rfl) rfl ?_
              refine s_aload_n (q := 115) hX dX7_tryRow_114 rfl rfl ?_
              refine s_dup (q := 116) hX dX7_tryRow_115 rfl rfl ?_
              refine s_geti (q := 119) hX dX7_tryRow_116 rfl gfl_7_150 (by assumption) rfl ?_
              refine s_topi (v := nI (w + t * S.T.wo k)) (by rw [x2]; exact e6) ?_
              refine s_aload_n (q := 120) hX dX7_tryRow_119 rfl rfl ?_
              refine s_getr (q := 123) hX dX7_tryRow_120 rfl gfl_7_29 (by assumption) rfl ?_
              refine s_iload (q := 125) hX dX7_tryRow_123 rfl rfl ?_
              refine s_iald (k := k) (q := 126) hX dX7_tryRow_125 rfl (by assumption) rfl (by omega) (by omega) ?_
              refine s_topi (v := nI (S.T.wo k)) ((ff.tw e4.1.2.1).2.2.2.2.2.2.1 k (by omega)) ?_
              refine s_iadd (q := 127) (v := nI (w + t * S.T.wo k + (S.T.wo k))) hX dX7_tryRow_126 rfl (nI_add (w + t * S.T.wo k) (S.T.wo k)) ?_
              refine s_puti (q := 130) hX dX7_tryRow_127 rfl gfl_7_150 (by assumption) rfl ?_
              refine s_aload_n (q := 131) hX dX7_tryRow_130 rfl rfl ?_
              refine s_dup (q := 132) hX dX7_tryRow_131 rfl rfl ?_
              refine s_geti (q := 135) hX dX7_tryRow_132 rfl gfl_7_153 (by assumption) rfl ?_
              refine s_topi (v := nI (s + t)) (by rw [gsr_s, pk_un (by decide)]; exact x3) ?_
              refine s_iconst (q := 136) (v := 1) hX dX7_tryRow_135 rfl rfl ?_
              refine s_iadd (q := 137) (v := nI (s + t + 1)) hX dX7_tryRow_136 rfl (nI_add (s + t) (1)) ?_
              refine s_puti (q := 140) hX dX7_tryRow_137 rfl gfl_7_153 (by assumption) rfl ?_
              refine s_iinc (q := 143) (v := nI (t + 1)) (lv' := [(0, _), (1, _), (2, _), (3, _), (4, _), (5, _), (6, _)]) hX dX7_tryRow_140 rfl rfl (nI_add (t) 1) (Nat.le_of_ble_eq_true rfl) rfl ?_
              refine s_goto (q := 77) hX dX7_tryRow_143 rfl ?_
              refine s_iload (q := 79) hX dX7_tryRow_77 rfl rfl ?_
              refine s_aload_n (q := 80) hX dX7_tryRow_79 rfl rfl ?_
              refine s_getr (q := 83) hX dX7_tryRow_80 rfl gfl_7_44 (by assumption) rfl ?_
              refine s_iload (q := 85) hX dX7_tryRow_83 rfl rfl ?_
              refine s_iald (k := k) (q := 86) hX dX7_tryRow_85 rfl (by assumption) rfl (by omega) (by omega) ?_
              refine s_topi (v := nI (dgt S.T.D v k)) (by rw [gsr_n _ _ (by decide), gsr_n _ _ (by decide), ff.1 95 (by decide) (by decide)]; exact e5 k (by omega)) ?_
              refine s_nicmp_ge (a := t + 1) (b := dgt S.T.D v k) (q := 89) (r := 146) hX dX7_tryRow_86 rfl rfl rfl rfl (by omega) (by omega) (fun c86_1 => ?_) (fun c86_1 => ?_)
              · refine s_iinc (q := 149) (v := nI (k + 1)) (lv' := [(0, _), (1, _), (2, _), (3, _), (4, _), (5, _), (6, _)]) hX dX7_tryRow_146 rfl rfl (nI_add (k) 1) (Nat.le_of_ble_eq_true rfl) rfl ?_
                refine s_goto (q := 63) hX dX7_tryRow_149 rfl ?_
                have hno : R = none := by
                  rw [← h1, S.T.rp_none (m := t + 1) (by rw [hrp, hs1, hcg, if_neg (by rw [hc]; decide)]) _ (by omega)]
                exact s_dl hX (F y r (k + 1) _ (by omega) hno (TRM.f8 (TRM.f8 (e4.st o1 g4.1 g5.1 ff u3) o1 g4.1 g5.1 (by omega)) o1 g4.1 g5.1 (by omega)).1 (TRM.f8 (TRM.f8 (e4.st o1 g4.1 g5.1 ff u3) o1 g4.1 g5.1 (by omega)) o1 g4.1 g5.1 (by omega)).2.2 (fun k hk => by rw [gsr_n _ _ (by decide), gsr_n _ _ (by decide), ff.1 95 (by decide) (by decide)]; exact e5 k hk))
              · refine s_iload (q := 91) hX dX7_tryRow_89 rfl rfl ?_
                refine s_if_eq_t (q := 94) (r := 146) hX dX7_tryRow_91 rfl rfl (by decide) ?_
                refine s_iinc (q := 149) (v := nI (k + 1)) (lv' := [(0, _), (1, _), (2, _), (3, _), (4, _), (5, _), (6, _)]) hX dX7_tryRow_146 rfl rfl (nI_add (k) 1) (Nat.le_of_ble_eq_true rfl) rfl ?_
                refine s_goto (q := 63) hX dX7_tryRow_149 rfl ?_
                have hno : R = none := by
                  rw [← h1, S.T.rp_none (m := t + 1) (by rw [hrp, hs1, hcg, if_neg (by rw [hc]; decide)]) _ (by omega)]
                exact s_dl hX (F y r (k + 1) _ (by omega) hno (TRM.f8 (TRM.f8 (e4.st o1 g4.1 g5.1 ff u3) o1 g4.1 g5.1 (by omega)) o1 g4.1 g5.1 (by omega)).1 (TRM.f8 (TRM.f8 (e4.st o1 g4.1 g5.1 ff u3) o1 g4.1 g5.1 (by omega)) o1 g4.1 g5.1 (by omega)).2.2 (fun k hk => by rw [gsr_n _ _ (by decide), gsr_n _ _ (by decide), ff.1 95 (by decide) (by decide)]; exact e5 k hk))
            · have x2 : M3 83 = M2 83 := ff.1 83 (by decide) (by decide)
              have x3 : M3 83 18 = nI (s + t) := by rw [x2]; exact e7
              have hpl := payC_le hc
              have z0 : S.T.pay i k (V'.tr i) 0 ≤ 99 := Nat.le_trans (hpl 0 (by omega)) (e2.1 _ (by omega))
              have z1 : S.T.pay i k (V'.tr i) 1 ≤ 99 := Nat.le_trans (hpl 1 (by omega)) (e2.1 _ (by omega))
              have z2 : S.T.pay i k (V'.tr i) 2 ≤ 99 := Nat.le_trans (hpl 2 (by omega)) (e2.1 _ (by omega))
              refine ⟨_, rfl, ?_⟩
              refine s_if_lt_f (q := 107) (r := 111) hX dX7_tryRow_104 rfl rfl (nI_pos (by omega)) ?_
              refine s_iconst (q := 108) (v := 1) hX dX7_tryRow_107 rfl rfl ?_
              refine s_goto (q := 112) hX dX7_tryRow_108 rfl ?_
              refine s_istore (q := 114) (lv' := [(0, _), (1, _), (2, _), (3, _), (4, _), (5, _), (6, _)]) hX dX7_tryRow_112 rfl (Nat.le_of_ble_eq_true rfl) rfl ?_
              refine s_aload_n (q := 115) hX dX7_tryRow_114 rfl rfl ?_
              refine s_dup (q := 116) hX dX7_tryRow_115 rfl rfl ?_
              refine s_geti (q := 119) hX dX7_tryRow_116 rfl gfl_7_150 (by assumption) rfl ?_
              refine s_topi (v := nI (w + t * S.T.wo k)) (by rw [x2]; exact e6) ?_
              refine s_aload_n (q := 120) hX dX7_tryRow_119 rfl rfl ?_
              refine s_getr (q := 123) hX dX7_tryRow_120 rfl gfl_7_29 (by assumption) rfl ?_
              refine s_iload (q := 125) hX dX7_tryRow_123 rfl rfl ?_
              refine s_iald (k := k) (q := 126) hX dX7_tryRow_125 rfl (by assumption) rfl (by omega) (by omega) ?_
              refine s_topi (v := nI (S.T.wo k)) ((ff.tw e4.1.2.1).2.2.2.2.2.2.1 k (by omega)) ?_
              refine s_iadd (q := 127) (v := nI (w + t * S.T.wo k + (S.T.wo k))) hX dX7_tryRow_126 rfl (nI_add (w + t * S.T.wo k) (S.T.wo k)) ?_
              refine s_puti (q := 130) hX dX7_tryRow_127 rfl gfl_7_150 (by assumption) rfl ?_
              refine s_aload_n (q := 131) hX dX7_tryRow_130 rfl rfl ?_
              refine s_dup (q := 132) hX dX7_tryRow_131 rfl rfl ?_
              refine s_geti (q := 135) hX dX7_tryRow_132 rfl gfl_7_153 (by assumption) rfl ?_
              refine s_topi (v := nI (s + t)) (by rw [gsr_s, pk_un (by decide)]; exact x3) ?_
              refine s_iconst (q := 136) (v := 1) hX dX7_tryRow_135 rfl rfl ?_
              refine s_iadd (q := 137) (v := nI (s + t + 1)) hX dX7_tryRow_136 rfl (nI_add (s + t) (1)) ?_
              refine s_puti (q := 140) hX dX7_tryRow_137 rfl gfl_7_153 (by assumption) rfl ?_
              refine s_iinc (q := 143) (v := nI (t + 1)) (lv' := [(0, _), (1, _), (2, _), (3, _), (4, _), (5, _), (6, _)]) hX dX7_tryRow_140 rfl rfl (nI_add (t) 1) (Nat.le_of_ble_eq_true rfl) rfl ?_
              refine s_goto (q := 77) hX dX7_tryRow_143 rfl ?_
              refine ihp (t + 1) (S.T.act i k V') (fun s => g s - S.T.pay i k g s) _ (by omega) (by rw [hrp, hs1, hcg, if_pos hc]) (S.T.act_ok e2).1 (fun s hs => ?_) (TRM.f8 (TRM.f8 (e4.st o1 g4.1 g5.1 ff u3) o1 g4.1 g5.1 (by omega)) o1 g4.1 g5.1 (by omega)) (fun k hk => by rw [gsr_n _ _ (by decide), gsr_n _ _ (by decide), ff.1 95 (by decide) (by decide)]; exact e5 k hk) ?_ ?_
              · show g s - S.T.pay i k g s = _
                rw [S.T.act_tr hc s hs, e3 s hs, S.T.pay_cg e3 hs]
              · rw [gsr_s, pk_un (by decide), gsr_s, pk_us]
                exact congrArg nI (by rw [Nat.succ_mul]; omega)
              · rw [gsr_s, pk_us]
                rfl
      refine s_iload (q := 65) hX dX7_tryRow_63 rfl rfl ?_
      refine s_aload_n (q := 66) hX dX7_tryRow_65 rfl rfl ?_
      refine s_getr (q := 69) hX dX7_tryRow_66 rfl gfl_7_23 (by assumption) rfl ?_
      refine s_iconst (q := 70) (v := 0) hX dX7_tryRow_69 rfl rfl ?_
      refine s_iald (k := 0) (q := 71) hX dX7_tryRow_70 rfl (by assumption) rfl (by omega) (by omega) ?_
      refine s_topi (v := nI (S.T.D)) h4.1.2.1.2.1 ?_
      refine s_icmp_ge_f (q := 74) (r := 152) hX dX7_tryRow_71 rfl rfl (Int32.not_le.mpr (nI_lt (by omega) (by omega))) ?_
      refine s_iconst (q := 75) (v := 0) hX dX7_tryRow_74 rfl rfl ?_
      refine s_istore (q := 77) (lv' := [(0, _), (1, _), (2, _), (3, _), (4, _), (5, _), (6, _)]) hX dX7_tryRow_75 rfl (Nat.le_of_ble_eq_true rfl) rfl ?_
      exact I _ 0 V h M1 (Nat.zero_add _) rfl h2 h3 h4 h5 (by rw [Nat.zero_mul]; exact h6) h7
  have L1 : ∀ (kk : Nat) (M1 : gM), kk ≤ S.T.D → TRM M M1 S S.U → (∀ k, kk ≤ k → k < S.T.D → M1 95 k = nI (dgt S.T.D v k)) → M1 83 17 = 0 → M1 83 18 = 0 → X 30 [(0, .ref 83), (1, .int (nI i)), (2, .int (nI v)), (3, .int (nI (v / 6 ^ (S.T.D - kk)))), (4, .int (gkv kk))] [] sh M1 0 0 := by
    intro kk
    induction kk with
    | zero =>
      intro M1 h1 h2 h3 h4 h5
      rw [gkv_neg]
      refine s_iload (q := 32) hX dX7_tryRow_30 rfl rfl ?_
      refine s_if_lt_t (q := 35) (r := 57) hX dX7_tryRow_32 rfl rfl (by decide) ?_
      refine s_iconst (q := 58) (v := 1) hX dX7_tryRow_57 rfl rfl ?_
      refine s_istore (q := 60) (lv' := [(0, _), (1, _), (2, _), (3, _), (4, _)]) hX dX7_tryRow_58 rfl (Nat.le_of_ble_eq_true rfl) rfl ?_
      refine s_iconst (q := 61) (v := 0) hX dX7_tryRow_60 rfl rfl ?_
      refine s_istore (q := 63) (lv' := [(0, _), (1, _), (2, _), (3, _), (4, _), (5, _)]) hX dX7_tryRow_61 rfl (Nat.le_of_ble_eq_true rfl) rfl ?_
      exact L _ S.T.D 0 S.U (S.U.tr i) 0 0 M1 (by omega) hR.symm g3.1 (fun _ _ => rfl) h2 (fun k hk => h3 k (by omega) hk) h4 h5
    | succ kk ih =>
      intro M1 h1 h2 h3 h4 h5
      have hvd : v / 6 ^ (S.T.D - (kk + 1)) ≤ v := Nat.div_le_self _ _
      rw [gkv_suc]
      refine s_iload (q := 32) hX dX7_tryRow_30 rfl rfl ?_
      refine s_if_lt_f (q := 35) (r := 57) hX dX7_tryRow_32 rfl rfl (nI_pos (by omega)) ?_
      refine s_aload_n (q := 36) hX dX7_tryRow_35 rfl rfl ?_
      refine s_getr (q := 39) hX dX7_tryRow_36 rfl gfl_7_44 (by assumption) rfl ?_
      refine s_iload (q := 41) hX dX7_tryRow_39 rfl rfl ?_
      refine s_iload_n (q := 42) hX dX7_tryRow_41 rfl rfl ?_
      refine s_bipush (q := 44) (v := 6) hX dX7_tryRow_42 rfl rfl (by decide) ?_
      refine s_irem (q := 45) (v := nI ((v / 6 ^ (S.T.D - (kk + 1))) % 6)) hX dX7_tryRow_44 rfl (pk_rem (a := v / 6 ^ (S.T.D - (kk + 1))) (d := 6) (by omega) (by decide) (by decide)) (by decide) ?_
      refine s_iast (k := kk) (q := 46) hX dX7_tryRow_45 rfl (by assumption) rfl (by omega) (by omega) ?_
      refine s_iload_n (q := 47) hX dX7_tryRow_46 rfl rfl ?_
      refine s_bipush (q := 49) (v := 6) hX dX7_tryRow_47 rfl rfl (by decide) ?_
      refine s_idiv (q := 50) (v := nI ((v / 6 ^ (S.T.D - (kk + 1))) / 6)) hX dX7_tryRow_49 rfl (pk_div (a := v / 6 ^ (S.T.D - (kk + 1))) (d := 6) (by omega) (by decide) (by decide)) (by decide) ?_
      refine s_istore_n (q := 51) (lv' := [(0, _), (1, _), (2, _), (3, _), (4, _)]) hX dX7_tryRow_50 rfl (Nat.le_of_ble_eq_true rfl) rfl ?_
      refine s_iinc (q := 54) (lv' := [(0, _), (1, _), (2, _), (3, _), (4, _)]) hX dX7_tryRow_51 rfl rfl rfl (Nat.le_of_ble_eq_true rfl) rfl ?_
      refine s_goto (q := 30) hX dX7_tryRow_54 rfl ?_
      rw [gkv_m1, Nat.div_div_eq_div_mul, ← Nat.pow_succ, show (S.T.D - (kk + 1)).succ = S.T.D - kk by omega]
      refine ih _ (by omega) (h2.f95 o1 g4.1 g5.1) (fun k q1 q2 => ?_) (by rw [gsr_n _ _ (by decide)]; exact h4) (by rw [gsr_n _ _ (by decide)]; exact h5)
      rw [gsr_s]
      by_cases e : k = kk
      · subst e; rw [pk_us]; unfold dgt; rw [show S.T.D - 1 - k = S.T.D - (k + 1) by omega]
      · rw [pk_un e]; exact h3 k (by omega) q2
  refine s_aload_n (q := 1) hX dX7_tryRow_0 rfl rfl ?_
  refine s_iconst (q := 2) (v := 0) hX dX7_tryRow_1 rfl rfl ?_
  refine s_sipush (q := 5) (v := 341) hX dX7_tryRow_2 rfl rfl (by decide) ?_
  refine s_invv2_0 (q := 8) hX dX7_tryRow_5 rfl glk_7_131 (by assumption) (Nat.le_of_ble_eq_true rfl) ⟨Nat.le_refl _, Nat.le_refl _⟩ (by omega) (m_copy (d := 0) (f := 0) (t := 341) hC0 (by omega) (by omega) (by omega) (fun M1 f1 f2 f3 => ?_)) 
  refine ⟨rfl, ?_⟩
  refine s_aload_n (q := 9) hX dX7_tryRow_8 rfl rfl ?_
  refine s_iconst (q := 10) (v := 0) hX dX7_tryRow_9 rfl rfl ?_
  refine s_puti (q := 13) hX dX7_tryRow_10 rfl gfl_7_150 (by assumption) rfl ?_
  refine s_aload_n (q := 14) hX dX7_tryRow_13 rfl rfl ?_
  refine s_iconst (q := 15) (v := 0) hX dX7_tryRow_14 rfl rfl ?_
  refine s_puti (q := 18) hX dX7_tryRow_15 rfl gfl_7_153 (by assumption) rfl ?_
  refine s_iload_n (q := 19) hX dX7_tryRow_18 rfl rfl ?_
  refine s_istore_n (q := 20) (lv' := [(0, _), (1, _), (2, _), (3, _)]) hX dX7_tryRow_19 rfl (Nat.le_of_ble_eq_true rfl) rfl ?_
  refine s_aload_n (q := 21) hX dX7_tryRow_20 rfl rfl ?_
  refine s_getr (q := 24) hX dX7_tryRow_21 rfl gfl_7_23 (by assumption) rfl ?_
  refine s_iconst (q := 25) (v := 0) hX dX7_tryRow_24 rfl rfl ?_
  refine s_iald (k := 0) (q := 26) hX dX7_tryRow_25 rfl (by assumption) rfl (by omega) (by omega) ?_
  refine s_topi (v := nI (S.T.D)) (by rw [gsr_n _ _ (by decide), gsr_n _ _ (by decide), f1 88 (by decide)]; exact a2.2.1) ?_
  refine s_iconst (q := 27) (v := 1) hX dX7_tryRow_26 rfl rfl ?_
  refine s_isub (q := 28) (v := gkv S.T.D) hX dX7_tryRow_27 rfl (gkv_m _) ?_
  refine s_istore (q := 30) (lv' := [(0, _), (1, _), (2, _), (3, _), (4, _)]) hX dX7_tryRow_28 rfl (Nat.le_of_ble_eq_true rfl) rfl ?_
  have hx := L1 S.T.D _ (Nat.le_refl _) (TRM.f8 (TRM.f8 (TRM.init hS0 o1 g4.1 g5.1 f1 f2 f3) (k := 17) (x := 0) o1 g4.1 g5.1 (by omega)) (k := 18) (x := 0) o1 g4.1 g5.1 (by omega)) (fun k q1 q2 => absurd q1 (by omega)) (by rw [gsr_s, pk_un (by decide), gsr_s, pk_us]) (by rw [gsr_s, pk_us])
  rw [Nat.sub_self, Nat.pow_zero, Nat.div_one] at hx
  exact hx
