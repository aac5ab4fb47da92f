theorem kv_or {kk D : Nat} (h : kk ≤ D) : (kk = 0 ∧ gkv kk = -1) ∨ (∃ k, kk = k + 1 ∧ gkv kk = nI k ∧ k < D) := by
  unfold gkv
  by_cases z : kk = 0
  · exact Or.inl ⟨z, if_pos z⟩
  · exact Or.inr ⟨kk - 1, by omega, if_neg z, by omega⟩
set_option maxHeartbeats 4000000 in
set_option maxRecDepth 100000 in
theorem c_wsearch {e t i last : Nat} {N : gN} {T : gT} {sh : List gS} (hE : isWit sh e) (hok : N.ok) (hT : isTown sh t) (hTk : T.ok) (hap : t + 6 < e ∨ e + 6 < t) (hi : i < T.P) (hlast : last ≤ 4) : ∀ (r dy wd w0 : Nat) (h : Nat → Nat) (M : gM) (Q : Option Value → List gS → gM → Prop), dy + r = last → wd < 7 → WIT M e N → TWN M t T → (∀ s, s < 3 → M (e + 4) (dy * 3 + s) = nI (h s)) → (∀ s, s < 3 → h s ≤ 99) → M e 7 = nI w0 → w0 + T.wy N i r wd dy h ≤ 10000 → (∀ M', (M' e 7 = nI (w0 + T.wy N i r wd dy h)) → FSR M M' e w0 dy last (T.fp N i r wd dy h) → (∀ x, x < dy → M' (e + 5) x = M (e + 5) x) → (∀ j, j < (dy + 1) * 3 → M' (e + 4) j = M (e + 4) j) → (∀ k, k ≠ 7 → M' e k = M e k) → (∀ c, c ≠ e → c ≠ e + 4 → c ≠ e + 5 → c ≠ e + 6 → c ≠ t + 6 → M' c = M c) → Q none sh M') → gC mX5_search (4 + r) 0 0 [.ref e, .ref t, .int (nI i), .int (nI wd), .int (nI dy), .int (nI last)] sh M Q := by
  have hE0 := hE
  have hT0 := hT
  have hTk0 := hTk
  obtain ⟨v0, v1, v2, v3, v4, v5, v6⟩ := hE
  obtain ⟨z0, z1, z2, z3, z4, z5, z6⟩ := hT
  obtain ⟨o1, o2, o3, o4, o5, o6, o7, o8⟩ := hTk
  intro r
  induction r with
  | zero =>
    intro dy wd w0 h M Q hdr hwd hN hW hh hb hw hwl hcon
    have hdl : dy = last := by omega
    subst hdl
    have hw2 : w0 ≤ 9999 := by have : w0 + 1 ≤ 10000 := hwl; omega
    refine gC_of (rt := 0) (ini := false) gm_X5_search rfl (by decide) (Nat.le_of_ble_eq_true rfl) (fun X hX => ?_)
    refine s_iload (q := 2) hX dX5_search_0 rfl rfl ?_
    refine s_iload (q := 4) hX dX5_search_2 rfl rfl ?_
    refine s_icmp_lt_f (q := 7) (r := 39) hX dX5_search_4 rfl rfl (Int32.not_lt.mpr (Int32.le_refl _)) ?_
    refine s_aload_n (q := 8) hX dX5_search_7 rfl rfl ?_
    refine s_geti (q := 11) hX dX5_search_8 rfl gfl_5_40 (by assumption) rfl ?_
    refine s_topi (v := nI (w0)) hw ?_
    refine s_nif_ne (a := w0) (b := 0) (q := 14) (r := 28) hX dX5_search_11 rfl rfl rfl rfl (by omega) (by omega) (fun c11 => ?_) (fun c11 => ?_)
    · refine s_aload_n (q := 29) hX dX5_search_28 rfl rfl ?_
      refine s_dup (q := 30) hX dX5_search_29 rfl rfl ?_
      refine s_geti (q := 33) hX dX5_search_30 rfl gfl_5_40 (by assumption) rfl ?_
      refine s_topi (v := nI (w0)) (by first | exact hw | (rw [gsr_n _ _ (by omega)]; exact hw)) ?_
      refine s_iconst (q := 34) (v := 1) hX dX5_search_33 rfl rfl ?_
      refine s_iadd (q := 35) (v := nI (w0 + 1)) hX dX5_search_34 rfl (nI_add (w0) (1)) ?_
      refine s_puti (q := 38) hX dX5_search_35 rfl gfl_5_40 (by assumption) rfl ?_
      refine s_ret hX dX5_search_38 rfl ⟨Nat.le_refl _, Nat.le_refl _, Nat.le_refl _, ?_⟩
      first
        | (refine hcon _ ?_ ⟨fun z p hp x hx => ?_, fun z => ?_⟩ (fun x hx => ?_) (fun j hj => ?_) (fun k hk => ?_) (fun c h1 h2 h3 h4 h5 => ?_)
           · rw [gsr_s, pk_us]; rfl
           · exact absurd z c11
           · rw [gsr_n _ _ (by omega)]
           · rw [gsr_n _ _ (by omega)]
           · rw [gsr_n _ _ (by omega)]
           · rw [gsr_s, pk_un hk]
           · rw [gsr_n _ _ h1])
        | (refine hcon _ ?_ ⟨fun z p hp x hx => ?_, fun z => ?_⟩ (fun x hx => ?_) (fun j hj => ?_) (fun k hk => ?_) (fun c h1 h2 h3 h4 h5 => ?_)
           · rw [gsr_s, pk_us]; rfl
           · rw [gsr_n _ _ (by omega), gsr_s, pk_cpy_in (by omega) (by omega), if_pos hx, show 0 + (x - 0) = x by omega]
           · rcases z with z | z
             · exact absurd (by omega) z
             · cases z
           · rw [gsr_n _ _ (by omega), gsr_n _ _ (by omega)]
           · rw [gsr_n _ _ (by omega), gsr_n _ _ (by omega)]
           · rw [gsr_s, pk_un hk, gsr_n _ _ (by omega)]
           · rw [gsr_n _ _ h1, gsr_n _ _ h4])
    · refine s_aload_n (q := 15) hX dX5_search_14 rfl rfl ?_
      refine s_getr (q := 18) hX dX5_search_15 rfl gfl_5_24 (by assumption) rfl ?_
      refine s_iconst (q := 19) (v := 0) hX dX5_search_18 rfl rfl ?_
      refine s_aload_n (q := 20) hX dX5_search_19 rfl rfl ?_
      refine s_getr (q := 23) hX dX5_search_20 rfl gfl_5_27 (by assumption) rfl ?_
      refine s_iconst (q := 24) (v := 0) hX dX5_search_23 rfl rfl ?_
      refine s_iconst (q := 25) (v := 4) hX dX5_search_24 rfl rfl ?_
      refine s_cpy (k0 := 0) (k1 := 0) (n := 4) (q := 28) hX dX5_search_25 rfl glk_5_48 (by omega) (Nat.le_of_ble_eq_true rfl) (by assumption) (by assumption) rfl rfl rfl (by omega) (by omega) (by omega) (by omega) ?_
      refine s_aload_n (q := 29) hX dX5_search_28 rfl rfl ?_
      refine s_dup (q := 30) hX dX5_search_29 rfl rfl ?_
      refine s_geti (q := 33) hX dX5_search_30 rfl gfl_5_40 (by assumption) rfl ?_
      refine s_topi (v := nI (w0)) (by first | exact hw | (rw [gsr_n _ _ (by omega)]; exact hw)) ?_
      refine s_iconst (q := 34) (v := 1) hX dX5_search_33 rfl rfl ?_
      refine s_iadd (q := 35) (v := nI (w0 + 1)) hX dX5_search_34 rfl (nI_add (w0) (1)) ?_
      refine s_puti (q := 38) hX dX5_search_35 rfl gfl_5_40 (by assumption) rfl ?_
      refine s_ret hX dX5_search_38 rfl ⟨Nat.le_refl _, Nat.le_refl _, Nat.le_refl _, ?_⟩
      first
        | (refine hcon _ ?_ ⟨fun z p hp x hx => ?_, fun z => ?_⟩ (fun x hx => ?_) (fun j hj => ?_) (fun k hk => ?_) (fun c h1 h2 h3 h4 h5 => ?_)
           · rw [gsr_s, pk_us]; rfl
           · exact absurd z c11
           · rw [gsr_n _ _ (by omega)]
           · rw [gsr_n _ _ (by omega)]
           · rw [gsr_n _ _ (by omega)]
           · rw [gsr_s, pk_un hk]
           · rw [gsr_n _ _ h1])
        | (refine hcon _ ?_ ⟨fun z p hp x hx => ?_, fun z => ?_⟩ (fun x hx => ?_) (fun j hj => ?_) (fun k hk => ?_) (fun c h1 h2 h3 h4 h5 => ?_)
           · rw [gsr_s, pk_us]; rfl
           · rw [gsr_n _ _ (by omega), gsr_s, pk_cpy_in (by omega) (by omega), if_pos hx, show 0 + (x - 0) = x by omega]
           · rcases z with z | z
             · exact absurd (by omega) z
             · cases z
           · rw [gsr_n _ _ (by omega), gsr_n _ _ (by omega)]
           · rw [gsr_n _ _ (by omega), gsr_n _ _ (by omega)]
           · rw [gsr_s, pk_un hk, gsr_n _ _ (by omega)]
           · rw [gsr_n _ _ h1, gsr_n _ _ h4])
  | succ r ih =>
    intro dy wd w0 h M Q hdr hwd hN hW hh hb hw hwl hcon
    have hw2 : w0 ≤ 10000 := by omega
    generalize hf : (fun kk => match T.sd N i wd (dy + 1) h kk with
      | none => 0
      | some h' => T.wy N i r ((wd + 1) % 7) (dy + 1) h') = f
    generalize hg : (fun kk => match T.sd N i wd (dy + 1) h kk with
      | none => (none : Option (Nat → Nat))
      | some h' => (T.fp N i r ((wd + 1) % 7) (dy + 1) h').map (fun (p : Nat → Nat) => fun x => if x = dy then kk else p x)) = g
    have hwe : T.wy N i (r + 1) wd dy h = sumN f (T.D + 1) := by rw [← hf]; rfl
    have hfe : T.fp N i (r + 1) wd dy h = fstN g (T.D + 1) := by rw [← hg]; rfl
    rw [hwe] at hwl hcon
    rw [hfe] at hcon
    have hfg : ∀ n, sumN f n = 0 ↔ fstN g n = none := fun n => sumN_fst n (fun kk _ => by
      rw [← hf, ← hg]
      dsimp only
      cases hs : T.sd N i wd (dy + 1) h kk with
      | none => exact ⟨fun _ => rfl, fun _ => rfl⟩
      | some h' =>
        have ih2 := T.wy_fp N i r ((wd + 1) % 7) (dy + 1) h'
        dsimp only
        rw [ih2]
        cases T.fp N i r ((wd + 1) % 7) (dy + 1) h' with
        | none => exact ⟨fun _ => rfl, fun _ => rfl⟩
        | some p => exact ⟨fun z => (by cases z), fun z => (by cases z)⟩)
    refine gC_of (rt := 0) (ini := false) gm_X5_search rfl (by decide) (Nat.le_of_ble_eq_true rfl) (fun X hX => ?_)
    have L : ∀ (m kk : Nat) (M' : gM), kk ≤ T.D + 1 → T.D + 1 < kk + m → (M' e 7 = nI (w0 + sumN f kk)) → FSR M M' e w0 dy last (fstN g kk) → (∀ x, x < dy → M' (e + 5) x = M (e + 5) x) → (∀ j, j < (dy + 1) * 3 → M' (e + 4) j = M (e + 4) j) → (∀ k, k ≠ 7 → M' e k = M e k) → (∀ c, c ≠ e → c ≠ e + 4 → c ≠ e + 5 → c ≠ e + 6 → c ≠ t + 6 → M' c = M c) → X 42 [(0, .ref e), (1, .ref t), (2, .int (nI i)), (3, .int (nI wd)), (4, .int (nI dy)), (5, .int (nI last)), (6, .int (gkv kk))] [] sh M' 0 0 := by
      intro m
      induction m with
      | zero => intro kk M' h1 h2; omega
      | succ m ihm =>
        intro kk M' hkk hm p1 p2 p3 p4 p5 p6
        have hW' : TWN M' t T := hW.keep (fun c a b => p6 c (by omega) (by omega) (by omega) (by omega) (by omega))
        have hN' : WIT M' e N := hN.keep (p5 6 (by decide)) (p6 _ (by omega) (by omega) (by omega) (by omega) (by omega)) (p6 _ (by omega) (by omega) (by omega) (by omega) (by omega)) (p6 _ (by omega) (by omega) (by omega) (by omega) (by omega))
        have hge : nI T.D ≤ gkv kk ↔ T.D < kk := (gkv_ge o2).resolve_right (by omega)
        by_cases hex : T.D < kk
        · refine s_iload (q := 44) hX dX5_search_42 rfl rfl ?_
          refine s_aload_n (q := 45) hX dX5_search_44 rfl rfl ?_
          refine s_geti (q := 48) hX dX5_search_45 rfl gfl_5_66 (by assumption) rfl ?_
          refine s_topi (v := nI (T.D)) hW'.2.1 ?_
          refine s_icmp_ge_t (q := 51) (r := 108) hX dX5_search_48 rfl rfl (hge.mpr hex) ?_
          refine s_ret hX dX5_search_108 rfl ⟨Nat.le_refl _, Nat.le_refl _, Nat.le_refl _, ?_⟩
          have z : kk = T.D + 1 := by omega
          subst z
          exact hcon M' p1 p2 p3 p4 p5 p6
        · have hss : sumN f (kk + 1) = sumN f kk + f kk := rfl
          have hfs : fstN g (kk + 1) = match fstN g kk with
            | some a => some a
            | none => g kk := by cases hq9 : fstN g kk <;> simp [fstN, hq9]
          have hmono := sumN_mono f (show kk + 1 ≤ T.D + 1 by omega)
          have S : ∀ (cv : Int32), cv = chv kk → X 70 [(0, .ref e), (1, .ref t), (2, .int (nI i)), (3, .int (nI wd)), (4, .int (nI dy)), (5, .int (nI last)), (6, .int (gkv kk))] [] sh (gsr M' (e + 5) (upd (M' (e + 5)) dy cv)) 0 0 := by
            intro cv hcv
            have q3 : ∀ x, x < dy + 1 → upd (M' (e + 5)) dy cv x = if x < dy then M (e + 5) x else chv kk := by
              intro x hx
              by_cases z : x = dy
              · subst z; rw [pk_us, if_neg (by omega), hcv]
              · rw [pk_un z, if_pos (by omega)]; exact p3 x (by omega)
            generalize hM1 : gsr M' (e + 5) (upd (M' (e + 5)) dy cv) = M1
            have r5 : ∀ x, x < dy + 1 → M1 (e + 5) x = if x < dy then M (e + 5) x else chv kk := fun x hx => by rw [← hM1, gsr_s]; exact q3 x hx
            have r9 : ∀ c, c ≠ e + 5 → M1 c = M' c := fun c hc => by rw [← hM1, gsr_n _ _ hc]
            have hW1 : TWN M1 t T := hW'.keep (fun c a b => r9 c (by omega))
            have hN1 : WIT M1 e N := hN'.keep (by rw [r9 e (by omega)]) (r9 _ (by omega)) (r9 _ (by omega)) (r9 _ (by omega))
            have hh1 : ∀ s, s < 3 → M1 (e + 4) (dy * 3 + s) = nI (h s) := fun s hs => by rw [r9 _ (by omega), p4 _ (by omega)]; exact hh s hs
            refine s_aload_n (q := 71) hX dX5_search_70 rfl rfl ?_
            refine s_aload_n (q := 72) hX dX5_search_71 rfl rfl ?_
            refine s_iload_n (q := 73) hX dX5_search_72 rfl rfl ?_
            refine s_iload (q := 75) hX dX5_search_73 rfl rfl ?_
            refine s_iload_n (q := 76) hX dX5_search_75 rfl rfl ?_
            refine s_iload (q := 78) hX dX5_search_76 rfl rfl ?_
            refine s_invv5_1 (q := 81) hX dX5_search_78 rfl glk_5_71 (by assumption) (Nat.le_of_ble_eq_true rfl) ⟨Nat.le_refl _, Nat.le_refl _⟩ (by omega) (c_spendDay (d := 3) (kk := kk) (Nat.le_refl _) hE0 hN1 hok hT0 hW1 hTk0 hap hi hwd (by omega) (kv_or (D := T.D) (by omega)) hh1 hb (fun hsd M2 f1 f2 => ?_) (fun h' hsd M2 fr f1 f2 => ?_)) 
            · have hf0 : f kk = 0 := by rw [← hf]; dsimp only; rw [hsd]
              have hg0 : g kk = none := by rw [← hg]; dsimp only; rw [hsd]
              refine ⟨_, rfl, ?_⟩
              refine s_if_eq_t (q := 84) (r := 102) hX dX5_search_81 rfl rfl (by decide) ?_
              refine s_iinc (q := 105) (v := gkv (kk + 1)) (lv' := [(0, _), (1, _), (2, _), (3, _), (4, _), (5, _), (6, _)]) hX dX5_search_102 rfl rfl (gkv_1 kk) (Nat.le_of_ble_eq_true rfl) rfl ?_
              refine s_goto (q := 42) hX dX5_search_105 rfl ?_
              refine ihm (kk + 1) M2 (by omega) (by omega) ?_ ⟨fun z p hp x hx => ?_, fun z => ?_⟩ (fun x hx => ?_) (fun j hj => ?_) (fun k hk => ?_) (fun c h1 h2 h3 h4 h5 => ?_)
              · rw [hss, hf0, Nat.add_zero, f1 e (by omega) (by omega), r9 e (by omega)]; exact p1
              · rw [f1 (e + 6) (by omega) (by omega), r9 (e + 6) (by omega)]
                refine p2.1 z p ?_ x hx
                rw [hfs, hg0] at hp
                cases hq : fstN g kk with
                | some a => rw [hq] at hp; exact hp
                | none => rw [hq] at hp; cases hp
              · rw [f1 (e + 6) (by omega) (by omega), r9 (e + 6) (by omega)]
                refine p2.2 ?_
                rcases z with z | z
                · exact Or.inl z
                · refine Or.inr ?_
                  rw [hfs] at z
                  cases hq : fstN g kk with
                  | some a => rw [hq] at z; cases z
                  | none => rfl
              · rw [f1 (e + 5) (by omega) (by omega), r5 x (by omega), if_pos hx]
              · rw [f2 j hj, r9 (e + 4) (by omega)]; exact p4 j hj
              · rw [f1 e (by omega) (by omega), r9 e (by omega)]; exact p5 k hk
              · rw [f1 c h2 h5, r9 c h3]; exact p6 c h1 h2 h3 h4 h5
            · have hf0 : f kk = T.wy N i r ((wd + 1) % 7) (dy + 1) h' := by rw [← hf]; dsimp only; rw [hsd]
              have hg0 : g kk = (T.fp N i r ((wd + 1) % 7) (dy + 1) h').map (fun (p : Nat → Nat) => fun x => if x = dy then kk else p x) := by rw [← hg]; dsimp only; rw [hsd]
              refine ⟨_, rfl, ?_⟩
              refine s_if_eq_f (q := 84) (r := 102) hX dX5_search_81 rfl rfl (by decide) ?_
              refine s_aload_n (q := 85) hX dX5_search_84 rfl rfl ?_
              refine s_aload_n (q := 86) hX dX5_search_85 rfl rfl ?_
              refine s_iload_n (q := 87) hX dX5_search_86 rfl rfl ?_
              refine s_iload_n (q := 88) hX dX5_search_87 rfl rfl ?_
              refine s_iconst (q := 89) (v := 1) hX dX5_search_88 rfl rfl ?_
              refine s_iadd (q := 90) (v := nI (wd + 1)) hX dX5_search_89 rfl (nI_add (wd) (1)) ?_
              refine s_bipush (q := 92) (v := 7) hX dX5_search_90 rfl rfl (by decide) ?_
              refine s_irem (q := 93) (v := nI ((wd + 1) % 7)) hX dX5_search_92 rfl (pk_rem (a := wd + 1) (d := 7) (by omega) (by decide) (by decide)) (by decide) ?_
              refine s_iload (q := 95) hX dX5_search_93 rfl rfl ?_
              refine s_iconst (q := 96) (v := 1) hX dX5_search_95 rfl rfl ?_
              refine s_iadd (q := 97) (v := nI (dy + 1)) hX dX5_search_96 rfl (nI_add (dy) (1)) ?_
              refine s_iload (q := 99) hX dX5_search_97 rfl rfl ?_
              refine s_invv5_0 (q := 102) hX dX5_search_99 rfl glk_5_62 (by assumption) (Nat.le_of_ble_eq_true rfl) ⟨Nat.le_refl _, Nat.le_refl _⟩ (by omega) (ih (dy + 1) ((wd + 1) % 7) (w0 + sumN f kk) h' M2 _ (by omega) (by omega) (hN1.keep (by rw [f1 e (by omega) (by omega)]) (f1 _ (by omega) (by omega)) (f1 _ (by omega) (by omega)) (f1 _ (by omega) (by omega))) (hW1.keep (fun c a b => f1 c (by omega) (by omega))) fr (gT.sd_le hb hsd) (by rw [f1 e (by omega) (by omega), r9 e (by omega)]; exact p1) (by rw [← hf0]; omega) (fun M3 s1 s2 s3 s4 s5 s6 => ?_)) 
              refine ⟨rfl, ?_⟩
              refine s_iinc (q := 105) (v := gkv (kk + 1)) (lv' := [(0, _), (1, _), (2, _), (3, _), (4, _), (5, _), (6, _)]) hX dX5_search_102 rfl rfl (gkv_1 kk) (Nat.le_of_ble_eq_true rfl) rfl ?_
              refine s_goto (q := 42) hX dX5_search_105 rfl ?_
              refine ihm (kk + 1) M3 (by omega) (by omega) ?_ ⟨fun z p hp x hx => ?_, fun z => ?_⟩ (fun x hx => ?_) (fun j hj => ?_) (fun k hk => ?_) (fun c h1 h2 h3 h4 h5 => ?_)
              · rw [hss, hf0, ← Nat.add_assoc]; exact s1
              · by_cases hz : sumN f kk = 0
                · have hq := (hfg kk).mp hz
                  rw [hfs, hq, hg0] at hp
                  dsimp only at hp
                  cases hp2 : T.fp N i r ((wd + 1) % 7) (dy + 1) h' with
                  | none => rw [hp2] at hp; cases hp
                  | some p0 =>
                    rw [hp2] at hp
                    have hp3 : (fun x => if x = dy then kk else p0 x) = p := Option.some.inj hp
                    rw [s2.1 (by omega) p0 hp2 x hx, ← hp3]
                    by_cases hy : x < dy + 1
                    · rw [if_pos hy, f1 (e + 5) (by omega) (by omega), r5 x hy]
                      by_cases hy2 : x < dy
                      · rw [if_pos hy2, if_pos hy2]
                      · rw [if_neg hy2, if_neg hy2]
                        show chv kk = chv (if x = dy then kk else p0 x)
                        rw [if_pos (by omega)]
                    · rw [if_neg hy, if_neg (by omega)]
                      show chv (p0 x) = chv (if x = dy then kk else p0 x)
                      rw [if_neg (by omega)]
                · rw [s2.2 (Or.inl (by omega)), f1 (e + 6) (by omega) (by omega), r9 (e + 6) (by omega)]
                  refine p2.1 z p ?_ x hx
                  cases hq : fstN g kk with
                  | none => exact absurd ((hfg kk).mpr hq) hz
                  | some a => rw [hfs, hq] at hp; exact hp
              · have hzz : (¬ w0 + sumN f kk = 0 ∨ T.fp N i r ((wd + 1) % 7) (dy + 1) h' = none) ∧ (¬ w0 = 0 ∨ fstN g kk = none) := by
                  rcases z with z | z
                  · exact ⟨Or.inl (by omega), Or.inl z⟩
                  · rw [hfs] at z
                    cases hq : fstN g kk with
                    | some a => rw [hq] at z; cases z
                    | none =>
                      rw [hq, hg0] at z
                      dsimp only at z
                      refine ⟨Or.inr ?_, Or.inr rfl⟩
                      cases hp2 : T.fp N i r ((wd + 1) % 7) (dy + 1) h' with
                      | none => rfl
                      | some p0 => rw [hp2] at z; cases z
                rw [s2.2 hzz.1, f1 (e + 6) (by omega) (by omega), r9 (e + 6) (by omega)]
                exact p2.2 hzz.2
              · rw [s3 x (by omega), f1 (e + 5) (by omega) (by omega), r5 x (by omega), if_pos hx]
              · rw [s4 j (by omega), f2 j hj, r9 (e + 4) (by omega)]; exact p4 j hj
              · rw [s5 k hk, f1 e (by omega) (by omega), r9 e (by omega)]; exact p5 k hk
              · rw [s6 c h1 h2 h3 h4 h5, f1 c h2 h5, r9 c h3]; exact p6 c h1 h2 h3 h4 h5
          by_cases hk0 : kk = 0
          · refine s_iload (q := 44) hX dX5_search_42 rfl rfl ?_
            refine s_aload_n (q := 45) hX dX5_search_44 rfl rfl ?_
            refine s_geti (q := 48) hX dX5_search_45 rfl gfl_5_66 (by assumption) rfl ?_
            refine s_topi (v := nI (T.D)) hW'.2.1 ?_
            refine s_icmp_ge_f (q := 51) (r := 108) hX dX5_search_48 rfl rfl (fun z => hex (hge.mp z)) ?_
            refine s_aload_n (q := 52) hX dX5_search_51 rfl rfl ?_
            refine s_getr (q := 55) hX dX5_search_52 rfl gfl_5_24 (by assumption) rfl ?_
            refine s_iload (q := 57) hX dX5_search_55 rfl rfl ?_
            refine s_iload (q := 59) hX dX5_search_57 rfl rfl ?_
            refine s_if_ge_f (q := 62) (r := 67) hX dX5_search_59 rfl rfl (by rw [show gkv kk = -1 from if_pos hk0]; decide) ?_
            refine s_bipush (q := 64) (v := (-4)) hX dX5_search_62 rfl rfl (by decide) ?_
            refine s_goto (q := 69) hX dX5_search_64 rfl ?_
            refine s_iast (k := dy) (q := 70) hX dX5_search_69 rfl (by assumption) rfl (by omega) (by omega) ?_
            exact S _ (by unfold chv; rw [if_pos hk0])
          · refine s_iload (q := 44) hX dX5_search_42 rfl rfl ?_
            refine s_aload_n (q := 45) hX dX5_search_44 rfl rfl ?_
            refine s_geti (q := 48) hX dX5_search_45 rfl gfl_5_66 (by assumption) rfl ?_
            refine s_topi (v := nI (T.D)) hW'.2.1 ?_
            refine s_icmp_ge_f (q := 51) (r := 108) hX dX5_search_48 rfl rfl (fun z => hex (hge.mp z)) ?_
            refine s_aload_n (q := 52) hX dX5_search_51 rfl rfl ?_
            refine s_getr (q := 55) hX dX5_search_52 rfl gfl_5_24 (by assumption) rfl ?_
            refine s_iload (q := 57) hX dX5_search_55 rfl rfl ?_
            refine s_iload (q := 59) hX dX5_search_57 rfl rfl ?_
            refine s_if_ge_t (q := 62) (r := 67) hX dX5_search_59 rfl rfl (by rw [show gkv kk = nI (kk - 1) from if_neg hk0]; exact nI_pos' (by omega)) ?_
            refine s_iload (q := 69) hX dX5_search_67 rfl rfl ?_
            refine s_iast (k := dy) (q := 70) hX dX5_search_69 rfl (by assumption) rfl (by omega) (by omega) ?_
            exact S _ (by unfold chv gkv; rw [if_neg hk0, if_neg hk0])
    refine s_iload (q := 2) hX dX5_search_0 rfl rfl ?_
    refine s_iload (q := 4) hX dX5_search_2 rfl rfl ?_
    refine s_icmp_lt_t (q := 7) (r := 39) hX dX5_search_4 rfl rfl (nI_lt (by omega) (by omega)) ?_
    refine s_iconst (q := 40) (v := (-1)) hX dX5_search_39 rfl rfl ?_
    refine s_istore (q := 42) (lv' := [(0, _), (1, _), (2, _), (3, _), (4, _), (5, _), (6, _)]) hX dX5_search_40 rfl (Nat.le_of_ble_eq_true rfl) rfl ?_
    refine L (T.D + 2) 0 M (by omega) (by omega) hw ⟨fun z p hp => (by cases hp), fun _ => rfl⟩ (fun _ _ => rfl) (fun _ _ => rfl) (fun _ _ => rfl) (fun _ _ _ _ _ _ => rfl)
