/-! small JDK methods, renew -/
set_option maxHeartbeats 4000000 in
set_option maxRecDepth 100000 in
theorem c_min {d : Nat} {x y : Int32} {sh : List gS} {M : gM} {Q : Option Value → List gS → gM → Prop} (h : Q (some (.int (if x ≤ y then x else y))) sh M) : gC mJ9_min_7cf53 d 0 0 [.int x, .int y] sh M Q := by
  refine gC_of (rt := 1) (ini := false) gm_J9_min_7cf53 rfl (by decide) (Nat.le_of_ble_eq_true rfl) (fun X hX => ?_)
  refine s_iload_n (q := 1) hX dJ9_min_7cf53_0 rfl rfl ?_
  refine s_iload_n (q := 2) hX dJ9_min_7cf53_1 rfl rfl ?_
  refine s_icmp_gt (q := 5) (r := 9) hX dJ9_min_7cf53_2 rfl rfl (fun c2 => ?_) (fun c2 => ?_)
  · refine s_iload_n (q := 10) hX dJ9_min_7cf53_9 rfl rfl ?_
    refine s_iret hX dJ9_min_7cf53_10 (Or.inl rfl) ⟨Nat.le_refl _, Nat.le_refl _, Nat.le_refl _, ?_⟩
    refine gqv h ?_ rfl
    first | rw [if_neg (Int32.not_le.mpr c2)] | rw [if_pos (Int32.not_lt.mp c2)]
  · refine s_iload_n (q := 6) hX dJ9_min_7cf53_5 rfl rfl ?_
    refine s_goto (q := 10) hX dJ9_min_7cf53_6 rfl ?_
    refine s_iret hX dJ9_min_7cf53_10 (Or.inl rfl) ⟨Nat.le_refl _, Nat.le_refl _, Nat.le_refl _, ?_⟩
    refine gqv h ?_ rfl
    first | rw [if_neg (Int32.not_le.mpr c2)] | rw [if_pos (Int32.not_lt.mp c2)]
set_option maxHeartbeats 4000000 in
set_option maxRecDepth 100000 in
theorem c_max {d : Nat} {x y : Int32} {sh : List gS} {M : gM} {Q : Option Value → List gS → gM → Prop} (h : Q (some (.int (if y ≤ x then x else y))) sh M) : gC mJ9_max_7cf53 d 0 0 [.int x, .int y] sh M Q := by
  refine gC_of (rt := 1) (ini := false) gm_J9_max_7cf53 rfl (by decide) (Nat.le_of_ble_eq_true rfl) (fun X hX => ?_)
  refine s_iload_n (q := 1) hX dJ9_max_7cf53_0 rfl rfl ?_
  refine s_iload_n (q := 2) hX dJ9_max_7cf53_1 rfl rfl ?_
  refine s_icmp_lt (q := 5) (r := 9) hX dJ9_max_7cf53_2 rfl rfl (fun c2 => ?_) (fun c2 => ?_)
  · refine s_iload_n (q := 10) hX dJ9_max_7cf53_9 rfl rfl ?_
    refine s_iret hX dJ9_max_7cf53_10 (Or.inl rfl) ⟨Nat.le_refl _, Nat.le_refl _, Nat.le_refl _, ?_⟩
    refine gqv h ?_ rfl
    first | rw [if_neg (Int32.not_le.mpr c2)] | rw [if_pos (Int32.not_lt.mp c2)]
  · refine s_iload_n (q := 6) hX dJ9_max_7cf53_5 rfl rfl ?_
    refine s_goto (q := 10) hX dJ9_max_7cf53_6 rfl ?_
    refine s_iret hX dJ9_max_7cf53_10 (Or.inl rfl) ⟨Nat.le_refl _, Nat.le_refl _, Nat.le_refl _, ?_⟩
    refine gqv h ?_ rfl
    first | rw [if_neg (Int32.not_le.mpr c2)] | rw [if_pos (Int32.not_lt.mp c2)]
set_option maxHeartbeats 4000000 in
set_option maxRecDepth 100000 in
theorem c_renew {d t i f a n : Nat} {T : gT} {h : Nat → Nat} {sh : List gS} {M : gM} {Q : Option Value → List gS → gM → Prop} (hd : 1 ≤ d) (hT : isTown sh t) (hW : TWN M t T) (hok : T.ok) (hi : i < T.P) (hf : sh[f]? = some (.inr (.inl (0, n)))) (hn : n ≤ 1000) (ha : a + 3 ≤ n) (hft : f < t ∨ t + 6 < f) (hh : ∀ s, s < 3 → M f (a + s) = nI (h s)) (hl : ∀ s, s < 3 → h s ≤ 99) (hcon : ∀ g, (∀ s, s < 3 → g (a + s) = nI (T.rn i h s)) → (∀ j, (j < a ∨ a + 3 ≤ j) → g j = M f j) → Q none sh (gsr M f g)) : gC mX4_renew d 0 0 [.ref t, .int (nI i), .ref f, .int (nI a)] sh M Q := by
  obtain ⟨z0, z1, z2, z3, z4, z5, z6⟩ := hT
  obtain ⟨w1, w2, w3, w4, w5, w6, w7, w8⟩ := hW
  obtain ⟨o1, o2, o3, o4, o5, o6, o7, o8⟩ := hok
  have hkd := w4 i hi
  have bkd := o4 i hi
  refine gC_of (rt := 0) (ini := false) gm_X4_renew rfl (by decide) (Nat.le_of_ble_eq_true rfl) (fun X hX => ?_)
  have L : ∀ (m s : Nat) (g : Nat → Int32), s ≤ 3 → 3 < s + m → (∀ r, r < s → g (a + r) = nI (T.rn i h r)) → (∀ j, (j < a ∨ a + s ≤ j) → g j = M f j) → X 3 [(0, .ref t), (1, .int (nI i)), (2, .ref f), (3, .int (nI a)), (4, .int (nI s))] [] sh (gsr M f g) 0 0 := by
    intro m
    induction m with
    | zero => intro s g h1 h2; omega
    | succ m ih =>
      intro s g hs hm hg hg2
      have key : ∀ x : Nat, x ≤ 99 → x = (if T.kd i = 1 then h s else 0) → s < 3 → X 31 [(0, .ref t), (1, .int (nI i)), (2, .ref f), (3, .int (nI a)), (4, .int (nI s)), (5, .int (nI x))] [] sh (gsr M f g) 0 0 := by
        intro x hx hxe hs3
        have b5 := o5 (3 * i + s) (by omega)
        refine s_aload_n (q := 32) hX dX4_renew_31 rfl rfl ?_
        refine s_iload_n (q := 33) hX dX4_renew_32 rfl rfl ?_
        refine s_iload (q := 35) hX dX4_renew_33 rfl rfl ?_
        refine s_iadd (q := 36) (v := nI (a + s)) hX dX4_renew_35 rfl (nI_add (a) (s)) ?_
        refine s_bipush (q := 38) (v := 99) hX dX4_renew_36 rfl rfl (by decide) ?_
        refine s_iload (q := 40) hX dX4_renew_38 rfl rfl ?_
        refine s_aload_n (q := 41) hX dX4_renew_40 rfl rfl ?_
        refine s_getr (q := 44) hX dX4_renew_41 rfl gfl_4_15 (by assumption) rfl ?_
        refine s_iload_n (q := 45) hX dX4_renew_44 rfl rfl ?_
        refine s_iconst (q := 46) (v := 3) hX dX4_renew_45 rfl rfl ?_
        refine s_imul (q := 47) (v := nI (i * 3)) hX dX4_renew_46 rfl (pk_mul (i) (3)) ?_
        refine s_iload (q := 49) hX dX4_renew_47 rfl rfl ?_
        refine s_iadd (q := 50) (v := nI (i * 3 + s)) hX dX4_renew_49 rfl (nI_add (i * 3) (s)) ?_
        refine s_iald (k := i * 3 + s) (q := 51) hX dX4_renew_50 rfl (by assumption) rfl (by omega) (by omega) ?_
        refine s_topi (v := nI (T.ra (3 * i + s))) (by rw [gsr_n _ _ (by omega), show i * 3 + s = 3 * i + s by omega]; exact w5 (3 * i + s) (by omega)) ?_
        refine s_iadd (q := 52) (v := nI (x + (T.ra (3 * i + s)))) hX dX4_renew_51 rfl (nI_add (x) (T.ra (3 * i + s))) ?_
        refine s_invs2_1 (q := 55) hX dX4_renew_52 rfl glk_4_75 (by decide) (Nat.le_of_ble_eq_true rfl) ⟨Nat.le_refl _, Nat.le_refl _⟩ (by omega) (c_min (d := 0) ?_) 
        refine ⟨_, rfl, ?_⟩
        refine s_topi (v := nI (T.rn i h s)) (by rw [show (99 : Int32) = nI 99 from rfl, gmin (by omega) (by omega), hxe]; rfl) ?_
        refine s_iast (k := a + s) (q := 56) hX dX4_renew_55 rfl (by assumption) rfl (by omega) (by omega) ?_
        refine s_iinc (q := 59) (v := nI (s + 1)) (lv' := [(0, _), (1, _), (2, _), (3, _), (4, _), (5, _)]) hX dX4_renew_56 rfl rfl (nI_add (s) 1) (Nat.le_of_ble_eq_true rfl) rfl ?_
        refine s_goto (q := 3) hX dX4_renew_59 rfl ?_
        rw [gsr_gsr, gsr_s]
        refine s_dl hX (ih (s + 1) _ (by omega) (by omega) (fun r hr => ?_) (fun j hj => ?_))
        · by_cases e : r = s
          · subst e; exact pk_us
          · rw [pk_un (by omega)]; exact hg r (by omega)
        · rw [pk_un (by omega)]; exact hg2 j (by omega)
      refine s_iload (q := 5) hX dX4_renew_3 rfl rfl ?_
      refine s_iconst (q := 6) (v := 3) hX dX4_renew_5 rfl rfl ?_
      refine s_nicmp_ge (a := s) (b := 3) (q := 9) (r := 62) hX dX4_renew_6 rfl rfl rfl rfl (by omega) (by omega) (fun c6 => ?_) (fun c6 => ?_)
      · refine s_ret hX dX4_renew_62 rfl ⟨Nat.le_refl _, Nat.le_refl _, Nat.le_refl _, ?_⟩
        have e : s = 3 := by omega
        subst e
        exact hcon g (fun s hs => hg s hs) hg2
      · refine s_aload_n (q := 10) hX dX4_renew_9 rfl rfl ?_
        refine s_getr (q := 13) hX dX4_renew_10 rfl gfl_4_9 (by assumption) rfl ?_
        refine s_iload_n (q := 14) hX dX4_renew_13 rfl rfl ?_
        refine s_iald (k := i) (q := 15) hX dX4_renew_14 rfl (by assumption) rfl (by omega) (by omega) ?_
        refine s_topi (v := nI (T.kd i)) (by rw [gsr_n _ _ (by omega)]; exact hkd) ?_
        refine s_iconst (q := 16) (v := 1) hX dX4_renew_15 rfl rfl ?_
        refine s_nicmp_ne (a := T.kd i) (b := 1) (q := 19) (r := 28) hX dX4_renew_16 rfl rfl rfl rfl (by omega) (by omega) (fun c16 => ?_) (fun c16 => ?_)
        · refine s_iconst (q := 29) (v := 0) hX dX4_renew_28 rfl rfl ?_
          refine s_istore (q := 31) (lv' := [(0, _), (1, _), (2, _), (3, _), (4, _), (5, _)]) hX dX4_renew_29 rfl (Nat.le_of_ble_eq_true rfl) rfl ?_
          exact key 0 (by omega) (by rw [if_neg (by omega)]) (by omega)
        · refine s_aload_n (q := 20) hX dX4_renew_19 rfl rfl ?_
          refine s_iload_n (q := 21) hX dX4_renew_20 rfl rfl ?_
          refine s_iload (q := 23) hX dX4_renew_21 rfl rfl ?_
          refine s_iadd (q := 24) (v := nI (a + s)) hX dX4_renew_23 rfl (nI_add (a) (s)) ?_
          refine s_iald (k := a + s) (q := 25) hX dX4_renew_24 rfl (by assumption) rfl (by omega) (by omega) ?_
          refine s_topi (v := nI (h s)) (by rw [gsr_s, hg2 (a + s) (by omega)]; exact hh s (by omega)) ?_
          refine s_goto (q := 29) hX dX4_renew_25 rfl ?_
          refine s_istore (q := 31) (lv' := [(0, _), (1, _), (2, _), (3, _), (4, _), (5, _)]) hX dX4_renew_29 rfl (Nat.le_of_ble_eq_true rfl) rfl ?_
          exact key (h s) (hl s (by omega)) (by rw [if_pos (by omega)]) (by omega)
  refine s_iconst (q := 1) (v := 0) hX dX4_renew_0 rfl rfl ?_
  refine s_istore (q := 3) (lv' := [(0, _), (1, _), (2, _), (3, _), (4, _)]) hX dX4_renew_1 rfl (Nat.le_of_ble_eq_true rfl) rfl ?_
  have e : M = gsr M f (M f) := by
    funext c
    by_cases z : c = f
    · subst z; rw [gsr_s]
    · rw [gsr_n _ _ z]
  rw [e]
  exact L 4 0 (M f) (by omega) (by omega) (fun r hr => by omega) (fun j _ => rfl)
set_option maxHeartbeats 4000000 in
set_option maxRecDepth 100000 in
theorem c_hueOf {d f a n : Nat} {h : Nat → Nat} {sh : List gS} {M : gM} {Q : Option Value → List gS → gM → Prop} (hf : sh[f]? = some (.inr (.inl (0, n)))) (hn : n ≤ 1000) (ha : a + 3 ≤ n) (hh : ∀ s, s < 3 → M f (a + s) = nI (h s)) (hl : ∀ s, s < 3 → h s ≤ 99) (hcon : Q (some (.int (nI (hueN h)))) sh M) : gC mX6_hueOf d 0 0 [.ref f, .int (nI a)] sh M Q := by
  have l0 := hl 0 (by omega)
  have l1 := hl 1 (by omega)
  have l2 := hl 2 (by omega)
  refine gC_of (rt := 1) (ini := false) gm_X6_hueOf rfl (by decide) (Nat.le_of_ble_eq_true rfl) (fun X hX => ?_)
  refine s_iconst (q := 1) (v := 0) hX dX6_hueOf_0 rfl rfl ?_
  refine s_istore_n (q := 2) (lv' := [(0, _), (1, _), (2, _)]) hX dX6_hueOf_1 rfl (Nat.le_of_ble_eq_true rfl) rfl ?_
  refine s_iconst (q := 3) (v := 0) hX dX6_hueOf_2 rfl rfl ?_
  refine s_istore_n (q := 4) (lv' := [(0, _), (1, _), (2, _), (3, _)]) hX dX6_hueOf_3 rfl (Nat.le_of_ble_eq_true rfl) rfl ?_
  refine s_iload_n (q := 5) hX dX6_hueOf_4 rfl rfl ?_
  refine s_iconst (q := 6) (v := 3) hX dX6_hueOf_5 rfl rfl ?_
  refine s_icmp_ge_f (q := 9) (r := 29) hX dX6_hueOf_6 rfl rfl (by decide) ?_
  refine s_aload_n (q := 10) hX dX6_hueOf_9 rfl rfl ?_
  refine s_iload_n (q := 11) hX dX6_hueOf_10 rfl rfl ?_
  refine s_iload_n (q := 12) hX dX6_hueOf_11 rfl rfl ?_
  refine s_iadd (q := 13) (v := nI (a + 0)) hX dX6_hueOf_12 rfl (nI_add (a) (0)) ?_
  refine s_iald (k := a + 0) (q := 14) hX dX6_hueOf_13 rfl (by assumption) rfl (by omega) (by omega) ?_
  refine s_topi (v := nI (h 0)) (hh 0 (by omega)) ?_
  refine s_nif_le (a := h 0) (b := 0) (q := 17) (r := 23) hX dX6_hueOf_14 rfl rfl rfl rfl (by omega) (by omega) (fun c14 => ?_) (fun c14 => ?_)
  · refine s_iinc (q := 26) (v := 1) (lv' := [(0, _), (1, _), (2, _), (3, _)]) hX dX6_hueOf_23 rfl rfl (by decide) (Nat.le_of_ble_eq_true rfl) rfl ?_
    refine s_goto (q := 4) hX dX6_hueOf_26 rfl ?_
    refine s_iload_n (q := 5) hX dX6_hueOf_4 rfl rfl ?_
    refine s_iconst (q := 6) (v := 3) hX dX6_hueOf_5 rfl rfl ?_
    refine s_icmp_ge_f (q := 9) (r := 29) hX dX6_hueOf_6 rfl rfl (by decide) ?_
    refine s_aload_n (q := 10) hX dX6_hueOf_9 rfl rfl ?_
    refine s_iload_n (q := 11) hX dX6_hueOf_10 rfl rfl ?_
    refine s_iload_n (q := 12) hX dX6_hueOf_11 rfl rfl ?_
    refine s_iadd (q := 13) (v := nI (a + 1)) hX dX6_hueOf_12 rfl (nI_add (a) (1)) ?_
    refine s_iald (k := a + 1) (q := 14) hX dX6_hueOf_13 rfl (by assumption) rfl (by omega) (by omega) ?_
    refine s_topi (v := nI (h 1)) (hh 1 (by omega)) ?_
    refine s_nif_le (a := h 1) (b := 0) (q := 17) (r := 23) hX dX6_hueOf_14 rfl rfl rfl rfl (by omega) (by omega) (fun c14_1 => ?_) (fun c14_1 => ?_)
    · refine s_iinc (q := 26) (v := 2) (lv' := [(0, _), (1, _), (2, _), (3, _)]) hX dX6_hueOf_23 rfl rfl (by decide) (Nat.le_of_ble_eq_true rfl) rfl ?_
      refine s_goto (q := 4) hX dX6_hueOf_26 rfl ?_
      refine s_iload_n (q := 5) hX dX6_hueOf_4 rfl rfl ?_
      refine s_iconst (q := 6) (v := 3) hX dX6_hueOf_5 rfl rfl ?_
      refine s_icmp_ge_f (q := 9) (r := 29) hX dX6_hueOf_6 rfl rfl (by decide) ?_
      refine s_aload_n (q := 10) hX dX6_hueOf_9 rfl rfl ?_
      refine s_iload_n (q := 11) hX dX6_hueOf_10 rfl rfl ?_
      refine s_iload_n (q := 12) hX dX6_hueOf_11 rfl rfl ?_
      refine s_iadd (q := 13) (v := nI (a + 2)) hX dX6_hueOf_12 rfl (nI_add (a) (2)) ?_
      refine s_iald (k := a + 2) (q := 14) hX dX6_hueOf_13 rfl (by assumption) rfl (by omega) (by omega) ?_
      refine s_topi (v := nI (h 2)) (hh 2 (by omega)) ?_
      refine s_nif_le (a := h 2) (b := 0) (q := 17) (r := 23) hX dX6_hueOf_14 rfl rfl rfl rfl (by omega) (by omega) (fun c14_2 => ?_) (fun c14_2 => ?_)
      · refine s_iinc (q := 26) (v := 3) (lv' := [(0, _), (1, _), (2, _), (3, _)]) hX dX6_hueOf_23 rfl rfl (by decide) (Nat.le_of_ble_eq_true rfl) rfl ?_
        refine s_goto (q := 4) hX dX6_hueOf_26 rfl ?_
        refine s_iload_n (q := 5) hX dX6_hueOf_4 rfl rfl ?_
        refine s_iconst (q := 6) (v := 3) hX dX6_hueOf_5 rfl rfl ?_
        refine s_icmp_ge_t (q := 9) (r := 29) hX dX6_hueOf_6 rfl rfl (by decide) ?_
        refine s_iload_n (q := 30) hX dX6_hueOf_29 rfl rfl ?_
        refine s_iret hX dX6_hueOf_30 (Or.inl rfl) ⟨Nat.le_refl _, Nat.le_refl _, Nat.le_refl _, ?_⟩
        have e : hueN h = 0 := by unfold hueN; (repeat' split) <;> omega
        rw [e] at hcon
        exact hcon
      · refine s_iload_n (q := 18) hX dX6_hueOf_17 rfl rfl ?_
        refine s_iconst (q := 19) (v := 1) hX dX6_hueOf_18 rfl rfl ?_
        refine s_iload_n (q := 20) hX dX6_hueOf_19 rfl rfl ?_
        refine s_ishl (q := 21) (v := 4) hX dX6_hueOf_20 rfl (by decide) ?_
        refine s_ior (q := 22) (v := 4) hX dX6_hueOf_21 rfl (by decide) ?_
        refine s_istore_n (q := 23) (lv' := [(0, _), (1, _), (2, _), (3, _)]) hX dX6_hueOf_22 rfl (Nat.le_of_ble_eq_true rfl) rfl ?_
        refine s_iinc (q := 26) (v := 3) (lv' := [(0, _), (1, _), (2, _), (3, _)]) hX dX6_hueOf_23 rfl rfl (by decide) (Nat.le_of_ble_eq_true rfl) rfl ?_
        refine s_goto (q := 4) hX dX6_hueOf_26 rfl ?_
        refine s_iload_n (q := 5) hX dX6_hueOf_4 rfl rfl ?_
        refine s_iconst (q := 6) (v := 3) hX dX6_hueOf_5 rfl rfl ?_
        refine s_icmp_ge_t (q := 9) (r := 29) hX dX6_hueOf_6 rfl rfl (by decide) ?_
        refine s_iload_n (q := 30) hX dX6_hueOf_29 rfl rfl ?_
        refine s_iret hX dX6_hueOf_30 (Or.inl rfl) ⟨Nat.le_refl _, Nat.le_refl _, Nat.le_refl _, ?_⟩
        have e : hueN h = 4 := by unfold hueN; (repeat' split) <;> omega
        rw [e] at hcon
        exact hcon
    · refine s_iload_n (q := 18) hX dX6_hueOf_17 rfl rfl ?_
      refine s_iconst (q := 19) (v := 1) hX dX6_hueOf_18 rfl rfl ?_
      refine s_iload_n (q := 20) hX dX6_hueOf_19 rfl rfl ?_
      refine s_ishl (q := 21) (v := 2) hX dX6_hueOf_20 rfl (by decide) ?_
      refine s_ior (q := 22) (v := 2) hX dX6_hueOf_21 rfl (by decide) ?_
      refine s_istore_n (q := 23) (lv' := [(0, _), (1, _), (2, _), (3, _)]) hX dX6_hueOf_22 rfl (Nat.le_of_ble_eq_true rfl) rfl ?_
      refine s_iinc (q := 26) (v := 2) (lv' := [(0, _), (1, _), (2, _), (3, _)]) hX dX6_hueOf_23 rfl rfl (by decide) (Nat.le_of_ble_eq_true rfl) rfl ?_
      refine s_goto (q := 4) hX dX6_hueOf_26 rfl ?_
      refine s_iload_n (q := 5) hX dX6_hueOf_4 rfl rfl ?_
      refine s_iconst (q := 6) (v := 3) hX dX6_hueOf_5 rfl rfl ?_
      refine s_icmp_ge_f (q := 9) (r := 29) hX dX6_hueOf_6 rfl rfl (by decide) ?_
      refine s_aload_n (q := 10) hX dX6_hueOf_9 rfl rfl ?_
      refine s_iload_n (q := 11) hX dX6_hueOf_10 rfl rfl ?_
      refine s_iload_n (q := 12) hX dX6_hueOf_11 rfl rfl ?_
      refine s_iadd (q := 13) (v := nI (a + 2)) hX dX6_hueOf_12 rfl (nI_add (a) (2)) ?_
      refine s_iald (k := a + 2) (q := 14) hX dX6_hueOf_13 rfl (by assumption) rfl (by omega) (by omega) ?_
      refine s_topi (v := nI (h 2)) (hh 2 (by omega)) ?_
      refine s_nif_le (a := h 2) (b := 0) (q := 17) (r := 23) hX dX6_hueOf_14 rfl rfl rfl rfl (by omega) (by omega) (fun c14_3 => ?_) (fun c14_3 => ?_)
      · refine s_iinc (q := 26) (v := 3) (lv' := [(0, _), (1, _), (2, _), (3, _)]) hX dX6_hueOf_23 rfl rfl (by decide) (Nat.le_of_ble_eq_true rfl) rfl ?_
        refine s_goto (q := 4) hX dX6_hueOf_26 rfl ?_
        refine s_iload_n (q := 5) hX dX6_hueOf_4 rfl rfl ?_
        refine s_iconst (q := 6) (v := 3) hX dX6_hueOf_5 rfl rfl ?_
        refine s_icmp_ge_t (q := 9) (r := 29) hX dX6_hueOf_6 rfl rfl (by decide) ?_
        refine s_iload_n (q := 30) hX dX6_hueOf_29 rfl rfl ?_
        refine s_iret hX dX6_hueOf_30 (Or.inl rfl) ⟨Nat.le_refl _, Nat.le_refl _, Nat.le_refl _, ?_⟩
        have e : hueN h = 2 := by unfold hueN; (repeat' split) <;> omega
        rw [e] at hcon
        exact hcon
      · refine s_iload_n (q := 18) hX dX6_hueOf_17 rfl rfl ?_
        refine s_iconst (q := 19) (v := 1) hX dX6_hueOf_18 rfl rfl ?_
        refine s_iload_n (q := 20) hX dX6_hueOf_19 rfl rfl ?_
        refine s_ishl (q := 21) (v := 4) hX dX6_hueOf_20 rfl (by decide) ?_
        refine s_ior (q := 22) (v := 6) hX dX6_hueOf_21 rfl (by decide) ?_
        refine s_istore_n (q := 23) (lv' := [(0, _), (1, _), (2, _), (3, _)]) hX dX6_hueOf_22 rfl (Nat.le_of_ble_eq_true rfl) rfl ?_
        refine s_iinc (q := 26) (v := 3) (lv' := [(0, _), (1, _), (2, _), (3, _)]) hX dX6_hueOf_23 rfl rfl (by decide) (Nat.le_of_ble_eq_true rfl) rfl ?_
        refine s_goto (q := 4) hX dX6_hueOf_26 rfl ?_
        refine s_iload_n (q := 5) hX dX6_hueOf_4 rfl rfl ?_
        refine s_iconst (q := 6) (v := 3) hX dX6_hueOf_5 rfl rfl ?_
        refine s_icmp_ge_t (q := 9) (r := 29) hX dX6_hueOf_6 rfl rfl (by decide) ?_
        refine s_iload_n (q := 30) hX dX6_hueOf_29 rfl rfl ?_
        refine s_iret hX dX6_hueOf_30 (Or.inl rfl) ⟨Nat.le_refl _, Nat.le_refl _, Nat.le_refl _, ?_⟩
        have e : hueN h = 6 := by unfold hueN; (repeat' split) <;> omega
        rw [e] at hcon
        exact hcon
  · refine s_iload_n (q := 18) hX dX6_hueOf_17 rfl rfl ?_
    refine s_iconst (q := 19) (v := 1) hX dX6_hueOf_18 rfl rfl ?_
    refine s_iload_n (q := 20) hX dX6_hueOf_19 rfl rfl ?_
    refine s_ishl (q := 21) (v := 1) hX dX6_hueOf_20 rfl (by decide) ?_
    refine s_ior (q := 22) (v := 1) hX dX6_hueOf_21 rfl (by decide) ?_
    refine s_istore_n (q := 23) (lv' := [(0, _), (1, _), (2, _), (3, _)]) hX dX6_hueOf_22 rfl (Nat.le_of_ble_eq_true rfl) rfl ?_
    refine s_iinc (q := 26) (v := 1) (lv' := [(0, _), (1, _), (2, _), (3, _)]) hX dX6_hueOf_23 rfl rfl (by decide) (Nat.le_of_ble_eq_true rfl) rfl ?_
    refine s_goto (q := 4) hX dX6_hueOf_26 rfl ?_
    refine s_iload_n (q := 5) hX dX6_hueOf_4 rfl rfl ?_
    refine s_iconst (q := 6) (v := 3) hX dX6_hueOf_5 rfl rfl ?_
    refine s_icmp_ge_f (q := 9) (r := 29) hX dX6_hueOf_6 rfl rfl (by decide) ?_
    refine s_aload_n (q := 10) hX dX6_hueOf_9 rfl rfl ?_
    refine s_iload_n (q := 11) hX dX6_hueOf_10 rfl rfl ?_
    refine s_iload_n (q := 12) hX dX6_hueOf_11 rfl rfl ?_
    refine s_iadd (q := 13) (v := nI (a + 1)) hX dX6_hueOf_12 rfl (nI_add (a) (1)) ?_
    refine s_iald (k := a + 1) (q := 14) hX dX6_hueOf_13 rfl (by assumption) rfl (by omega) (by omega) ?_
    refine s_topi (v := nI (h 1)) (hh 1 (by omega)) ?_
    refine s_nif_le (a := h 1) (b := 0) (q := 17) (r := 23) hX dX6_hueOf_14 rfl rfl rfl rfl (by omega) (by omega) (fun c14_4 => ?_) (fun c14_4 => ?_)
    · refine s_iinc (q := 26) (v := 2) (lv' := [(0, _), (1, _), (2, _), (3, _)]) hX dX6_hueOf_23 rfl rfl (by decide) (Nat.le_of_ble_eq_true rfl) rfl ?_
      refine s_goto (q := 4) hX dX6_hueOf_26 rfl ?_
      refine s_iload_n (q := 5) hX dX6_hueOf_4 rfl rfl ?_
      refine s_iconst (q := 6) (v := 3) hX dX6_hueOf_5 rfl rfl ?_
      refine s_icmp_ge_f (q := 9) (r := 29) hX dX6_hueOf_6 rfl rfl (by decide) ?_
      refine s_aload_n (q := 10) hX dX6_hueOf_9 rfl rfl ?_
      refine s_iload_n (q := 11) hX dX6_hueOf_10 rfl rfl ?_
      refine s_iload_n (q := 12) hX dX6_hueOf_11 rfl rfl ?_
      refine s_iadd (q := 13) (v := nI (a + 2)) hX dX6_hueOf_12 rfl (nI_add (a) (2)) ?_
      refine s_iald (k := a + 2) (q := 14) hX dX6_hueOf_13 rfl (by assumption) rfl (by omega) (by omega) ?_
      refine s_topi (v := nI (h 2)) (hh 2 (by omega)) ?_
      refine s_nif_le (a := h 2) (b := 0) (q := 17) (r := 23) hX dX6_hueOf_14 rfl rfl rfl rfl (by omega) (by omega) (fun c14_5 => ?_) (fun c14_5 => ?_)
      · refine s_iinc (q := 26) (v := 3) (lv' := [(0, _), (1, _), (2, _), (3, _)]) hX dX6_hueOf_23 rfl rfl (by decide) (Nat.le_of_ble_eq_true rfl) rfl ?_
        refine s_goto (q := 4) hX dX6_hueOf_26 rfl ?_
        refine s_iload_n (q := 5) hX dX6_hueOf_4 rfl rfl ?_
        refine s_iconst (q := 6) (v := 3) hX dX6_hueOf_5 rfl rfl ?_
        refine s_icmp_ge_t (q := 9) (r := 29) hX dX6_hueOf_6 rfl rfl (by decide) ?_
        refine s_iload_n (q := 30) hX dX6_hueOf_29 rfl rfl ?_
        refine s_iret hX dX6_hueOf_30 (Or.inl rfl) ⟨Nat.le_refl _, Nat.le_refl _, Nat.le_refl _, ?_⟩
        have e : hueN h = 1 := by unfold hueN; (repeat' split) <;> omega
        rw [e] at hcon
        exact hcon
      · refine s_iload_n (q := 18) hX dX6_hueOf_17 rfl rfl ?_
        refine s_iconst (q := 19) (v := 1) hX dX6_hueOf_18 rfl rfl ?_
        refine s_iload_n (q := 20) hX dX6_hueOf_19 rfl rfl ?_
        refine s_ishl (q := 21) (v := 4) hX dX6_hueOf_20 rfl (by decide) ?_
        refine s_ior (q := 22) (v := 5) hX dX6_hueOf_21 rfl (by decide) ?_
        refine s_istore_n (q := 23) (lv' := [(0, _), (1, _), (2, _), (3, _)]) hX dX6_hueOf_22 rfl (Nat.le_of_ble_eq_true rfl) rfl ?_
        refine s_iinc (q := 26) (v := 3) (lv' := [(0, _), (1, _), (2, _), (3, _)]) hX dX6_hueOf_23 rfl rfl (by decide) (Nat.le_of_ble_eq_true rfl) rfl ?_
        refine s_goto (q := 4) hX dX6_hueOf_26 rfl ?_
        refine s_iload_n (q := 5) hX dX6_hueOf_4 rfl rfl ?_
        refine s_iconst (q := 6) (v := 3) hX dX6_hueOf_5 rfl rfl ?_
        refine s_icmp_ge_t (q := 9) (r := 29) hX dX6_hueOf_6 rfl rfl (by decide) ?_
        refine s_iload_n (q := 30) hX dX6_hueOf_29 rfl rfl ?_
        refine s_iret hX dX6_hueOf_30 (Or.inl rfl) ⟨Nat.le_refl _, Nat.le_refl _, Nat.le_refl _, ?_⟩
        have e : hueN h = 5 := by unfold hueN; (repeat' split) <;> omega
        rw [e] at hcon
        exact hcon
    · refine s_iload_n (q := 18) hX dX6_hueOf_17 rfl rfl ?_
      refine s_iconst (q := 19) (v := 1) hX dX6_hueOf_18 rfl rfl ?_
      refine s_iload_n (q := 20) hX dX6_hueOf_19 rfl rfl ?_
      refine s_ishl (q := 21) (v := 2) hX dX6_hueOf_20 rfl (by decide) ?_
      refine s_ior (q := 22) (v := 3) hX dX6_hueOf_21 rfl (by decide) ?_
      refine s_istore_n (q := 23) (lv' := [(0, _), (1, _), (2, _), (3, _)]) hX dX6_hueOf_22 rfl (Nat.le_of_ble_eq_true rfl) rfl ?_
      refine s_iinc (q := 26) (v := 2) (lv' := [(0, _), (1, _), (2, _), (3, _)]) hX dX6_hueOf_23 rfl rfl (by decide) (Nat.le_of_ble_eq_true rfl) rfl ?_
      refine s_goto (q := 4) hX dX6_hueOf_26 rfl ?_
      refine s_iload_n (q := 5) hX dX6_hueOf_4 rfl rfl ?_
      refine s_iconst (q := 6) (v := 3) hX dX6_hueOf_5 rfl rfl ?_
      refine s_icmp_ge_f (q := 9) (r := 29) hX dX6_hueOf_6 rfl rfl (by decide) ?_
      refine s_aload_n (q := 10) hX dX6_hueOf_9 rfl rfl ?_
      refine s_iload_n (q := 11) hX dX6_hueOf_10 rfl rfl ?_
      refine s_iload_n (q := 12) hX dX6_hueOf_11 rfl rfl ?_
      refine s_iadd (q := 13) (v := nI (a + 2)) hX dX6_hueOf_12 rfl (nI_add (a) (2)) ?_
      refine s_iald (k := a + 2) (q := 14) hX dX6_hueOf_13 rfl (by assumption) rfl (by omega) (by omega) ?_
      refine s_topi (v := nI (h 2)) (hh 2 (by omega)) ?_
      refine s_nif_le (a := h 2) (b := 0) (q := 17) (r := 23) hX dX6_hueOf_14 rfl rfl rfl rfl (by omega) (by omega) (fun c14_6 => ?_) (fun c14_6 => ?_)
      · refine s_iinc (q := 26) (v := 3) (lv' := [(0, _), (1, _), (2, _), (3, _)]) hX dX6_hueOf_23 rfl rfl (by decide) (Nat.le_of_ble_eq_true rfl) rfl ?_
        refine s_goto (q := 4) hX dX6_hueOf_26 rfl ?_
        refine s_iload_n (q := 5) hX dX6_hueOf_4 rfl rfl ?_
        refine s_iconst (q := 6) (v := 3) hX dX6_hueOf_5 rfl rfl ?_
        refine s_icmp_ge_t (q := 9) (r := 29) hX dX6_hueOf_6 rfl rfl (by decide) ?_
        refine s_iload_n (q := 30) hX dX6_hueOf_29 rfl rfl ?_
        refine s_iret hX dX6_hueOf_30 (Or.inl rfl) ⟨Nat.le_refl _, Nat.le_refl _, Nat.le_refl _, ?_⟩
        have e : hueN h = 3 := by unfold hueN; (repeat' split) <;> omega
        rw [e] at hcon
        exact hcon
      · refine s_iload_n (q := 18) hX dX6_hueOf_17 rfl rfl ?_
        refine s_iconst (q := 19) (v := 1) hX dX6_hueOf_18 rfl rfl ?_
        refine s_iload_n (q := 20) hX dX6_hueOf_19 rfl rfl ?_
        refine s_ishl (q := 21) (v := 4) hX dX6_hueOf_20 rfl (by decide) ?_
        refine s_ior (q := 22) (v := 7) hX dX6_hueOf_21 rfl (by decide) ?_
        refine s_istore_n (q := 23) (lv' := [(0, _), (1, _), (2, _), (3, _)]) hX dX6_hueOf_22 rfl (Nat.le_of_ble_eq_true rfl) rfl ?_
        refine s_iinc (q := 26) (v := 3) (lv' := [(0, _), (1, _), (2, _), (3, _)]) hX dX6_hueOf_23 rfl rfl (by decide) (Nat.le_of_ble_eq_true rfl) rfl ?_
        refine s_goto (q := 4) hX dX6_hueOf_26 rfl ?_
        refine s_iload_n (q := 5) hX dX6_hueOf_4 rfl rfl ?_
        refine s_iconst (q := 6) (v := 3) hX dX6_hueOf_5 rfl rfl ?_
        refine s_icmp_ge_t (q := 9) (r := 29) hX dX6_hueOf_6 rfl rfl (by decide) ?_
        refine s_iload_n (q := 30) hX dX6_hueOf_29 rfl rfl ?_
        refine s_iret hX dX6_hueOf_30 (Or.inl rfl) ⟨Nat.le_refl _, Nat.le_refl _, Nat.le_refl _, ?_⟩
        have e : hueN h = 7 := by unfold hueN; (repeat' split) <;> omega
        rw [e] at hcon
        exact hcon
set_option maxHeartbeats 4000000 in
set_option maxRecDepth 100000 in
theorem c_hue {d s i P_ : Nat} {U : gU} {sh : List gS} {M : gM} {Q : Option Value → List gS → gM → Prop} (hd : 1 ≤ d) (hS : isStreet sh s) (hU : STR M s P_ U) (hok : U.ok P_) (hP : P_ ≤ 6) (hi : i < P_) (hcon : Q (some (.int (nI (hueN (U.tr i))))) sh M) : gC mX3_hue d 0 0 [.ref s, .int (nI i)] sh M Q := by
  obtain ⟨y0, y1, y2, y3⟩ := hS
  refine gC_of (rt := 1) (ini := false) gm_X3_hue rfl (by decide) (Nat.le_of_ble_eq_true rfl) (fun X hX => ?_)
  refine s_aload_n (q := 1) hX dX3_hue_0 rfl rfl ?_
  refine s_getr (q := 4) hX dX3_hue_1 rfl gfl_3_9 (by assumption) rfl ?_
  refine s_iload_n (q := 5) hX dX3_hue_4 rfl rfl ?_
  refine s_iconst (q := 6) (v := 3) hX dX3_hue_5 rfl rfl ?_
  refine s_imul (q := 7) (v := nI (i * 3)) hX dX3_hue_6 rfl (pk_mul (i) (3)) ?_
  refine s_invs2_1 (q := 10) hX dX3_hue_7 rfl glk_3_36 (by decide) (Nat.le_of_ble_eq_true rfl) ⟨Nat.le_refl _, Nat.le_refl _⟩ (by omega) (c_hueOf (d := 0) (h := U.tr i) y1 (by omega) (by omega) (fun s hs => by rw [show i * 3 + s = 3 * i + s by omega]; exact hU.2.1 _ (by omega)) (fun s hs => hok.1 _ (by omega)) ?_) 
  refine ⟨_, rfl, ?_⟩
  refine s_iret hX dX3_hue_10 (Or.inl rfl) ⟨Nat.le_refl _, Nat.le_refl _, Nat.le_refl _, ?_⟩
  exact hcon
set_option maxHeartbeats 4000000 in
set_option maxRecDepth 100000 in
theorem c_weekday {d s P_ : Nat} {U : gU} {sh : List gS} {M : gM} {Q : Option Value → List gS → gM → Prop} (hS : isStreet sh s) (hU : STR M s P_ U) (hok : U.ok P_) (hcon : Q (some (.int (nI (U.d % 7)))) sh M) : gC mX3_weekday d 0 0 [.ref s] sh M Q := by
  obtain ⟨y0, y1, y2, y3⟩ := hS
  have hd9 := hok.2
  refine gC_of (rt := 1) (ini := false) gm_X3_weekday rfl (by decide) (Nat.le_of_ble_eq_true rfl) (fun X hX => ?_)
  refine s_aload_n (q := 1) hX dX3_weekday_0 rfl rfl ?_
  refine s_geti (q := 4) hX dX3_weekday_1 rfl gfl_3_21 (by assumption) rfl ?_
  refine s_topi (v := nI (U.d)) hU.1 ?_
  refine s_bipush (q := 6) (v := 7) hX dX3_weekday_4 rfl rfl (by decide) ?_
  refine s_irem (q := 7) (v := nI ((U.d) % 7)) hX dX3_weekday_6 rfl (pk_rem (a := U.d) (d := 7) (by omega) (by decide) (by decide)) (by decide) ?_
  refine s_iret hX dX3_weekday_7 (Or.inl rfl) ⟨Nat.le_refl _, Nat.le_refl _, Nat.le_refl _, ?_⟩
  exact hcon
