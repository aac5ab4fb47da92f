set_option maxHeartbeats 4000000 in
set_option maxRecDepth 100000 in
theorem n_class {d a v : Nat} {sh : List gS} {M : gM} {Q : Option Value → List gS → gM → Prop} (hd : 6 ≤ d) (hL : sh.length = 1) (hG : gOK sh) (h0 : sh[0]? = some (.inl (6, gdef 6))) (hz : M 0 = fun _ => 0) (hcon : ∀ sh' M', sh'.length = 83 → gOK sh' → isCls sh' 4 → CLS M' 4 gS0 → Q none sh' M') : ∀ (l : Launch) (D : va_G) (cy : Nat → ClassId) (ad : Nat → Nat) (sz : Nat), Met l yX6_init (.code yX6_init cX6_init 2 none :: gwl) (grm d 82 1027) (gPcE a v [.ref 0] D cy ad sz sh M) (gQ Q D cy ad sh.length 82 (va_A (gW cy ad sh M) sz)) 82 1027 (va_A (gW cy ad sh M) sz) := by
  refine gCE_of (by omega) (Nat.le_of_ble_eq_true rfl) (fun X hX hXs => ?_)
  have c0 : CT 1 [some .null, some .null, some .null, some .null, some .null, some .null, some .null, some .null, some .null, some .null] (fun _ => True) sh M := ⟨hL, hG, h0, trivial, fun c hc => by rw [show c = 0 by omega]; exact hz⟩
  have l0 : LOC (fun _ : List gS => True) 1 := fun _ _ _ h => h
  have k0 : ∀ (kc ks : Nat), kc + 1 + 2 ≤ 82 → ks + (gdef 1).length + 204 ≤ 1027 → ∀ (sh1 : List gS) (M1 : gM), sh1.length = 1 + 1 → gOK sh1 → sh1[1]? = some (.inl (1, gdef 1)) → (∀ sh2 M2, sh2.length = 1 + 1 + 2 → gOK sh2 → (∀ c, c < 1 → sh2[c]? = sh1[c]?) → (fun s => isPaper s 1) sh2 → (∀ c, c < 1 + 1 → M2 c = M1 c) → (∀ c, 1 + 1 ≤ c → c < 1 + 1 + 2 → M2 c = fun _ => 0) → X 12 [(0, .ref 0)] [.ref 1, .ref 0] sh2 M2 (kc + 1 + 2) (ks + (gdef 1).length + 204)) → X 9 [(0, .ref 0)] [.ref 1, .ref 1, .ref 0] sh1 M1 (kc + 1) (ks + (gdef 1).length) := by
    intro kc ks b1 b2 sh1 M1 q1 q2 q3 q4
    refine s_invc0 (q := 12) (d' := 5) (mc := 2) (ms := 204) hX dX6_init_9 rfl glk_6_9 (by decide) (Nat.le_of_ble_eq_true rfl) (by omega) b1 b2 (by rw [q1]; exact gal_c (gov (Or.inl (by omega))) (gal_c (gov (Or.inl (by omega))) (gal_c (gov (Or.inl (by omega))) rfl))) (n_paper (d := 5) (L := 1 + 1) (b := 1) (by omega) q1 (by decide) q2 (by omega) q3 (fun s2 m2 hS => ⟨rfl, ?_⟩))
    obtain ⟨⟨a1, a2⟩, ⟨c1, c2, c3⟩, e1, e2⟩ := hS
    exact q4 s2 m2 a1 a2 (fun c hc => c1 c (by omega) (by omega)) ⟨c2, c3 0 _ rfl, c3 1 _ rfl⟩ e1 e2
  have k1 : ∀ (kc ks : Nat), kc + 1 + 6 ≤ 82 → ks + (gdef 4).length + 93 ≤ 1027 → ∀ (sh1 : List gS) (M1 : gM), sh1.length = 4 + 1 → gOK sh1 → sh1[4]? = some (.inl (4, gdef 4)) → (∀ sh2 M2, sh2.length = 4 + 1 + 6 → gOK sh2 → (∀ c, c < 4 → sh2[c]? = sh1[c]?) → (fun s => isTown s 4) sh2 → (∀ c, c < 4 + 1 → M2 c = M1 c) → (∀ c, 4 + 1 ≤ c → c < 4 + 1 + 6 → M2 c = fun _ => 0) → X 23 [(0, .ref 0)] [.ref 4, .ref 0] sh2 M2 (kc + 1 + 6) (ks + (gdef 4).length + 93)) → X 20 [(0, .ref 0)] [.ref 4, .ref 4, .ref 0] sh1 M1 (kc + 1) (ks + (gdef 4).length) := by
    intro kc ks b1 b2 sh1 M1 q1 q2 q3 q4
    refine s_invc0 (q := 23) (d' := 5) (mc := 6) (ms := 93) hX dX6_init_20 rfl glk_6_18 (by decide) (Nat.le_of_ble_eq_true rfl) (by omega) b1 b2 (by rw [q1]; exact gal_c (gov (Or.inl (by omega))) (gal_c (gov (Or.inl (by omega))) (gal_c (gov (Or.inl (by omega))) rfl))) (n_town (d := 5) (L := 4 + 1) (b := 4) (by omega) q1 (by decide) q2 (by omega) q3 (fun s2 m2 hS => ⟨rfl, ?_⟩))
    obtain ⟨⟨a1, a2⟩, ⟨c1, c2, c3⟩, e1, e2⟩ := hS
    exact q4 s2 m2 a1 a2 (fun c hc => c1 c (by omega) (by omega)) ⟨c2, c3 0 _ rfl, c3 1 _ rfl, c3 2 _ rfl, c3 3 _ rfl, c3 4 _ rfl, c3 5 _ rfl⟩ e1 e2
  have k2 : ∀ (kc ks : Nat), kc + 1 + 6 ≤ 82 → ks + (gdef 4).length + 93 ≤ 1027 → ∀ (sh1 : List gS) (M1 : gM), sh1.length = 11 + 1 → gOK sh1 → sh1[11]? = some (.inl (4, gdef 4)) → (∀ sh2 M2, sh2.length = 11 + 1 + 6 → gOK sh2 → (∀ c, c < 11 → sh2[c]? = sh1[c]?) → (fun s => isTown s 11) sh2 → (∀ c, c < 11 + 1 → M2 c = M1 c) → (∀ c, 11 + 1 ≤ c → c < 11 + 1 + 6 → M2 c = fun _ => 0) → X 34 [(0, .ref 0)] [.ref 11, .ref 0] sh2 M2 (kc + 1 + 6) (ks + (gdef 4).length + 93)) → X 31 [(0, .ref 0)] [.ref 11, .ref 11, .ref 0] sh1 M1 (kc + 1) (ks + (gdef 4).length) := by
    intro kc ks b1 b2 sh1 M1 q1 q2 q3 q4
    refine s_invc0 (q := 34) (d' := 5) (mc := 6) (ms := 93) hX dX6_init_31 rfl glk_6_18 (by decide) (Nat.le_of_ble_eq_true rfl) (by omega) b1 b2 (by rw [q1]; exact gal_c (gov (Or.inl (by omega))) (gal_c (gov (Or.inl (by omega))) (gal_c (gov (Or.inl (by omega))) rfl))) (n_town (d := 5) (L := 11 + 1) (b := 11) (by omega) q1 (by decide) q2 (by omega) q3 (fun s2 m2 hS => ⟨rfl, ?_⟩))
    obtain ⟨⟨a1, a2⟩, ⟨c1, c2, c3⟩, e1, e2⟩ := hS
    exact q4 s2 m2 a1 a2 (fun c hc => c1 c (by omega) (by omega)) ⟨c2, c3 0 _ rfl, c3 1 _ rfl, c3 2 _ rfl, c3 3 _ rfl, c3 4 _ rfl, c3 5 _ rfl⟩ e1 e2
  have k3 : ∀ (kc ks : Nat), kc + 1 + 3 ≤ 82 → ks + (gdef 3).length + 30 ≤ 1027 → ∀ (sh1 : List gS) (M1 : gM), sh1.length = 18 + 1 → gOK sh1 → sh1[18]? = some (.inl (3, gdef 3)) → (∀ sh2 M2, sh2.length = 18 + 1 + 3 → gOK sh2 → (∀ c, c < 18 → sh2[c]? = sh1[c]?) → (fun s => isStreet s 18) sh2 → (∀ c, c < 18 + 1 → M2 c = M1 c) → (∀ c, 18 + 1 ≤ c → c < 18 + 1 + 3 → M2 c = fun _ => 0) → X 45 [(0, .ref 0)] [.ref 18, .ref 0] sh2 M2 (kc + 1 + 3) (ks + (gdef 3).length + 30)) → X 42 [(0, .ref 0)] [.ref 18, .ref 18, .ref 0] sh1 M1 (kc + 1) (ks + (gdef 3).length) := by
    intro kc ks b1 b2 sh1 M1 q1 q2 q3 q4
    refine s_invc0 (q := 45) (d' := 5) (mc := 3) (ms := 30) hX dX6_init_42 rfl glk_6_28 (by decide) (Nat.le_of_ble_eq_true rfl) (by omega) b1 b2 (by rw [q1]; exact gal_c (gov (Or.inl (by omega))) (gal_c (gov (Or.inl (by omega))) (gal_c (gov (Or.inl (by omega))) rfl))) (n_street (d := 5) (L := 18 + 1) (b := 18) (by omega) q1 (by decide) q2 (by omega) q3 (fun s2 m2 hS => ⟨rfl, ?_⟩))
    obtain ⟨⟨a1, a2⟩, ⟨c1, c2, c3⟩, e1, e2⟩ := hS
    exact q4 s2 m2 a1 a2 (fun c hc => c1 c (by omega) (by omega)) ⟨c2, c3 0 _ rfl, c3 1 _ rfl, c3 2 _ rfl⟩ e1 e2
  have k4 : ∀ (kc ks : Nat), kc + 1 + 3 ≤ 82 → ks + (gdef 3).length + 30 ≤ 1027 → ∀ (sh1 : List gS) (M1 : gM), sh1.length = 22 + 1 → gOK sh1 → sh1[22]? = some (.inl (3, gdef 3)) → (∀ sh2 M2, sh2.length = 22 + 1 + 3 → gOK sh2 → (∀ c, c < 22 → sh2[c]? = sh1[c]?) → (fun s => isStreet s 22) sh2 → (∀ c, c < 22 + 1 → M2 c = M1 c) → (∀ c, 22 + 1 ≤ c → c < 22 + 1 + 3 → M2 c = fun _ => 0) → X 56 [(0, .ref 0)] [.ref 22, .ref 0] sh2 M2 (kc + 1 + 3) (ks + (gdef 3).length + 30)) → X 53 [(0, .ref 0)] [.ref 22, .ref 22, .ref 0] sh1 M1 (kc + 1) (ks + (gdef 3).length) := by
    intro kc ks b1 b2 sh1 M1 q1 q2 q3 q4
    refine s_invc0 (q := 56) (d' := 5) (mc := 3) (ms := 30) hX dX6_init_53 rfl glk_6_28 (by decide) (Nat.le_of_ble_eq_true rfl) (by omega) b1 b2 (by rw [q1]; exact gal_c (gov (Or.inl (by omega))) (gal_c (gov (Or.inl (by omega))) (gal_c (gov (Or.inl (by omega))) rfl))) (n_street (d := 5) (L := 22 + 1) (b := 22) (by omega) q1 (by decide) q2 (by omega) q3 (fun s2 m2 hS => ⟨rfl, ?_⟩))
    obtain ⟨⟨a1, a2⟩, ⟨c1, c2, c3⟩, e1, e2⟩ := hS
    exact q4 s2 m2 a1 a2 (fun c hc => c1 c (by omega) (by omega)) ⟨c2, c3 0 _ rfl, c3 1 _ rfl, c3 2 _ rfl⟩ e1 e2
  have k5 : ∀ (kc ks : Nat), kc + 1 + 33 ≤ 82 → ks + (gdef 2).length + 280 ≤ 1027 → ∀ (sh1 : List gS) (M1 : gM), sh1.length = 26 + 1 → gOK sh1 → sh1[26]? = some (.inl (2, gdef 2)) → (∀ sh2 M2, sh2.length = 26 + 1 + 33 → gOK sh2 → (∀ c, c < 26 → sh2[c]? = sh1[c]?) → (fun s => isShelf s 26 8) sh2 → (∀ c, c < 26 + 1 → M2 c = M1 c) → (∀ c, 26 + 1 ≤ c → c < 26 + 1 + 33 → M2 c = fun _ => 0) → X 69 [(0, .ref 0)] [.ref 26, .ref 0] sh2 M2 (kc + 1 + 33) (ks + (gdef 2).length + 280)) → X 64 [(0, .ref 0)] [.ref 26, .ref 26, .ref 0] sh1 M1 (kc + 1) (ks + (gdef 2).length) := by
    intro kc ks b1 b2 sh1 M1 q1 q2 q3 q4
    refine s_bipush (q := 66) (v := 8) hX dX6_init_64 rfl rfl (by decide) ?_
    exact s_invc1 (q := 69) (d' := 5) (mc := 33) (ms := 280) hX dX6_init_66 rfl glk_6_38 (by decide) (Nat.le_of_ble_eq_true rfl) (by omega) b1 b2 (by rw [q1]; exact gal_c (gov (Or.inl (by omega))) (gal_c (gov (Or.inl (by omega))) (gal_c (gov (Or.inl (by omega))) rfl))) (n_shelf (d := 5) (b := 26) (n := 8) (by omega) (by decide) (by decide) q1 (by decide) q2 q3 (fun s2 m2 hl2 hg2 so2 hp2 mo2 mz2 => ⟨rfl, q4 s2 m2 hl2 hg2 so2 hp2 mo2 mz2⟩))
  have k6 : ∀ (kc ks : Nat), kc + 1 + 9 ≤ 82 → ks + (gdef 2).length + 70 ≤ 1027 → ∀ (sh1 : List gS) (M1 : gM), sh1.length = 60 + 1 → gOK sh1 → sh1[60]? = some (.inl (2, gdef 2)) → (∀ sh2 M2, sh2.length = 60 + 1 + 9 → gOK sh2 → (∀ c, c < 60 → sh2[c]? = sh1[c]?) → (fun s => isShelf s 60 2) sh2 → (∀ c, c < 60 + 1 → M2 c = M1 c) → (∀ c, 60 + 1 ≤ c → c < 60 + 1 + 9 → M2 c = fun _ => 0) → X 81 [(0, .ref 0)] [.ref 60, .ref 0] sh2 M2 (kc + 1 + 9) (ks + (gdef 2).length + 70)) → X 77 [(0, .ref 0)] [.ref 60, .ref 60, .ref 0] sh1 M1 (kc + 1) (ks + (gdef 2).length) := by
    intro kc ks b1 b2 sh1 M1 q1 q2 q3 q4
    refine s_iconst (q := 78) (v := 2) hX dX6_init_77 rfl rfl ?_
    exact s_invc1 (q := 81) (d' := 5) (mc := 9) (ms := 70) hX dX6_init_78 rfl glk_6_38 (by decide) (Nat.le_of_ble_eq_true rfl) (by omega) b1 b2 (by rw [q1]; exact gal_c (gov (Or.inl (by omega))) (gal_c (gov (Or.inl (by omega))) (gal_c (gov (Or.inl (by omega))) rfl))) (n_shelf (d := 5) (b := 60) (n := 2) (by omega) (by decide) (by decide) q1 (by decide) q2 q3 (fun s2 m2 hl2 hg2 so2 hp2 mo2 mz2 => ⟨rfl, q4 s2 m2 hl2 hg2 so2 hp2 mo2 mz2⟩))
  have k7 : ∀ (kc ks : Nat), kc + 1 + 4 ≤ 82 → ks + (gdef 0).length + 130 ≤ 1027 → ∀ (sh1 : List gS) (M1 : gM), sh1.length = 70 + 1 → gOK sh1 → sh1[70]? = some (.inl (0, gdef 0)) → (∀ sh2 M2, sh2.length = 70 + 1 + 4 → gOK sh2 → (∀ c, c < 70 → sh2[c]? = sh1[c]?) → (fun s => isCho s 70) sh2 → (∀ c, c < 70 + 1 → M2 c = M1 c) → (∀ c, 70 + 1 ≤ c → c < 70 + 1 + 4 → M2 c = fun _ => 0) → X 92 [(0, .ref 0)] [.ref 70, .ref 0] sh2 M2 (kc + 1 + 4) (ks + (gdef 0).length + 130)) → X 89 [(0, .ref 0)] [.ref 70, .ref 70, .ref 0] sh1 M1 (kc + 1) (ks + (gdef 0).length) := by
    intro kc ks b1 b2 sh1 M1 q1 q2 q3 q4
    refine s_invc0 (q := 92) (d' := 5) (mc := 4) (ms := 130) hX dX6_init_89 rfl glk_6_50 (by decide) (Nat.le_of_ble_eq_true rfl) (by omega) b1 b2 (by rw [q1]; exact gal_c (gov (Or.inl (by omega))) (gal_c (gov (Or.inl (by omega))) (gal_c (gov (Or.inl (by omega))) rfl))) (n_cho (d := 5) (L := 70 + 1) (b := 70) (by omega) q1 (by decide) q2 (by omega) q3 (fun s2 m2 hS => ⟨rfl, ?_⟩))
    obtain ⟨⟨a1, a2⟩, ⟨c1, c2, c3⟩, e1, e2⟩ := hS
    exact q4 s2 m2 a1 a2 (fun c hc => c1 c (by omega) (by omega)) ⟨c2, c3 0 _ rfl, c3 1 _ rfl, c3 2 _ rfl, c3 3 _ rfl⟩ e1 e2
  have k8 : ∀ (kc ks : Nat), kc + 1 + 6 ≤ 82 → ks + (gdef 5).length + 44 ≤ 1027 → ∀ (sh1 : List gS) (M1 : gM), sh1.length = 75 + 1 → gOK sh1 → sh1[75]? = some (.inl (5, gdef 5)) → (∀ sh2 M2, sh2.length = 75 + 1 + 6 → gOK sh2 → (∀ c, c < 75 → sh2[c]? = sh1[c]?) → (fun s => isWit s 75) sh2 → (∀ c, c < 75 + 1 → M2 c = M1 c) → (∀ c, 75 + 1 ≤ c → c < 75 + 1 + 6 → M2 c = fun _ => 0) → X 103 [(0, .ref 0)] [.ref 75, .ref 0] sh2 M2 (kc + 1 + 6) (ks + (gdef 5).length + 44)) → X 100 [(0, .ref 0)] [.ref 75, .ref 75, .ref 0] sh1 M1 (kc + 1) (ks + (gdef 5).length) := by
    intro kc ks b1 b2 sh1 M1 q1 q2 q3 q4
    refine s_invc0 (q := 103) (d' := 5) (mc := 6) (ms := 44) hX dX6_init_100 rfl glk_6_57 (by decide) (Nat.le_of_ble_eq_true rfl) (by omega) b1 b2 (by rw [q1]; exact gal_c (gov (Or.inl (by omega))) (gal_c (gov (Or.inl (by omega))) (gal_c (gov (Or.inl (by omega))) rfl))) (n_wit (d := 5) (L := 75 + 1) (b := 75) (by omega) q1 (by decide) q2 (by omega) q3 (fun s2 m2 hS => ⟨rfl, ?_⟩))
    obtain ⟨⟨a1, a2⟩, ⟨c1, c2, c3⟩, e1, e2⟩ := hS
    exact q4 s2 m2 a1 a2 (fun c hc => c1 c (by omega) (by omega)) ⟨c2, c3 0 _ rfl, c3 1 _ rfl, c3 2 _ rfl, c3 3 _ rfl, c3 4 _ rfl, c3 5 _ rfl⟩ e1 e2
  refine s_aload_n (q := 1) hX dX6_init_0 rfl rfl ?_
  refine s_oinit (q := 4) hX dX6_init_1 rfl glk_6_1 (Nat.le_of_ble_eq_true rfl) (by omega) ?_
  refine s_prt (L := 1) (nf := 2) (msj := 204) (pcF := 12) (Pj := (fun s => isPaper s 1)) (fs' := [some (.ref 1), some .null, some .null, some .null, some .null, some .null, some .null, some .null, some .null, some .null]) hX dX6_init_4 dX6_init_5 dX6_init_8 dX6_init_12 gnw_6_7 gfl_6_10 (Or.inr ⟨rfl, rfl, rfl⟩) c0 l0 loc_paper (by decide) (by decide) rfl rfl (by decide) (by decide) (k0 _ _ (by decide) (by decide)) (fun s1 m1 c1 => ?_)
  have l1 := LOC.and l0 loc_paper (by decide)
  refine s_prt (L := 4) (nf := 6) (msj := 93) (pcF := 23) (Pj := (fun s => isTown s 4)) (fs' := [some (.ref 1), some (.ref 4), some .null, some .null, some .null, some .null, some .null, some .null, some .null, some .null]) hX dX6_init_15 dX6_init_16 dX6_init_19 dX6_init_23 gnw_6_16 gfl_6_19 (Or.inl rfl) c1 l1 (loc_town (t := 4) (by decide)) (by decide) (by decide) rfl rfl (by decide) (by decide) (k1 _ _ (by decide) (by decide)) (fun s2 m2 c2 => ?_)
  have l2 := LOC.and l1 (loc_town (t := 4) (by decide)) (by decide)
  refine s_prt (L := 11) (nf := 6) (msj := 93) (pcF := 34) (Pj := (fun s => isTown s 11)) (fs' := [some (.ref 1), some (.ref 4), some (.ref 11), some .null, some .null, some .null, some .null, some .null, some .null, some .null]) hX dX6_init_26 dX6_init_27 dX6_init_30 dX6_init_34 gnw_6_16 gfl_6_23 (Or.inl rfl) c2 l2 (loc_town (t := 11) (by decide)) (by decide) (by decide) rfl rfl (by decide) (by decide) (k2 _ _ (by decide) (by decide)) (fun s3 m3 c3 => ?_)
  have l3 := LOC.and l2 (loc_town (t := 11) (by decide)) (by decide)
  refine s_prt (L := 18) (nf := 3) (msj := 30) (pcF := 45) (Pj := (fun s => isStreet s 18)) (fs' := [some (.ref 1), some (.ref 4), some (.ref 11), some (.ref 18), some .null, some .null, some .null, some .null, some .null, some .null]) hX dX6_init_37 dX6_init_38 dX6_init_41 dX6_init_45 gnw_6_26 gfl_6_29 (Or.inr ⟨rfl, rfl, rfl⟩) c3 l3 (loc_street (t := 18) (by decide)) (by decide) (by decide) rfl rfl (by decide) (by decide) (k3 _ _ (by decide) (by decide)) (fun s4 m4 c4 => ?_)
  have l4 := LOC.and l3 (loc_street (t := 18) (by decide)) (by decide)
  refine s_prt (L := 22) (nf := 3) (msj := 30) (pcF := 56) (Pj := (fun s => isStreet s 22)) (fs' := [some (.ref 1), some (.ref 4), some (.ref 11), some (.ref 18), some (.ref 22), some .null, some .null, some .null, some .null, some .null]) hX dX6_init_48 dX6_init_49 dX6_init_52 dX6_init_56 gnw_6_26 gfl_6_33 (Or.inr ⟨rfl, rfl, rfl⟩) c4 l4 (loc_street (t := 22) (by decide)) (by decide) (by decide) rfl rfl (by decide) (by decide) (k4 _ _ (by decide) (by decide)) (fun s5 m5 c5 => ?_)
  have l5 := LOC.and l4 (loc_street (t := 22) (by decide)) (by decide)
  refine s_prt (L := 26) (nf := 33) (msj := 280) (pcF := 69) (Pj := (fun s => isShelf s 26 8)) (fs' := [some (.ref 1), some (.ref 4), some (.ref 11), some (.ref 18), some (.ref 22), some (.ref 26), some .null, some .null, some .null, some .null]) hX dX6_init_59 dX6_init_60 dX6_init_63 dX6_init_69 gnw_6_36 gfl_6_41 (Or.inr ⟨rfl, rfl, rfl⟩) c5 l5 (loc_shelf (t := 26) (n := 8) (by decide)) (by decide) (by decide) rfl rfl (by decide) (by decide) (k5 _ _ (by decide) (by decide)) (fun s6 m6 c6 => ?_)
  have l6 := LOC.and l5 (loc_shelf (t := 26) (n := 8) (by decide)) (by decide)
  refine s_prt (L := 60) (nf := 9) (msj := 70) (pcF := 81) (Pj := (fun s => isShelf s 60 2)) (fs' := [some (.ref 1), some (.ref 4), some (.ref 11), some (.ref 18), some (.ref 22), some (.ref 26), some (.ref 60), some .null, some .null, some .null]) hX dX6_init_72 dX6_init_73 dX6_init_76 dX6_init_81 gnw_6_36 gfl_6_45 (Or.inr ⟨rfl, rfl, rfl⟩) c6 l6 (loc_shelf (t := 60) (n := 2) (by decide)) (by decide) (by decide) rfl rfl (by decide) (by decide) (k6 _ _ (by decide) (by decide)) (fun s7 m7 c7 => ?_)
  have l7 := LOC.and l6 (loc_shelf (t := 60) (n := 2) (by decide)) (by decide)
  refine s_prt (L := 70) (nf := 4) (msj := 130) (pcF := 92) (Pj := (fun s => isCho s 70)) (fs' := [some (.ref 1), some (.ref 4), some (.ref 11), some (.ref 18), some (.ref 22), some (.ref 26), some (.ref 60), some (.ref 70), some .null, some .null]) hX dX6_init_84 dX6_init_85 dX6_init_88 dX6_init_92 gnw_6_48 gfl_6_51 (Or.inr ⟨rfl, rfl, rfl⟩) c7 l7 (loc_cho (t := 70) (by decide)) (by decide) (by decide) rfl rfl (by decide) (by decide) (k7 _ _ (by decide) (by decide)) (fun s8 m8 c8 => ?_)
  have l8 := LOC.and l7 (loc_cho (t := 70) (by decide)) (by decide)
  refine s_prt (L := 75) (nf := 6) (msj := 44) (pcF := 103) (Pj := (fun s => isWit s 75)) (fs' := [some (.ref 1), some (.ref 4), some (.ref 11), some (.ref 18), some (.ref 22), some (.ref 26), some (.ref 60), some (.ref 70), some (.ref 75), some .null]) hX dX6_init_95 dX6_init_96 dX6_init_99 dX6_init_103 gnw_6_55 gfl_6_58 (Or.inr ⟨rfl, rfl, rfl⟩) c8 l8 (loc_wit (t := 75) (by decide)) (by decide) (by decide) rfl rfl (by decide) (by decide) (k8 _ _ (by decide) (by decide)) (fun s9 m9 c9 => ?_)
  have l9 := LOC.and l8 (loc_wit (t := 75) (by decide)) (by decide)
  obtain ⟨hl9, hg9, h09, ha9, hz9⟩ := c9
  refine s_aload_n (q := 107) hX dX6_init_106 rfl rfl ?_
  refine s_iconst (q := 108) (v := 3) hX dX6_init_107 rfl rfl ?_
  refine s_newI (q := 110) (n := 3) (L := 82) hX dX6_init_108 rfl rfl (by decide) hl9 (by decide) (by decide) hg9 (gokA_i hg9 (by rw [hl9]; exact gal_c (gov (Or.inl (by omega))) rfl) (by rw [hl9]; exact gal_c (gov (Or.inl (by omega))) rfl) (by omega)) (fun s10 m10 hl10 hg10 so10 sa10 mo10 mz10 => ?_)
  refine s_putN (q := 113) (L := 83) (fs' := [some (.ref 1), some (.ref 4), some (.ref 11), some (.ref 18), some (.ref 22), some (.ref 26), some (.ref 60), some (.ref 70), some (.ref 75), some (.ref 82)]) hX dX6_init_110 rfl gfl_6_62 (Or.inr ⟨rfl, rfl, rfl⟩) hl10 hg10 ((so10 0 (by omega)).trans h09) rfl rfl (by omega) (fun s11 hl11 hg11 so11 sa11 => ?_)
  have ha := l9 s9 s11 (fun c h1 h2 => (so11 c (by omega)).trans (so10 c h2)) ha9
  obtain ⟨⟨⟨⟨⟨⟨⟨⟨⟨-, t1⟩, t2⟩, t3⟩, t4⟩, t5⟩, t6⟩, t7⟩, t8⟩, t9⟩ := ha
  have hC : isCls s11 4 := ⟨sa11, Or.inl rfl, t1, ⟨t2, t3⟩, t4, t5, t6, t7, t8, t9, (so11 82 (by omega)).trans sa10⟩
  have zz : ∀ c, c < 83 → m10 c = fun _ => 0 := fun c hc => by
    by_cases e : c = 82
    · subst e; exact mz10
    · exact (mo10 c e).trans (hz9 c (by omega))
  obtain ⟨KC, hKC⟩ : ∃ z, z = (0 : Nat) + 1 + 2 + 1 + 6 + 1 + 6 + 1 + 3 + 1 + 3 + 1 + 33 + 1 + 9 + 1 + 4 + 1 + 6 + 1 := ⟨_, rfl⟩
  obtain ⟨KS, hKS⟩ : ∃ z, z = (0 : Nat) + (gdef 1).length + 204 + (gdef 4).length + 93 + (gdef 4).length + 93 + (gdef 3).length + 30 + (gdef 3).length + 30 + (gdef 2).length + 280 + (gdef 2).length + 70 + (gdef 0).length + 130 + (gdef 5).length + 44 + 3 := ⟨_, rfl⟩
  rw [← hKC, ← hKS]
  have hKC2 : KC = 82 := by rw [hKC]
  have hKS2 : KS = 1027 := by rw [hKS]; rfl
  subst hKC2 hKS2
  obtain ⟨p0, p1, p2⟩ := t1
  have L : ∀ (m i : Nat) (n1 : gM) (tx : Nat → Nat), i + m = 108 → PAP n1 1 tx i → (∀ j, j < i → tx j = tx0 j) → (∀ c, c ≠ 1 → c ≠ 2 → c < 83 → n1 c = fun _ => 0) → X 115 [(0, .ref 0), (1, .int (nI i))] [] s11 n1 82 1027 := by
    intro m
    induction m with
    | zero =>
      intro i n1 tx hi hp ht hf
      have e : i = 108 := by omega
      subst e
      have hp : PAP n1 1 tx0 108 := ⟨hp.1, fun j hj => by rw [← ht j hj]; exact hp.2 j hj⟩
      refine s_iload_n (q := 116) hX dX6_init_115 rfl rfl ?_
      refine hXs.1 116 _ _ _ _ _ _ dX6_init_116 dX6_init_118 (Nat.le_of_ble_eq_true rfl) ⟨by decide, by decide⟩ ?_
      refine s_icmp_ge_t (q := 124) (r := 144) hX dX6_init_121 rfl rfl (Int32.le_refl _) ?_
      refine s_aload_n (q := 145) hX dX6_init_144 rfl rfl ?_
      refine s_getr (q := 148) hX dX6_init_145 rfl gfl_6_10 (by assumption) rfl ?_
      refine s_aload_n (q := 149) hX dX6_init_148 rfl rfl ?_
      refine s_getr (q := 152) hX dX6_init_149 rfl gfl_6_19 (by assumption) rfl ?_
      refine s_invv1_1 (q := 155) hX dX6_init_152 rfl glk_6_82 p0 (Nat.le_of_ble_eq_true rfl) ⟨by decide, by decide⟩ (by omega) (c_firstFault (d := 4) (t := 4) (p := 1) (tx := tx0) (len := 108) (Nat.le_refl _) ⟨p0, p1, p2⟩ hp ⟨by decide, tx0_ok⟩ t2 (by decide) (fun q e M2 hA2 hF2 => ?_) (fun T e hdr M2 hD2 hA2 hF2 => ?_)) 
      · exact (gtx_q e).elim
      · have hw := hD2.1
        rw [gtx_e e] at hw
        have hw := gtx_tw hw
        refine ⟨_, rfl, ?_⟩
        refine s_pop (q := 156) hX dX6_init_155 rfl rfl ?_
        refine s_aload_n (q := 157) hX dX6_init_156 rfl rfl ?_
        refine s_getr (q := 160) hX dX6_init_157 rfl gfl_6_10 (by assumption) rfl ?_
        refine s_iconst (q := 161) (v := 0) hX dX6_init_160 rfl rfl ?_
        refine s_puti (q := 164) hX dX6_init_161 rfl gfl_6_86 (by assumption) rfl ?_
        refine s_aload_n (q := 165) hX dX6_init_164 rfl rfl ?_
        refine s_getr (q := 168) hX dX6_init_165 rfl gfl_6_29 (by assumption) rfl ?_
        refine s_aload_n (q := 169) hX dX6_init_168 rfl rfl ?_
        refine s_getr (q := 172) hX dX6_init_169 rfl gfl_6_19 (by assumption) rfl ?_
        refine s_invv1_0 (q := 175) hX dX6_init_172 rfl glk_6_89 t4.1 (Nat.le_of_ble_eq_true rfl) ⟨by decide, by decide⟩ (by omega) (c_begin (d := 1) (T := gt14) (t := 4) (s := 18) (Nat.le_refl _) t2 (hw.keep (fun c h1 h2 => gsr_n _ _ (by omega))) gt14_dr.1 t4 (by unfold apart; omega) (fun M3 hs3 hf3 => ?_)) 
        refine ⟨rfl, ?_⟩
        refine s_ret hX dX6_init_175 rfl ⟨by decide, by decide, by rw [hL, hl11]; decide, ?_⟩
        refine hcon s11 M3 hl11 hg11 hC ⟨?_, ?_, hs3, ⟨0, ?_⟩, ⟨0, ?_⟩, ?_⟩
        · refine ⟨?_, fun j hj => absurd hj (Nat.not_lt_zero j)⟩
          rw [hf3 1 (by omega), gsr_s, pk_us]
          rfl
        · exact (hw.keep (fun c h1 h2 => gsr_n _ _ (by omega))).keep (fun c h1 h2 => hf3 c (by omega))
        · refine ⟨?_, ?_, by decide, by decide, fun k hk => absurd hk (Nat.not_lt_zero k)⟩
          · rw [hf3 26 (by omega), gsr_n _ _ (by omega), hF2 26 (by omega) (by omega) (by omega), hf 26 (by omega) (by omega) (by omega)]; rfl
          · rw [hf3 26 (by omega), gsr_n _ _ (by omega), hF2 26 (by omega) (by omega) (by omega), hf 26 (by omega) (by omega) (by omega)]; rfl
        · refine ⟨?_, ?_, by decide, by decide, fun k hk => absurd hk (Nat.not_lt_zero k)⟩
          · rw [hf3 60 (by omega), gsr_n _ _ (by omega), hF2 60 (by omega) (by omega) (by omega), hf 60 (by omega) (by omega) (by omega)]; rfl
          · rw [hf3 60 (by omega), gsr_n _ _ (by omega), hF2 60 (by omega) (by omega) (by omega), hf 60 (by omega) (by omega) (by omega)]; rfl
        · refine ⟨?_, fun j hj => absurd hj (Nat.not_lt_zero j)⟩
          rw [hf3 75 (by omega), gsr_n _ _ (by omega), hF2 75 (by omega) (by omega) (by omega), hf 75 (by omega) (by omega) (by omega)]; rfl
    | succ m ih =>
      intro i n1 tx hi hp ht hf
      have h9 := tx0_ok i (by omega)
      refine s_iload_n (q := 116) hX dX6_init_115 rfl rfl ?_
      refine hXs.1 116 _ _ _ _ _ _ dX6_init_116 dX6_init_118 (Nat.le_of_ble_eq_true rfl) ⟨by decide, by decide⟩ ?_
      refine s_icmp_ge_f (q := 124) (r := 144) hX dX6_init_121 rfl rfl (nI_ge (by omega) (by omega)) ?_
      refine s_aload_n (q := 125) hX dX6_init_124 rfl rfl ?_
      refine s_getr (q := 128) hX dX6_init_125 rfl gfl_6_10 sa11 rfl ?_
      refine hXs.2 128 _ _ _ _ _ _ i dX6_init_128 dX6_init_130 dX6_init_131 (Nat.le_of_ble_eq_true rfl) ⟨by decide, by decide⟩ (by omega) rfl ?_
      refine s_invv1_1 (q := 137) hX dX6_init_134 rfl glk_6_78 p0 (Nat.le_of_ble_eq_true rfl) ⟨by decide, by decide⟩ (by omega) (c_padd (d := 0) (c := tx0 i) (p := 1) (tx := tx) (len := i) ⟨p0, p1, p2⟩ hp ⟨by omega, fun j hj => by rw [ht j hj]; exact tx0_ok j (by omega)⟩ (fun q => ?_) (fun _ M2 hA2 hF2 => ?_)) 
      · omega
      · refine ⟨_, rfl, ?_⟩
        refine s_pop (q := 138) hX dX6_init_137 rfl rfl ?_
        refine s_iinc (q := 141) (v := nI (i + 1)) (lv' := [(0, _), (1, _)]) hX dX6_init_138 rfl rfl (nI_add (i) 1) (Nat.le_of_ble_eq_true rfl) rfl ?_
        refine s_goto (q := 115) hX dX6_init_141 rfl ?_
        refine ih (i + 1) M2 _ (by omega) hA2 (fun j hj => ?_) (fun c z1 z2 z3 => (hF2 c z1 z2).trans (hf c z1 z2 z3))
        show (if j = i then tx0 i else tx j) = tx0 j
        by_cases e : j = i
        · rw [if_pos e, e]
        · rw [if_neg e]; exact ht j (by omega)
  refine s_iconst (q := 114) (v := 0) hX dX6_init_113 rfl rfl ?_
  refine s_istore_n (q := 115) (lv' := [(0, _), (1, _)]) hX dX6_init_114 rfl (Nat.le_of_ble_eq_true rfl) rfl ?_
  exact L 108 0 m10 (fun _ => 0) (by omega) ⟨by rw [zz 1 (by omega)]; rfl, fun j hj => absurd hj (Nat.not_lt_zero j)⟩ (fun j hj => absurd hj (Nat.not_lt_zero j)) (fun c _ _ hc => zz c hc)
