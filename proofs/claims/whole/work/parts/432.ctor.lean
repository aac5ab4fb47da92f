theorem sP_dr {T : gT} {v : Nat → Nat} (h : T.dr) (hc : T.P < 6 ∧ v 0 ≤ 4 ∧ v 1 ≤ 9 ∧ v 2 ≤ 9 ∧ v 3 ≤ 9) : (T.sP v).dr := gT.tk_dr (c := 112) (v := v) h (by unfold gT.tk gT.tkP; rw [if_pos rfl, if_pos hc]; rfl)
theorem sD_dr {T : gT} {v : Nat → Nat} (h : T.dr) (hc : T.D < 6 ∧ v 0 ≤ 4 ∧ v 1 ≤ 4 ∧ v 2 ≤ 4 ∧ v 3 ≤ 9 ∧ 1 ≤ v 0 + v 1 + v 2) : (T.sD v).dr := gT.tk_dr (c := 100) (v := v) h (by unfold gT.tk gT.tkD; rw [if_neg (by decide), if_pos rfl, if_pos hc]; rfl)
theorem sH_dr {T : gT} {v : Nat → Nat} (h : T.dr) (hc : v 0 < T.P ∧ v 1 < 7 ∧ v 2 < T.D) : (T.sH v).dr := gT.tk_dr (c := 104) (v := v) h (by unfold gT.tk gT.tkH; rw [if_neg (by decide), if_neg (by decide), if_pos rfl, if_pos hc]; rfl)
theorem sC_dr {T : gT} {x : Nat} (h : T.dr) (hc : x ≤ 9) : (T.sC x).dr := gT.tk_dr (c := 99) (v := fun _ => x) h (by unfold gT.tk gT.tkC; rw [if_neg (by decide), if_neg (by decide), if_neg (by decide), if_pos rfl, if_pos hc]; rfl)
def gt0 : gT := (0, 0, 0, fun _ => 0, fun _ => 0, fun _ => 0, fun _ => 0, fun _ => -4)
theorem gt0_dr : gt0.dr := ⟨⟨by decide, by decide, by decide, (fun i hi => by cases hi), (fun j hj => by cases hj), (fun j hj => by cases hj), (fun k hk => by cases hk), (fun j hj => by cases hj)⟩, fun _ _ _ => rfl⟩
def gt1 : gT := gt0.sP (w4 0 3 2 4)
theorem gt1_dr : gt1.dr := sP_dr gt0_dr (by decide)
def gt2 : gT := gt1.sP (w4 1 4 1 2)
theorem gt2_dr : gt2.dr := sP_dr gt1_dr (by decide)
def gt3 : gT := gt2.sP (w4 2 2 2 6)
theorem gt3_dr : gt3.dr := sP_dr gt2_dr (by decide)
def gt4 : gT := gt3.sP (w4 3 1 5 0)
theorem gt4_dr : gt4.dr := sP_dr gt3_dr (by decide)
def gt5 : gT := gt4.sD (w4 1 0 0 2)
theorem gt5_dr : gt5.dr := sD_dr gt4_dr (by decide)
def gt6 : gT := gt5.sD (w4 0 1 1 3)
theorem gt6_dr : gt6.dr := sD_dr gt5_dr (by decide)
def gt7 : gT := gt6.sD (w4 2 0 1 5)
theorem gt7_dr : gt7.dr := sD_dr gt6_dr (by decide)
def gt8 : gT := gt7.sH (w3 0 0 2)
theorem gt8_dr : gt8.dr := sH_dr gt7_dr (by decide)
def gt9 : gT := gt8.sH (w3 0 2 1)
theorem gt9_dr : gt9.dr := sH_dr gt8_dr (by decide)
def gt10 : gT := gt9.sH (w3 1 1 0)
theorem gt10_dr : gt10.dr := sH_dr gt9_dr (by decide)
def gt11 : gT := gt10.sH (w3 2 0 1)
theorem gt11_dr : gt11.dr := sH_dr gt10_dr (by decide)
def gt12 : gT := gt11.sH (w3 2 3 1)
theorem gt12_dr : gt12.dr := sH_dr gt11_dr (by decide)
def gt13 : gT := gt12.sH (w3 3 4 1)
theorem gt13_dr : gt13.dr := sH_dr gt12_dr (by decide)
def gt14 : gT := gt13.sC (2)
theorem gt14_dr : gt14.dr := sC_dr gt13_dr (by decide)
/-- the state at first -/
def gS0 : gA := (gt14, gt14.U0, (0, fun _ => gt14.U0), (0, fun _ => gt14.U0), (0, fun _ => 0, fun _ => 0, fun _ => 0), (0, fun _ => 0))
theorem U0_ok9 (T : gT) (h : T.ok) : T.U0.ok T.P ∧ T.U0.d ≤ 0 := by
  refine ⟨⟨fun j hj => ?_, Nat.zero_le _⟩, Nat.le_refl _⟩
  show T.ra j ≤ 99
  have := h.2.2.2.2.1 j hj
  omega
theorem gS0_ok : gS0.ok 0 := by
  have a1 : gt14.ok := gt14_dr.1
  have a2 : 0 < gt14.P := by decide
  have a3 : gt14.U0.ok gt14.P ∧ gt14.U0.d ≤ 0 := U0_ok9 gt14 a1
  have a4 : (0 : Nat) ≤ 8 ∧ ∀ k, k < 0 → ((fun _ => gt14.U0 : Nat → gU) k).ok gt14.P ∧ ((fun _ => gt14.U0 : Nat → gU) k).d ≤ 0 := ⟨by decide, fun k hk => absurd hk (Nat.not_lt_zero k)⟩
  have a5 : (0 : Nat) ≤ 2 ∧ ∀ k, k < 0 → ((fun _ => gt14.U0 : Nat → gU) k).ok gt14.P ∧ ((fun _ => gt14.U0 : Nat → gU) k).d ≤ 0 := ⟨by decide, fun k hk => absurd hk (Nat.not_lt_zero k)⟩
  have a6 : gN.ok (0, fun _ => 0, fun _ => 0, fun _ => 0) := ⟨Nat.zero_le _, fun j hj => absurd hj (Nat.not_lt_zero j)⟩
  have a7 : txok (fun _ => 0) 0 := ⟨Nat.zero_le _, fun j hj => absurd hj (Nat.not_lt_zero j)⟩
  exact ⟨a1, a2, a3, a4, a5, a6, a7⟩
set_option maxHeartbeats 4000000 in
set_option maxRecDepth 100000 in
theorem n_model {d : Nat} {sh : List gS} {M : gM} {Q : Option Value → List gS → gM → Prop} (hd : 2 ≤ d) (hL : sh.length = 84) (hG : gOK sh) (h0 : sh[83]? = some (.inl (7, gdef 7))) (hz : M 83 = fun _ => 0) (hcon : ∀ sh' M', sh'.length = 99 → (∀ c, c < 83 → sh'[c]? = sh[c]?) → isMod sh' → MOD M' gS0 → (∀ c, c < 83 → M' c = M c) → Q none sh' M') : gC mX7_init d 15 788 [.ref 83] sh M Q := by
  have hS0 : CS sh M 83 7 84 [some .null, none, some .null, some .null, some .null, some .null, some .null, some .null, some .null, some .null, none, none, some .null, none, none, some .null, some .null, none, none, some .null, some .null, some .null, none] [] sh M := CS.i hL hG h0
  refine gC_of (rt := 0) (ini := true) gm_X7_init rfl (by decide) (Nat.le_of_ble_eq_true rfl) (fun X hX => ?_)
  refine s_aload_n (q := 1) hX dX7_init_0 rfl rfl ?_
  refine s_oinit (q := 4) hX dX7_init_1 rfl glk_7_1 (Nat.le_of_ble_eq_true rfl) (by omega) ?_
  refine s_aload_n (q := 5) hX dX7_init_4 rfl rfl ?_
  refine s_sipush (q := 8) (v := 200) hX dX7_init_5 rfl rfl (by decide) ?_
  refine s_mkB (q := 13) (n := 200) (L := 84) (szs := []) (fs' := [some (.ref (84)), none, some .null, some .null, some .null, some .null, some .null, some .null, some .null, some .null, none, none, some .null, none, none, some .null, some .null, none, none, some .null, some .null, some .null, none]) hX dX7_init_8 dX7_init_10 rfl rfl (by decide) gfl_7_7 (Or.inr ⟨rfl, rfl, rfl⟩) hS0 (by decide) (by show 84 + 0 < 900000; omega) rfl rfl (by omega) (by omega) (fun s1 m1 hS1 => ?_)
  refine s_aload_n (q := 14) hX dX7_init_13 rfl rfl ?_
  refine s_iconst (q := 15) (v := 2) hX dX7_init_14 rfl rfl ?_
  refine s_mkI (q := 20) (n := 2) (L := 84) (szs := [(1, 200)]) (fs' := [some (.ref (84)), none, some (.ref (85)), some .null, some .null, some .null, some .null, some .null, some .null, some .null, none, none, some .null, none, none, some .null, some .null, none, none, some .null, some .null, some .null, none]) hX dX7_init_15 dX7_init_17 rfl rfl (by decide) gfl_7_13 (Or.inr ⟨rfl, rfl, rfl⟩) hS1 (by decide) (by show 84 + 1 < 900000; omega) rfl rfl (by omega) (by omega) (fun s2 m2 hS2 => ?_)
  refine s_aload_n (q := 21) hX dX7_init_20 rfl rfl ?_
  refine s_bipush (q := 23) (v := 12) hX dX7_init_21 rfl rfl (by decide) ?_
  refine s_mkI (q := 28) (n := 12) (L := 84) (szs := [(1, 200), (0, 2)]) (fs' := [some (.ref (84)), none, some (.ref (85)), some (.ref (86)), some .null, some .null, some .null, some .null, some .null, some .null, none, none, some .null, none, none, some .null, some .null, none, none, some .null, some .null, some .null, none]) hX dX7_init_23 dX7_init_25 rfl rfl (by decide) gfl_7_17 (Or.inr ⟨rfl, rfl, rfl⟩) hS2 (by decide) (by show 84 + 2 < 900000; omega) rfl rfl (by omega) (by omega) (fun s3 m3 hS3 => ?_)
  refine s_aload_n (q := 29) hX dX7_init_28 rfl rfl ?_
  refine s_bipush (q := 31) (v := 36) hX dX7_init_29 rfl rfl (by decide) ?_
  refine s_mkI (q := 36) (n := 36) (L := 84) (szs := [(1, 200), (0, 2), (0, 12)]) (fs' := [some (.ref (84)), none, some (.ref (85)), some (.ref (86)), some (.ref (87)), some .null, some .null, some .null, some .null, some .null, none, none, some .null, none, none, some .null, some .null, none, none, some .null, some .null, some .null, none]) hX dX7_init_31 dX7_init_33 rfl rfl (by decide) gfl_7_20 (Or.inr ⟨rfl, rfl, rfl⟩) hS3 (by decide) (by show 84 + 3 < 900000; omega) rfl rfl (by omega) (by omega) (fun s4 m4 hS4 => ?_)
  refine s_aload_n (q := 37) hX dX7_init_36 rfl rfl ?_
  refine s_iconst (q := 38) (v := 2) hX dX7_init_37 rfl rfl ?_
  refine s_mkI (q := 43) (n := 2) (L := 84) (szs := [(1, 200), (0, 2), (0, 12), (0, 36)]) (fs' := [some (.ref (84)), none, some (.ref (85)), some (.ref (86)), some (.ref (87)), some (.ref (88)), some .null, some .null, some .null, some .null, none, none, some .null, none, none, some .null, some .null, none, none, some .null, some .null, some .null, none]) hX dX7_init_38 dX7_init_40 rfl rfl (by decide) gfl_7_23 (Or.inr ⟨rfl, rfl, rfl⟩) hS4 (by decide) (by show 84 + 4 < 900000; omega) rfl rfl (by omega) (by omega) (fun s5 m5 hS5 => ?_)
  refine s_aload_n (q := 44) hX dX7_init_43 rfl rfl ?_
  refine s_bipush (q := 46) (v := 36) hX dX7_init_44 rfl rfl (by decide) ?_
  refine s_mkI (q := 51) (n := 36) (L := 84) (szs := [(1, 200), (0, 2), (0, 12), (0, 36), (0, 2)]) (fs' := [some (.ref (84)), none, some (.ref (85)), some (.ref (86)), some (.ref (87)), some (.ref (88)), some (.ref (89)), some .null, some .null, some .null, none, none, some .null, none, none, some .null, some .null, none, none, some .null, some .null, some .null, none]) hX dX7_init_46 dX7_init_48 rfl rfl (by decide) gfl_7_26 (Or.inr ⟨rfl, rfl, rfl⟩) hS5 (by decide) (by show 84 + 5 < 900000; omega) rfl rfl (by omega) (by omega) (fun s6 m6 hS6 => ?_)
  refine s_aload_n (q := 52) hX dX7_init_51 rfl rfl ?_
  refine s_bipush (q := 54) (v := 12) hX dX7_init_52 rfl rfl (by decide) ?_
  refine s_mkI (q := 59) (n := 12) (L := 84) (szs := [(1, 200), (0, 2), (0, 12), (0, 36), (0, 2), (0, 36)]) (fs' := [some (.ref (84)), none, some (.ref (85)), some (.ref (86)), some (.ref (87)), some (.ref (88)), some (.ref (89)), some (.ref (90)), some .null, some .null, none, none, some .null, none, none, some .null, some .null, none, none, some .null, some .null, some .null, none]) hX dX7_init_54 dX7_init_56 rfl rfl (by decide) gfl_7_29 (Or.inr ⟨rfl, rfl, rfl⟩) hS6 (by decide) (by show 84 + 6 < 900000; omega) rfl rfl (by omega) (by omega) (fun s7 m7 hS7 => ?_)
  refine s_aload_n (q := 60) hX dX7_init_59 rfl rfl ?_
  refine s_bipush (q := 62) (v := 84) hX dX7_init_60 rfl rfl (by decide) ?_
  refine s_mkI (q := 67) (n := 84) (L := 84) (szs := [(1, 200), (0, 2), (0, 12), (0, 36), (0, 2), (0, 36), (0, 12)]) (fs' := [some (.ref (84)), none, some (.ref (85)), some (.ref (86)), some (.ref (87)), some (.ref (88)), some (.ref (89)), some (.ref (90)), some (.ref (91)), some .null, none, none, some .null, none, none, some .null, some .null, none, none, some .null, some .null, some .null, none]) hX dX7_init_62 dX7_init_64 rfl rfl (by decide) gfl_7_32 (Or.inr ⟨rfl, rfl, rfl⟩) hS7 (by decide) (by show 84 + 7 < 900000; omega) rfl rfl (by omega) (by omega) (fun s8 m8 hS8 => ?_)
  refine s_aload_n (q := 68) hX dX7_init_67 rfl rfl ?_
  refine s_iconst (q := 69) (v := 2) hX dX7_init_68 rfl rfl ?_
  refine s_mkI (q := 74) (n := 2) (L := 84) (szs := [(1, 200), (0, 2), (0, 12), (0, 36), (0, 2), (0, 36), (0, 12), (0, 84)]) (fs' := [some (.ref (84)), none, some (.ref (85)), some (.ref (86)), some (.ref (87)), some (.ref (88)), some (.ref (89)), some (.ref (90)), some (.ref (91)), some (.ref (92)), none, none, some .null, none, none, some .null, some .null, none, none, some .null, some .null, some .null, none]) hX dX7_init_69 dX7_init_71 rfl rfl (by decide) gfl_7_35 (Or.inr ⟨rfl, rfl, rfl⟩) hS8 (by decide) (by show 84 + 8 < 900000; omega) rfl rfl (by omega) (by omega) (fun s9 m9 hS9 => ?_)
  refine s_aload_n (q := 75) hX dX7_init_74 rfl rfl ?_
  refine s_sipush (q := 78) (v := 372) hX dX7_init_75 rfl rfl (by decide) ?_
  refine s_mkI (q := 83) (n := 372) (L := 84) (szs := [(1, 200), (0, 2), (0, 12), (0, 36), (0, 2), (0, 36), (0, 12), (0, 84), (0, 2)]) (fs' := [some (.ref (84)), none, some (.ref (85)), some (.ref (86)), some (.ref (87)), some (.ref (88)), some (.ref (89)), some (.ref (90)), some (.ref (91)), some (.ref (92)), none, none, some (.ref (93)), none, none, some .null, some .null, none, none, some .null, some .null, some .null, none]) hX dX7_init_78 dX7_init_80 rfl rfl (by decide) gfl_7_38 (Or.inr ⟨rfl, rfl, rfl⟩) hS9 (by decide) (by show 84 + 9 < 900000; omega) rfl rfl (by omega) (by omega) (fun s10 m10 hS10 => ?_)
  refine s_aload_n (q := 84) hX dX7_init_83 rfl rfl ?_
  refine s_iconst (q := 85) (v := 3) hX dX7_init_84 rfl rfl ?_
  refine s_mkI (q := 90) (n := 3) (L := 84) (szs := [(1, 200), (0, 2), (0, 12), (0, 36), (0, 2), (0, 36), (0, 12), (0, 84), (0, 2), (0, 372)]) (fs' := [some (.ref (84)), none, some (.ref (85)), some (.ref (86)), some (.ref (87)), some (.ref (88)), some (.ref (89)), some (.ref (90)), some (.ref (91)), some (.ref (92)), none, none, some (.ref (93)), none, none, some (.ref (94)), some .null, none, none, some .null, some .null, some .null, none]) hX dX7_init_85 dX7_init_87 rfl rfl (by decide) gfl_7_41 (Or.inr ⟨rfl, rfl, rfl⟩) hS10 (by decide) (by show 84 + 10 < 900000; omega) rfl rfl (by omega) (by omega) (fun s11 m11 hS11 => ?_)
  refine s_aload_n (q := 91) hX dX7_init_90 rfl rfl ?_
  refine s_bipush (q := 93) (v := 6) hX dX7_init_91 rfl rfl (by decide) ?_
  refine s_mkI (q := 98) (n := 6) (L := 84) (szs := [(1, 200), (0, 2), (0, 12), (0, 36), (0, 2), (0, 36), (0, 12), (0, 84), (0, 2), (0, 372), (0, 3)]) (fs' := [some (.ref (84)), none, some (.ref (85)), some (.ref (86)), some (.ref (87)), some (.ref (88)), some (.ref (89)), some (.ref (90)), some (.ref (91)), some (.ref (92)), none, none, some (.ref (93)), none, none, some (.ref (94)), some (.ref (95)), none, none, some .null, some .null, some .null, none]) hX dX7_init_93 dX7_init_95 rfl rfl (by decide) gfl_7_44 (Or.inr ⟨rfl, rfl, rfl⟩) hS11 (by decide) (by show 84 + 11 < 900000; omega) rfl rfl (by omega) (by omega) (fun s12 m12 hS12 => ?_)
  refine s_aload_n (q := 99) hX dX7_init_98 rfl rfl ?_
  refine s_bipush (q := 101) (v := 7) hX dX7_init_99 rfl rfl (by decide) ?_
  refine s_mkI (q := 106) (n := 7) (L := 84) (szs := [(1, 200), (0, 2), (0, 12), (0, 36), (0, 2), (0, 36), (0, 12), (0, 84), (0, 2), (0, 372), (0, 3), (0, 6)]) (fs' := [some (.ref (84)), none, some (.ref (85)), some (.ref (86)), some (.ref (87)), some (.ref (88)), some (.ref (89)), some (.ref (90)), some (.ref (91)), some (.ref (92)), none, none, some (.ref (93)), none, none, some (.ref (94)), some (.ref (95)), none, none, some (.ref (96)), some .null, some .null, none]) hX dX7_init_101 dX7_init_103 rfl rfl (by decide) gfl_7_47 (Or.inr ⟨rfl, rfl, rfl⟩) hS12 (by decide) (by show 84 + 12 < 900000; omega) rfl rfl (by omega) (by omega) (fun s13 m13 hS13 => ?_)
  refine s_aload_n (q := 107) hX dX7_init_106 rfl rfl ?_
  refine s_bipush (q := 109) (v := 7) hX dX7_init_107 rfl rfl (by decide) ?_
  refine s_mkI (q := 114) (n := 7) (L := 84) (szs := [(1, 200), (0, 2), (0, 12), (0, 36), (0, 2), (0, 36), (0, 12), (0, 84), (0, 2), (0, 372), (0, 3), (0, 6), (0, 7)]) (fs' := [some (.ref (84)), none, some (.ref (85)), some (.ref (86)), some (.ref (87)), some (.ref (88)), some (.ref (89)), some (.ref (90)), some (.ref (91)), some (.ref (92)), none, none, some (.ref (93)), none, none, some (.ref (94)), some (.ref (95)), none, none, some (.ref (96)), some (.ref (97)), some .null, none]) hX dX7_init_109 dX7_init_111 rfl rfl (by decide) gfl_7_50 (Or.inr ⟨rfl, rfl, rfl⟩) hS13 (by decide) (by show 84 + 13 < 900000; omega) rfl rfl (by omega) (by omega) (fun s14 m14 hS14 => ?_)
  refine s_aload_n (q := 115) hX dX7_init_114 rfl rfl ?_
  refine s_bipush (q := 117) (v := 7) hX dX7_init_115 rfl rfl (by decide) ?_
  refine s_mkI (q := 122) (n := 7) (L := 84) (szs := [(1, 200), (0, 2), (0, 12), (0, 36), (0, 2), (0, 36), (0, 12), (0, 84), (0, 2), (0, 372), (0, 3), (0, 6), (0, 7), (0, 7)]) (fs' := [some (.ref (84)), none, some (.ref (85)), some (.ref (86)), some (.ref (87)), some (.ref (88)), some (.ref (89)), some (.ref (90)), some (.ref (91)), some (.ref (92)), none, none, some (.ref (93)), none, none, some (.ref (94)), some (.ref (95)), none, none, some (.ref (96)), some (.ref (97)), some (.ref (98)), none]) hX dX7_init_117 dX7_init_119 rfl rfl (by decide) gfl_7_53 (Or.inr ⟨rfl, rfl, rfl⟩) hS14 (by decide) (by show 84 + 14 < 900000; omega) rfl rfl (by omega) (by omega) (fun s15 m15 hS15 => ?_)
  obtain ⟨⟨hl9, hg9⟩, ⟨so9, f83, ff⟩, mo9, mz9⟩ := hS15
  have hC0 : isMod s15 := ⟨f83, ff 0 _ rfl, ff 1 _ rfl, ff 2 _ rfl, ff 3 _ rfl, ff 4 _ rfl, ff 5 _ rfl, ff 6 _ rfl, ff 7 _ rfl, ff 8 _ rfl, ff 9 _ rfl, ff 10 _ rfl, ff 11 _ rfl, ff 12 _ rfl, ff 13 _ rfl, ff 14 _ rfl⟩
  have y := hC0
  obtain ⟨y0, y1, y2, y3, y4, y5, y6, y7, y8, y9, y10, y11, y12, y13, y14, y15⟩ := y
  have z83 : m15 83 = fun _ => 0 := (mo9 83 (by omega)).trans hz
  have zz : ∀ c, 84 ≤ c → c < 99 → m15 c = fun _ => 0 := mz9
  have x0 : TWX m15 gt0 := ⟨by rw [zz 85 (by omega) (by omega)]; rfl, by rw [zz 88 (by omega) (by omega)]; rfl, by rw [zz 92 (by omega) (by omega)]; rfl, (fun i hi => by cases hi), (fun j hj => by cases hj), (fun j hj => by cases hj), (fun k hk => by cases hk), (fun j hj => by cases hj)⟩
  refine s_aload_n (q := 123) hX dX7_init_122 rfl rfl ?_
  refine s_iconst (q := 124) (v := 0) hX dX7_init_123 rfl rfl ?_
  refine s_iconst (q := 125) (v := 3) hX dX7_init_124 rfl rfl ?_
  refine s_iconst (q := 126) (v := 2) hX dX7_init_125 rfl rfl ?_
  refine s_iconst (q := 127) (v := 4) hX dX7_init_126 rfl rfl ?_
  refine s_invv4_0 (q := 130) hX dX7_init_127 rfl glk_7_56 (by assumption) (Nat.le_of_ble_eq_true rfl) ⟨by omega, by omega⟩ (by omega) (m_firstPerson (d := 0) (T := gt0) (v := w4 0 3 2 4) hC0 x0 gt0_dr (by decide) (by decide) (by decide) (by decide) (by decide) (fun n1 x1 f1 e1 => ?_)) 
  refine ⟨rfl, ?_⟩
  refine s_aload_n (q := 131) hX dX7_init_130 rfl rfl ?_
  refine s_iconst (q := 132) (v := 1) hX dX7_init_131 rfl rfl ?_
  refine s_iconst (q := 133) (v := 4) hX dX7_init_132 rfl rfl ?_
  refine s_iconst (q := 134) (v := 1) hX dX7_init_133 rfl rfl ?_
  refine s_iconst (q := 135) (v := 2) hX dX7_init_134 rfl rfl ?_
  refine s_invv4_0 (q := 138) hX dX7_init_135 rfl glk_7_56 (by assumption) (Nat.le_of_ble_eq_true rfl) ⟨by omega, by omega⟩ (by omega) (m_firstPerson (d := 0) (T := gt1) (v := w4 1 4 1 2) hC0 x1 gt1_dr (by decide) (by decide) (by decide) (by decide) (by decide) (fun n2 x2 f2 e2 => ?_)) 
  refine ⟨rfl, ?_⟩
  refine s_aload_n (q := 139) hX dX7_init_138 rfl rfl ?_
  refine s_iconst (q := 140) (v := 2) hX dX7_init_139 rfl rfl ?_
  refine s_iconst (q := 141) (v := 2) hX dX7_init_140 rfl rfl ?_
  refine s_iconst (q := 142) (v := 2) hX dX7_init_141 rfl rfl ?_
  refine s_bipush (q := 144) (v := 6) hX dX7_init_142 rfl rfl (by decide) ?_
  refine s_invv4_0 (q := 147) hX dX7_init_144 rfl glk_7_56 (by assumption) (Nat.le_of_ble_eq_true rfl) ⟨by omega, by omega⟩ (by omega) (m_firstPerson (d := 0) (T := gt2) (v := w4 2 2 2 6) hC0 x2 gt2_dr (by decide) (by decide) (by decide) (by decide) (by decide) (fun n3 x3 f3 e3 => ?_)) 
  refine ⟨rfl, ?_⟩
  refine s_aload_n (q := 148) hX dX7_init_147 rfl rfl ?_
  refine s_iconst (q := 149) (v := 3) hX dX7_init_148 rfl rfl ?_
  refine s_iconst (q := 150) (v := 1) hX dX7_init_149 rfl rfl ?_
  refine s_iconst (q := 151) (v := 5) hX dX7_init_150 rfl rfl ?_
  refine s_iconst (q := 152) (v := 0) hX dX7_init_151 rfl rfl ?_
  refine s_invv4_0 (q := 155) hX dX7_init_152 rfl glk_7_56 (by assumption) (Nat.le_of_ble_eq_true rfl) ⟨by omega, by omega⟩ (by omega) (m_firstPerson (d := 0) (T := gt3) (v := w4 3 1 5 0) hC0 x3 gt3_dr (by decide) (by decide) (by decide) (by decide) (by decide) (fun n4 x4 f4 e4 => ?_)) 
  refine ⟨rfl, ?_⟩
  refine s_aload_n (q := 156) hX dX7_init_155 rfl rfl ?_
  refine s_iconst (q := 157) (v := 1) hX dX7_init_156 rfl rfl ?_
  refine s_iconst (q := 158) (v := 0) hX dX7_init_157 rfl rfl ?_
  refine s_iconst (q := 159) (v := 0) hX dX7_init_158 rfl rfl ?_
  refine s_iconst (q := 160) (v := 2) hX dX7_init_159 rfl rfl ?_
  refine s_invv4_0 (q := 163) hX dX7_init_160 rfl glk_7_60 (by assumption) (Nat.le_of_ble_eq_true rfl) ⟨by omega, by omega⟩ (by omega) (m_firstDeed (d := 0) (T := gt4) (v := w4 1 0 0 2) hC0 x4 (by decide) (by decide) (by decide) (by decide) (by decide) (by decide) (fun n5 x5 f5 e5 => ?_)) 
  refine ⟨rfl, ?_⟩
  refine s_aload_n (q := 164) hX dX7_init_163 rfl rfl ?_
  refine s_iconst (q := 165) (v := 0) hX dX7_init_164 rfl rfl ?_
  refine s_iconst (q := 166) (v := 1) hX dX7_init_165 rfl rfl ?_
  refine s_iconst (q := 167) (v := 1) hX dX7_init_166 rfl rfl ?_
  refine s_iconst (q := 168) (v := 3) hX dX7_init_167 rfl rfl ?_
  refine s_invv4_0 (q := 171) hX dX7_init_168 rfl glk_7_60 (by assumption) (Nat.le_of_ble_eq_true rfl) ⟨by omega, by omega⟩ (by omega) (m_firstDeed (d := 0) (T := gt5) (v := w4 0 1 1 3) hC0 x5 (by decide) (by decide) (by decide) (by decide) (by decide) (by decide) (fun n6 x6 f6 e6 => ?_)) 
  refine ⟨rfl, ?_⟩
  refine s_aload_n (q := 172) hX dX7_init_171 rfl rfl ?_
  refine s_iconst (q := 173) (v := 2) hX dX7_init_172 rfl rfl ?_
  refine s_iconst (q := 174) (v := 0) hX dX7_init_173 rfl rfl ?_
  refine s_iconst (q := 175) (v := 1) hX dX7_init_174 rfl rfl ?_
  refine s_iconst (q := 176) (v := 5) hX dX7_init_175 rfl rfl ?_
  refine s_invv4_0 (q := 179) hX dX7_init_176 rfl glk_7_60 (by assumption) (Nat.le_of_ble_eq_true rfl) ⟨by omega, by omega⟩ (by omega) (m_firstDeed (d := 0) (T := gt6) (v := w4 2 0 1 5) hC0 x6 (by decide) (by decide) (by decide) (by decide) (by decide) (by decide) (fun n7 x7 f7 e7 => ?_)) 
  refine ⟨rfl, ?_⟩
  refine s_aload_n (q := 180) hX dX7_init_179 rfl rfl ?_
  refine s_getr (q := 183) hX dX7_init_180 rfl gfl_7_32 (by assumption) rfl ?_
  refine s_bipush (q := 185) (v := 42) hX dX7_init_183 rfl rfl (by decide) ?_
  refine s_iconst (q := 186) (v := 2) hX dX7_init_185 rfl rfl ?_
  refine s_iast (k := 42) (q := 187) hX dX7_init_186 rfl (by assumption) rfl (by omega) (by omega) ?_
  refine s_aload_n (q := 188) hX dX7_init_187 rfl rfl ?_
  refine s_getr (q := 191) hX dX7_init_188 rfl gfl_7_32 (by assumption) rfl ?_
  refine s_bipush (q := 193) (v := 44) hX dX7_init_191 rfl rfl (by decide) ?_
  refine s_iconst (q := 194) (v := 1) hX dX7_init_193 rfl rfl ?_
  refine s_iast (k := 44) (q := 195) hX dX7_init_194 rfl (by assumption) rfl (by omega) (by omega) ?_
  refine s_aload_n (q := 196) hX dX7_init_195 rfl rfl ?_
  refine s_getr (q := 199) hX dX7_init_196 rfl gfl_7_32 (by assumption) rfl ?_
  refine s_bipush (q := 201) (v := 50) hX dX7_init_199 rfl rfl (by decide) ?_
  refine s_iconst (q := 202) (v := 0) hX dX7_init_201 rfl rfl ?_
  refine s_iast (k := 50) (q := 203) hX dX7_init_202 rfl (by assumption) rfl (by omega) (by omega) ?_
  refine s_aload_n (q := 204) hX dX7_init_203 rfl rfl ?_
  refine s_getr (q := 207) hX dX7_init_204 rfl gfl_7_32 (by assumption) rfl ?_
  refine s_bipush (q := 209) (v := 56) hX dX7_init_207 rfl rfl (by decide) ?_
  refine s_iconst (q := 210) (v := 1) hX dX7_init_209 rfl rfl ?_
  refine s_iast (k := 56) (q := 211) hX dX7_init_210 rfl (by assumption) rfl (by omega) (by omega) ?_
  refine s_aload_n (q := 212) hX dX7_init_211 rfl rfl ?_
  refine s_getr (q := 215) hX dX7_init_212 rfl gfl_7_32 (by assumption) rfl ?_
  refine s_bipush (q := 217) (v := 59) hX dX7_init_215 rfl rfl (by decide) ?_
  refine s_iconst (q := 218) (v := 1) hX dX7_init_217 rfl rfl ?_
  refine s_iast (k := 59) (q := 219) hX dX7_init_218 rfl (by assumption) rfl (by omega) (by omega) ?_
  refine s_aload_n (q := 220) hX dX7_init_219 rfl rfl ?_
  refine s_getr (q := 223) hX dX7_init_220 rfl gfl_7_32 (by assumption) rfl ?_
  refine s_bipush (q := 225) (v := 67) hX dX7_init_223 rfl rfl (by decide) ?_
  refine s_iconst (q := 226) (v := 1) hX dX7_init_225 rfl rfl ?_
  refine s_iast (k := 67) (q := 227) hX dX7_init_226 rfl (by assumption) rfl (by omega) (by omega) ?_
  refine s_aload_n (q := 228) hX dX7_init_227 rfl rfl ?_
  refine s_getr (q := 231) hX dX7_init_228 rfl gfl_7_35 (by assumption) rfl ?_
  refine s_iconst (q := 232) (v := 1) hX dX7_init_231 rfl rfl ?_
  refine s_iconst (q := 233) (v := 2) hX dX7_init_232 rfl rfl ?_
  refine s_iast (k := 1) (q := 234) hX dX7_init_233 rfl (by assumption) rfl (by omega) (by omega) ?_
  have x7 : TWX n7 gt7 := x7
  have x8 := TWX.sh (v := w3 0 0 2) x7 (by decide) (by decide)
  rw [show 7 * (6 + (w3 0 0 2) 0) + (w3 0 0 2) 1 = 42 from rfl, show nI ((w3 0 0 2) 2) = 2 from rfl] at x8
  have x9 := TWX.sh (v := w3 0 2 1) x8 (by decide) (by decide)
  rw [show 7 * (6 + (w3 0 2 1) 0) + (w3 0 2 1) 1 = 44 from rfl, show nI ((w3 0 2 1) 2) = 1 from rfl] at x9
  have x10 := TWX.sh (v := w3 1 1 0) x9 (by decide) (by decide)
  rw [show 7 * (6 + (w3 1 1 0) 0) + (w3 1 1 0) 1 = 50 from rfl, show nI ((w3 1 1 0) 2) = 0 from rfl] at x10
  have x11 := TWX.sh (v := w3 2 0 1) x10 (by decide) (by decide)
  rw [show 7 * (6 + (w3 2 0 1) 0) + (w3 2 0 1) 1 = 56 from rfl, show nI ((w3 2 0 1) 2) = 1 from rfl] at x11
  have x12 := TWX.sh (v := w3 2 3 1) x11 (by decide) (by decide)
  rw [show 7 * (6 + (w3 2 3 1) 0) + (w3 2 3 1) 1 = 59 from rfl, show nI ((w3 2 3 1) 2) = 1 from rfl] at x12
  have x13 := TWX.sh (v := w3 3 4 1) x12 (by decide) (by decide)
  rw [show 7 * (6 + (w3 3 4 1) 0) + (w3 3 4 1) 1 = 67 from rfl, show nI ((w3 3 4 1) 2) = 1 from rfl] at x13
  have x14 := TWX.sc (x := 2) x13
  rw [show nI 2 = 2 from rfl] at x14
  refine s_aload_n (q := 235) hX dX7_init_234 rfl rfl ?_
  refine s_invv0_0 (q := 238) hX dX7_init_235 rfl glk_7_63 (by assumption) (Nat.le_of_ble_eq_true rfl) ⟨by omega, by omega⟩ (by omega) (m_takeDraft (d := 0) (T := gt14) hC0 x14 gt14_dr.1 (fun n9 w9 s9 z9 k9 g9 => ?_)) 
  refine ⟨rfl, ?_⟩
  refine s_ret hX dX7_init_238 rfl ⟨by omega, by omega, by omega, ?_⟩
  have F7 : FRX m15 n7 := ((((((f1.tr f2).tr f3).tr f4).tr f5).tr f6).tr f7)
  have E7 : n7 83 = fun _ => 0 := by rw [e7, e6, e5, e4, e3, e2, e1]; exact z83
  refine hcon s15 n9 hl9 (fun c hc => so9 c (by omega) (by omega)) hC0 ⟨⟨?_, fun j hj => absurd hj (Nat.not_lt_zero j)⟩, w9, s9, ⟨z9.1, fun k hk => absurd hk (Nat.not_lt_zero k)⟩, ⟨z9.2.1, fun k hk => absurd hk (Nat.not_lt_zero k)⟩, ⟨z9.2.2, fun j hj => absurd hj (Nat.not_lt_zero j)⟩⟩ (fun c hc => ?_)
  · rw [k9 1 (by decide) (by decide) (by decide)]
    rw [gsr_n _ _ (by decide), gsr_n _ _ (by decide), gsr_n _ _ (by decide), gsr_n _ _ (by decide), gsr_n _ _ (by decide), gsr_n _ _ (by decide), gsr_n _ _ (by decide), E7]
    rfl
  · rw [g9 c (by omega), gsr_n _ _ (by omega), gsr_n _ _ (by omega), gsr_n _ _ (by omega), gsr_n _ _ (by omega), gsr_n _ _ (by omega), gsr_n _ _ (by omega), gsr_n _ _ (by omega), F7.row (by omega)]
    exact mo9 c (by omega)
