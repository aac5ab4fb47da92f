def bc1 (x : Int32) : Int32 := x - (iush x 1 &&& 1431655765)
def bc2 (x : Int32) : Int32 := (x &&& 858993459) + (iush x 2 &&& 858993459)
def bc3 (x : Int32) : Int32 := (x + iush x 4) &&& 252645135
def bc4 (x : Int32) : Int32 := x + iush x 8
def bc5 (x : Int32) : Int32 := x + iush x 16
theorem bc_ok : ∀ n, n < 64 → bc5 (bc4 (bc3 (bc2 (bc1 (nI n))))) &&& 63 = nI (popc n) := by decide +kernel
theorem popc_le : ∀ n, n < 64 → popc n ≤ 6 := by decide +kernel
def fwN (p : Option Nat) : Nat := match p with
  | none => 7
  | some f => popc f
def lwI (p : Option Nat) : Int32 := match p with
  | none => -4
  | some f => nI f
theorem gA.hpf_lt {S : gA} {r y b : Nat} : ∀ n f, S.hpf r y b n = some f → f < n
  | 0, f, h => by cases h
  | n + 1, f, h => by
    have e : (if (r ≤ S.sm n 0 ∧ y ≤ S.sm n 1 ∧ b ≤ S.sm n 2) ∧ popc n < fwN (S.hpf r y b n) then some n else S.hpf r y b n) = some f := h
    split at e
    · have : n = f := Option.some.inj e
      omega
    · have := gA.hpf_lt n f e
      omega
set_option maxHeartbeats 4000000 in
set_option maxRecDepth 100000 in
theorem c_bitCount {d n : Nat} {sh : List gS} {M : gM} {Q : Option Value → List gS → gM → Prop} (hn : n < 64) (hcon : Q (some (.int (nI (popc n)))) sh M) : gC mJ6_bitCount_0f7a4 d 0 0 [.int (nI n)] sh M Q := by
  refine gC_of (rt := 1) (ini := false) gm_J6_bitCount_0f7a4 rfl (by decide) (Nat.le_of_ble_eq_true rfl) (fun X hX => ?_)
  refine s_iload_n (q := 1) hX dJ6_bitCount_0f7a4_0 rfl rfl ?_
  refine s_iload_n (q := 2) hX dJ6_bitCount_0f7a4_1 rfl rfl ?_
  refine s_iconst (q := 3) (v := 1) hX dJ6_bitCount_0f7a4_2 rfl rfl ?_
  refine s_iushr (q := 4) hX dJ6_bitCount_0f7a4_3 rfl rfl ?_
  refine s_ldcw (q := 7) hX dJ6_bitCount_0f7a4_4 rfl gci_9_265 ?_
  refine s_iand (q := 8) hX dJ6_bitCount_0f7a4_7 rfl rfl ?_
  refine s_isub (q := 9) hX dJ6_bitCount_0f7a4_8 rfl rfl ?_
  refine s_istore_n (q := 10) (lv' := [(0, _)]) hX dJ6_bitCount_0f7a4_9 rfl (Nat.le_of_ble_eq_true rfl) rfl ?_
  refine s_iload_n (q := 11) hX dJ6_bitCount_0f7a4_10 rfl rfl ?_
  refine s_ldcw (q := 14) hX dJ6_bitCount_0f7a4_11 rfl gci_9_266 ?_
  refine s_iand (q := 15) hX dJ6_bitCount_0f7a4_14 rfl rfl ?_
  refine s_iload_n (q := 16) hX dJ6_bitCount_0f7a4_15 rfl rfl ?_
  refine s_iconst (q := 17) (v := 2) hX dJ6_bitCount_0f7a4_16 rfl rfl ?_
  refine s_iushr (q := 18) hX dJ6_bitCount_0f7a4_17 rfl rfl ?_
  refine s_ldcw (q := 21) hX dJ6_bitCount_0f7a4_18 rfl gci_9_266 ?_
  refine s_iand (q := 22) hX dJ6_bitCount_0f7a4_21 rfl rfl ?_
  refine s_iadd (q := 23) hX dJ6_bitCount_0f7a4_22 rfl rfl ?_
  refine s_istore_n (q := 24) (lv' := [(0, _)]) hX dJ6_bitCount_0f7a4_23 rfl (Nat.le_of_ble_eq_true rfl) rfl ?_
  refine s_iload_n (q := 25) hX dJ6_bitCount_0f7a4_24 rfl rfl ?_
  refine s_iload_n (q := 26) hX dJ6_bitCount_0f7a4_25 rfl rfl ?_
  refine s_iconst (q := 27) (v := 4) hX dJ6_bitCount_0f7a4_26 rfl rfl ?_
  refine s_iushr (q := 28) hX dJ6_bitCount_0f7a4_27 rfl rfl ?_
  refine s_iadd (q := 29) hX dJ6_bitCount_0f7a4_28 rfl rfl ?_
  refine s_ldcw (q := 32) hX dJ6_bitCount_0f7a4_29 rfl gci_9_267 ?_
  refine s_iand (q := 33) hX dJ6_bitCount_0f7a4_32 rfl rfl ?_
  refine s_istore_n (q := 34) (lv' := [(0, _)]) hX dJ6_bitCount_0f7a4_33 rfl (Nat.le_of_ble_eq_true rfl) rfl ?_
  refine s_iload_n (q := 35) hX dJ6_bitCount_0f7a4_34 rfl rfl ?_
  refine s_iload_n (q := 36) hX dJ6_bitCount_0f7a4_35 rfl rfl ?_
  refine s_bipush (q := 38) (v := 8) hX dJ6_bitCount_0f7a4_36 rfl rfl (by decide) ?_
  refine s_iushr (q := 39) hX dJ6_bitCount_0f7a4_38 rfl rfl ?_
  refine s_iadd (q := 40) hX dJ6_bitCount_0f7a4_39 rfl rfl ?_
  refine s_istore_n (q := 41) (lv' := [(0, _)]) hX dJ6_bitCount_0f7a4_40 rfl (Nat.le_of_ble_eq_true rfl) rfl ?_
  refine s_iload_n (q := 42) hX dJ6_bitCount_0f7a4_41 rfl rfl ?_
  refine s_iload_n (q := 43) hX dJ6_bitCount_0f7a4_42 rfl rfl ?_
  refine s_bipush (q := 45) (v := 16) hX dJ6_bitCount_0f7a4_43 rfl rfl (by decide) ?_
  refine s_iushr (q := 46) hX dJ6_bitCount_0f7a4_45 rfl rfl ?_
  refine s_iadd (q := 47) hX dJ6_bitCount_0f7a4_46 rfl rfl ?_
  refine s_istore_n (q := 48) (lv' := [(0, _)]) hX dJ6_bitCount_0f7a4_47 rfl (Nat.le_of_ble_eq_true rfl) rfl ?_
  refine s_iload_n (q := 49) hX dJ6_bitCount_0f7a4_48 rfl rfl ?_
  refine s_bipush (q := 51) (v := 63) hX dJ6_bitCount_0f7a4_49 rfl rfl (by decide) ?_
  refine s_iand (q := 52) hX dJ6_bitCount_0f7a4_51 rfl rfl ?_
  refine s_iret hX dJ6_bitCount_0f7a4_52 (Or.inl rfl) ⟨Nat.le_refl _, Nat.le_refl _, Nat.le_refl _, ?_⟩
  exact gqv hcon (bc_ok n hn) rfl
set_option maxHeartbeats 4000000 in
set_option maxRecDepth 100000 in
theorem c_sumOf {d t b set s : Nat} {S : gA} {sh : List gS} {M : gM} {Q : Option Value → List gS → gM → Prop} (hC : isCls sh t) (hS : CLS M t S) (hk : S.ok b) (hb : b ≤ 20000) (hset : set < 64) (hs : s < 3) (hcon : Q (some (.int (nI (S.sm set s)))) sh M) : gC mX6_sumOf d 0 0 [.ref 0, .int (nI set), .int (nI s)] sh M Q := by
  have hC0 := hC
  have hS0 := hS
  have hk0 := hk
  obtain ⟨y0, yt, yp, yw, ys, yr, yd, yk, yc, yn, yu⟩ := hC
  have twn := hC0.tw
  have tdf := hC0.df
  have yp2 := yp
  have ys2 := ys
  have yr2 := yr
  have yd2 := yd
  have yk2 := yk
  have yc2 := yc
  have yn2 := yn
  have twn2 := twn
  have tdf2 := tdf
  obtain ⟨p0, p1, p2⟩ := yp2
  obtain ⟨z0, z1, z2, z3, z4, z5, z6⟩ := twn2
  obtain ⟨zz0, zz1, zz2, zz3, zz4, zz5, zz6⟩ := tdf2
  obtain ⟨s0, s1, s2, s3⟩ := ys2
  obtain ⟨r0, r1, r2, r3⟩ := yr2
  obtain ⟨d0, d1, d2⟩ := yd2
  obtain ⟨k0, k1, k2⟩ := yk2
  obtain ⟨q0, q1, q2, q3, q4⟩ := yc2
  obtain ⟨v0, v1, v2, v3, v4, v5, v6⟩ := yn2
  obtain ⟨a1, a2, a3, ⟨n1, a4⟩, ⟨n2, a5⟩, a6⟩ := hS
  obtain ⟨g1, g2, g3, g4, g5, g6, g7⟩ := hk
  have g0 := g1
  obtain ⟨o1, o2, o3, o4, o5, o6, o7, o8⟩ := g0
  have hap : apart t 18 := by unfold apart; omega
  have hap2 : apart t 22 := by unfold apart; omega
  refine gC_of (rt := 1) (ini := false) gm_X6_sumOf rfl (by decide) (Nat.le_of_ble_eq_true rfl) (fun X hX => ?_)
  have L : ∀ (m i : Nat), i + m = S.T.P → X 5 [(0, .ref 0), (1, .int (nI set)), (2, .int (nI s)), (3, .int (nI (sumN (fun i => set / 2 ^ i % 2 * S.U.h (3 * i + s)) i))), (4, .int (nI i))] [] sh M 0 0 := by
    intro m
    induction m with
    | zero =>
      intro i hi
      have hiP : i = S.T.P := by omega
      subst hiP
      refine s_iload (q := 7) hX dX6_sumOf_5 rfl rfl ?_
      refine s_aload_n (q := 8) hX dX6_sumOf_7 rfl rfl ?_
      refine s_getr (q := 11) hX dX6_sumOf_8 rfl gfl_6_19 (by assumption) rfl ?_
      refine s_geti (q := 14) hX dX6_sumOf_11 rfl gfl_6_97 (by assumption) rfl ?_
      refine s_topi (v := nI (S.T.P)) a2.1 ?_
      refine s_icmp_ge_t (q := 17) (r := 47) hX dX6_sumOf_14 rfl rfl (Int32.le_refl _) ?_
      refine s_iload_n (q := 48) hX dX6_sumOf_47 rfl rfl ?_
      refine s_iret hX dX6_sumOf_48 (Or.inl rfl) ⟨Nat.le_refl _, Nat.le_refl _, Nat.le_refl _, ?_⟩
      exact hcon
    | succ m ih =>
      intro i hi
      have hh := a3.2.1 (3 * i + s) (by omega)
      have hdv : set / 2 ^ i ≤ set := Nat.div_le_self _ _
      refine s_iload (q := 7) hX dX6_sumOf_5 rfl rfl ?_
      refine s_aload_n (q := 8) hX dX6_sumOf_7 rfl rfl ?_
      refine s_getr (q := 11) hX dX6_sumOf_8 rfl gfl_6_19 (by assumption) rfl ?_
      refine s_geti (q := 14) hX dX6_sumOf_11 rfl gfl_6_97 (by assumption) rfl ?_
      refine s_topi (v := nI (S.T.P)) a2.1 ?_
      refine s_icmp_ge_f (q := 17) (r := 47) hX dX6_sumOf_14 rfl rfl (Int32.not_le.mpr (nI_lt (by omega) (by omega))) ?_
      refine s_iload_n (q := 18) hX dX6_sumOf_17 rfl rfl ?_
      refine s_iload_n (q := 19) hX dX6_sumOf_18 rfl rfl ?_
      refine s_iload (q := 21) hX dX6_sumOf_19 rfl rfl ?_
      refine s_ishr (q := 22) (v := nI (set / 2 ^ i)) hX dX6_sumOf_21 rfl (gshr (by omega) (by omega)) ?_
      refine s_iconst (q := 23) (v := 1) hX dX6_sumOf_22 rfl rfl ?_
      refine s_iand (q := 24) (v := nI (set / 2 ^ i % 2)) hX dX6_sumOf_23 rfl (gan1 (by omega)) ?_
      refine s_aload_n (q := 25) hX dX6_sumOf_24 rfl rfl ?_
      refine s_getr (q := 28) hX dX6_sumOf_25 rfl gfl_6_29 (by assumption) rfl ?_
      refine s_getr (q := 31) hX dX6_sumOf_28 rfl gfl_6_120 (by assumption) rfl ?_
      refine s_iload (q := 33) hX dX6_sumOf_31 rfl rfl ?_
      refine s_iconst (q := 34) (v := 3) hX dX6_sumOf_33 rfl rfl ?_
      refine s_imul (q := 35) (v := nI (i * 3)) hX dX6_sumOf_34 rfl (pk_mul (i) (3)) ?_
      refine s_iload_n (q := 36) hX dX6_sumOf_35 rfl rfl ?_
      refine s_iadd (q := 37) (v := nI (i * 3 + s)) hX dX6_sumOf_36 rfl (nI_add (i * 3) (s)) ?_
      refine s_iald (k := i * 3 + s) (q := 38) hX dX6_sumOf_37 rfl (by assumption) rfl (by omega) (by omega) ?_
      refine s_topi (v := nI (S.U.h (3 * i + s))) (by rw [show i * 3 + s = 3 * i + s by omega]; exact hh) ?_
      refine s_imul (q := 39) (v := nI ((set / 2 ^ i % 2) * (S.U.h (3 * i + s)))) hX dX6_sumOf_38 rfl (pk_mul (set / 2 ^ i % 2) (S.U.h (3 * i + s))) ?_
      refine s_iadd (q := 40) (v := nI (sumN (fun i => set / 2 ^ i % 2 * S.U.h (3 * i + s)) i + ((set / 2 ^ i % 2) * (S.U.h (3 * i + s))))) hX dX6_sumOf_39 rfl (nI_add (sumN (fun i => set / 2 ^ i % 2 * S.U.h (3 * i + s)) i) ((set / 2 ^ i % 2) * (S.U.h (3 * i + s)))) ?_
      refine s_istore_n (q := 41) (lv' := [(0, _), (1, _), (2, _), (3, _), (4, _)]) hX dX6_sumOf_40 rfl (Nat.le_of_ble_eq_true rfl) rfl ?_
      refine s_iinc (q := 44) (v := nI (i + 1)) (lv' := [(0, _), (1, _), (2, _), (3, _), (4, _)]) hX dX6_sumOf_41 rfl rfl (nI_add (i) 1) (Nat.le_of_ble_eq_true rfl) rfl ?_
      refine s_goto (q := 5) hX dX6_sumOf_44 rfl ?_
      exact ih (i + 1) (by omega)
  refine s_iconst (q := 1) (v := 0) hX dX6_sumOf_0 rfl rfl ?_
  refine s_istore_n (q := 2) (lv' := [(0, _), (1, _), (2, _), (3, _)]) hX dX6_sumOf_1 rfl (Nat.le_of_ble_eq_true rfl) rfl ?_
  refine s_iconst (q := 3) (v := 0) hX dX6_sumOf_2 rfl rfl ?_
  refine s_istore (q := 5) (lv' := [(0, _), (1, _), (2, _), (3, _), (4, _)]) hX dX6_sumOf_3 rfl (Nat.le_of_ble_eq_true rfl) rfl ?_
  exact L S.T.P 0 (by omega)
theorem gA.sm_le {S : gA} {b set s : Nat} (hk : S.ok b) (hs : s < 3) : S.sm set s ≤ 600 := by
  obtain ⟨⟨o1, -⟩, -, ⟨⟨hU, -⟩, -⟩, -⟩ := hk
  refine Nat.le_trans (sumN_bd (c := 99) S.T.P (fun i hi => ?_)) (by omega)
  have h1 := hU (3 * i + s) (by omega)
  have h2 : set / 2 ^ i % 2 ≤ 1 := by omega
  exact Nat.le_trans (Nat.mul_le_mul h2 h1) (by omega)
set_option maxHeartbeats 4000000 in
set_option maxRecDepth 100000 in
theorem k_heap {d t b : Nat} {x y z : Int32} {S : gA} {sh : List gS} {M : gM} {Q : Option Value → List gS → gM → Prop} (hd : 2 ≤ d) (hC : isCls sh t) (hS : CLS M t S) (hk : S.ok b) (hb : b ≤ 20000) (hcon : kC sh M (S.heap x y z) Q) : gC mX6_heap d 0 0 [.ref 0, .int x, .int y, .int z] sh M Q := by
  have hC0 := hC
  have hS0 := hS
  have hk0 := hk
  obtain ⟨y0, yt, yp, yw, ys, yr, yd, yk, yc, yn, yu⟩ := hC
  have twn := hC0.tw
  have tdf := hC0.df
  have yp2 := yp
  have ys2 := ys
  have yr2 := yr
  have yd2 := yd
  have yk2 := yk
  have yc2 := yc
  have yn2 := yn
  have twn2 := twn
  have tdf2 := tdf
  obtain ⟨p0, p1, p2⟩ := yp2
  obtain ⟨z0, z1, z2, z3, z4, z5, z6⟩ := twn2
  obtain ⟨zz0, zz1, zz2, zz3, zz4, zz5, zz6⟩ := tdf2
  obtain ⟨s0, s1, s2, s3⟩ := ys2
  obtain ⟨r0, r1, r2, r3⟩ := yr2
  obtain ⟨d0, d1, d2⟩ := yd2
  obtain ⟨k0, k1, k2⟩ := yk2
  obtain ⟨q0, q1, q2, q3, q4⟩ := yc2
  obtain ⟨v0, v1, v2, v3, v4, v5, v6⟩ := yn2
  obtain ⟨a1, a2, a3, ⟨n1, a4⟩, ⟨n2, a5⟩, a6⟩ := hS
  obtain ⟨g1, g2, g3, g4, g5, g6, g7⟩ := hk
  have g0 := g1
  obtain ⟨o1, o2, o3, o4, o5, o6, o7, o8⟩ := g0
  have hap : apart t 18 := by unfold apart; omega
  have hap2 : apart t 22 := by unfold apart; omega
  refine gC_of (rt := 1) (ini := false) gm_X6_heap rfl (by decide) (Nat.le_of_ble_eq_true rfl) (fun X hX => ?_)
  refine s_iload_n (q := 1) hX dX6_heap_0 rfl rfl ?_
  refine s_iconst (q := 2) (v := 0) hX dX6_heap_1 rfl rfl ?_
  refine s_bipush (q := 4) (v := 99) hX dX6_heap_2 rfl rfl (by decide) ?_
  refine s_invs3_1 (q := 7) hX dX6_heap_4 rfl glk_6_93 (by decide) (Nat.le_of_ble_eq_true rfl) ⟨Nat.le_refl _, Nat.le_refl _⟩ (by omega) (c_rng (d := 0) (x := x) (lo := 0) (n := 100) rfl rfl (by decide) (by decide) (fun rx => ?_) (fun r rx lr hr er => ?_)) 
  · refine ⟨_, rfl, ?_⟩
    refine s_if_eq_t (q := 10) (r := 30) hX dX6_heap_7 rfl rfl (by decide) ?_
    refine s_iconst (q := 31) (v := (-1)) hX dX6_heap_30 rfl rfl ?_
    refine s_iret hX dX6_heap_31 (Or.inl rfl) ⟨Nat.le_refl _, Nat.le_refl _, Nat.le_refl _, ?_⟩
    exact hcon.ret (by first | (unfold gA.heap; rw [rx]; dsimp only; rw [ry]; dsimp only; rw [rw]) | (unfold gA.heap; rw [rx]; dsimp only; rw [ry]) | (unfold gA.heap; rw [rx])) hC0 hS0 (fun _ _ => rfl)
  · subst er
    refine ⟨_, rfl, ?_⟩
    refine s_if_eq_f (q := 10) (r := 30) hX dX6_heap_7 rfl rfl (by decide) ?_
    refine s_iload_n (q := 11) hX dX6_heap_10 rfl rfl ?_
    refine s_iconst (q := 12) (v := 0) hX dX6_heap_11 rfl rfl ?_
    refine s_bipush (q := 14) (v := 99) hX dX6_heap_12 rfl rfl (by decide) ?_
    refine s_invs3_1 (q := 17) hX dX6_heap_14 rfl glk_6_93 (by decide) (Nat.le_of_ble_eq_true rfl) ⟨Nat.le_refl _, Nat.le_refl _⟩ (by omega) (c_rng (d := 0) (x := y) (lo := 0) (n := 100) rfl rfl (by decide) (by decide) (fun ry => ?_) (fun q ry lq hq eq => ?_)) 
    · refine ⟨_, rfl, ?_⟩
      refine s_if_eq_t (q := 20) (r := 30) hX dX6_heap_17 rfl rfl (by decide) ?_
      refine s_iconst (q := 31) (v := (-1)) hX dX6_heap_30 rfl rfl ?_
      refine s_iret hX dX6_heap_31 (Or.inl rfl) ⟨Nat.le_refl _, Nat.le_refl _, Nat.le_refl _, ?_⟩
      exact hcon.ret (by first | (unfold gA.heap; rw [rx]; dsimp only; rw [ry]; dsimp only; rw [rw]) | (unfold gA.heap; rw [rx]; dsimp only; rw [ry]) | (unfold gA.heap; rw [rx])) hC0 hS0 (fun _ _ => rfl)
    · subst eq
      refine ⟨_, rfl, ?_⟩
      refine s_if_eq_f (q := 20) (r := 30) hX dX6_heap_17 rfl rfl (by decide) ?_
      refine s_iload_n (q := 21) hX dX6_heap_20 rfl rfl ?_
      refine s_iconst (q := 22) (v := 0) hX dX6_heap_21 rfl rfl ?_
      refine s_bipush (q := 24) (v := 99) hX dX6_heap_22 rfl rfl (by decide) ?_
      refine s_invs3_1 (q := 27) hX dX6_heap_24 rfl glk_6_93 (by decide) (Nat.le_of_ble_eq_true rfl) ⟨Nat.le_refl _, Nat.le_refl _⟩ (by omega) (c_rng (d := 0) (x := z) (lo := 0) (n := 100) rfl rfl (by decide) (by decide) (fun rw => ?_) (fun w rw lw hw ew => ?_)) 
      · refine ⟨_, rfl, ?_⟩
        refine s_if_ne_f (q := 30) (r := 32) hX dX6_heap_27 rfl rfl (by decide) ?_
        refine s_iconst (q := 31) (v := (-1)) hX dX6_heap_30 rfl rfl ?_
        refine s_iret hX dX6_heap_31 (Or.inl rfl) ⟨Nat.le_refl _, Nat.le_refl _, Nat.le_refl _, ?_⟩
        exact hcon.ret (by first | (unfold gA.heap; rw [rx]; dsimp only; rw [ry]; dsimp only; rw [rw]) | (unfold gA.heap; rw [rx]; dsimp only; rw [ry]) | (unfold gA.heap; rw [rx])) hC0 hS0 (fun _ _ => rfl)
      · subst ew
        refine ⟨_, rfl, ?_⟩
        refine s_if_ne_t (q := 30) (r := 32) hX dX6_heap_27 rfl rfl (by decide) ?_
        refine s_bipush (q := 34) (v := (-4)) hX dX6_heap_32 rfl rfl (by decide) ?_
        refine s_istore (q := 36) (lv' := [(0, _), (1, _), (2, _), (3, _), (4, _)]) hX dX6_heap_34 rfl (Nat.le_of_ble_eq_true rfl) rfl ?_
        refine s_bipush (q := 38) (v := 7) hX dX6_heap_36 rfl rfl (by decide) ?_
        refine s_istore (q := 40) (lv' := [(0, _), (1, _), (2, _), (3, _), (4, _), (5, _)]) hX dX6_heap_38 rfl (Nat.le_of_ble_eq_true rfl) rfl ?_
        refine s_iconst (q := 41) (v := 0) hX dX6_heap_40 rfl rfl ?_
        refine s_istore (q := 43) (lv' := [(0, _), (1, _), (2, _), (3, _), (4, _), (5, _), (6, _)]) hX dX6_heap_41 rfl (Nat.le_of_ble_eq_true rfl) rfl ?_
        have hp6 : 2 ^ S.T.P ≤ 2 ^ 6 := Nat.pow_le_pow_right (by decide) o1
        have hp64 : (2 : Nat) ^ 6 = 64 := by decide
        have L : ∀ (m n : Nat), n + m = 2 ^ S.T.P → X 43 [(0, .ref 0), (1, .int (nI r)), (2, .int (nI q)), (3, .int (nI w)), (4, .int (lwI (S.hpf r q w n))), (5, .int (nI (fwN (S.hpf r q w n)))), (6, .int (nI n))] [] sh M 0 0 := by
          intro m
          induction m with
          | zero =>
            intro n hn
            have hnP : n = 2 ^ S.T.P := by omega
            have e9 : S.heap (nI r) (nI q) (nI w) = (lwI (S.hpf r q w n), S) := by
              unfold gA.heap
              rw [rx]; dsimp only; rw [ry]; dsimp only; rw [rw]; dsimp only
              rw [← hnP]
              cases S.hpf r q w n with
              | none => rfl
              | some f => rfl
            refine s_iload (q := 45) hX dX6_heap_43 rfl rfl ?_
            refine s_iconst (q := 46) (v := 1) hX dX6_heap_45 rfl rfl ?_
            refine s_aload_n (q := 47) hX dX6_heap_46 rfl rfl ?_
            refine s_getr (q := 50) hX dX6_heap_47 rfl gfl_6_19 (by assumption) rfl ?_
            refine s_geti (q := 53) hX dX6_heap_50 rfl gfl_6_97 (by assumption) rfl ?_
            refine s_topi (v := nI (S.T.P)) a2.1 ?_
            refine s_ishl (q := 54) (v := nI (2 ^ S.T.P)) hX dX6_heap_53 rfl (gshl (by omega)) ?_
            refine s_icmp_ge_t (q := 57) (r := 118) hX dX6_heap_54 rfl rfl ((nI_leI (by omega) (by omega)).mpr (by omega)) ?_
            refine s_iload (q := 120) hX dX6_heap_118 rfl rfl ?_
            refine s_iret hX dX6_heap_120 (Or.inl rfl) ⟨Nat.le_refl _, Nat.le_refl _, Nat.le_refl _, ?_⟩
            exact hcon.ret e9 hC0 hS0 (fun _ _ => rfl)
          | succ m ih =>
            intro n hn
            have hfw : fwN (S.hpf r q w n) ≤ 7 := by
              cases hq : S.hpf r q w n with
              | none => exact Nat.le_refl _
              | some f =>
                have := gA.hpf_lt n f hq
                have := popc_le f (by omega)
                show popc f ≤ 7
                omega
            have hpn := popc_le n (by omega)
            have b0 := gA.sm_le (set := n) (s := 0) hk0 (by omega)
            have b1 := gA.sm_le (set := n) (s := 1) hk0 (by omega)
            have b2 := gA.sm_le (set := n) (s := 2) hk0 (by omega)
            have hE : S.hpf r q w (n + 1) = if (r ≤ S.sm n 0 ∧ q ≤ S.sm n 1 ∧ w ≤ S.sm n 2) ∧ popc n < fwN (S.hpf r q w n) then some n else S.hpf r q w n := rfl
            have ih2 := ih (n + 1) (by omega)
            rw [hE] at ih2
            refine s_iload (q := 45) hX dX6_heap_43 rfl rfl ?_
            refine s_iconst (q := 46) (v := 1) hX dX6_heap_45 rfl rfl ?_
            refine s_aload_n (q := 47) hX dX6_heap_46 rfl rfl ?_
            refine s_getr (q := 50) hX dX6_heap_47 rfl gfl_6_19 (by assumption) rfl ?_
            refine s_geti (q := 53) hX dX6_heap_50 rfl gfl_6_97 (by assumption) rfl ?_
            refine s_topi (v := nI (S.T.P)) a2.1 ?_
            refine s_ishl (q := 54) (v := nI (2 ^ S.T.P)) hX dX6_heap_53 rfl (gshl (by omega)) ?_
            refine s_icmp_ge_f (q := 57) (r := 118) hX dX6_heap_54 rfl rfl (Int32.not_le.mpr (nI_lt (by omega) (by omega))) ?_
            refine s_iload (q := 59) hX dX6_heap_57 rfl rfl ?_
            refine s_invs1_1 (q := 62) hX dX6_heap_59 rfl glk_6_200 (by decide) (Nat.le_of_ble_eq_true rfl) ⟨Nat.le_refl _, Nat.le_refl _⟩ (by omega) (c_bitCount (d := 0) (by omega) ?_) 
            refine ⟨_, rfl, ?_⟩
            refine s_istore (q := 64) (lv' := [(0, _), (1, _), (2, _), (3, _), (4, _), (5, _), (6, _), (7, _)]) hX dX6_heap_62 rfl (Nat.le_of_ble_eq_true rfl) rfl ?_
            refine s_iload (q := 66) hX dX6_heap_64 rfl rfl ?_
            refine s_iload (q := 68) hX dX6_heap_66 rfl rfl ?_
            refine s_nicmp_ge (a := popc n) (b := fwN (S.hpf r q w n)) (q := 71) (r := 112) hX dX6_heap_68 rfl rfl rfl rfl (by omega) (by omega) (fun c68 => ?_) (fun c68 => ?_)
            · refine s_iinc (q := 115) (v := nI (n + 1)) (lv' := [(0, _), (1, _), (2, _), (3, _), (4, _), (5, _), (6, _), (7, _)]) hX dX6_heap_112 rfl rfl (nI_add (n) 1) (Nat.le_of_ble_eq_true rfl) rfl ?_
              refine s_goto (q := 43) hX dX6_heap_115 rfl ?_
              refine s_dl hX ?_
              rw [if_neg (by omega)] at ih2
              exact ih2
            · refine s_aload_n (q := 72) hX dX6_heap_71 rfl rfl ?_
              refine s_iload (q := 74) hX dX6_heap_72 rfl rfl ?_
              refine s_iconst (q := 75) (v := 0) hX dX6_heap_74 rfl rfl ?_
              refine s_invv2_1 (q := 78) hX dX6_heap_75 rfl glk_6_205 (by assumption) (Nat.le_of_ble_eq_true rfl) ⟨Nat.le_refl _, Nat.le_refl _⟩ (by omega) (c_sumOf (d := 0) (s := 0) hC0 hS0 hk0 hb (by omega) (by omega) ?_) 
              refine ⟨_, rfl, ?_⟩
              refine s_iload_n (q := 79) hX dX6_heap_78 rfl rfl ?_
              refine s_nicmp_lt (a := S.sm n 0) (b := r) (q := 82) (r := 112) hX dX6_heap_79 rfl rfl rfl rfl (by omega) (by omega) (fun c79 => ?_) (fun c79 => ?_)
              · refine s_iinc (q := 115) (v := nI (n + 1)) (lv' := [(0, _), (1, _), (2, _), (3, _), (4, _), (5, _), (6, _), (7, _)]) hX dX6_heap_112 rfl rfl (nI_add (n) 1) (Nat.le_of_ble_eq_true rfl) rfl ?_
                refine s_goto (q := 43) hX dX6_heap_115 rfl ?_
                refine s_dl hX ?_
                rw [if_neg (by omega)] at ih2
                exact ih2
              · refine s_aload_n (q := 83) hX dX6_heap_82 rfl rfl ?_
                refine s_iload (q := 85) hX dX6_heap_83 rfl rfl ?_
                refine s_iconst (q := 86) (v := 1) hX dX6_heap_85 rfl rfl ?_
                refine s_invv2_1 (q := 89) hX dX6_heap_86 rfl glk_6_205 (by assumption) (Nat.le_of_ble_eq_true rfl) ⟨Nat.le_refl _, Nat.le_refl _⟩ (by omega) (c_sumOf (d := 0) (s := 1) hC0 hS0 hk0 hb (by omega) (by omega) ?_) 
                refine ⟨_, rfl, ?_⟩
                refine s_iload_n (q := 90) hX dX6_heap_89 rfl rfl ?_
                refine s_nicmp_lt (a := S.sm n 1) (b := q) (q := 93) (r := 112) hX dX6_heap_90 rfl rfl rfl rfl (by omega) (by omega) (fun c90 => ?_) (fun c90 => ?_)
                · refine s_iinc (q := 115) (v := nI (n + 1)) (lv' := [(0, _), (1, _), (2, _), (3, _), (4, _), (5, _), (6, _), (7, _)]) hX dX6_heap_112 rfl rfl (nI_add (n) 1) (Nat.le_of_ble_eq_true rfl) rfl ?_
                  refine s_goto (q := 43) hX dX6_heap_115 rfl ?_
                  refine s_dl hX ?_
                  rw [if_neg (by omega)] at ih2
                  exact ih2
                · refine s_aload_n (q := 94) hX dX6_heap_93 rfl rfl ?_
                  refine s_iload (q := 96) hX dX6_heap_94 rfl rfl ?_
                  refine s_iconst (q := 97) (v := 2) hX dX6_heap_96 rfl rfl ?_
                  refine s_invv2_1 (q := 100) hX dX6_heap_97 rfl glk_6_205 (by assumption) (Nat.le_of_ble_eq_true rfl) ⟨Nat.le_refl _, Nat.le_refl _⟩ (by omega) (c_sumOf (d := 0) (s := 2) hC0 hS0 hk0 hb (by omega) (by omega) ?_) 
                  refine ⟨_, rfl, ?_⟩
                  refine s_iload_n (q := 101) hX dX6_heap_100 rfl rfl ?_
                  refine s_nicmp_lt (a := S.sm n 2) (b := w) (q := 104) (r := 112) hX dX6_heap_101 rfl rfl rfl rfl (by omega) (by omega) (fun c101 => ?_) (fun c101 => ?_)
                  · refine s_iinc (q := 115) (v := nI (n + 1)) (lv' := [(0, _), (1, _), (2, _), (3, _), (4, _), (5, _), (6, _), (7, _)]) hX dX6_heap_112 rfl rfl (nI_add (n) 1) (Nat.le_of_ble_eq_true rfl) rfl ?_
                    refine s_goto (q := 43) hX dX6_heap_115 rfl ?_
                    refine s_dl hX ?_
                    rw [if_neg (by omega)] at ih2
                    exact ih2
                  · refine s_iload (q := 106) hX dX6_heap_104 rfl rfl ?_
                    refine s_istore (q := 108) (lv' := [(0, _), (1, _), (2, _), (3, _), (4, _), (5, _), (6, _), (7, _)]) hX dX6_heap_106 rfl (Nat.le_of_ble_eq_true rfl) rfl ?_
                    refine s_iload (q := 110) hX dX6_heap_108 rfl rfl ?_
                    refine s_istore (q := 112) (lv' := [(0, _), (1, _), (2, _), (3, _), (4, _), (5, _), (6, _), (7, _)]) hX dX6_heap_110 rfl (Nat.le_of_ble_eq_true rfl) rfl ?_
                    refine s_iinc (q := 115) (v := nI (n + 1)) (lv' := [(0, _), (1, _), (2, _), (3, _), (4, _), (5, _), (6, _), (7, _)]) hX dX6_heap_112 rfl rfl (nI_add (n) 1) (Nat.le_of_ble_eq_true rfl) rfl ?_
                    refine s_goto (q := 43) hX dX6_heap_115 rfl ?_
                    refine s_dl hX ?_
                    rw [if_pos (by omega)] at ih2
                    exact ih2
        exact L (2 ^ S.T.P) 0 (by omega)
