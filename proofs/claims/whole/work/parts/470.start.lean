theorem isCls.sm {sh sh' : List gS} {t : Nat} (h : isCls sh t) (hs : ∀ c, c < 83 → sh'[c]? = sh[c]?) : isCls sh' t := by
  obtain ⟨h0, ht, h1, ⟨h2, h3⟩, h4, h5, h6, h7, h8, h9, h10⟩ := h
  exact ⟨by rw [hs 0 (by omega)]; exact h0, ht, loc_paper sh sh' (fun c _ h => hs c (by omega)) h1, ⟨loc_town (by decide) sh sh' (fun c _ h => hs c (by omega)) h2, loc_town (by decide) sh sh' (fun c _ h => hs c (by omega)) h3⟩, loc_street (by decide) sh sh' (fun c _ h => hs c (by omega)) h4, loc_street (by decide) sh sh' (fun c _ h => hs c (by omega)) h5, loc_shelf (by decide) sh sh' (fun c _ h => hs c (by omega)) h6, loc_shelf (by decide) sh sh' (fun c _ h => hs c (by omega)) h7, loc_cho (by decide) sh sh' (fun c _ h => hs c (by omega)) h8, loc_wit (by decide) sh sh' (fun c _ h => hs c (by omega)) h9, by rw [hs 82 (by omega)]; exact h10⟩
set_option maxHeartbeats 4000000 in
set_option maxRecDepth 100000 in
theorem whole_start {p : Program} {e : Env} {s : State} {m : MethodId} {below : List Frame} {meth : Method} {c : Code} (l : Launch) {b L : Nat} {xs : Nat → Int32} (hL : L ≤ 3072) (C0 : lw_At p s m meth c b L xs) : W p l e room_1 s m #[Value.ref b] below meth c s.heap [] 0 0 (lw_Z below #[Value.ref b] s) (entryFrame m ([Value.ref b] : List Value).toArray 4) := by
  obtain ⟨hx, hb, hr, hml, hown, hts, hX, hbl, hlocks, hgv⟩ := C0
  obtain ⟨D, cy, hK⟩ := law_K hts
  have hXt := law_X hts
  obtain ⟨a, v, hR9, hH⟩ := law_str hts hgv
  have S : gSt p room_1 s m #[Value.ref b] meth c (fun q => s.heap.size ≤ q) D cy 8 4 30 600000 7302249 code ret false :=
    ⟨hx, hb, hr, hml, hown, fun w hw => hts w (gwl_in w hw), hlocks, hK, fun _ h => h, ⟨by decide, by decide, rfl, rfl⟩, (fun z => by cases z), hXt⟩
  have hl := lv_entry [.ref b] (n := 4) (Nat.le_of_ble_eq_true rfl)
  rw [lg_entry_eq]
  generalize (lg_sl [.ref b] ++ List.replicate (4 - (lg_sl [.ref b]).length) Slot.unset).toArray = ls at hl ⊢
  have hXX : gCl code 8 4 30 600000 7302249 2 false (some (L, xs)) (fun v _ _ kc ks => v = some (.int 1) ∧ kc ≤ 600000 ∧ ks ≤ 7302249) (gG p l e room_1 s m #[Value.ref b] below meth c (fun q => s.heap.size ≤ q) D cy 4 600000 (lw_Z below #[Value.ref b] s) 0 (fun _ => b)) := by
    refine ⟨?_, fun _ _ _ _ _ _ _ _ h1 h2 => gG_lv h1 h2, fun _ _ _ _ _ _ _ _ h1 h2 => gG_M h1 h2⟩
    intro pc lv st sh1 M1 kc ks ins len hd hg
    refine gx_sound S (fun q hq => by cases hq; exact ⟨hX, hbl, Nat.not_le.mpr hbl⟩) ?_ ?_ ?_ hd hg
    · intro pc lv sh2 M2 kc ks x hrt2 hd hR ad' H locs ls k1 k2 k3 kP kD kS kl
      obtain ⟨h1, h2, h3⟩ := hR
      cases h1
      exact va_forget kS.2.2 (W.widen h2 h3 (lw_ret hx hb hr hlocks hd))
    · intro pc lv sh2 M2 kc ks x hrt2 hd hR; omega
    · intro pc lv sh2 M2 kc ks hrt2 hd hR; omega
  have key : gG p l e room_1 s m #[Value.ref b] below meth c (fun q => s.heap.size ≤ q) D cy 4 600000 (lw_Z below #[Value.ref b] s) 0 (fun _ => b) 0 [(0, .ref 1000000)] [] [] (fun _ _ => 0) 0 0 := by
    refine s_newO (q := 3) (L := 0) hXX dL_law_0 rfl gnw_8_7 rfl (by decide) (by decide) rfl (gokA_i rfl (gal_c (gov (Or.inr (by decide))) rfl) rfl (by decide)) (fun s1 m1 hl1 hg1 so1 sa1 mo1 mz1 => ?_)
    refine s_dup (q := 4) hXX dL_law_3 rfl rfl ?_
    refine gs_callE S (d' := 29) (mc := 82) (ms := 1027) hR9 hH (by decide) (by decide) (by decide) dL_law_4 (Nat.le_of_ble_eq_true rfl) (by rw [hl1]; exact gal_c (gov (Or.inr (by decide))) (gal_c (gov (Or.inl (by decide))) rfl)) (n_class (d := 29) (Q := fun v sh' M' => v = none ∧ (sh'.length = 83 ∧ gOK sh' ∧ isCls sh' 4 ∧ CLS M' 4 gS0)) (by decide) hl1 hg1 sa1 mz1 (fun sh' M' q1 q2 q3 q4 => ⟨rfl, q1, q2, q3, q4⟩)) (fun v s2 m2 hq => ?_)
    obtain ⟨rfl, hl2, hg2, hC2, hS2⟩ := hq
    refine ⟨rfl, ?_⟩
    refine s_astore_n (q := 8) (lv' := [(0, _), (1, _)]) hXX dL_law_7 rfl (Nat.le_of_ble_eq_true rfl) rfl ?_
    refine s_newO (q := 11) (L := 83) hXX dL_law_8 rfl gnw_8_10 hl2 (by decide) (by decide) hg2 (gokA_i hg2 (by rw [hl2]; exact gal_c (gov (Or.inr (by decide))) (gal_c (gov (Or.inl (by decide))) rfl)) rfl (by rw [hl2]; decide)) (fun s3 m3 hl3 hg3 so3 sa3 mo3 mz3 => ?_)
    refine s_dup (q := 12) hXX dL_law_11 rfl rfl ?_
    refine s_invc0 (q := 15) (d' := 29) (mc := 15) (ms := 788) hXX dL_law_12 rfl glk_8_12 (by decide) (Nat.le_of_ble_eq_true rfl) (by decide) (by decide) (by decide) (by rw [hl3]; exact gal_c (gov (Or.inr (by decide))) (gal_c (gov (Or.inl (by decide))) (gal_c (gov (Or.inl (by decide))) rfl))) (n_model (d := 29) (by decide) hl3 hg3 sa3 mz3 (fun s4 m4 hl4 so4 hM4 hD4 mo4 => ?_))
    refine ⟨rfl, ?_⟩
    refine s_astore_n (q := 16) (lv' := [(0, _), (1, _), (2, _)]) hXX dL_law_15 rfl (Nat.le_of_ble_eq_true rfl) rfl ?_
    refine s_iconst (q := 17) (v := 0) hXX dL_law_16 rfl rfl ?_
    refine s_istore_n (q := 18) (lv' := [(0, _), (1, _), (2, _), (3, _)]) hXX dL_law_17 rfl (Nat.le_of_ble_eq_true rfl) rfl ?_
    exact law_loop hL hXX (by decide) (by decide) 513 0 4 gS0 s4 m4 (by omega) hl4 (hC2.sm (fun c hc => (so4 c hc).trans (so3 c hc))) (CLS.sm (Or.inl rfl) hS2 (fun c hc => (mo4 c hc).trans (mo3 c (by omega)))) hM4 hD4 gS0_ok
  exact key (fun _ => b) s.heap [] ls (fun _ _ => rfl) (fun z => absurd z (by decide)) (Nat.le_refl _) (fun k q h => by cases h) ⟨(fun i j p q h => by cases h), (fun k q h => by cases h)⟩ va_S.rf hl
