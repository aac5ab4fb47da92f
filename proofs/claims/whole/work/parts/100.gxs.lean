/-! ONE STEP, ANY INSTRUCTION -/
section GSd
variable {p : Program} {l : Launch} {e : Env} {R : Room} {s : State} {m : MethodId} {args : Array Value} {below : List Frame} {meth : Method} {c : Code} {A : Nat → Prop} {D : va_G} {cy : Nat → ClassId} {o nL d MC MS : Nat} {cc : ByteArray} {ret : Option FieldType} {ini : Bool} {Z : State → Prop} {n0 : Nat} {ad0 : Nat → Nat} {pc : Nat} {lv : List (Nat × Value)} {st : List Value} {sh : List gS} {M : gM} {kc ks : Nat}
set_option maxHeartbeats 4000000 in
theorem gx_sound (S : gSt p R s m args meth c A D cy o nL d MC MS cc ret ini) {rt : Nat} {sc : Option (Nat × (Nat → Int32))} {Rt : gRt} (hsc : ∀ q, sc = some q → va_X (ad0 1000000) q.1 q.2 s s.heap ∧ ad0 1000000 < s.heap.size ∧ ¬ A (ad0 1000000))
    (hRi : ∀ (pc : Nat) (lv : List (Nat × Value)) (sh : List gS) (M : gM) (kc ks : Nat) (x : Int32), (rt = 1 ∨ (rt = 2 ∧ (x = 0 ∨ x = 1))) → decode cc pc = .ok (.ireturn, 1) → Rt (some (.int x)) sh M kc ks → gG p l e R s m args below meth c A D cy nL MC Z n0 ad0 pc lv [.int x] sh M kc ks)
    (hRl : ∀ (pc : Nat) (lv : List (Nat × Value)) (sh : List gS) (M : gM) (kc ks : Nat) (x : Int64), rt = 3 → decode cc pc = .ok (.lreturn, 1) → Rt (some (.long x)) sh M kc ks → gG p l e R s m args below meth c A D cy nL MC Z n0 ad0 pc lv [.long x] sh M kc ks)
    (hRv : ∀ (pc : Nat) (lv : List (Nat × Value)) (sh : List gS) (M : gM) (kc ks : Nat), rt = 0 → decode cc pc = .ok (.return_, 1) → Rt none sh M kc ks → gG p l e R s m args below meth c A D cy nL MC Z n0 ad0 pc lv [] sh M kc ks)
    {ins : Instr} {len : Nat} (hd : decode cc pc = .ok (ins, len)) (h : gx o nL d MC MS rt ini sc (gG p l e R s m args below meth c A D cy nL MC Z n0 ad0) Rt ins len pc lv st sh M kc ks) : gG p l e R s m args below meth c A D cy nL MC Z n0 ad0 pc lv st sh M kc ks := by
  have S0 := S
  obtain ⟨hx, hb, hr, hml, hown, hts, hlocks, hK, hA, hR, hini, hX⟩ := S
  have tgt : ∀ {off : Int}, 0 ≤ (pc : Int) + off → (pc : Int) + off = ((((pc : Int) + off).toNat : Nat) : Int) := fun h => (Int.toNat_of_nonneg h).symm
  cases ins with
  | iconst n => obtain ⟨rfl, h⟩ := h; exact fun ad H locs ls h1 h2 h3 hP hD hS hl => lv_iconst hx hb hd rfl (h ad H locs ls h1 h2 h3 hP hD hS hl)
  | bipush n => obtain ⟨rfl, hn, h⟩ := h; exact fun ad H locs ls h1 h2 h3 hP hD hS hl => lv_bipush hx hb hd (gbi hn.1 hn.2) (h ad H locs ls h1 h2 h3 hP hD hS hl)
  | sipush n => obtain ⟨rfl, hn, h⟩ := h; exact fun ad H locs ls h1 h2 h3 hP hD hS hl => lv_sipush hx hb hd (gsi hn.1 hn.2) (h ad H locs ls h1 h2 h3 hP hD hS hl)
  | lconst n => obtain ⟨rfl, h⟩ := h; exact fun ad H locs ls h1 h2 h3 hP hD hS hl => lv_lconst hx hb hd rfl (h ad H locs ls h1 h2 h3 hP hD hS hl)
  | ldc2_w i =>
    obtain ⟨rfl, x, hq, h⟩ := h
    have hm := glook (show gclT.lookup (o, i) = some x from hq)
    have hw : Jvm.Cond.constantLong (gown o) i x ∈ gwl := gclT_in _ (List.mem_map.mpr ⟨_, hm, rfl⟩)
    exact fun ad H locs ls h1 h2 h3 hP hD hS hl => lv_ldc2 hx hb hown (hts _ hw) hd (h ad H locs ls h1 h2 h3 hP hD hS hl)
  | ldc_w i =>
    obtain ⟨rfl, x, hq, h⟩ := h
    have hm := glook (show gciT.lookup (o, i) = some x from hq)
    have hw : Jvm.Cond.constant (gown o) i x ∈ gwl := gciT_in _ (List.mem_map.mpr ⟨_, hm, rfl⟩)
    exact fun ad H locs ls h1 h2 h3 hP hD hS hl => lv_ldcw hx hb hown (hts _ hw) hd (h ad H locs ls h1 h2 h3 hP hD hS hl)
  | iload_n k => obtain ⟨rfl, h⟩ := h; obtain ⟨x, hg, h_1⟩ := glI_e h; exact fun ad H locs ls h1 h2 h3 hP hD hS hl => lv_iload_n hx hb hd rfl (lget_has hl hg) (h_1 ad H locs ls h1 h2 h3 hP hD hS hl)
  | iload k => obtain ⟨rfl, h⟩ := h; obtain ⟨x, hg, h_1⟩ := glI_e h; exact fun ad H locs ls h1 h2 h3 hP hD hS hl => lv_iload hx hb hd (lget_has hl hg) (h_1 ad H locs ls h1 h2 h3 hP hD hS hl)
  | lload_n k => obtain ⟨rfl, h⟩ := h; obtain ⟨x, hg, h_1⟩ := glL_e h; exact fun ad H locs ls h1 h2 h3 hP hD hS hl => lv_lload_n hx hb hd rfl (lget_has hl hg) (h_1 ad H locs ls h1 h2 h3 hP hD hS hl)
  | lload k => obtain ⟨rfl, h⟩ := h; obtain ⟨x, hg, h_1⟩ := glL_e h; exact fun ad H locs ls h1 h2 h3 hP hD hS hl => lv_lload hx hb hd (lget_has hl hg) (h_1 ad H locs ls h1 h2 h3 hP hD hS hl)
  | aload_n k => obtain ⟨rfl, h⟩ := h; obtain ⟨x, hg, h_1⟩ := glR_e h; exact fun ad H locs ls h1 h2 h3 hP hD hS hl => lv_aload_n hx hb hd rfl (lget_has hl hg) (h_1 ad H locs ls h1 h2 h3 hP hD hS hl)
  | istore_n k => obtain ⟨rfl, hk, h⟩ := h; obtain ⟨x, r, rfl, h_1⟩ := gp1_e h; exact fun ad H locs ls h1 h2 h3 hP hD hS hl => lv_istore_n hx hb hd rfl hl hk rfl (fun ls' hl' => h_1 ad H locs ls' h1 h2 h3 hP hD hS (lput_has hl'))
  | istore k => obtain ⟨rfl, hk, h⟩ := h; obtain ⟨x, r, rfl, h_1⟩ := gp1_e h; exact fun ad H locs ls h1 h2 h3 hP hD hS hl => lv_istore hx hb hd hl hk rfl (fun ls' hl' => h_1 ad H locs ls' h1 h2 h3 hP hD hS (lput_has hl'))
  | lstore_n k => obtain ⟨rfl, hk, h⟩ := h; obtain ⟨x, r, rfl, h_1⟩ := gq1_e h; exact fun ad H locs ls h1 h2 h3 hP hD hS hl => lv_lstore_n hx hb hd rfl hl hk rfl (fun ls' hl' => h_1 ad H locs ls' h1 h2 h3 hP hD hS (lputL_has hl'))
  | lstore k => obtain ⟨rfl, hk, h⟩ := h; obtain ⟨x, r, rfl, h_1⟩ := gq1_e h; exact fun ad H locs ls h1 h2 h3 hP hD hS hl => lv_lstore hx hb hd hl hk rfl (fun ls' hl' => h_1 ad H locs ls' h1 h2 h3 hP hD hS (lputL_has hl'))
  | astore_n k => obtain ⟨rfl, hk, h⟩ := h; obtain ⟨x, r, rfl, h_1⟩ := gpr_e h; exact fun ad H locs ls h1 h2 h3 hP hD hS hl => lv_astore_n hx hb hd rfl hl hk rfl (fun ls' hl' => h_1 ad H locs ls' h1 h2 h3 hP hD hS (lput_has (v := .ref x) hl'))
  | iinc k n =>
    obtain ⟨rfl, hk, h⟩ := h
    obtain ⟨x, hg, h_1⟩ := glI_e h
    intro ad H locs ls h1 h2 h3 hP hD hS hl
    obtain ⟨j, hj⟩ := List.getElem?_of_mem (List.mem_map_of_mem (f := gl ad) (lget_mem hg))
    exact lv_iinc hx hb hd hl (k := j) hj rfl hk rfl (fun ls' hl' => h_1 ad H locs ls' h1 h2 h3 hP hD hS (lput_has (v := .int (x + Int32.ofInt n)) hl'))
  | iadd => obtain ⟨rfl, h⟩ := h; obtain ⟨x, y, r, rfl, h_1⟩ := gp2_e h; exact fun ad H locs ls h1 h2 h3 hP hD hS hl => lv_iadd hx hb hd (h_1 ad H locs ls h1 h2 h3 hP hD hS hl)
  | isub => obtain ⟨rfl, h⟩ := h; obtain ⟨x, y, r, rfl, h_1⟩ := gp2_e h; exact fun ad H locs ls h1 h2 h3 hP hD hS hl => lv_isub hx hb hd (h_1 ad H locs ls h1 h2 h3 hP hD hS hl)
  | imul => obtain ⟨rfl, h⟩ := h; obtain ⟨x, y, r, rfl, h_1⟩ := gp2_e h; exact fun ad H locs ls h1 h2 h3 hP hD hS hl => lv_imul hx hb hd (h_1 ad H locs ls h1 h2 h3 hP hD hS hl)
  | iand => obtain ⟨rfl, h⟩ := h; obtain ⟨x, y, r, rfl, h_1⟩ := gp2_e h; exact fun ad H locs ls h1 h2 h3 hP hD hS hl => lv_iand hx hb hd (h_1 ad H locs ls h1 h2 h3 hP hD hS hl)
  | ior => obtain ⟨rfl, h⟩ := h; obtain ⟨x, y, r, rfl, h_1⟩ := gp2_e h; exact fun ad H locs ls h1 h2 h3 hP hD hS hl => lv_ior hx hb hd (h_1 ad H locs ls h1 h2 h3 hP hD hS hl)
  | idiv => obtain ⟨rfl, h⟩ := h; obtain ⟨x, y, r, rfl, hne, h_1⟩ := gp2_e h; exact fun ad H locs ls h1 h2 h3 hP hD hS hl => lv_idiv hx hb hd hne (h_1 ad H locs ls h1 h2 h3 hP hD hS hl)
  | irem => obtain ⟨rfl, h⟩ := h; obtain ⟨x, y, r, rfl, hne, h_1⟩ := gp2_e h; exact fun ad H locs ls h1 h2 h3 hP hD hS hl => lv_irem hx hb hd hne (h_1 ad H locs ls h1 h2 h3 hP hD hS hl)
  | ishl => obtain ⟨rfl, h⟩ := h; obtain ⟨x, y, r, rfl, h_1⟩ := gp2_e h; exact fun ad H locs ls h1 h2 h3 hP hD hS hl => lv_ishl hx hb hd (h_1 ad H locs ls h1 h2 h3 hP hD hS hl)
  | ishr => obtain ⟨rfl, h⟩ := h; obtain ⟨x, y, r, rfl, h_1⟩ := gp2_e h; exact fun ad H locs ls h1 h2 h3 hP hD hS hl => lv_ishr hx hb hd (h_1 ad H locs ls h1 h2 h3 hP hD hS hl)
  | iushr => obtain ⟨rfl, h⟩ := h; obtain ⟨x, y, r, rfl, h_1⟩ := gp2_e h; exact fun ad H locs ls h1 h2 h3 hP hD hS hl => lv_iushr hx hb hd rfl (h_1 ad H locs ls h1 h2 h3 hP hD hS hl)
  | ineg => obtain ⟨rfl, h⟩ := h; obtain ⟨x, r, rfl, h_1⟩ := gp1_e h; exact fun ad H locs ls h1 h2 h3 hP hD hS hl => lv_ineg hx hb hd (h_1 ad H locs ls h1 h2 h3 hP hD hS hl)
  | i2l => obtain ⟨rfl, h⟩ := h; obtain ⟨x, r, rfl, h_1⟩ := gp1_e h; exact fun ad H locs ls h1 h2 h3 hP hD hS hl => lv_i2l hx hb hd rfl (h_1 ad H locs ls h1 h2 h3 hP hD hS hl)
  | i2b => obtain ⟨rfl, h⟩ := h; obtain ⟨x, r, rfl, h_1⟩ := gp1_e h; exact fun ad H locs ls h1 h2 h3 hP hD hS hl => lv_i2b hx hb hd rfl (h_1 ad H locs ls h1 h2 h3 hP hD hS hl)
  | l2i => obtain ⟨rfl, h⟩ := h; obtain ⟨x, r, rfl, h_1⟩ := gq1_e h; exact fun ad H locs ls h1 h2 h3 hP hD hS hl => lv_l2i hx hb hd rfl (h_1 ad H locs ls h1 h2 h3 hP hD hS hl)
  | ladd => obtain ⟨rfl, h⟩ := h; obtain ⟨x, y, r, rfl, h_1⟩ := gq2_e h; exact fun ad H locs ls h1 h2 h3 hP hD hS hl => lv_ladd hx hb hd (h_1 ad H locs ls h1 h2 h3 hP hD hS hl)
  | lmul => obtain ⟨rfl, h⟩ := h; obtain ⟨x, y, r, rfl, h_1⟩ := gq2_e h; exact fun ad H locs ls h1 h2 h3 hP hD hS hl => lv_lmul hx hb hd (h_1 ad H locs ls h1 h2 h3 hP hD hS hl)
  | ldiv => obtain ⟨rfl, h⟩ := h; obtain ⟨x, y, r, rfl, hne, h_1⟩ := gq2_e h; exact fun ad H locs ls h1 h2 h3 hP hD hS hl => lv_ldiv hx hb hd hne (h_1 ad H locs ls h1 h2 h3 hP hD hS hl)
  | lrem => obtain ⟨rfl, h⟩ := h; obtain ⟨x, y, r, rfl, hne, h_1⟩ := gq2_e h; exact fun ad H locs ls h1 h2 h3 hP hD hS hl => lv_lrem hx hb hd hne (h_1 ad H locs ls h1 h2 h3 hP hD hS hl)
  | lcmp => obtain ⟨rfl, h⟩ := h; obtain ⟨x, y, r, rfl, h_1⟩ := gq2_e h; exact fun ad H locs ls h1 h2 h3 hP hD hS hl => W.lcmp hx hb hd (h_1 ad H locs ls h1 h2 h3 hP hD hS hl)
  | dup =>
    obtain ⟨rfl, h⟩ := h
    match st, h with
    | v :: r, h => exact fun ad H locs ls h1 h2 h3 hP hD hS hl => lv_dup hx hb hd (by rw [gv_cat]; exact h.1) (h.2 ad H locs ls h1 h2 h3 hP hD hS hl)
    | [], h => exact h.elim
  | dup2 =>
    obtain ⟨rfl, h⟩ := h
    match st, h with
    | v :: w :: r, h => exact fun ad H locs ls h1 h2 h3 hP hD hS hl => lv_dup2_11 hx hb hd (by rw [gv_cat]; exact h.1.1) (by rw [gv_cat]; exact h.1.2) (h.2 ad H locs ls h1 h2 h3 hP hD hS hl)
    | [v], h => exact h.elim
    | [], h => exact h.elim
  | pop =>
    obtain ⟨rfl, h⟩ := h
    match st, h with
    | v :: r, h => exact fun ad H locs ls h1 h2 h3 hP hD hS hl => lv_pop hx hb hd (by rw [gv_cat]; exact h.1) (h.2 ad H locs ls h1 h2 h3 hP hD hS hl)
    | [], h => exact h.elim
  | goto off => obtain ⟨rfl, h0, h⟩ := h; exact fun ad H locs ls h1 h2 h3 hP hD hS hl => lv_goto hx hb hd (tgt h0) (h ad H locs ls h1 h2 h3 hP hD hS hl)
  | ifCond cd off =>
    obtain ⟨rfl, h⟩ := h
    obtain ⟨x, r, rfl, h0, ht, hf⟩ := gp1_e h
    intro ad H locs ls h1 h2 h3 hP hD hS hl
    have kt : gcmp cd x 0 → _ := fun z => ht z ad H locs ls h1 h2 h3 hP hD hS hl
    have kf : ¬ gcmp cd x 0 → _ := fun z => hf z ad H locs ls h1 h2 h3 hP hD hS hl
    cases cd with
    | eq => exact lv_if_eq hx hb hd (tgt h0) kt kf
    | ne => exact lv_if_ne hx hb hd (tgt h0) kt (fun z => kf (fun w => w z))
    | lt => exact lv_if_lt hx hb hd (tgt h0) kt kf
    | ge => exact lv_if_ge hx hb hd (tgt h0) kt kf
    | gt => exact lv_if_gt hx hb hd (tgt h0) kt kf
    | le => exact lv_if_le hx hb hd (tgt h0) kt kf
  | if_icmp cd off =>
    obtain ⟨rfl, h⟩ := h
    obtain ⟨x, y, r, rfl, h0, ht, hf⟩ := gp2_e h
    intro ad H locs ls h1 h2 h3 hP hD hS hl
    have kt : gcmp cd x y → _ := fun z => ht z ad H locs ls h1 h2 h3 hP hD hS hl
    have kf : ¬ gcmp cd x y → _ := fun z => hf z ad H locs ls h1 h2 h3 hP hD hS hl
    cases cd with
    | eq => exact lv_icmp_eq hx hb hd (tgt h0) kt kf
    | ne => exact lv_icmp_ne hx hb hd (tgt h0) kt (fun z => kf (fun w => w z))
    | lt => exact lv_icmp_lt hx hb hd (tgt h0) kt kf
    | ge => exact lv_icmp_ge hx hb hd (tgt h0) kt kf
    | gt => exact lv_icmp_gt hx hb hd (tgt h0) kt kf
    | le => exact lv_icmp_le hx hb hd (tgt h0) kt kf
  | tableswitch df lo hi offs =>
    obtain ⟨x, r, rfl, hhi, hdf, hsw⟩ := gp1_e h
    intro ad H locs ls h1 h2 h3 hP hD hS hl
    by_cases hout : x.toInt < lo ∨ hi < x.toInt
    · obtain ⟨h0, hk⟩ := hdf hout
      exact lv_tableOut hx hb hd hout (tgt h0) (hk ad H locs ls h1 h2 h3 hP hD hS hl)
    · have a1 : ¬ x.toInt < lo := fun z => hout (Or.inl z)
      have a2 : ¬ hi < x.toInt := fun z => hout (Or.inr z)
      have a3 : (x.toInt - lo).toNat < offs.toList.length := by omega
      obtain ⟨h0, hk⟩ := gswT_at hsw (List.getElem?_eq_getElem a3) (by omega)
      refine lv_tableIn hx hb hd a1 a2 (off := offs.toList[(x.toInt - lo).toNat]) ?_ (tgt h0) (hk ad H locs ls h1 h2 h3 hP hD hS hl)
      rw [← Array.getElem?_toList, List.getElem?_eq_getElem a3]
  | lookupswitch df ps =>
    obtain ⟨hp, h⟩ := h
    obtain ⟨x, r, rfl, hsw⟩ := gp1_e h
    obtain ⟨h0, hk⟩ := gswL_at hsw
    exact fun ad H locs ls h1 h2 h3 hP hD hS hl => lv_lookup hx hb hd hp rfl (tgt h0) (hk ad H locs ls h1 h2 h3 hP hD hS hl)
  | getfield i =>
    obtain ⟨rfl, h⟩ := h
    obtain ⟨⟨ci, k, t⟩, hq, h_1⟩ := gfc_e h
    obtain ⟨a, r, rfl, h_2⟩ := gpr_e h_1
    obtain ⟨fs, f, hfs, hf, h_3⟩ := ggf_e h_2
    exact gs_get S0 hq hd hfs hf h_3
  | putfield i =>
    obtain ⟨rfl, h⟩ := h
    obtain ⟨⟨ci, k, t⟩, hq, h_1⟩ := gfc_e h
    dsimp only at h_1
    by_cases ht : t < 2
    · rw [if_pos ht] at h_1
      obtain ⟨a, x, r, rfl, h_2⟩ := gpir_e h_1
      obtain ⟨fs, f, hfs, hf, rfl, hbit, h_3⟩ := ggf_e h_2
      exact gs_puti S0 hq ht hbit hd hfs hf h_3
    · rw [if_neg ht] at h_1
      obtain ⟨a, b, r, rfl, h3i, h_4⟩ := gprr_e h_1
      obtain ⟨fs, f, hfs, hf, h_5⟩ := ggf_e h_4
      exact gs_putr S0 hq ht h3i hd hfs hf h_5
  | iaload =>
    obtain ⟨rfl, h⟩ := h
    obtain ⟨a, i, r, rfl, h_1⟩ := gpir_e h
    rcases gar_e h_1 with ⟨n, ha, hi, h_1⟩ | ⟨rfl, q, hq, hi, h_1⟩
    · exact gs_iald S0 hd ha hi h_1
    · obtain ⟨x1, x2, x3⟩ := hsc q hq
      intro ad H locs ls h1 h2 h3 hP hD hS hl
      have e : ad 1000000 = ad0 1000000 := h1 _ (Or.inr (Nat.le_refl _))
      refine va_sld (b := ad 1000000) hx hb (by rw [e]; exact x1) (by rw [e]; exact x2) (by rw [e]; exact x3) hS hi hd (h_1 ad H locs ls h1 h2 h3 hP hD hS hl)
  | baload =>
    obtain ⟨rfl, h⟩ := h
    obtain ⟨a, i, r, rfl, h_1⟩ := gpir_e h
    rcases gar_e h_1 with ⟨n, ha, hi, h_1⟩ | h_1
    · exact gs_bald S0 hd ha hi h_1
    · exact h_1.elim
  | aaload =>
    obtain ⟨rfl, h⟩ := h
    obtain ⟨a, i, r, rfl, h_1⟩ := gpir_e h
    obtain ⟨l', ha, hi, q, hq, h_2⟩ := gaq_e h_1
    exact gs_aald S0 hd ha hi hq h_2
  | iastore =>
    obtain ⟨rfl, h⟩ := h
    obtain ⟨a, i, x, r, rfl, h_1⟩ := gpiir_e h
    rcases gar_e h_1 with ⟨n, ha, hi, h_1⟩ | h_1
    · exact gs_iast S0 hd ha hi h_1
    · exact h_1.elim
  | bastore =>
    obtain ⟨rfl, h⟩ := h
    obtain ⟨a, i, x, r, rfl, h_1⟩ := gpiir_e h
    rcases gar_e h_1 with ⟨n, ha, hi, h_1⟩ | h_1
    · exact gs_bast S0 hd ha hi h_1
    · exact h_1.elim
  | aastore =>
    obtain ⟨rfl, h⟩ := h
    obtain ⟨a, i, v, r, rfl, h_1⟩ := gprir_e h
    obtain ⟨l', ha, hi, hv, h_2⟩ := gaq_e h_1
    obtain ⟨fs, hfs⟩ := grc_e hv
    exact gs_aast S0 hd ha hi hfs h_2
  | arraylength =>
    obtain ⟨rfl, h⟩ := h
    obtain ⟨a, r, rfl, h_1⟩ := gpr_e h
    split at h_1
    · next q hq => exact gs_alen S0 hd hq h_1.1 h_1.2
    · next l' hq => exact gs_qlen S0 hd hq h_1
    · next hq =>
      obtain ⟨rfl, q, hs, h_1⟩ := h_1
      obtain ⟨x1, x2, x3⟩ := hsc q hs
      intro ad H locs ls h1 h2 h3 hP hD hS hl
      have e : ad 1000000 = ad0 1000000 := h1 _ (Or.inr (Nat.le_refl _))
      exact va_slen (b := ad 1000000) hx hb (by rw [e]; exact x1) (by rw [e]; exact x2) (by rw [e]; exact x3) hS hd (h_1 ad H locs ls h1 h2 h3 hP hD hS hl)
    · exact h_1.elim
  | new i =>
    obtain ⟨rfl, h⟩ := h
    obtain ⟨ci, hq, hc, hs, hok, h_1⟩ := gnc_e h
    exact gs_new S0 hq hd hc hs hok h_1
  | newarray t =>
    obtain ⟨rfl, h⟩ := h
    obtain ⟨n, r, rfl, ht, hn, h1000, hc, hs, hok, h_1⟩ := gp1_e h
    exact gs_newa S0 ht hd hn h1000 hc hs hok h_1
  | anewarray i =>
    obtain ⟨rfl, hq, h⟩ := h
    obtain ⟨n, r, rfl, hn, h1000, hc, hs, hok, h_1⟩ := gp1_e h
    exact gs_newq S0 hq hd hn h1000 hc hs hok h_1
  | invokevirtual i =>
    obtain ⟨rfl, h⟩ := h
    obtain ⟨⟨kd, mi, n, r, ci⟩, hq, hkd, hn, h_1⟩ := glc_e h
    obtain ⟨b, rest, hdr, hcat, hrc, hC⟩ := gpr_e h_1
    dsimp only at hkd
    subst hkd
    exact gs_callV S0 hq hd hn hdr hcat hrc hC
  | invokestatic i =>
    obtain ⟨rfl, h⟩ := h
    obtain ⟨⟨kd, mi, n, r, ci⟩, hq, h_1⟩ := glc_e h
    dsimp only at h_1
    by_cases h6 : kd = 6
    · subst h6
      rw [if_pos rfl] at h_1
      obtain ⟨a0, sp, a1, dp, k, rest, rfl, hcat, hd1, h_2⟩ := gcpy_e h_1
      rcases gar_e h_2 with ⟨n0', ha0, h_2⟩ | h_2
      · rcases gar_e h_2 with ⟨n1, ha1, g1, g2, g3, g4, g5, h_2⟩ | h_2
        · exact gs_cpy S0 hq hd1 hcat hd ha0 ha1 g1 g2 g3 g4 g5 h_2
        · exact h_2.elim
      · exact h_2.elim
    · rw [if_neg h6] at h_1
      obtain ⟨hkd, hn, hcat, hC⟩ := h_1
      exact gs_callS S0 hkd hq hd hn hcat hC
  | invokespecial i =>
    obtain ⟨rfl, h⟩ := h
    obtain ⟨⟨kd, mi, n, r, ci⟩, hq, h_1⟩ := glc_e h
    dsimp only at h_1
    by_cases h5 : kd = 5
    · subst h5
      rw [if_pos rfl] at h_1
      obtain ⟨a, rest, rfl, hcat, hd1, h_2⟩ := gpr_e h_1
      exact gs_obj S0 hq hd hcat hd1 h_2
    · rw [if_neg h5] at h_1
      obtain ⟨hkd, hn, h_2⟩ := h_1
      obtain ⟨b, rest, hdr, hcat, hC⟩ := gpr_e h_2
      exact gs_callI S0 hkd hq hd hn hdr hcat hC
  | ireturn =>
    obtain ⟨rfl, h⟩ := h
    obtain ⟨x, r, rfl, rfl, hrt, h_1⟩ := gp1_e h
    exact hRi _ _ _ _ _ _ _ hrt hd h_1
  | lreturn =>
    obtain ⟨rfl, h⟩ := h
    obtain ⟨x, r, rfl, rfl, hrt, h_1⟩ := gq1_e h
    exact hRl _ _ _ _ _ _ _ hrt hd h_1
  | return_ =>
    obtain ⟨rfl, rfl, hrt, h⟩ := h
    exact hRv _ _ _ _ _ _ hrt hd h
  | _ => exact False.elim h
end GSd
