/-! ROWS FOR WALKS: an instruction a row, over any judgement X that is closed under the steps -/
theorem gpr_i {a : Nat} {r : List Value} {F : Nat → List Value → Prop} (h : F a r) : gpr (.ref a :: r) F := h
theorem gpir_i {a : Nat} {i : Int32} {r : List Value} {F : Nat → Int32 → List Value → Prop} (h : F a i r) : gpir (.int i :: .ref a :: r) F := h
theorem gpiir_i {a : Nat} {i x : Int32} {r : List Value} {F : Nat → Int32 → Int32 → List Value → Prop} (h : F a i x r) : gpiir (.int x :: .int i :: .ref a :: r) F := h
theorem gprr_i {a b : Nat} {r : List Value} {F : Nat → Nat → List Value → Prop} (h : F a b r) : gprr (.ref b :: .ref a :: r) F := h
theorem ggf_i {sh : List gS} {a ci k : Nat} {F : List (Option Value) → Option Value → Prop} {fs : List (Option Value)} {f : Option Value} (ha : sh[a]? = some (.inl (ci, fs))) (hf : fs[k]? = some f) (h : F fs f) : ggf sh a ci k F := by
  unfold ggf; rw [ha]; refine ⟨rfl, ?_⟩
  show (match fs[k]? with
    | some f => F fs f
    | none => False)
  rw [hf]; exact h
theorem gar_i {sh : List gS} {a kd n : Nat} {F : Nat → Prop} {E : Prop} (ha : sh[a]? = some (.inr (.inl (kd, n)))) (h : F n) : gar sh a kd F E := by
  unfold gar; rw [ha]; exact ⟨rfl, h⟩
theorem gaq_i {sh : List gS} {a : Nat} {l : List (Option Nat)} {F : List (Option Nat) → Prop} (ha : sh[a]? = some (.inr (.inr l))) (h : F l) : gaq sh a F := by
  unfold gaq; rw [ha]; exact h
theorem gfc_i {o i ci k t : Nat} {F : Nat → Nat → Nat → Prop} (hq : gfl o i = some (ci, k, t)) (h : F ci k t) : gfc o i F := by
  unfold gfc; rw [hq]; exact h
theorem glc_i {o i a b c d e : Nat} {F : Nat → Nat → Nat → Nat → Nat → Prop} (hq : glk o i = some (a, b, c, d, e)) (h : F a b c d e) : glc o i F := by
  unfold glc; rw [hq]; exact h
theorem grc_i {sh : List gS} {b ci : Nat} {fs : List (Option Value)} (h : sh[b]? = some (.inl (ci, fs))) : grc sh b ci := by
  unfold grc; rw [h]
section SR
variable {cc : ByteArray} {o nL d MC MS rt : Nat} {ini : Bool} {sc : Option (Nat × (Nat → Int32))} {Rt : gRt} {X : gX} {pc q : Nat} {lv : List (Nat × Value)} {st : List Value} {sh : List gS} {M : gM} {kc ks : Nat} {x y v : Int32} {u w z : Int64}
theorem s_iconst {n : Int} (hX : gCl cc o nL d MC MS rt ini sc Rt X) (hd : decode cc pc = .ok (.iconst n, 1)) (hp : pc + 1 = q) (hv : Int32.ofInt n = v) (h : X q lv (.int v :: st) sh M kc ks) : X pc lv st sh M kc ks := by
  subst hp
  exact hX.1 _ _ _ _ _ _ _ _ _ hd ⟨rfl, by rw [hv]; exact h⟩
theorem s_bipush {n : Int} (hX : gCl cc o nL d MC MS rt ini sc Rt X) (hd : decode cc pc = .ok (.bipush n, 2)) (hp : pc + 2 = q) (hv : Int32.ofInt n = v) (hn : -128 ≤ n ∧ n ≤ 127) (h : X q lv (.int v :: st) sh M kc ks) : X pc lv st sh M kc ks := by
  subst hp
  exact hX.1 _ _ _ _ _ _ _ _ _ hd ⟨rfl, hn, by rw [hv]; exact h⟩
theorem s_sipush {n : Int} (hX : gCl cc o nL d MC MS rt ini sc Rt X) (hd : decode cc pc = .ok (.sipush n, 3)) (hp : pc + 3 = q) (hv : Int32.ofInt n = v) (hn : -32768 ≤ n ∧ n ≤ 32767) (h : X q lv (.int v :: st) sh M kc ks) : X pc lv st sh M kc ks := by
  subst hp
  exact hX.1 _ _ _ _ _ _ _ _ _ hd ⟨rfl, hn, by rw [hv]; exact h⟩
theorem s_lconst {n : Fin 2} (hX : gCl cc o nL d MC MS rt ini sc Rt X) (hd : decode cc pc = .ok (.lconst n, 1)) (hp : pc + 1 = q) (hv : Int64.ofNat n.val = z) (h : X q lv (.long z :: st) sh M kc ks) : X pc lv st sh M kc ks := by
  subst hp
  exact hX.1 _ _ _ _ _ _ _ _ _ hd ⟨rfl, by rw [hv]; exact h⟩
theorem s_ldc2 {i : Nat} (hX : gCl cc o nL d MC MS rt ini sc Rt X) (hd : decode cc pc = .ok (.ldc2_w i, 3)) (hp : pc + 3 = q) (hq : gcl o i = some z) (h : X q lv (.long z :: st) sh M kc ks) : X pc lv st sh M kc ks := by
  subst hp
  exact hX.1 _ _ _ _ _ _ _ _ _ hd ⟨rfl, z, hq, h⟩
theorem s_ldcw {i : Nat} (hX : gCl cc o nL d MC MS rt ini sc Rt X) (hd : decode cc pc = .ok (.ldc_w i, 3)) (hp : pc + 3 = q) (hq : gci o i = some v) (h : X q lv (.int v :: st) sh M kc ks) : X pc lv st sh M kc ks := by
  subst hp
  exact hX.1 _ _ _ _ _ _ _ _ _ hd ⟨rfl, v, hq, h⟩
theorem s_iload_n {k : Fin 4} (hX : gCl cc o nL d MC MS rt ini sc Rt X) (hd : decode cc pc = .ok (.iload_n k, 1)) (hp : pc + 1 = q) (hg : lget lv k.val = some (.int x)) (h : X q lv (.int x :: st) sh M kc ks) : X pc lv st sh M kc ks := by
  subst hp
  exact hX.1 _ _ _ _ _ _ _ _ _ hd ⟨rfl, by unfold glI; rw [hg]; exact h⟩
theorem s_iload {k : Nat} (hX : gCl cc o nL d MC MS rt ini sc Rt X) (hd : decode cc pc = .ok (.iload k, 2)) (hp : pc + 2 = q) (hg : lget lv k = some (.int x)) (h : X q lv (.int x :: st) sh M kc ks) : X pc lv st sh M kc ks := by
  subst hp
  exact hX.1 _ _ _ _ _ _ _ _ _ hd ⟨rfl, by unfold glI; rw [hg]; exact h⟩
theorem s_lload_n {k : Fin 4} (hX : gCl cc o nL d MC MS rt ini sc Rt X) (hd : decode cc pc = .ok (.lload_n k, 1)) (hp : pc + 1 = q) (hg : lget lv k.val = some (.long u)) (h : X q lv (.long u :: st) sh M kc ks) : X pc lv st sh M kc ks := by
  subst hp
  exact hX.1 _ _ _ _ _ _ _ _ _ hd ⟨rfl, by unfold glL; rw [hg]; exact h⟩
theorem s_lload {k : Nat} (hX : gCl cc o nL d MC MS rt ini sc Rt X) (hd : decode cc pc = .ok (.lload k, 2)) (hp : pc + 2 = q) (hg : lget lv k = some (.long u)) (h : X q lv (.long u :: st) sh M kc ks) : X pc lv st sh M kc ks := by
  subst hp
  exact hX.1 _ _ _ _ _ _ _ _ _ hd ⟨rfl, by unfold glL; rw [hg]; exact h⟩
theorem s_aload_n {k : Fin 4} {a : Nat} (hX : gCl cc o nL d MC MS rt ini sc Rt X) (hd : decode cc pc = .ok (.aload_n k, 1)) (hp : pc + 1 = q) (hg : lget lv k.val = some (.ref a)) (h : X q lv (.ref a :: st) sh M kc ks) : X pc lv st sh M kc ks := by
  subst hp
  exact hX.1 _ _ _ _ _ _ _ _ _ hd ⟨rfl, by unfold glR; rw [hg]; exact h⟩
theorem s_istore_n {k : Fin 4} {lv' : List (Nat × Value)} (hX : gCl cc o nL d MC MS rt ini sc Rt X) (hd : decode cc pc = .ok (.istore_n k, 1)) (hp : pc + 1 = q) (hk : k.val < nL) (hl : lput lv k.val (.int x) = lv') (h : X q lv' (st) sh M kc ks) : X pc lv (.int x :: st) sh M kc ks := by
  subst hp
  exact hX.1 _ _ _ _ _ _ _ _ _ hd ⟨rfl, hk, by rw [← hl] at h; exact h⟩
theorem s_istore {k : Nat} {lv' : List (Nat × Value)} (hX : gCl cc o nL d MC MS rt ini sc Rt X) (hd : decode cc pc = .ok (.istore k, 2)) (hp : pc + 2 = q) (hk : k < nL) (hl : lput lv k (.int x) = lv') (h : X q lv' (st) sh M kc ks) : X pc lv (.int x :: st) sh M kc ks := by
  subst hp
  exact hX.1 _ _ _ _ _ _ _ _ _ hd ⟨rfl, hk, by rw [← hl] at h; exact h⟩
theorem s_lstore_n {k : Fin 4} {lv' : List (Nat × Value)} (hX : gCl cc o nL d MC MS rt ini sc Rt X) (hd : decode cc pc = .ok (.lstore_n k, 1)) (hp : pc + 1 = q) (hk : k.val + 1 < nL) (hl : lputL lv k.val (.long u) = lv') (h : X q lv' (st) sh M kc ks) : X pc lv (.long u :: st) sh M kc ks := by
  subst hp
  exact hX.1 _ _ _ _ _ _ _ _ _ hd ⟨rfl, hk, by rw [← hl] at h; exact h⟩
theorem s_lstore {k : Nat} {lv' : List (Nat × Value)} (hX : gCl cc o nL d MC MS rt ini sc Rt X) (hd : decode cc pc = .ok (.lstore k, 2)) (hp : pc + 2 = q) (hk : k + 1 < nL) (hl : lputL lv k (.long u) = lv') (h : X q lv' (st) sh M kc ks) : X pc lv (.long u :: st) sh M kc ks := by
  subst hp
  exact hX.1 _ _ _ _ _ _ _ _ _ hd ⟨rfl, hk, by rw [← hl] at h; exact h⟩
theorem s_astore_n {k : Fin 4} {a : Nat} {lv' : List (Nat × Value)} (hX : gCl cc o nL d MC MS rt ini sc Rt X) (hd : decode cc pc = .ok (.astore_n k, 1)) (hp : pc + 1 = q) (hk : k.val < nL) (hl : lput lv k.val (.ref a) = lv') (h : X q lv' (st) sh M kc ks) : X pc lv (.ref a :: st) sh M kc ks := by
  subst hp
  exact hX.1 _ _ _ _ _ _ _ _ _ hd ⟨rfl, hk, by rw [← hl] at h; exact h⟩
theorem s_iinc {k : Nat} {n : Int} {lv' : List (Nat × Value)} (hX : gCl cc o nL d MC MS rt ini sc Rt X) (hd : decode cc pc = .ok (.iinc k n, 3)) (hp : pc + 3 = q) (hg : lget lv k = some (.int x)) (hv : x + Int32.ofInt n = v) (hk : k < nL) (hl : lput lv k (.int v) = lv') (h : X q lv' (st) sh M kc ks) : X pc lv st sh M kc ks := by
  subst hp
  exact hX.1 _ _ _ _ _ _ _ _ _ hd ⟨rfl, hk, by unfold glI; rw [hg]; rw [← hl, ← hv] at h; exact h⟩
theorem s_iadd (hX : gCl cc o nL d MC MS rt ini sc Rt X) (hd : decode cc pc = .ok (.iadd, 1)) (hp : pc + 1 = q) (hv : x + y = v) (h : X q lv (.int v :: st) sh M kc ks) : X pc lv (.int y :: .int x :: st) sh M kc ks := by
  subst hp
  exact hX.1 _ _ _ _ _ _ _ _ _ hd ⟨rfl, by rw [← hv] at h; exact h⟩
theorem s_isub (hX : gCl cc o nL d MC MS rt ini sc Rt X) (hd : decode cc pc = .ok (.isub, 1)) (hp : pc + 1 = q) (hv : x - y = v) (h : X q lv (.int v :: st) sh M kc ks) : X pc lv (.int y :: .int x :: st) sh M kc ks := by
  subst hp
  exact hX.1 _ _ _ _ _ _ _ _ _ hd ⟨rfl, by rw [← hv] at h; exact h⟩
theorem s_imul (hX : gCl cc o nL d MC MS rt ini sc Rt X) (hd : decode cc pc = .ok (.imul, 1)) (hp : pc + 1 = q) (hv : x * y = v) (h : X q lv (.int v :: st) sh M kc ks) : X pc lv (.int y :: .int x :: st) sh M kc ks := by
  subst hp
  exact hX.1 _ _ _ _ _ _ _ _ _ hd ⟨rfl, by rw [← hv] at h; exact h⟩
theorem s_iand (hX : gCl cc o nL d MC MS rt ini sc Rt X) (hd : decode cc pc = .ok (.iand, 1)) (hp : pc + 1 = q) (hv : x &&& y = v) (h : X q lv (.int v :: st) sh M kc ks) : X pc lv (.int y :: .int x :: st) sh M kc ks := by
  subst hp
  exact hX.1 _ _ _ _ _ _ _ _ _ hd ⟨rfl, by rw [← hv] at h; exact h⟩
theorem s_ior (hX : gCl cc o nL d MC MS rt ini sc Rt X) (hd : decode cc pc = .ok (.ior, 1)) (hp : pc + 1 = q) (hv : x ||| y = v) (h : X q lv (.int v :: st) sh M kc ks) : X pc lv (.int y :: .int x :: st) sh M kc ks := by
  subst hp
  exact hX.1 _ _ _ _ _ _ _ _ _ hd ⟨rfl, by rw [← hv] at h; exact h⟩
theorem s_ishl (hX : gCl cc o nL d MC MS rt ini sc Rt X) (hd : decode cc pc = .ok (.ishl, 1)) (hp : pc + 1 = q) (hv : x <<< (y &&& 31) = v) (h : X q lv (.int v :: st) sh M kc ks) : X pc lv (.int y :: .int x :: st) sh M kc ks := by
  subst hp
  exact hX.1 _ _ _ _ _ _ _ _ _ hd ⟨rfl, by rw [← hv] at h; exact h⟩
theorem s_ishr (hX : gCl cc o nL d MC MS rt ini sc Rt X) (hd : decode cc pc = .ok (.ishr, 1)) (hp : pc + 1 = q) (hv : x >>> (y &&& 31) = v) (h : X q lv (.int v :: st) sh M kc ks) : X pc lv (.int y :: .int x :: st) sh M kc ks := by
  subst hp
  exact hX.1 _ _ _ _ _ _ _ _ _ hd ⟨rfl, by rw [← hv] at h; exact h⟩
theorem s_iushr (hX : gCl cc o nL d MC MS rt ini sc Rt X) (hd : decode cc pc = .ok (.iushr, 1)) (hp : pc + 1 = q) (hv : iush x y = v) (h : X q lv (.int v :: st) sh M kc ks) : X pc lv (.int y :: .int x :: st) sh M kc ks := by
  subst hp
  exact hX.1 _ _ _ _ _ _ _ _ _ hd ⟨rfl, by rw [← hv] at h; exact h⟩
theorem s_idiv (hX : gCl cc o nL d MC MS rt ini sc Rt X) (hd : decode cc pc = .ok (.idiv, 1)) (hp : pc + 1 = q) (hv : x / y = v) (hne : ¬ y = 0) (h : X q lv (.int v :: st) sh M kc ks) : X pc lv (.int y :: .int x :: st) sh M kc ks := by
  subst hp
  exact hX.1 _ _ _ _ _ _ _ _ _ hd ⟨rfl, hne, by rw [← hv] at h; exact h⟩
theorem s_irem (hX : gCl cc o nL d MC MS rt ini sc Rt X) (hd : decode cc pc = .ok (.irem, 1)) (hp : pc + 1 = q) (hv : irm x y = v) (hne : ¬ y = 0) (h : X q lv (.int v :: st) sh M kc ks) : X pc lv (.int y :: .int x :: st) sh M kc ks := by
  subst hp
  exact hX.1 _ _ _ _ _ _ _ _ _ hd ⟨rfl, hne, by rw [← hv] at h; exact h⟩
theorem s_ladd (hX : gCl cc o nL d MC MS rt ini sc Rt X) (hd : decode cc pc = .ok (.ladd, 1)) (hp : pc + 1 = q) (hv : u + w = z) (h : X q lv (.long z :: st) sh M kc ks) : X pc lv (.long w :: .long u :: st) sh M kc ks := by
  subst hp
  exact hX.1 _ _ _ _ _ _ _ _ _ hd ⟨rfl, by rw [← hv] at h; exact h⟩
theorem s_lmul (hX : gCl cc o nL d MC MS rt ini sc Rt X) (hd : decode cc pc = .ok (.lmul, 1)) (hp : pc + 1 = q) (hv : u * w = z) (h : X q lv (.long z :: st) sh M kc ks) : X pc lv (.long w :: .long u :: st) sh M kc ks := by
  subst hp
  exact hX.1 _ _ _ _ _ _ _ _ _ hd ⟨rfl, by rw [← hv] at h; exact h⟩
theorem s_ldiv (hX : gCl cc o nL d MC MS rt ini sc Rt X) (hd : decode cc pc = .ok (.ldiv, 1)) (hp : pc + 1 = q) (hv : u / w = z) (hne : ¬ w = 0) (h : X q lv (.long z :: st) sh M kc ks) : X pc lv (.long w :: .long u :: st) sh M kc ks := by
  subst hp
  exact hX.1 _ _ _ _ _ _ _ _ _ hd ⟨rfl, hne, by rw [← hv] at h; exact h⟩
theorem s_lrem (hX : gCl cc o nL d MC MS rt ini sc Rt X) (hd : decode cc pc = .ok (.lrem, 1)) (hp : pc + 1 = q) (hv : lrm u w = z) (hne : ¬ w = 0) (h : X q lv (.long z :: st) sh M kc ks) : X pc lv (.long w :: .long u :: st) sh M kc ks := by
  subst hp
  exact hX.1 _ _ _ _ _ _ _ _ _ hd ⟨rfl, hne, by rw [← hv] at h; exact h⟩
theorem s_lcmp (hX : gCl cc o nL d MC MS rt ini sc Rt X) (hd : decode cc pc = .ok (.lcmp, 1)) (hp : pc + 1 = q) (hv : lg_cmp u w = v) (h : X q lv (.int v :: st) sh M kc ks) : X pc lv (.long w :: .long u :: st) sh M kc ks := by
  subst hp
  exact hX.1 _ _ _ _ _ _ _ _ _ hd ⟨rfl, by rw [← hv] at h; exact h⟩
theorem s_ineg (hX : gCl cc o nL d MC MS rt ini sc Rt X) (hd : decode cc pc = .ok (.ineg, 1)) (hp : pc + 1 = q) (hv : -x = v) (h : X q lv (.int v :: st) sh M kc ks) : X pc lv (.int x :: st) sh M kc ks := by
  subst hp
  exact hX.1 _ _ _ _ _ _ _ _ _ hd ⟨rfl, by rw [← hv] at h; exact h⟩
theorem s_i2l (hX : gCl cc o nL d MC MS rt ini sc Rt X) (hd : decode cc pc = .ok (.i2l, 1)) (hp : pc + 1 = q) (hv : x.toInt64 = z) (h : X q lv (.long z :: st) sh M kc ks) : X pc lv (.int x :: st) sh M kc ks := by
  subst hp
  exact hX.1 _ _ _ _ _ _ _ _ _ hd ⟨rfl, by rw [← hv] at h; exact h⟩
theorem s_i2b (hX : gCl cc o nL d MC MS rt ini sc Rt X) (hd : decode cc pc = .ok (.i2b, 1)) (hp : pc + 1 = q) (hv : x.toInt8.toInt32 = v) (h : X q lv (.int v :: st) sh M kc ks) : X pc lv (.int x :: st) sh M kc ks := by
  subst hp
  exact hX.1 _ _ _ _ _ _ _ _ _ hd ⟨rfl, by rw [← hv] at h; exact h⟩
theorem s_l2i (hX : gCl cc o nL d MC MS rt ini sc Rt X) (hd : decode cc pc = .ok (.l2i, 1)) (hp : pc + 1 = q) (hv : u.toInt32 = v) (h : X q lv (.int v :: st) sh M kc ks) : X pc lv (.long u :: st) sh M kc ks := by
  subst hp
  exact hX.1 _ _ _ _ _ _ _ _ _ hd ⟨rfl, by rw [← hv] at h; exact h⟩
theorem s_dup {a : Value} (hX : gCl cc o nL d MC MS rt ini sc Rt X) (hd : decode cc pc = .ok (.dup, 1)) (hp : pc + 1 = q) (hc : a.category = 1) (h : X q lv (a :: a :: st) sh M kc ks) : X pc lv (a :: st) sh M kc ks := by
  subst hp
  exact hX.1 _ _ _ _ _ _ _ _ _ hd ⟨rfl, hc, h⟩
theorem s_dup2 {a b : Value} (hX : gCl cc o nL d MC MS rt ini sc Rt X) (hd : decode cc pc = .ok (.dup2, 1)) (hp : pc + 1 = q) (hc : a.category = 1) (hb : b.category = 1) (h : X q lv (a :: b :: a :: b :: st) sh M kc ks) : X pc lv (a :: b :: st) sh M kc ks := by
  subst hp
  exact hX.1 _ _ _ _ _ _ _ _ _ hd ⟨rfl, ⟨hc, hb⟩, h⟩
theorem s_pop {a : Value} (hX : gCl cc o nL d MC MS rt ini sc Rt X) (hd : decode cc pc = .ok (.pop, 1)) (hp : pc + 1 = q) (hc : a.category = 1) (h : X q lv (st) sh M kc ks) : X pc lv (a :: st) sh M kc ks := by
  subst hp
  exact hX.1 _ _ _ _ _ _ _ _ _ hd ⟨rfl, hc, h⟩
theorem s_goto {off : Int} (hX : gCl cc o nL d MC MS rt ini sc Rt X) (hd : decode cc pc = .ok (.goto off, 3)) (hp : (pc : Int) + off = (q : Int)) (h : X q lv st sh M kc ks) : X pc lv st sh M kc ks := by
  refine hX.1 _ _ _ _ _ _ _ _ _ hd ⟨rfl, ?_, ?_⟩
  · rw [hp]; exact Int.natCast_nonneg q
  · rw [hp]; exact h
theorem s_if_eq {off : Int} {r : Nat} (hX : gCl cc o nL d MC MS rt ini sc Rt X) (hd : decode cc pc = .ok (.ifCond .eq off, 3)) (hp : pc + 3 = q) (ho : (pc : Int) + off = (r : Int)) (ht : x = 0 → X r lv st sh M kc ks) (hf : ¬ (x = 0) → X q lv st sh M kc ks) : X pc lv (.int x :: st) sh M kc ks := by
  subst hp
  refine hX.1 _ _ _ _ _ _ _ _ _ hd ⟨rfl, ?_, ?_, hf⟩
  · rw [ho]; exact Int.natCast_nonneg r
  · rw [ho]; exact ht
theorem s_if_eq_t {off : Int} {r : Nat} (hX : gCl cc o nL d MC MS rt ini sc Rt X) (hd : decode cc pc = .ok (.ifCond .eq off, 3)) (hp : pc + 3 = q) (ho : (pc : Int) + off = (r : Int)) (hc : x = 0) (h : X r lv st sh M kc ks) : X pc lv (.int x :: st) sh M kc ks := s_if_eq hX hd hp ho (fun _ => h) (fun z => absurd hc z)
theorem s_if_eq_f {off : Int} {r : Nat} (hX : gCl cc o nL d MC MS rt ini sc Rt X) (hd : decode cc pc = .ok (.ifCond .eq off, 3)) (hp : pc + 3 = q) (ho : (pc : Int) + off = (r : Int)) (hc : ¬ (x = 0)) (h : X q lv st sh M kc ks) : X pc lv (.int x :: st) sh M kc ks := s_if_eq hX hd hp ho (fun z => absurd z hc) (fun _ => h)
theorem s_icmp_eq {off : Int} {r : Nat} (hX : gCl cc o nL d MC MS rt ini sc Rt X) (hd : decode cc pc = .ok (.if_icmp .eq off, 3)) (hp : pc + 3 = q) (ho : (pc : Int) + off = (r : Int)) (ht : x = y → X r lv st sh M kc ks) (hf : ¬ (x = y) → X q lv st sh M kc ks) : X pc lv (.int y :: .int x :: st) sh M kc ks := by
  subst hp
  refine hX.1 _ _ _ _ _ _ _ _ _ hd ⟨rfl, ?_, ?_, hf⟩
  · rw [ho]; exact Int.natCast_nonneg r
  · rw [ho]; exact ht
theorem s_icmp_eq_t {off : Int} {r : Nat} (hX : gCl cc o nL d MC MS rt ini sc Rt X) (hd : decode cc pc = .ok (.if_icmp .eq off, 3)) (hp : pc + 3 = q) (ho : (pc : Int) + off = (r : Int)) (hc : x = y) (h : X r lv st sh M kc ks) : X pc lv (.int y :: .int x :: st) sh M kc ks := s_icmp_eq hX hd hp ho (fun _ => h) (fun z => absurd hc z)
theorem s_icmp_eq_f {off : Int} {r : Nat} (hX : gCl cc o nL d MC MS rt ini sc Rt X) (hd : decode cc pc = .ok (.if_icmp .eq off, 3)) (hp : pc + 3 = q) (ho : (pc : Int) + off = (r : Int)) (hc : ¬ (x = y)) (h : X q lv st sh M kc ks) : X pc lv (.int y :: .int x :: st) sh M kc ks := s_icmp_eq hX hd hp ho (fun z => absurd z hc) (fun _ => h)
theorem s_if_ne {off : Int} {r : Nat} (hX : gCl cc o nL d MC MS rt ini sc Rt X) (hd : decode cc pc = .ok (.ifCond .ne off, 3)) (hp : pc + 3 = q) (ho : (pc : Int) + off = (r : Int)) (ht : ¬ x = 0 → X r lv st sh M kc ks) (hf : ¬ (¬ x = 0) → X q lv st sh M kc ks) : X pc lv (.int x :: st) sh M kc ks := by
  subst hp
  refine hX.1 _ _ _ _ _ _ _ _ _ hd ⟨rfl, ?_, ?_, hf⟩
  · rw [ho]; exact Int.natCast_nonneg r
  · rw [ho]; exact ht
theorem s_if_ne_t {off : Int} {r : Nat} (hX : gCl cc o nL d MC MS rt ini sc Rt X) (hd : decode cc pc = .ok (.ifCond .ne off, 3)) (hp : pc + 3 = q) (ho : (pc : Int) + off = (r : Int)) (hc : ¬ x = 0) (h : X r lv st sh M kc ks) : X pc lv (.int x :: st) sh M kc ks := s_if_ne hX hd hp ho (fun _ => h) (fun z => absurd hc z)
theorem s_if_ne_f {off : Int} {r : Nat} (hX : gCl cc o nL d MC MS rt ini sc Rt X) (hd : decode cc pc = .ok (.ifCond .ne off, 3)) (hp : pc + 3 = q) (ho : (pc : Int) + off = (r : Int)) (hc : ¬ (¬ x = 0)) (h : X q lv st sh M kc ks) : X pc lv (.int x :: st) sh M kc ks := s_if_ne hX hd hp ho (fun z => absurd z hc) (fun _ => h)
theorem s_icmp_ne {off : Int} {r : Nat} (hX : gCl cc o nL d MC MS rt ini sc Rt X) (hd : decode cc pc = .ok (.if_icmp .ne off, 3)) (hp : pc + 3 = q) (ho : (pc : Int) + off = (r : Int)) (ht : ¬ x = y → X r lv st sh M kc ks) (hf : ¬ (¬ x = y) → X q lv st sh M kc ks) : X pc lv (.int y :: .int x :: st) sh M kc ks := by
  subst hp
  refine hX.1 _ _ _ _ _ _ _ _ _ hd ⟨rfl, ?_, ?_, hf⟩
  · rw [ho]; exact Int.natCast_nonneg r
  · rw [ho]; exact ht
theorem s_icmp_ne_t {off : Int} {r : Nat} (hX : gCl cc o nL d MC MS rt ini sc Rt X) (hd : decode cc pc = .ok (.if_icmp .ne off, 3)) (hp : pc + 3 = q) (ho : (pc : Int) + off = (r : Int)) (hc : ¬ x = y) (h : X r lv st sh M kc ks) : X pc lv (.int y :: .int x :: st) sh M kc ks := s_icmp_ne hX hd hp ho (fun _ => h) (fun z => absurd hc z)
theorem s_icmp_ne_f {off : Int} {r : Nat} (hX : gCl cc o nL d MC MS rt ini sc Rt X) (hd : decode cc pc = .ok (.if_icmp .ne off, 3)) (hp : pc + 3 = q) (ho : (pc : Int) + off = (r : Int)) (hc : ¬ (¬ x = y)) (h : X q lv st sh M kc ks) : X pc lv (.int y :: .int x :: st) sh M kc ks := s_icmp_ne hX hd hp ho (fun z => absurd z hc) (fun _ => h)
theorem s_if_lt {off : Int} {r : Nat} (hX : gCl cc o nL d MC MS rt ini sc Rt X) (hd : decode cc pc = .ok (.ifCond .lt off, 3)) (hp : pc + 3 = q) (ho : (pc : Int) + off = (r : Int)) (ht : x < 0 → X r lv st sh M kc ks) (hf : ¬ (x < 0) → X q lv st sh M kc ks) : X pc lv (.int x :: st) sh M kc ks := by
  subst hp
  refine hX.1 _ _ _ _ _ _ _ _ _ hd ⟨rfl, ?_, ?_, hf⟩
  · rw [ho]; exact Int.natCast_nonneg r
  · rw [ho]; exact ht
theorem s_if_lt_t {off : Int} {r : Nat} (hX : gCl cc o nL d MC MS rt ini sc Rt X) (hd : decode cc pc = .ok (.ifCond .lt off, 3)) (hp : pc + 3 = q) (ho : (pc : Int) + off = (r : Int)) (hc : x < 0) (h : X r lv st sh M kc ks) : X pc lv (.int x :: st) sh M kc ks := s_if_lt hX hd hp ho (fun _ => h) (fun z => absurd hc z)
theorem s_if_lt_f {off : Int} {r : Nat} (hX : gCl cc o nL d MC MS rt ini sc Rt X) (hd : decode cc pc = .ok (.ifCond .lt off, 3)) (hp : pc + 3 = q) (ho : (pc : Int) + off = (r : Int)) (hc : ¬ (x < 0)) (h : X q lv st sh M kc ks) : X pc lv (.int x :: st) sh M kc ks := s_if_lt hX hd hp ho (fun z => absurd z hc) (fun _ => h)
theorem s_icmp_lt {off : Int} {r : Nat} (hX : gCl cc o nL d MC MS rt ini sc Rt X) (hd : decode cc pc = .ok (.if_icmp .lt off, 3)) (hp : pc + 3 = q) (ho : (pc : Int) + off = (r : Int)) (ht : x < y → X r lv st sh M kc ks) (hf : ¬ (x < y) → X q lv st sh M kc ks) : X pc lv (.int y :: .int x :: st) sh M kc ks := by
  subst hp
  refine hX.1 _ _ _ _ _ _ _ _ _ hd ⟨rfl, ?_, ?_, hf⟩
  · rw [ho]; exact Int.natCast_nonneg r
  · rw [ho]; exact ht
theorem s_icmp_lt_t {off : Int} {r : Nat} (hX : gCl cc o nL d MC MS rt ini sc Rt X) (hd : decode cc pc = .ok (.if_icmp .lt off, 3)) (hp : pc + 3 = q) (ho : (pc : Int) + off = (r : Int)) (hc : x < y) (h : X r lv st sh M kc ks) : X pc lv (.int y :: .int x :: st) sh M kc ks := s_icmp_lt hX hd hp ho (fun _ => h) (fun z => absurd hc z)
theorem s_icmp_lt_f {off : Int} {r : Nat} (hX : gCl cc o nL d MC MS rt ini sc Rt X) (hd : decode cc pc = .ok (.if_icmp .lt off, 3)) (hp : pc + 3 = q) (ho : (pc : Int) + off = (r : Int)) (hc : ¬ (x < y)) (h : X q lv st sh M kc ks) : X pc lv (.int y :: .int x :: st) sh M kc ks := s_icmp_lt hX hd hp ho (fun z => absurd z hc) (fun _ => h)
theorem s_if_ge {off : Int} {r : Nat} (hX : gCl cc o nL d MC MS rt ini sc Rt X) (hd : decode cc pc = .ok (.ifCond .ge off, 3)) (hp : pc + 3 = q) (ho : (pc : Int) + off = (r : Int)) (ht : 0 ≤ x → X r lv st sh M kc ks) (hf : ¬ (0 ≤ x) → X q lv st sh M kc ks) : X pc lv (.int x :: st) sh M kc ks := by
  subst hp
  refine hX.1 _ _ _ _ _ _ _ _ _ hd ⟨rfl, ?_, ?_, hf⟩
  · rw [ho]; exact Int.natCast_nonneg r
  · rw [ho]; exact ht
theorem s_if_ge_t {off : Int} {r : Nat} (hX : gCl cc o nL d MC MS rt ini sc Rt X) (hd : decode cc pc = .ok (.ifCond .ge off, 3)) (hp : pc + 3 = q) (ho : (pc : Int) + off = (r : Int)) (hc : 0 ≤ x) (h : X r lv st sh M kc ks) : X pc lv (.int x :: st) sh M kc ks := s_if_ge hX hd hp ho (fun _ => h) (fun z => absurd hc z)
theorem s_if_ge_f {off : Int} {r : Nat} (hX : gCl cc o nL d MC MS rt ini sc Rt X) (hd : decode cc pc = .ok (.ifCond .ge off, 3)) (hp : pc + 3 = q) (ho : (pc : Int) + off = (r : Int)) (hc : ¬ (0 ≤ x)) (h : X q lv st sh M kc ks) : X pc lv (.int x :: st) sh M kc ks := s_if_ge hX hd hp ho (fun z => absurd z hc) (fun _ => h)
theorem s_icmp_ge {off : Int} {r : Nat} (hX : gCl cc o nL d MC MS rt ini sc Rt X) (hd : decode cc pc = .ok (.if_icmp .ge off, 3)) (hp : pc + 3 = q) (ho : (pc : Int) + off = (r : Int)) (ht : y ≤ x → X r lv st sh M kc ks) (hf : ¬ (y ≤ x) → X q lv st sh M kc ks) : X pc lv (.int y :: .int x :: st) sh M kc ks := by
  subst hp
  refine hX.1 _ _ _ _ _ _ _ _ _ hd ⟨rfl, ?_, ?_, hf⟩
  · rw [ho]; exact Int.natCast_nonneg r
  · rw [ho]; exact ht
theorem s_icmp_ge_t {off : Int} {r : Nat} (hX : gCl cc o nL d MC MS rt ini sc Rt X) (hd : decode cc pc = .ok (.if_icmp .ge off, 3)) (hp : pc + 3 = q) (ho : (pc : Int) + off = (r : Int)) (hc : y ≤ x) (h : X r lv st sh M kc ks) : X pc lv (.int y :: .int x :: st) sh M kc ks := s_icmp_ge hX hd hp ho (fun _ => h) (fun z => absurd hc z)
theorem s_icmp_ge_f {off : Int} {r : Nat} (hX : gCl cc o nL d MC MS rt ini sc Rt X) (hd : decode cc pc = .ok (.if_icmp .ge off, 3)) (hp : pc + 3 = q) (ho : (pc : Int) + off = (r : Int)) (hc : ¬ (y ≤ x)) (h : X q lv st sh M kc ks) : X pc lv (.int y :: .int x :: st) sh M kc ks := s_icmp_ge hX hd hp ho (fun z => absurd z hc) (fun _ => h)
theorem s_if_gt {off : Int} {r : Nat} (hX : gCl cc o nL d MC MS rt ini sc Rt X) (hd : decode cc pc = .ok (.ifCond .gt off, 3)) (hp : pc + 3 = q) (ho : (pc : Int) + off = (r : Int)) (ht : 0 < x → X r lv st sh M kc ks) (hf : ¬ (0 < x) → X q lv st sh M kc ks) : X pc lv (.int x :: st) sh M kc ks := by
  subst hp
  refine hX.1 _ _ _ _ _ _ _ _ _ hd ⟨rfl, ?_, ?_, hf⟩
  · rw [ho]; exact Int.natCast_nonneg r
  · rw [ho]; exact ht
theorem s_if_gt_t {off : Int} {r : Nat} (hX : gCl cc o nL d MC MS rt ini sc Rt X) (hd : decode cc pc = .ok (.ifCond .gt off, 3)) (hp : pc + 3 = q) (ho : (pc : Int) + off = (r : Int)) (hc : 0 < x) (h : X r lv st sh M kc ks) : X pc lv (.int x :: st) sh M kc ks := s_if_gt hX hd hp ho (fun _ => h) (fun z => absurd hc z)
theorem s_if_gt_f {off : Int} {r : Nat} (hX : gCl cc o nL d MC MS rt ini sc Rt X) (hd : decode cc pc = .ok (.ifCond .gt off, 3)) (hp : pc + 3 = q) (ho : (pc : Int) + off = (r : Int)) (hc : ¬ (0 < x)) (h : X q lv st sh M kc ks) : X pc lv (.int x :: st) sh M kc ks := s_if_gt hX hd hp ho (fun z => absurd z hc) (fun _ => h)
theorem s_icmp_gt {off : Int} {r : Nat} (hX : gCl cc o nL d MC MS rt ini sc Rt X) (hd : decode cc pc = .ok (.if_icmp .gt off, 3)) (hp : pc + 3 = q) (ho : (pc : Int) + off = (r : Int)) (ht : y < x → X r lv st sh M kc ks) (hf : ¬ (y < x) → X q lv st sh M kc ks) : X pc lv (.int y :: .int x :: st) sh M kc ks := by
  subst hp
  refine hX.1 _ _ _ _ _ _ _ _ _ hd ⟨rfl, ?_, ?_, hf⟩
  · rw [ho]; exact Int.natCast_nonneg r
  · rw [ho]; exact ht
theorem s_icmp_gt_t {off : Int} {r : Nat} (hX : gCl cc o nL d MC MS rt ini sc Rt X) (hd : decode cc pc = .ok (.if_icmp .gt off, 3)) (hp : pc + 3 = q) (ho : (pc : Int) + off = (r : Int)) (hc : y < x) (h : X r lv st sh M kc ks) : X pc lv (.int y :: .int x :: st) sh M kc ks := s_icmp_gt hX hd hp ho (fun _ => h) (fun z => absurd hc z)
theorem s_icmp_gt_f {off : Int} {r : Nat} (hX : gCl cc o nL d MC MS rt ini sc Rt X) (hd : decode cc pc = .ok (.if_icmp .gt off, 3)) (hp : pc + 3 = q) (ho : (pc : Int) + off = (r : Int)) (hc : ¬ (y < x)) (h : X q lv st sh M kc ks) : X pc lv (.int y :: .int x :: st) sh M kc ks := s_icmp_gt hX hd hp ho (fun z => absurd z hc) (fun _ => h)
theorem s_if_le {off : Int} {r : Nat} (hX : gCl cc o nL d MC MS rt ini sc Rt X) (hd : decode cc pc = .ok (.ifCond .le off, 3)) (hp : pc + 3 = q) (ho : (pc : Int) + off = (r : Int)) (ht : x ≤ 0 → X r lv st sh M kc ks) (hf : ¬ (x ≤ 0) → X q lv st sh M kc ks) : X pc lv (.int x :: st) sh M kc ks := by
  subst hp
  refine hX.1 _ _ _ _ _ _ _ _ _ hd ⟨rfl, ?_, ?_, hf⟩
  · rw [ho]; exact Int.natCast_nonneg r
  · rw [ho]; exact ht
theorem s_if_le_t {off : Int} {r : Nat} (hX : gCl cc o nL d MC MS rt ini sc Rt X) (hd : decode cc pc = .ok (.ifCond .le off, 3)) (hp : pc + 3 = q) (ho : (pc : Int) + off = (r : Int)) (hc : x ≤ 0) (h : X r lv st sh M kc ks) : X pc lv (.int x :: st) sh M kc ks := s_if_le hX hd hp ho (fun _ => h) (fun z => absurd hc z)
theorem s_if_le_f {off : Int} {r : Nat} (hX : gCl cc o nL d MC MS rt ini sc Rt X) (hd : decode cc pc = .ok (.ifCond .le off, 3)) (hp : pc + 3 = q) (ho : (pc : Int) + off = (r : Int)) (hc : ¬ (x ≤ 0)) (h : X q lv st sh M kc ks) : X pc lv (.int x :: st) sh M kc ks := s_if_le hX hd hp ho (fun z => absurd z hc) (fun _ => h)
theorem s_icmp_le {off : Int} {r : Nat} (hX : gCl cc o nL d MC MS rt ini sc Rt X) (hd : decode cc pc = .ok (.if_icmp .le off, 3)) (hp : pc + 3 = q) (ho : (pc : Int) + off = (r : Int)) (ht : x ≤ y → X r lv st sh M kc ks) (hf : ¬ (x ≤ y) → X q lv st sh M kc ks) : X pc lv (.int y :: .int x :: st) sh M kc ks := by
  subst hp
  refine hX.1 _ _ _ _ _ _ _ _ _ hd ⟨rfl, ?_, ?_, hf⟩
  · rw [ho]; exact Int.natCast_nonneg r
  · rw [ho]; exact ht
theorem s_icmp_le_t {off : Int} {r : Nat} (hX : gCl cc o nL d MC MS rt ini sc Rt X) (hd : decode cc pc = .ok (.if_icmp .le off, 3)) (hp : pc + 3 = q) (ho : (pc : Int) + off = (r : Int)) (hc : x ≤ y) (h : X r lv st sh M kc ks) : X pc lv (.int y :: .int x :: st) sh M kc ks := s_icmp_le hX hd hp ho (fun _ => h) (fun z => absurd hc z)
theorem s_icmp_le_f {off : Int} {r : Nat} (hX : gCl cc o nL d MC MS rt ini sc Rt X) (hd : decode cc pc = .ok (.if_icmp .le off, 3)) (hp : pc + 3 = q) (ho : (pc : Int) + off = (r : Int)) (hc : ¬ (x ≤ y)) (h : X q lv st sh M kc ks) : X pc lv (.int y :: .int x :: st) sh M kc ks := s_icmp_le hX hd hp ho (fun z => absurd z hc) (fun _ => h)
theorem s_table {df lo hi : Int} {offs : Array Int} {len : Nat} (hX : gCl cc o nL d MC MS rt ini sc Rt X) (hd : decode cc pc = .ok (.tableswitch df lo hi offs, len)) (hh : hi = lo + offs.toList.length - 1) (hdf : x.toInt < lo ∨ hi < x.toInt → gto X pc df lv st sh M kc ks) (hsw : gswT (fun off => gto X pc off lv st sh M kc ks) x lo offs.toList) : X pc lv (.int x :: st) sh M kc ks :=
  hX.1 _ _ _ _ _ _ _ _ _ hd ⟨hh, hdf, hsw⟩
theorem s_lookup {df : Int} {ps : Array (Int × Int)} {len : Nat} (hX : gCl cc o nL d MC MS rt ini sc Rt X) (hd : decode cc pc = .ok (.lookupswitch df ps, len)) (hs : (ps.toList.zip (ps.toList.drop 1)).all (fun (a, next) => a.1 < next.1) = true) (hsw : gswL (fun off => gto X pc off lv st sh M kc ks) x df ps.toList) : X pc lv (.int x :: st) sh M kc ks :=
  hX.1 _ _ _ _ _ _ _ _ _ hd ⟨hs, hsw⟩
theorem s_to {off : Int} {r : Nat} (ho : (pc : Int) + off = (r : Int)) (h : X r lv st sh M kc ks) : gto X pc off lv st sh M kc ks := by
  refine ⟨?_, ?_⟩
  · rw [ho]; exact Int.natCast_nonneg r
  · rw [ho]; exact h
/-- another name for what is on top -/
theorem s_topi (e : x = v) (h : X pc lv (.int v :: st) sh M kc ks) : X pc lv (.int x :: st) sh M kc ks := by rw [e]; exact h
theorem s_lv {lv' : List (Nat × Value)} (hX : gCl cc o nL d MC MS rt ini sc Rt X) (hl : ∀ q ∈ lv', q ∈ lv) (h : X pc lv' st sh M kc ks) : X pc lv st sh M kc ks := hX.2.1 _ _ _ _ _ _ _ _ hl h
theorem s_M {M' : gM} (hX : gCl cc o nL d MC MS rt ini sc Rt X) (hM : ∀ a e, sh[a]? = some e → gsame e (M a) (M' a)) (h : X pc lv st sh M' kc ks) : X pc lv st sh M kc ks := hX.2.2 _ _ _ _ _ _ _ _ hM h
theorem s_geti {i ci k t a : Nat} {fs : List (Option Value)} (hX : gCl cc o nL d MC MS rt ini sc Rt X) (hd : decode cc pc = .ok (.getfield i, 3)) (hp : pc + 3 = q) (hq : gfl o i = some (ci, k, t)) (ha : sh[a]? = some (.inl (ci, fs))) (hf : fs[k]? = some none) (h : X q lv (.int (M a k) :: st) sh M kc ks) : X pc lv (.ref a :: st) sh M kc ks := by
  subst hp
  exact hX.1 _ _ _ _ _ _ _ _ _ hd ⟨rfl, gfc_i hq (gpr_i (ggf_i ha hf h))⟩
theorem s_getr {i ci k t a : Nat} {fs : List (Option Value)} {b : Value} (hX : gCl cc o nL d MC MS rt ini sc Rt X) (hd : decode cc pc = .ok (.getfield i, 3)) (hp : pc + 3 = q) (hq : gfl o i = some (ci, k, t)) (ha : sh[a]? = some (.inl (ci, fs))) (hf : fs[k]? = some (some b)) (h : X q lv (b :: st) sh M kc ks) : X pc lv (.ref a :: st) sh M kc ks := by
  subst hp
  exact hX.1 _ _ _ _ _ _ _ _ _ hd ⟨rfl, gfc_i hq (gpr_i (ggf_i ha hf h))⟩
theorem s_puti {i ci k a : Nat} {fs : List (Option Value)} (hX : gCl cc o nL d MC MS rt ini sc Rt X) (hd : decode cc pc = .ok (.putfield i, 3)) (hp : pc + 3 = q) (hq : gfl o i = some (ci, k, 0)) (ha : sh[a]? = some (.inl (ci, fs))) (hf : fs[k]? = some none) (h : X q lv (st) sh (gsr M a (upd (M a) k x)) kc ks) : X pc lv (.int x :: .ref a :: st) sh M kc ks := by
  subst hp
  exact hX.1 _ _ _ _ _ _ _ _ _ hd ⟨rfl, gfc_i hq (by rw [if_pos (by decide)]; exact gpir_i (ggf_i ha hf ⟨rfl, (fun z => by cases z), h⟩))⟩
theorem s_putz {i ci k a : Nat} {fs : List (Option Value)} (hX : gCl cc o nL d MC MS rt ini sc Rt X) (hd : decode cc pc = .ok (.putfield i, 3)) (hp : pc + 3 = q) (hq : gfl o i = some (ci, k, 1)) (ha : sh[a]? = some (.inl (ci, fs))) (hf : fs[k]? = some none) (hb : x = 0 ∨ x = 1) (h : X q lv (st) sh (gsr M a (upd (M a) k x)) kc ks) : X pc lv (.int x :: .ref a :: st) sh M kc ks := by
  subst hp
  exact hX.1 _ _ _ _ _ _ _ _ _ hd ⟨rfl, gfc_i hq (by rw [if_pos (by decide)]; exact gpir_i (ggf_i ha hf ⟨rfl, (fun _ => hb), h⟩))⟩
theorem s_putr {i ci k t a : Nat} {fs : List (Option Value)} {f : Option Value} {b : Nat} {sh' : List gS} (hX : gCl cc o nL d MC MS rt ini sc Rt X) (hd : decode cc pc = .ok (.putfield i, 3)) (hp : pc + 3 = q) (hq : gfl o i = some (ci, k, t)) (ht : t = 2 ∨ (t = 3 ∧ ini = true ∧ ci = o)) (ha : sh[a]? = some (.inl (ci, fs))) (hf : fs[k]? = some f) (hs : sh.set a (.inl (ci, fs.set k (some (.ref b)))) = sh') (h : X q lv (st) sh' M kc ks) : X pc lv (.ref b :: .ref a :: st) sh M kc ks := by
  subst hp
  exact hX.1 _ _ _ _ _ _ _ _ _ hd ⟨rfl, by
    have ht2 : ¬ t < 2 := by omega
    refine gfc_i hq ?_
    rw [if_neg ht2]
    rw [← hs] at h
    refine gprr_i ⟨fun z => ?_, ggf_i ha hf h⟩
    rcases ht with w | w
    · omega
    · exact w.2⟩
theorem s_iald {a n k : Nat} (hX : gCl cc o nL d MC MS rt ini sc Rt X) (hd : decode cc pc = .ok (.iaload, 1)) (hp : pc + 1 = q) (ha : sh[a]? = some (.inr (.inl (0, n)))) (hk : x = nI k) (hn : k < n) (hb : n ≤ 1000) (h : X q lv (.int (M a k) :: st) sh M kc ks) : X pc lv (.int x :: .ref a :: st) sh M kc ks := by
  subst hp
  exact hX.1 _ _ _ _ _ _ _ _ _ hd ⟨rfl, by
    subst hk; refine gpir_i (gar_i ha ⟨vp_in_nI hn (by omega), ?_⟩); rw [nI_clamp (by omega)]; exact h⟩
theorem s_bald {a n k : Nat} (hX : gCl cc o nL d MC MS rt ini sc Rt X) (hd : decode cc pc = .ok (.baload, 1)) (hp : pc + 1 = q) (ha : sh[a]? = some (.inr (.inl (1, n)))) (hk : x = nI k) (hn : k < n) (hb : n ≤ 1000) (h : X q lv (.int (M a k) :: st) sh M kc ks) : X pc lv (.int x :: .ref a :: st) sh M kc ks := by
  subst hp
  exact hX.1 _ _ _ _ _ _ _ _ _ hd ⟨rfl, by
    subst hk; refine gpir_i (gar_i ha ⟨vp_in_nI hn (by omega), ?_⟩); rw [nI_clamp (by omega)]; exact h⟩
theorem s_aald {a k b : Nat} {l : List (Option Nat)} (hX : gCl cc o nL d MC MS rt ini sc Rt X) (hd : decode cc pc = .ok (.aaload, 1)) (hp : pc + 1 = q) (ha : sh[a]? = some (.inr (.inr l))) (hk : x = nI k) (hn : k < l.length) (hb : l.length ≤ 1000) (hl : l.getD k none = some b) (h : X q lv (.ref b :: st) sh M kc ks) : X pc lv (.int x :: .ref a :: st) sh M kc ks := by
  subst hp
  exact hX.1 _ _ _ _ _ _ _ _ _ hd ⟨rfl, by
    subst hk; refine gpir_i (gaq_i ha ⟨vp_in_nI hn (by omega), b, ?_, h⟩); rw [nI_clamp (by omega)]; exact hl⟩
theorem s_iast {a n k : Nat} (hX : gCl cc o nL d MC MS rt ini sc Rt X) (hd : decode cc pc = .ok (.iastore, 1)) (hp : pc + 1 = q) (ha : sh[a]? = some (.inr (.inl (0, n)))) (hk : x = nI k) (hn : k < n) (hb : n ≤ 1000) (h : X q lv (st) sh (gsr M a (upd (M a) k v)) kc ks) : X pc lv (.int v :: .int x :: .ref a :: st) sh M kc ks := by
  subst hp
  exact hX.1 _ _ _ _ _ _ _ _ _ hd ⟨rfl, by
    subst hk; refine gpiir_i (gar_i ha ⟨vp_in_nI hn (by omega), ?_⟩); rw [nI_clamp (by omega)]; exact h⟩
theorem s_bast {a n k : Nat} (hX : gCl cc o nL d MC MS rt ini sc Rt X) (hd : decode cc pc = .ok (.bastore, 1)) (hp : pc + 1 = q) (ha : sh[a]? = some (.inr (.inl (1, n)))) (hk : x = nI k) (hn : k < n) (hb : n ≤ 1000) (h : X q lv (st) sh (gsr M a (upd (M a) k v.toInt8.toInt32)) kc ks) : X pc lv (.int v :: .int x :: .ref a :: st) sh M kc ks := by
  subst hp
  exact hX.1 _ _ _ _ _ _ _ _ _ hd ⟨rfl, by
    subst hk; refine gpiir_i (gar_i ha ⟨vp_in_nI hn (by omega), ?_⟩); rw [nI_clamp (by omega)]; exact h⟩
theorem s_alen {a kd n : Nat} (hX : gCl cc o nL d MC MS rt ini sc Rt X) (hd : decode cc pc = .ok (.arraylength, 1)) (hp : pc + 1 = q) (ha : sh[a]? = some (.inr (.inl (kd, n)))) (hk : kd < 2) (h : X q lv (.int (nI n) :: st) sh M kc ks) : X pc lv (.ref a :: st) sh M kc ks := by
  subst hp
  exact hX.1 _ _ _ _ _ _ _ _ _ hd ⟨rfl, by unfold gpr; dsimp only; rw [ha]; exact ⟨hk, h⟩⟩
theorem s_qlen {a : Nat} {l : List (Option Nat)} (hX : gCl cc o nL d MC MS rt ini sc Rt X) (hd : decode cc pc = .ok (.arraylength, 1)) (hp : pc + 1 = q) (ha : sh[a]? = some (.inr (.inr l))) (h : X q lv (.int (nI l.length) :: st) sh M kc ks) : X pc lv (.ref a :: st) sh M kc ks := by
  subst hp
  exact hX.1 _ _ _ _ _ _ _ _ _ hd ⟨rfl, by unfold gpr; dsimp only; rw [ha]; exact h⟩
theorem s_cpy {i a0 a1 n0 n1 k0 k1 n : Nat} {qq : Nat × Nat × Nat × Nat} {sp dp m : Int32} (hX : gCl cc o nL d MC MS rt ini sc Rt X) (hd : decode cc pc = .ok (.invokestatic i, 3)) (hp : pc + 3 = q) (hq : glk o i = some (6, qq)) (h1 : 1 ≤ d) (hc : gcat st ≤ 8) (ha0 : sh[a0]? = some (.inr (.inl (0, n0)))) (ha1 : sh[a1]? = some (.inr (.inl (0, n1)))) (e0 : sp = nI k0) (e1 : dp = nI k1) (e2 : m = nI n) (g0 : k0 + n ≤ n0) (g1 : k1 + n ≤ n1) (b0 : n0 ≤ 1000) (b1 : n1 ≤ 1000)
    (h : X q lv st sh (gsr M a1 (va_cpy (M a0) (M a1) k0 k1 n)) kc ks) : X pc lv (.int m :: .int dp :: .ref a1 :: .int sp :: .ref a0 :: st) sh M kc ks := by
  subst hp
  refine hX.1 _ _ _ _ _ _ _ _ _ hd ⟨rfl, ?_⟩
  refine glc_i (b := qq.1) (c := qq.2.1) (d := qq.2.2.1) (e := qq.2.2.2) hq ?_
  rw [if_pos rfl]
  subst e0; subst e1; subst e2
  refine ⟨hc, h1, gar_i ha0 (gar_i ha1 ?_)⟩
  refine ⟨nI_pos (by omega), nI_pos (by omega), nI_pos (by omega), ?_, ?_, ?_⟩
  · rw [nI_clamp (by omega), nI_clamp (by omega)]; exact g0
  · rw [nI_clamp (by omega), nI_clamp (by omega)]; exact g1
  · rw [nI_clamp (by omega), nI_clamp (by omega), nI_clamp (by omega)]; exact h
theorem s_invv0_0 {i mi ci d' : Nat} {b : Nat} {fs : List (Option Value)} (hX : gCl cc o nL d MC MS rt ini sc Rt X) (hd : decode cc pc = .ok (.invokevirtual i, 3)) (hp : pc + 3 = q) (hq : glk o i = some (0, mi, 0, 0, ci)) (hrc : sh[b]? = some (.inl (ci, fs))) (hc : gcat st ≤ 8) (hb : kc ≤ MC ∧ ks ≤ MS) (hd' : d' + 1 ≤ d) (h : gC mi d' 0 0 [.ref b] sh M (fun v sh' M' => v = none ∧ X q lv st sh' M' kc ks)) : X pc lv (.ref b :: st) sh M kc ks := by
  subst hp
  refine hX.1 _ _ _ _ _ _ _ _ _ hd ⟨rfl, ?_⟩
  refine glc_i hq ?_
  refine ⟨rfl, by simp, ?_⟩
  show gcat st ≤ 8 ∧ grc sh b ci ∧ gCall d mi [.ref b] sh M kc ks MC MS (lv.map Prod.snd ++ st) (fun v sh' M' kc' ks' => gret 0 v (fun w => X (pc + 3) lv (w ++ st) sh' M' kc' ks'))
  exact ⟨hc, grc_i hrc, ⟨d', 0, 0, hd', by omega, by omega, Or.inl rfl, gC_mono (fun v sh' M' z => by obtain ⟨rfl, z⟩ := z; exact ⟨rfl, z⟩) h⟩⟩
theorem s_invv0_1 {i mi ci d' : Nat} {b : Nat} {fs : List (Option Value)} (hX : gCl cc o nL d MC MS rt ini sc Rt X) (hd : decode cc pc = .ok (.invokevirtual i, 3)) (hp : pc + 3 = q) (hq : glk o i = some (0, mi, 0, 1, ci)) (hrc : sh[b]? = some (.inl (ci, fs))) (hc : gcat st ≤ 8) (hb : kc ≤ MC ∧ ks ≤ MS) (hd' : d' + 1 ≤ d) (h : gC mi d' 0 0 [.ref b] sh M (fun v sh' M' => ∃ x, v = some (.int x) ∧ X q lv (.int x :: st) sh' M' kc ks)) : X pc lv (.ref b :: st) sh M kc ks := by
  subst hp
  refine hX.1 _ _ _ _ _ _ _ _ _ hd ⟨rfl, ?_⟩
  refine glc_i hq ?_
  refine ⟨rfl, by simp, ?_⟩
  show gcat st ≤ 8 ∧ grc sh b ci ∧ gCall d mi [.ref b] sh M kc ks MC MS (lv.map Prod.snd ++ st) (fun v sh' M' kc' ks' => gret 1 v (fun w => X (pc + 3) lv (w ++ st) sh' M' kc' ks'))
  exact ⟨hc, grc_i hrc, ⟨d', 0, 0, hd', by omega, by omega, Or.inl rfl, gC_mono (fun v sh' M' z => by obtain ⟨x, rfl, z⟩ := z; exact ⟨rfl, z⟩) h⟩⟩
theorem s_invv0_2 {i mi ci d' : Nat} {b : Nat} {fs : List (Option Value)} (hX : gCl cc o nL d MC MS rt ini sc Rt X) (hd : decode cc pc = .ok (.invokevirtual i, 3)) (hp : pc + 3 = q) (hq : glk o i = some (0, mi, 0, 2, ci)) (hrc : sh[b]? = some (.inl (ci, fs))) (hc : gcat st ≤ 8) (hb : kc ≤ MC ∧ ks ≤ MS) (hd' : d' + 1 ≤ d) (h : gC mi d' 0 0 [.ref b] sh M (fun v sh' M' => ∃ x, v = some (.long x) ∧ X q lv (.long x :: st) sh' M' kc ks)) : X pc lv (.ref b :: st) sh M kc ks := by
  subst hp
  refine hX.1 _ _ _ _ _ _ _ _ _ hd ⟨rfl, ?_⟩
  refine glc_i hq ?_
  refine ⟨rfl, by simp, ?_⟩
  show gcat st ≤ 8 ∧ grc sh b ci ∧ gCall d mi [.ref b] sh M kc ks MC MS (lv.map Prod.snd ++ st) (fun v sh' M' kc' ks' => gret 2 v (fun w => X (pc + 3) lv (w ++ st) sh' M' kc' ks'))
  exact ⟨hc, grc_i hrc, ⟨d', 0, 0, hd', by omega, by omega, Or.inl rfl, gC_mono (fun v sh' M' z => by obtain ⟨x, rfl, z⟩ := z; exact ⟨rfl, z⟩) h⟩⟩
theorem s_invv1_0 {i mi ci d' : Nat} {b : Nat} {fs : List (Option Value)} {a0 : Value} (hX : gCl cc o nL d MC MS rt ini sc Rt X) (hd : decode cc pc = .ok (.invokevirtual i, 3)) (hp : pc + 3 = q) (hq : glk o i = some (0, mi, 1, 0, ci)) (hrc : sh[b]? = some (.inl (ci, fs))) (hc : gcat st ≤ 8) (hb : kc ≤ MC ∧ ks ≤ MS) (hd' : d' + 1 ≤ d) (h : gC mi d' 0 0 [.ref b, a0] sh M (fun v sh' M' => v = none ∧ X q lv st sh' M' kc ks)) : X pc lv (a0 :: .ref b :: st) sh M kc ks := by
  subst hp
  refine hX.1 _ _ _ _ _ _ _ _ _ hd ⟨rfl, ?_⟩
  refine glc_i hq ?_
  refine ⟨rfl, by simp, ?_⟩
  show gcat st ≤ 8 ∧ grc sh b ci ∧ gCall d mi [.ref b, a0] sh M kc ks MC MS (lv.map Prod.snd ++ st) (fun v sh' M' kc' ks' => gret 0 v (fun w => X (pc + 3) lv (w ++ st) sh' M' kc' ks'))
  exact ⟨hc, grc_i hrc, ⟨d', 0, 0, hd', by omega, by omega, Or.inl rfl, gC_mono (fun v sh' M' z => by obtain ⟨rfl, z⟩ := z; exact ⟨rfl, z⟩) h⟩⟩
theorem s_invv1_1 {i mi ci d' : Nat} {b : Nat} {fs : List (Option Value)} {a0 : Value} (hX : gCl cc o nL d MC MS rt ini sc Rt X) (hd : decode cc pc = .ok (.invokevirtual i, 3)) (hp : pc + 3 = q) (hq : glk o i = some (0, mi, 1, 1, ci)) (hrc : sh[b]? = some (.inl (ci, fs))) (hc : gcat st ≤ 8) (hb : kc ≤ MC ∧ ks ≤ MS) (hd' : d' + 1 ≤ d) (h : gC mi d' 0 0 [.ref b, a0] sh M (fun v sh' M' => ∃ x, v = some (.int x) ∧ X q lv (.int x :: st) sh' M' kc ks)) : X pc lv (a0 :: .ref b :: st) sh M kc ks := by
  subst hp
  refine hX.1 _ _ _ _ _ _ _ _ _ hd ⟨rfl, ?_⟩
  refine glc_i hq ?_
  refine ⟨rfl, by simp, ?_⟩
  show gcat st ≤ 8 ∧ grc sh b ci ∧ gCall d mi [.ref b, a0] sh M kc ks MC MS (lv.map Prod.snd ++ st) (fun v sh' M' kc' ks' => gret 1 v (fun w => X (pc + 3) lv (w ++ st) sh' M' kc' ks'))
  exact ⟨hc, grc_i hrc, ⟨d', 0, 0, hd', by omega, by omega, Or.inl rfl, gC_mono (fun v sh' M' z => by obtain ⟨x, rfl, z⟩ := z; exact ⟨rfl, z⟩) h⟩⟩
theorem s_invv1_2 {i mi ci d' : Nat} {b : Nat} {fs : List (Option Value)} {a0 : Value} (hX : gCl cc o nL d MC MS rt ini sc Rt X) (hd : decode cc pc = .ok (.invokevirtual i, 3)) (hp : pc + 3 = q) (hq : glk o i = some (0, mi, 1, 2, ci)) (hrc : sh[b]? = some (.inl (ci, fs))) (hc : gcat st ≤ 8) (hb : kc ≤ MC ∧ ks ≤ MS) (hd' : d' + 1 ≤ d) (h : gC mi d' 0 0 [.ref b, a0] sh M (fun v sh' M' => ∃ x, v = some (.long x) ∧ X q lv (.long x :: st) sh' M' kc ks)) : X pc lv (a0 :: .ref b :: st) sh M kc ks := by
  subst hp
  refine hX.1 _ _ _ _ _ _ _ _ _ hd ⟨rfl, ?_⟩
  refine glc_i hq ?_
  refine ⟨rfl, by simp, ?_⟩
  show gcat st ≤ 8 ∧ grc sh b ci ∧ gCall d mi [.ref b, a0] sh M kc ks MC MS (lv.map Prod.snd ++ st) (fun v sh' M' kc' ks' => gret 2 v (fun w => X (pc + 3) lv (w ++ st) sh' M' kc' ks'))
  exact ⟨hc, grc_i hrc, ⟨d', 0, 0, hd', by omega, by omega, Or.inl rfl, gC_mono (fun v sh' M' z => by obtain ⟨x, rfl, z⟩ := z; exact ⟨rfl, z⟩) h⟩⟩
theorem s_invv2_0 {i mi ci d' : Nat} {b : Nat} {fs : List (Option Value)} {a0 a1 : Value} (hX : gCl cc o nL d MC MS rt ini sc Rt X) (hd : decode cc pc = .ok (.invokevirtual i, 3)) (hp : pc + 3 = q) (hq : glk o i = some (0, mi, 2, 0, ci)) (hrc : sh[b]? = some (.inl (ci, fs))) (hc : gcat st ≤ 8) (hb : kc ≤ MC ∧ ks ≤ MS) (hd' : d' + 1 ≤ d) (h : gC mi d' 0 0 [.ref b, a0, a1] sh M (fun v sh' M' => v = none ∧ X q lv st sh' M' kc ks)) : X pc lv (a1 :: a0 :: .ref b :: st) sh M kc ks := by
  subst hp
  refine hX.1 _ _ _ _ _ _ _ _ _ hd ⟨rfl, ?_⟩
  refine glc_i hq ?_
  refine ⟨rfl, by simp, ?_⟩
  show gcat st ≤ 8 ∧ grc sh b ci ∧ gCall d mi [.ref b, a0, a1] sh M kc ks MC MS (lv.map Prod.snd ++ st) (fun v sh' M' kc' ks' => gret 0 v (fun w => X (pc + 3) lv (w ++ st) sh' M' kc' ks'))
  exact ⟨hc, grc_i hrc, ⟨d', 0, 0, hd', by omega, by omega, Or.inl rfl, gC_mono (fun v sh' M' z => by obtain ⟨rfl, z⟩ := z; exact ⟨rfl, z⟩) h⟩⟩
theorem s_invv2_1 {i mi ci d' : Nat} {b : Nat} {fs : List (Option Value)} {a0 a1 : Value} (hX : gCl cc o nL d MC MS rt ini sc Rt X) (hd : decode cc pc = .ok (.invokevirtual i, 3)) (hp : pc + 3 = q) (hq : glk o i = some (0, mi, 2, 1, ci)) (hrc : sh[b]? = some (.inl (ci, fs))) (hc : gcat st ≤ 8) (hb : kc ≤ MC ∧ ks ≤ MS) (hd' : d' + 1 ≤ d) (h : gC mi d' 0 0 [.ref b, a0, a1] sh M (fun v sh' M' => ∃ x, v = some (.int x) ∧ X q lv (.int x :: st) sh' M' kc ks)) : X pc lv (a1 :: a0 :: .ref b :: st) sh M kc ks := by
  subst hp
  refine hX.1 _ _ _ _ _ _ _ _ _ hd ⟨rfl, ?_⟩
  refine glc_i hq ?_
  refine ⟨rfl, by simp, ?_⟩
  show gcat st ≤ 8 ∧ grc sh b ci ∧ gCall d mi [.ref b, a0, a1] sh M kc ks MC MS (lv.map Prod.snd ++ st) (fun v sh' M' kc' ks' => gret 1 v (fun w => X (pc + 3) lv (w ++ st) sh' M' kc' ks'))
  exact ⟨hc, grc_i hrc, ⟨d', 0, 0, hd', by omega, by omega, Or.inl rfl, gC_mono (fun v sh' M' z => by obtain ⟨x, rfl, z⟩ := z; exact ⟨rfl, z⟩) h⟩⟩
theorem s_invv2_2 {i mi ci d' : Nat} {b : Nat} {fs : List (Option Value)} {a0 a1 : Value} (hX : gCl cc o nL d MC MS rt ini sc Rt X) (hd : decode cc pc = .ok (.invokevirtual i, 3)) (hp : pc + 3 = q) (hq : glk o i = some (0, mi, 2, 2, ci)) (hrc : sh[b]? = some (.inl (ci, fs))) (hc : gcat st ≤ 8) (hb : kc ≤ MC ∧ ks ≤ MS) (hd' : d' + 1 ≤ d) (h : gC mi d' 0 0 [.ref b, a0, a1] sh M (fun v sh' M' => ∃ x, v = some (.long x) ∧ X q lv (.long x :: st) sh' M' kc ks)) : X pc lv (a1 :: a0 :: .ref b :: st) sh M kc ks := by
  subst hp
  refine hX.1 _ _ _ _ _ _ _ _ _ hd ⟨rfl, ?_⟩
  refine glc_i hq ?_
  refine ⟨rfl, by simp, ?_⟩
  show gcat st ≤ 8 ∧ grc sh b ci ∧ gCall d mi [.ref b, a0, a1] sh M kc ks MC MS (lv.map Prod.snd ++ st) (fun v sh' M' kc' ks' => gret 2 v (fun w => X (pc + 3) lv (w ++ st) sh' M' kc' ks'))
  exact ⟨hc, grc_i hrc, ⟨d', 0, 0, hd', by omega, by omega, Or.inl rfl, gC_mono (fun v sh' M' z => by obtain ⟨x, rfl, z⟩ := z; exact ⟨rfl, z⟩) h⟩⟩
theorem s_invv3_0 {i mi ci d' : Nat} {b : Nat} {fs : List (Option Value)} {a0 a1 a2 : Value} (hX : gCl cc o nL d MC MS rt ini sc Rt X) (hd : decode cc pc = .ok (.invokevirtual i, 3)) (hp : pc + 3 = q) (hq : glk o i = some (0, mi, 3, 0, ci)) (hrc : sh[b]? = some (.inl (ci, fs))) (hc : gcat st ≤ 8) (hb : kc ≤ MC ∧ ks ≤ MS) (hd' : d' + 1 ≤ d) (h : gC mi d' 0 0 [.ref b, a0, a1, a2] sh M (fun v sh' M' => v = none ∧ X q lv st sh' M' kc ks)) : X pc lv (a2 :: a1 :: a0 :: .ref b :: st) sh M kc ks := by
  subst hp
  refine hX.1 _ _ _ _ _ _ _ _ _ hd ⟨rfl, ?_⟩
  refine glc_i hq ?_
  refine ⟨rfl, by simp, ?_⟩
  show gcat st ≤ 8 ∧ grc sh b ci ∧ gCall d mi [.ref b, a0, a1, a2] sh M kc ks MC MS (lv.map Prod.snd ++ st) (fun v sh' M' kc' ks' => gret 0 v (fun w => X (pc + 3) lv (w ++ st) sh' M' kc' ks'))
  exact ⟨hc, grc_i hrc, ⟨d', 0, 0, hd', by omega, by omega, Or.inl rfl, gC_mono (fun v sh' M' z => by obtain ⟨rfl, z⟩ := z; exact ⟨rfl, z⟩) h⟩⟩
theorem s_invv3_1 {i mi ci d' : Nat} {b : Nat} {fs : List (Option Value)} {a0 a1 a2 : Value} (hX : gCl cc o nL d MC MS rt ini sc Rt X) (hd : decode cc pc = .ok (.invokevirtual i, 3)) (hp : pc + 3 = q) (hq : glk o i = some (0, mi, 3, 1, ci)) (hrc : sh[b]? = some (.inl (ci, fs))) (hc : gcat st ≤ 8) (hb : kc ≤ MC ∧ ks ≤ MS) (hd' : d' + 1 ≤ d) (h : gC mi d' 0 0 [.ref b, a0, a1, a2] sh M (fun v sh' M' => ∃ x, v = some (.int x) ∧ X q lv (.int x :: st) sh' M' kc ks)) : X pc lv (a2 :: a1 :: a0 :: .ref b :: st) sh M kc ks := by
  subst hp
  refine hX.1 _ _ _ _ _ _ _ _ _ hd ⟨rfl, ?_⟩
  refine glc_i hq ?_
  refine ⟨rfl, by simp, ?_⟩
  show gcat st ≤ 8 ∧ grc sh b ci ∧ gCall d mi [.ref b, a0, a1, a2] sh M kc ks MC MS (lv.map Prod.snd ++ st) (fun v sh' M' kc' ks' => gret 1 v (fun w => X (pc + 3) lv (w ++ st) sh' M' kc' ks'))
  exact ⟨hc, grc_i hrc, ⟨d', 0, 0, hd', by omega, by omega, Or.inl rfl, gC_mono (fun v sh' M' z => by obtain ⟨x, rfl, z⟩ := z; exact ⟨rfl, z⟩) h⟩⟩
theorem s_invv3_2 {i mi ci d' : Nat} {b : Nat} {fs : List (Option Value)} {a0 a1 a2 : Value} (hX : gCl cc o nL d MC MS rt ini sc Rt X) (hd : decode cc pc = .ok (.invokevirtual i, 3)) (hp : pc + 3 = q) (hq : glk o i = some (0, mi, 3, 2, ci)) (hrc : sh[b]? = some (.inl (ci, fs))) (hc : gcat st ≤ 8) (hb : kc ≤ MC ∧ ks ≤ MS) (hd' : d' + 1 ≤ d) (h : gC mi d' 0 0 [.ref b, a0, a1, a2] sh M (fun v sh' M' => ∃ x, v = some (.long x) ∧ X q lv (.long x :: st) sh' M' kc ks)) : X pc lv (a2 :: a1 :: a0 :: .ref b :: st) sh M kc ks := by
  subst hp
  refine hX.1 _ _ _ _ _ _ _ _ _ hd ⟨rfl, ?_⟩
  refine glc_i hq ?_
  refine ⟨rfl, by simp, ?_⟩
  show gcat st ≤ 8 ∧ grc sh b ci ∧ gCall d mi [.ref b, a0, a1, a2] sh M kc ks MC MS (lv.map Prod.snd ++ st) (fun v sh' M' kc' ks' => gret 2 v (fun w => X (pc + 3) lv (w ++ st) sh' M' kc' ks'))
  exact ⟨hc, grc_i hrc, ⟨d', 0, 0, hd', by omega, by omega, Or.inl rfl, gC_mono (fun v sh' M' z => by obtain ⟨x, rfl, z⟩ := z; exact ⟨rfl, z⟩) h⟩⟩
theorem s_invv4_0 {i mi ci d' : Nat} {b : Nat} {fs : List (Option Value)} {a0 a1 a2 a3 : Value} (hX : gCl cc o nL d MC MS rt ini sc Rt X) (hd : decode cc pc = .ok (.invokevirtual i, 3)) (hp : pc + 3 = q) (hq : glk o i = some (0, mi, 4, 0, ci)) (hrc : sh[b]? = some (.inl (ci, fs))) (hc : gcat st ≤ 8) (hb : kc ≤ MC ∧ ks ≤ MS) (hd' : d' + 1 ≤ d) (h : gC mi d' 0 0 [.ref b, a0, a1, a2, a3] sh M (fun v sh' M' => v = none ∧ X q lv st sh' M' kc ks)) : X pc lv (a3 :: a2 :: a1 :: a0 :: .ref b :: st) sh M kc ks := by
  subst hp
  refine hX.1 _ _ _ _ _ _ _ _ _ hd ⟨rfl, ?_⟩
  refine glc_i hq ?_
  refine ⟨rfl, by simp, ?_⟩
  show gcat st ≤ 8 ∧ grc sh b ci ∧ gCall d mi [.ref b, a0, a1, a2, a3] sh M kc ks MC MS (lv.map Prod.snd ++ st) (fun v sh' M' kc' ks' => gret 0 v (fun w => X (pc + 3) lv (w ++ st) sh' M' kc' ks'))
  exact ⟨hc, grc_i hrc, ⟨d', 0, 0, hd', by omega, by omega, Or.inl rfl, gC_mono (fun v sh' M' z => by obtain ⟨rfl, z⟩ := z; exact ⟨rfl, z⟩) h⟩⟩
theorem s_invv4_1 {i mi ci d' : Nat} {b : Nat} {fs : List (Option Value)} {a0 a1 a2 a3 : Value} (hX : gCl cc o nL d MC MS rt ini sc Rt X) (hd : decode cc pc = .ok (.invokevirtual i, 3)) (hp : pc + 3 = q) (hq : glk o i = some (0, mi, 4, 1, ci)) (hrc : sh[b]? = some (.inl (ci, fs))) (hc : gcat st ≤ 8) (hb : kc ≤ MC ∧ ks ≤ MS) (hd' : d' + 1 ≤ d) (h : gC mi d' 0 0 [.ref b, a0, a1, a2, a3] sh M (fun v sh' M' => ∃ x, v = some (.int x) ∧ X q lv (.int x :: st) sh' M' kc ks)) : X pc lv (a3 :: a2 :: a1 :: a0 :: .ref b :: st) sh M kc ks := by
  subst hp
  refine hX.1 _ _ _ _ _ _ _ _ _ hd ⟨rfl, ?_⟩
  refine glc_i hq ?_
  refine ⟨rfl, by simp, ?_⟩
  show gcat st ≤ 8 ∧ grc sh b ci ∧ gCall d mi [.ref b, a0, a1, a2, a3] sh M kc ks MC MS (lv.map Prod.snd ++ st) (fun v sh' M' kc' ks' => gret 1 v (fun w => X (pc + 3) lv (w ++ st) sh' M' kc' ks'))
  exact ⟨hc, grc_i hrc, ⟨d', 0, 0, hd', by omega, by omega, Or.inl rfl, gC_mono (fun v sh' M' z => by obtain ⟨x, rfl, z⟩ := z; exact ⟨rfl, z⟩) h⟩⟩
theorem s_invv4_2 {i mi ci d' : Nat} {b : Nat} {fs : List (Option Value)} {a0 a1 a2 a3 : Value} (hX : gCl cc o nL d MC MS rt ini sc Rt X) (hd : decode cc pc = .ok (.invokevirtual i, 3)) (hp : pc + 3 = q) (hq : glk o i = some (0, mi, 4, 2, ci)) (hrc : sh[b]? = some (.inl (ci, fs))) (hc : gcat st ≤ 8) (hb : kc ≤ MC ∧ ks ≤ MS) (hd' : d' + 1 ≤ d) (h : gC mi d' 0 0 [.ref b, a0, a1, a2, a3] sh M (fun v sh' M' => ∃ x, v = some (.long x) ∧ X q lv (.long x :: st) sh' M' kc ks)) : X pc lv (a3 :: a2 :: a1 :: a0 :: .ref b :: st) sh M kc ks := by
  subst hp
  refine hX.1 _ _ _ _ _ _ _ _ _ hd ⟨rfl, ?_⟩
  refine glc_i hq ?_
  refine ⟨rfl, by simp, ?_⟩
  show gcat st ≤ 8 ∧ grc sh b ci ∧ gCall d mi [.ref b, a0, a1, a2, a3] sh M kc ks MC MS (lv.map Prod.snd ++ st) (fun v sh' M' kc' ks' => gret 2 v (fun w => X (pc + 3) lv (w ++ st) sh' M' kc' ks'))
  exact ⟨hc, grc_i hrc, ⟨d', 0, 0, hd', by omega, by omega, Or.inl rfl, gC_mono (fun v sh' M' z => by obtain ⟨x, rfl, z⟩ := z; exact ⟨rfl, z⟩) h⟩⟩
theorem s_invv5_0 {i mi ci d' : Nat} {b : Nat} {fs : List (Option Value)} {a0 a1 a2 a3 a4 : Value} (hX : gCl cc o nL d MC MS rt ini sc Rt X) (hd : decode cc pc = .ok (.invokevirtual i, 3)) (hp : pc + 3 = q) (hq : glk o i = some (0, mi, 5, 0, ci)) (hrc : sh[b]? = some (.inl (ci, fs))) (hc : gcat st ≤ 8) (hb : kc ≤ MC ∧ ks ≤ MS) (hd' : d' + 1 ≤ d) (h : gC mi d' 0 0 [.ref b, a0, a1, a2, a3, a4] sh M (fun v sh' M' => v = none ∧ X q lv st sh' M' kc ks)) : X pc lv (a4 :: a3 :: a2 :: a1 :: a0 :: .ref b :: st) sh M kc ks := by
  subst hp
  refine hX.1 _ _ _ _ _ _ _ _ _ hd ⟨rfl, ?_⟩
  refine glc_i hq ?_
  refine ⟨rfl, by simp, ?_⟩
  show gcat st ≤ 8 ∧ grc sh b ci ∧ gCall d mi [.ref b, a0, a1, a2, a3, a4] sh M kc ks MC MS (lv.map Prod.snd ++ st) (fun v sh' M' kc' ks' => gret 0 v (fun w => X (pc + 3) lv (w ++ st) sh' M' kc' ks'))
  exact ⟨hc, grc_i hrc, ⟨d', 0, 0, hd', by omega, by omega, Or.inl rfl, gC_mono (fun v sh' M' z => by obtain ⟨rfl, z⟩ := z; exact ⟨rfl, z⟩) h⟩⟩
theorem s_invv5_1 {i mi ci d' : Nat} {b : Nat} {fs : List (Option Value)} {a0 a1 a2 a3 a4 : Value} (hX : gCl cc o nL d MC MS rt ini sc Rt X) (hd : decode cc pc = .ok (.invokevirtual i, 3)) (hp : pc + 3 = q) (hq : glk o i = some (0, mi, 5, 1, ci)) (hrc : sh[b]? = some (.inl (ci, fs))) (hc : gcat st ≤ 8) (hb : kc ≤ MC ∧ ks ≤ MS) (hd' : d' + 1 ≤ d) (h : gC mi d' 0 0 [.ref b, a0, a1, a2, a3, a4] sh M (fun v sh' M' => ∃ x, v = some (.int x) ∧ X q lv (.int x :: st) sh' M' kc ks)) : X pc lv (a4 :: a3 :: a2 :: a1 :: a0 :: .ref b :: st) sh M kc ks := by
  subst hp
  refine hX.1 _ _ _ _ _ _ _ _ _ hd ⟨rfl, ?_⟩
  refine glc_i hq ?_
  refine ⟨rfl, by simp, ?_⟩
  show gcat st ≤ 8 ∧ grc sh b ci ∧ gCall d mi [.ref b, a0, a1, a2, a3, a4] sh M kc ks MC MS (lv.map Prod.snd ++ st) (fun v sh' M' kc' ks' => gret 1 v (fun w => X (pc + 3) lv (w ++ st) sh' M' kc' ks'))
  exact ⟨hc, grc_i hrc, ⟨d', 0, 0, hd', by omega, by omega, Or.inl rfl, gC_mono (fun v sh' M' z => by obtain ⟨x, rfl, z⟩ := z; exact ⟨rfl, z⟩) h⟩⟩
theorem s_invv5_2 {i mi ci d' : Nat} {b : Nat} {fs : List (Option Value)} {a0 a1 a2 a3 a4 : Value} (hX : gCl cc o nL d MC MS rt ini sc Rt X) (hd : decode cc pc = .ok (.invokevirtual i, 3)) (hp : pc + 3 = q) (hq : glk o i = some (0, mi, 5, 2, ci)) (hrc : sh[b]? = some (.inl (ci, fs))) (hc : gcat st ≤ 8) (hb : kc ≤ MC ∧ ks ≤ MS) (hd' : d' + 1 ≤ d) (h : gC mi d' 0 0 [.ref b, a0, a1, a2, a3, a4] sh M (fun v sh' M' => ∃ x, v = some (.long x) ∧ X q lv (.long x :: st) sh' M' kc ks)) : X pc lv (a4 :: a3 :: a2 :: a1 :: a0 :: .ref b :: st) sh M kc ks := by
  subst hp
  refine hX.1 _ _ _ _ _ _ _ _ _ hd ⟨rfl, ?_⟩
  refine glc_i hq ?_
  refine ⟨rfl, by simp, ?_⟩
  show gcat st ≤ 8 ∧ grc sh b ci ∧ gCall d mi [.ref b, a0, a1, a2, a3, a4] sh M kc ks MC MS (lv.map Prod.snd ++ st) (fun v sh' M' kc' ks' => gret 2 v (fun w => X (pc + 3) lv (w ++ st) sh' M' kc' ks'))
  exact ⟨hc, grc_i hrc, ⟨d', 0, 0, hd', by omega, by omega, Or.inl rfl, gC_mono (fun v sh' M' z => by obtain ⟨x, rfl, z⟩ := z; exact ⟨rfl, z⟩) h⟩⟩
theorem s_invv6_0 {i mi ci d' : Nat} {b : Nat} {fs : List (Option Value)} {a0 a1 a2 a3 a4 a5 : Value} (hX : gCl cc o nL d MC MS rt ini sc Rt X) (hd : decode cc pc = .ok (.invokevirtual i, 3)) (hp : pc + 3 = q) (hq : glk o i = some (0, mi, 6, 0, ci)) (hrc : sh[b]? = some (.inl (ci, fs))) (hc : gcat st ≤ 8) (hb : kc ≤ MC ∧ ks ≤ MS) (hd' : d' + 1 ≤ d) (h : gC mi d' 0 0 [.ref b, a0, a1, a2, a3, a4, a5] sh M (fun v sh' M' => v = none ∧ X q lv st sh' M' kc ks)) : X pc lv (a5 :: a4 :: a3 :: a2 :: a1 :: a0 :: .ref b :: st) sh M kc ks := by
  subst hp
  refine hX.1 _ _ _ _ _ _ _ _ _ hd ⟨rfl, ?_⟩
  refine glc_i hq ?_
  refine ⟨rfl, by simp, ?_⟩
  show gcat st ≤ 8 ∧ grc sh b ci ∧ gCall d mi [.ref b, a0, a1, a2, a3, a4, a5] sh M kc ks MC MS (lv.map Prod.snd ++ st) (fun v sh' M' kc' ks' => gret 0 v (fun w => X (pc + 3) lv (w ++ st) sh' M' kc' ks'))
  exact ⟨hc, grc_i hrc, ⟨d', 0, 0, hd', by omega, by omega, Or.inl rfl, gC_mono (fun v sh' M' z => by obtain ⟨rfl, z⟩ := z; exact ⟨rfl, z⟩) h⟩⟩
theorem s_invv6_1 {i mi ci d' : Nat} {b : Nat} {fs : List (Option Value)} {a0 a1 a2 a3 a4 a5 : Value} (hX : gCl cc o nL d MC MS rt ini sc Rt X) (hd : decode cc pc = .ok (.invokevirtual i, 3)) (hp : pc + 3 = q) (hq : glk o i = some (0, mi, 6, 1, ci)) (hrc : sh[b]? = some (.inl (ci, fs))) (hc : gcat st ≤ 8) (hb : kc ≤ MC ∧ ks ≤ MS) (hd' : d' + 1 ≤ d) (h : gC mi d' 0 0 [.ref b, a0, a1, a2, a3, a4, a5] sh M (fun v sh' M' => ∃ x, v = some (.int x) ∧ X q lv (.int x :: st) sh' M' kc ks)) : X pc lv (a5 :: a4 :: a3 :: a2 :: a1 :: a0 :: .ref b :: st) sh M kc ks := by
  subst hp
  refine hX.1 _ _ _ _ _ _ _ _ _ hd ⟨rfl, ?_⟩
  refine glc_i hq ?_
  refine ⟨rfl, by simp, ?_⟩
  show gcat st ≤ 8 ∧ grc sh b ci ∧ gCall d mi [.ref b, a0, a1, a2, a3, a4, a5] sh M kc ks MC MS (lv.map Prod.snd ++ st) (fun v sh' M' kc' ks' => gret 1 v (fun w => X (pc + 3) lv (w ++ st) sh' M' kc' ks'))
  exact ⟨hc, grc_i hrc, ⟨d', 0, 0, hd', by omega, by omega, Or.inl rfl, gC_mono (fun v sh' M' z => by obtain ⟨x, rfl, z⟩ := z; exact ⟨rfl, z⟩) h⟩⟩
theorem s_invv6_2 {i mi ci d' : Nat} {b : Nat} {fs : List (Option Value)} {a0 a1 a2 a3 a4 a5 : Value} (hX : gCl cc o nL d MC MS rt ini sc Rt X) (hd : decode cc pc = .ok (.invokevirtual i, 3)) (hp : pc + 3 = q) (hq : glk o i = some (0, mi, 6, 2, ci)) (hrc : sh[b]? = some (.inl (ci, fs))) (hc : gcat st ≤ 8) (hb : kc ≤ MC ∧ ks ≤ MS) (hd' : d' + 1 ≤ d) (h : gC mi d' 0 0 [.ref b, a0, a1, a2, a3, a4, a5] sh M (fun v sh' M' => ∃ x, v = some (.long x) ∧ X q lv (.long x :: st) sh' M' kc ks)) : X pc lv (a5 :: a4 :: a3 :: a2 :: a1 :: a0 :: .ref b :: st) sh M kc ks := by
  subst hp
  refine hX.1 _ _ _ _ _ _ _ _ _ hd ⟨rfl, ?_⟩
  refine glc_i hq ?_
  refine ⟨rfl, by simp, ?_⟩
  show gcat st ≤ 8 ∧ grc sh b ci ∧ gCall d mi [.ref b, a0, a1, a2, a3, a4, a5] sh M kc ks MC MS (lv.map Prod.snd ++ st) (fun v sh' M' kc' ks' => gret 2 v (fun w => X (pc + 3) lv (w ++ st) sh' M' kc' ks'))
  exact ⟨hc, grc_i hrc, ⟨d', 0, 0, hd', by omega, by omega, Or.inl rfl, gC_mono (fun v sh' M' z => by obtain ⟨x, rfl, z⟩ := z; exact ⟨rfl, z⟩) h⟩⟩
theorem s_invs1_0 {i mi ci d' : Nat} {kd : Nat} {a0 : Value} (hX : gCl cc o nL d MC MS rt ini sc Rt X) (hd : decode cc pc = .ok (.invokestatic i, 3)) (hp : pc + 3 = q) (hq : glk o i = some (kd, mi, 1, 0, ci)) (hkd : kd = 1 ∨ kd = 3) (hc : gcat st ≤ 8) (hb : kc ≤ MC ∧ ks ≤ MS) (hd' : d' + 1 ≤ d) (h : gC mi d' 0 0 [a0] sh M (fun v sh' M' => v = none ∧ X q lv st sh' M' kc ks)) : X pc lv (a0 :: st) sh M kc ks := by
  subst hp
  refine hX.1 _ _ _ _ _ _ _ _ _ hd ⟨rfl, ?_⟩
  refine glc_i hq ?_
  rw [if_neg (show ¬ kd = 6 by omega)]
  refine ⟨hkd, by simp, ?_⟩
  show gcat st ≤ 8 ∧ gCall d mi [a0] sh M kc ks MC MS (lv.map Prod.snd ++ st) (fun v sh' M' kc' ks' => gret 0 v (fun w => X (pc + 3) lv (w ++ st) sh' M' kc' ks'))
  exact ⟨hc, ⟨d', 0, 0, hd', by omega, by omega, Or.inl rfl, gC_mono (fun v sh' M' z => by obtain ⟨rfl, z⟩ := z; exact ⟨rfl, z⟩) h⟩⟩
theorem s_invs1_1 {i mi ci d' : Nat} {kd : Nat} {a0 : Value} (hX : gCl cc o nL d MC MS rt ini sc Rt X) (hd : decode cc pc = .ok (.invokestatic i, 3)) (hp : pc + 3 = q) (hq : glk o i = some (kd, mi, 1, 1, ci)) (hkd : kd = 1 ∨ kd = 3) (hc : gcat st ≤ 8) (hb : kc ≤ MC ∧ ks ≤ MS) (hd' : d' + 1 ≤ d) (h : gC mi d' 0 0 [a0] sh M (fun v sh' M' => ∃ x, v = some (.int x) ∧ X q lv (.int x :: st) sh' M' kc ks)) : X pc lv (a0 :: st) sh M kc ks := by
  subst hp
  refine hX.1 _ _ _ _ _ _ _ _ _ hd ⟨rfl, ?_⟩
  refine glc_i hq ?_
  rw [if_neg (show ¬ kd = 6 by omega)]
  refine ⟨hkd, by simp, ?_⟩
  show gcat st ≤ 8 ∧ gCall d mi [a0] sh M kc ks MC MS (lv.map Prod.snd ++ st) (fun v sh' M' kc' ks' => gret 1 v (fun w => X (pc + 3) lv (w ++ st) sh' M' kc' ks'))
  exact ⟨hc, ⟨d', 0, 0, hd', by omega, by omega, Or.inl rfl, gC_mono (fun v sh' M' z => by obtain ⟨x, rfl, z⟩ := z; exact ⟨rfl, z⟩) h⟩⟩
theorem s_invs1_2 {i mi ci d' : Nat} {kd : Nat} {a0 : Value} (hX : gCl cc o nL d MC MS rt ini sc Rt X) (hd : decode cc pc = .ok (.invokestatic i, 3)) (hp : pc + 3 = q) (hq : glk o i = some (kd, mi, 1, 2, ci)) (hkd : kd = 1 ∨ kd = 3) (hc : gcat st ≤ 8) (hb : kc ≤ MC ∧ ks ≤ MS) (hd' : d' + 1 ≤ d) (h : gC mi d' 0 0 [a0] sh M (fun v sh' M' => ∃ x, v = some (.long x) ∧ X q lv (.long x :: st) sh' M' kc ks)) : X pc lv (a0 :: st) sh M kc ks := by
  subst hp
  refine hX.1 _ _ _ _ _ _ _ _ _ hd ⟨rfl, ?_⟩
  refine glc_i hq ?_
  rw [if_neg (show ¬ kd = 6 by omega)]
  refine ⟨hkd, by simp, ?_⟩
  show gcat st ≤ 8 ∧ gCall d mi [a0] sh M kc ks MC MS (lv.map Prod.snd ++ st) (fun v sh' M' kc' ks' => gret 2 v (fun w => X (pc + 3) lv (w ++ st) sh' M' kc' ks'))
  exact ⟨hc, ⟨d', 0, 0, hd', by omega, by omega, Or.inl rfl, gC_mono (fun v sh' M' z => by obtain ⟨x, rfl, z⟩ := z; exact ⟨rfl, z⟩) h⟩⟩
theorem s_invs2_0 {i mi ci d' : Nat} {kd : Nat} {a0 a1 : Value} (hX : gCl cc o nL d MC MS rt ini sc Rt X) (hd : decode cc pc = .ok (.invokestatic i, 3)) (hp : pc + 3 = q) (hq : glk o i = some (kd, mi, 2, 0, ci)) (hkd : kd = 1 ∨ kd = 3) (hc : gcat st ≤ 8) (hb : kc ≤ MC ∧ ks ≤ MS) (hd' : d' + 1 ≤ d) (h : gC mi d' 0 0 [a0, a1] sh M (fun v sh' M' => v = none ∧ X q lv st sh' M' kc ks)) : X pc lv (a1 :: a0 :: st) sh M kc ks := by
  subst hp
  refine hX.1 _ _ _ _ _ _ _ _ _ hd ⟨rfl, ?_⟩
  refine glc_i hq ?_
  rw [if_neg (show ¬ kd = 6 by omega)]
  refine ⟨hkd, by simp, ?_⟩
  show gcat st ≤ 8 ∧ gCall d mi [a0, a1] sh M kc ks MC MS (lv.map Prod.snd ++ st) (fun v sh' M' kc' ks' => gret 0 v (fun w => X (pc + 3) lv (w ++ st) sh' M' kc' ks'))
  exact ⟨hc, ⟨d', 0, 0, hd', by omega, by omega, Or.inl rfl, gC_mono (fun v sh' M' z => by obtain ⟨rfl, z⟩ := z; exact ⟨rfl, z⟩) h⟩⟩
theorem s_invs2_1 {i mi ci d' : Nat} {kd : Nat} {a0 a1 : Value} (hX : gCl cc o nL d MC MS rt ini sc Rt X) (hd : decode cc pc = .ok (.invokestatic i, 3)) (hp : pc + 3 = q) (hq : glk o i = some (kd, mi, 2, 1, ci)) (hkd : kd = 1 ∨ kd = 3) (hc : gcat st ≤ 8) (hb : kc ≤ MC ∧ ks ≤ MS) (hd' : d' + 1 ≤ d) (h : gC mi d' 0 0 [a0, a1] sh M (fun v sh' M' => ∃ x, v = some (.int x) ∧ X q lv (.int x :: st) sh' M' kc ks)) : X pc lv (a1 :: a0 :: st) sh M kc ks := by
  subst hp
  refine hX.1 _ _ _ _ _ _ _ _ _ hd ⟨rfl, ?_⟩
  refine glc_i hq ?_
  rw [if_neg (show ¬ kd = 6 by omega)]
  refine ⟨hkd, by simp, ?_⟩
  show gcat st ≤ 8 ∧ gCall d mi [a0, a1] sh M kc ks MC MS (lv.map Prod.snd ++ st) (fun v sh' M' kc' ks' => gret 1 v (fun w => X (pc + 3) lv (w ++ st) sh' M' kc' ks'))
  exact ⟨hc, ⟨d', 0, 0, hd', by omega, by omega, Or.inl rfl, gC_mono (fun v sh' M' z => by obtain ⟨x, rfl, z⟩ := z; exact ⟨rfl, z⟩) h⟩⟩
theorem s_invs2_2 {i mi ci d' : Nat} {kd : Nat} {a0 a1 : Value} (hX : gCl cc o nL d MC MS rt ini sc Rt X) (hd : decode cc pc = .ok (.invokestatic i, 3)) (hp : pc + 3 = q) (hq : glk o i = some (kd, mi, 2, 2, ci)) (hkd : kd = 1 ∨ kd = 3) (hc : gcat st ≤ 8) (hb : kc ≤ MC ∧ ks ≤ MS) (hd' : d' + 1 ≤ d) (h : gC mi d' 0 0 [a0, a1] sh M (fun v sh' M' => ∃ x, v = some (.long x) ∧ X q lv (.long x :: st) sh' M' kc ks)) : X pc lv (a1 :: a0 :: st) sh M kc ks := by
  subst hp
  refine hX.1 _ _ _ _ _ _ _ _ _ hd ⟨rfl, ?_⟩
  refine glc_i hq ?_
  rw [if_neg (show ¬ kd = 6 by omega)]
  refine ⟨hkd, by simp, ?_⟩
  show gcat st ≤ 8 ∧ gCall d mi [a0, a1] sh M kc ks MC MS (lv.map Prod.snd ++ st) (fun v sh' M' kc' ks' => gret 2 v (fun w => X (pc + 3) lv (w ++ st) sh' M' kc' ks'))
  exact ⟨hc, ⟨d', 0, 0, hd', by omega, by omega, Or.inl rfl, gC_mono (fun v sh' M' z => by obtain ⟨x, rfl, z⟩ := z; exact ⟨rfl, z⟩) h⟩⟩
theorem s_invs3_0 {i mi ci d' : Nat} {kd : Nat} {a0 a1 a2 : Value} (hX : gCl cc o nL d MC MS rt ini sc Rt X) (hd : decode cc pc = .ok (.invokestatic i, 3)) (hp : pc + 3 = q) (hq : glk o i = some (kd, mi, 3, 0, ci)) (hkd : kd = 1 ∨ kd = 3) (hc : gcat st ≤ 8) (hb : kc ≤ MC ∧ ks ≤ MS) (hd' : d' + 1 ≤ d) (h : gC mi d' 0 0 [a0, a1, a2] sh M (fun v sh' M' => v = none ∧ X q lv st sh' M' kc ks)) : X pc lv (a2 :: a1 :: a0 :: st) sh M kc ks := by
  subst hp
  refine hX.1 _ _ _ _ _ _ _ _ _ hd ⟨rfl, ?_⟩
  refine glc_i hq ?_
  rw [if_neg (show ¬ kd = 6 by omega)]
  refine ⟨hkd, by simp, ?_⟩
  show gcat st ≤ 8 ∧ gCall d mi [a0, a1, a2] sh M kc ks MC MS (lv.map Prod.snd ++ st) (fun v sh' M' kc' ks' => gret 0 v (fun w => X (pc + 3) lv (w ++ st) sh' M' kc' ks'))
  exact ⟨hc, ⟨d', 0, 0, hd', by omega, by omega, Or.inl rfl, gC_mono (fun v sh' M' z => by obtain ⟨rfl, z⟩ := z; exact ⟨rfl, z⟩) h⟩⟩
theorem s_invs3_1 {i mi ci d' : Nat} {kd : Nat} {a0 a1 a2 : Value} (hX : gCl cc o nL d MC MS rt ini sc Rt X) (hd : decode cc pc = .ok (.invokestatic i, 3)) (hp : pc + 3 = q) (hq : glk o i = some (kd, mi, 3, 1, ci)) (hkd : kd = 1 ∨ kd = 3) (hc : gcat st ≤ 8) (hb : kc ≤ MC ∧ ks ≤ MS) (hd' : d' + 1 ≤ d) (h : gC mi d' 0 0 [a0, a1, a2] sh M (fun v sh' M' => ∃ x, v = some (.int x) ∧ X q lv (.int x :: st) sh' M' kc ks)) : X pc lv (a2 :: a1 :: a0 :: st) sh M kc ks := by
  subst hp
  refine hX.1 _ _ _ _ _ _ _ _ _ hd ⟨rfl, ?_⟩
  refine glc_i hq ?_
  rw [if_neg (show ¬ kd = 6 by omega)]
  refine ⟨hkd, by simp, ?_⟩
  show gcat st ≤ 8 ∧ gCall d mi [a0, a1, a2] sh M kc ks MC MS (lv.map Prod.snd ++ st) (fun v sh' M' kc' ks' => gret 1 v (fun w => X (pc + 3) lv (w ++ st) sh' M' kc' ks'))
  exact ⟨hc, ⟨d', 0, 0, hd', by omega, by omega, Or.inl rfl, gC_mono (fun v sh' M' z => by obtain ⟨x, rfl, z⟩ := z; exact ⟨rfl, z⟩) h⟩⟩
theorem s_invs3_2 {i mi ci d' : Nat} {kd : Nat} {a0 a1 a2 : Value} (hX : gCl cc o nL d MC MS rt ini sc Rt X) (hd : decode cc pc = .ok (.invokestatic i, 3)) (hp : pc + 3 = q) (hq : glk o i = some (kd, mi, 3, 2, ci)) (hkd : kd = 1 ∨ kd = 3) (hc : gcat st ≤ 8) (hb : kc ≤ MC ∧ ks ≤ MS) (hd' : d' + 1 ≤ d) (h : gC mi d' 0 0 [a0, a1, a2] sh M (fun v sh' M' => ∃ x, v = some (.long x) ∧ X q lv (.long x :: st) sh' M' kc ks)) : X pc lv (a2 :: a1 :: a0 :: st) sh M kc ks := by
  subst hp
  refine hX.1 _ _ _ _ _ _ _ _ _ hd ⟨rfl, ?_⟩
  refine glc_i hq ?_
  rw [if_neg (show ¬ kd = 6 by omega)]
  refine ⟨hkd, by simp, ?_⟩
  show gcat st ≤ 8 ∧ gCall d mi [a0, a1, a2] sh M kc ks MC MS (lv.map Prod.snd ++ st) (fun v sh' M' kc' ks' => gret 2 v (fun w => X (pc + 3) lv (w ++ st) sh' M' kc' ks'))
  exact ⟨hc, ⟨d', 0, 0, hd', by omega, by omega, Or.inl rfl, gC_mono (fun v sh' M' z => by obtain ⟨x, rfl, z⟩ := z; exact ⟨rfl, z⟩) h⟩⟩
theorem s_invs4_0 {i mi ci d' : Nat} {kd : Nat} {a0 a1 a2 a3 : Value} (hX : gCl cc o nL d MC MS rt ini sc Rt X) (hd : decode cc pc = .ok (.invokestatic i, 3)) (hp : pc + 3 = q) (hq : glk o i = some (kd, mi, 4, 0, ci)) (hkd : kd = 1 ∨ kd = 3) (hc : gcat st ≤ 8) (hb : kc ≤ MC ∧ ks ≤ MS) (hd' : d' + 1 ≤ d) (h : gC mi d' 0 0 [a0, a1, a2, a3] sh M (fun v sh' M' => v = none ∧ X q lv st sh' M' kc ks)) : X pc lv (a3 :: a2 :: a1 :: a0 :: st) sh M kc ks := by
  subst hp
  refine hX.1 _ _ _ _ _ _ _ _ _ hd ⟨rfl, ?_⟩
  refine glc_i hq ?_
  rw [if_neg (show ¬ kd = 6 by omega)]
  refine ⟨hkd, by simp, ?_⟩
  show gcat st ≤ 8 ∧ gCall d mi [a0, a1, a2, a3] sh M kc ks MC MS (lv.map Prod.snd ++ st) (fun v sh' M' kc' ks' => gret 0 v (fun w => X (pc + 3) lv (w ++ st) sh' M' kc' ks'))
  exact ⟨hc, ⟨d', 0, 0, hd', by omega, by omega, Or.inl rfl, gC_mono (fun v sh' M' z => by obtain ⟨rfl, z⟩ := z; exact ⟨rfl, z⟩) h⟩⟩
theorem s_invs4_1 {i mi ci d' : Nat} {kd : Nat} {a0 a1 a2 a3 : Value} (hX : gCl cc o nL d MC MS rt ini sc Rt X) (hd : decode cc pc = .ok (.invokestatic i, 3)) (hp : pc + 3 = q) (hq : glk o i = some (kd, mi, 4, 1, ci)) (hkd : kd = 1 ∨ kd = 3) (hc : gcat st ≤ 8) (hb : kc ≤ MC ∧ ks ≤ MS) (hd' : d' + 1 ≤ d) (h : gC mi d' 0 0 [a0, a1, a2, a3] sh M (fun v sh' M' => ∃ x, v = some (.int x) ∧ X q lv (.int x :: st) sh' M' kc ks)) : X pc lv (a3 :: a2 :: a1 :: a0 :: st) sh M kc ks := by
  subst hp
  refine hX.1 _ _ _ _ _ _ _ _ _ hd ⟨rfl, ?_⟩
  refine glc_i hq ?_
  rw [if_neg (show ¬ kd = 6 by omega)]
  refine ⟨hkd, by simp, ?_⟩
  show gcat st ≤ 8 ∧ gCall d mi [a0, a1, a2, a3] sh M kc ks MC MS (lv.map Prod.snd ++ st) (fun v sh' M' kc' ks' => gret 1 v (fun w => X (pc + 3) lv (w ++ st) sh' M' kc' ks'))
  exact ⟨hc, ⟨d', 0, 0, hd', by omega, by omega, Or.inl rfl, gC_mono (fun v sh' M' z => by obtain ⟨x, rfl, z⟩ := z; exact ⟨rfl, z⟩) h⟩⟩
theorem s_invs4_2 {i mi ci d' : Nat} {kd : Nat} {a0 a1 a2 a3 : Value} (hX : gCl cc o nL d MC MS rt ini sc Rt X) (hd : decode cc pc = .ok (.invokestatic i, 3)) (hp : pc + 3 = q) (hq : glk o i = some (kd, mi, 4, 2, ci)) (hkd : kd = 1 ∨ kd = 3) (hc : gcat st ≤ 8) (hb : kc ≤ MC ∧ ks ≤ MS) (hd' : d' + 1 ≤ d) (h : gC mi d' 0 0 [a0, a1, a2, a3] sh M (fun v sh' M' => ∃ x, v = some (.long x) ∧ X q lv (.long x :: st) sh' M' kc ks)) : X pc lv (a3 :: a2 :: a1 :: a0 :: st) sh M kc ks := by
  subst hp
  refine hX.1 _ _ _ _ _ _ _ _ _ hd ⟨rfl, ?_⟩
  refine glc_i hq ?_
  rw [if_neg (show ¬ kd = 6 by omega)]
  refine ⟨hkd, by simp, ?_⟩
  show gcat st ≤ 8 ∧ gCall d mi [a0, a1, a2, a3] sh M kc ks MC MS (lv.map Prod.snd ++ st) (fun v sh' M' kc' ks' => gret 2 v (fun w => X (pc + 3) lv (w ++ st) sh' M' kc' ks'))
  exact ⟨hc, ⟨d', 0, 0, hd', by omega, by omega, Or.inl rfl, gC_mono (fun v sh' M' z => by obtain ⟨x, rfl, z⟩ := z; exact ⟨rfl, z⟩) h⟩⟩
theorem s_invs5_0 {i mi ci d' : Nat} {kd : Nat} {a0 a1 a2 a3 a4 : Value} (hX : gCl cc o nL d MC MS rt ini sc Rt X) (hd : decode cc pc = .ok (.invokestatic i, 3)) (hp : pc + 3 = q) (hq : glk o i = some (kd, mi, 5, 0, ci)) (hkd : kd = 1 ∨ kd = 3) (hc : gcat st ≤ 8) (hb : kc ≤ MC ∧ ks ≤ MS) (hd' : d' + 1 ≤ d) (h : gC mi d' 0 0 [a0, a1, a2, a3, a4] sh M (fun v sh' M' => v = none ∧ X q lv st sh' M' kc ks)) : X pc lv (a4 :: a3 :: a2 :: a1 :: a0 :: st) sh M kc ks := by
  subst hp
  refine hX.1 _ _ _ _ _ _ _ _ _ hd ⟨rfl, ?_⟩
  refine glc_i hq ?_
  rw [if_neg (show ¬ kd = 6 by omega)]
  refine ⟨hkd, by simp, ?_⟩
  show gcat st ≤ 8 ∧ gCall d mi [a0, a1, a2, a3, a4] sh M kc ks MC MS (lv.map Prod.snd ++ st) (fun v sh' M' kc' ks' => gret 0 v (fun w => X (pc + 3) lv (w ++ st) sh' M' kc' ks'))
  exact ⟨hc, ⟨d', 0, 0, hd', by omega, by omega, Or.inl rfl, gC_mono (fun v sh' M' z => by obtain ⟨rfl, z⟩ := z; exact ⟨rfl, z⟩) h⟩⟩
theorem s_invs5_1 {i mi ci d' : Nat} {kd : Nat} {a0 a1 a2 a3 a4 : Value} (hX : gCl cc o nL d MC MS rt ini sc Rt X) (hd : decode cc pc = .ok (.invokestatic i, 3)) (hp : pc + 3 = q) (hq : glk o i = some (kd, mi, 5, 1, ci)) (hkd : kd = 1 ∨ kd = 3) (hc : gcat st ≤ 8) (hb : kc ≤ MC ∧ ks ≤ MS) (hd' : d' + 1 ≤ d) (h : gC mi d' 0 0 [a0, a1, a2, a3, a4] sh M (fun v sh' M' => ∃ x, v = some (.int x) ∧ X q lv (.int x :: st) sh' M' kc ks)) : X pc lv (a4 :: a3 :: a2 :: a1 :: a0 :: st) sh M kc ks := by
  subst hp
  refine hX.1 _ _ _ _ _ _ _ _ _ hd ⟨rfl, ?_⟩
  refine glc_i hq ?_
  rw [if_neg (show ¬ kd = 6 by omega)]
  refine ⟨hkd, by simp, ?_⟩
  show gcat st ≤ 8 ∧ gCall d mi [a0, a1, a2, a3, a4] sh M kc ks MC MS (lv.map Prod.snd ++ st) (fun v sh' M' kc' ks' => gret 1 v (fun w => X (pc + 3) lv (w ++ st) sh' M' kc' ks'))
  exact ⟨hc, ⟨d', 0, 0, hd', by omega, by omega, Or.inl rfl, gC_mono (fun v sh' M' z => by obtain ⟨x, rfl, z⟩ := z; exact ⟨rfl, z⟩) h⟩⟩
theorem s_invs5_2 {i mi ci d' : Nat} {kd : Nat} {a0 a1 a2 a3 a4 : Value} (hX : gCl cc o nL d MC MS rt ini sc Rt X) (hd : decode cc pc = .ok (.invokestatic i, 3)) (hp : pc + 3 = q) (hq : glk o i = some (kd, mi, 5, 2, ci)) (hkd : kd = 1 ∨ kd = 3) (hc : gcat st ≤ 8) (hb : kc ≤ MC ∧ ks ≤ MS) (hd' : d' + 1 ≤ d) (h : gC mi d' 0 0 [a0, a1, a2, a3, a4] sh M (fun v sh' M' => ∃ x, v = some (.long x) ∧ X q lv (.long x :: st) sh' M' kc ks)) : X pc lv (a4 :: a3 :: a2 :: a1 :: a0 :: st) sh M kc ks := by
  subst hp
  refine hX.1 _ _ _ _ _ _ _ _ _ hd ⟨rfl, ?_⟩
  refine glc_i hq ?_
  rw [if_neg (show ¬ kd = 6 by omega)]
  refine ⟨hkd, by simp, ?_⟩
  show gcat st ≤ 8 ∧ gCall d mi [a0, a1, a2, a3, a4] sh M kc ks MC MS (lv.map Prod.snd ++ st) (fun v sh' M' kc' ks' => gret 2 v (fun w => X (pc + 3) lv (w ++ st) sh' M' kc' ks'))
  exact ⟨hc, ⟨d', 0, 0, hd', by omega, by omega, Or.inl rfl, gC_mono (fun v sh' M' z => by obtain ⟨x, rfl, z⟩ := z; exact ⟨rfl, z⟩) h⟩⟩
theorem s_invs6_0 {i mi ci d' : Nat} {kd : Nat} {a0 a1 a2 a3 a4 a5 : Value} (hX : gCl cc o nL d MC MS rt ini sc Rt X) (hd : decode cc pc = .ok (.invokestatic i, 3)) (hp : pc + 3 = q) (hq : glk o i = some (kd, mi, 6, 0, ci)) (hkd : kd = 1 ∨ kd = 3) (hc : gcat st ≤ 8) (hb : kc ≤ MC ∧ ks ≤ MS) (hd' : d' + 1 ≤ d) (h : gC mi d' 0 0 [a0, a1, a2, a3, a4, a5] sh M (fun v sh' M' => v = none ∧ X q lv st sh' M' kc ks)) : X pc lv (a5 :: a4 :: a3 :: a2 :: a1 :: a0 :: st) sh M kc ks := by
  subst hp
  refine hX.1 _ _ _ _ _ _ _ _ _ hd ⟨rfl, ?_⟩
  refine glc_i hq ?_
  rw [if_neg (show ¬ kd = 6 by omega)]
  refine ⟨hkd, by simp, ?_⟩
  show gcat st ≤ 8 ∧ gCall d mi [a0, a1, a2, a3, a4, a5] sh M kc ks MC MS (lv.map Prod.snd ++ st) (fun v sh' M' kc' ks' => gret 0 v (fun w => X (pc + 3) lv (w ++ st) sh' M' kc' ks'))
  exact ⟨hc, ⟨d', 0, 0, hd', by omega, by omega, Or.inl rfl, gC_mono (fun v sh' M' z => by obtain ⟨rfl, z⟩ := z; exact ⟨rfl, z⟩) h⟩⟩
theorem s_invs6_1 {i mi ci d' : Nat} {kd : Nat} {a0 a1 a2 a3 a4 a5 : Value} (hX : gCl cc o nL d MC MS rt ini sc Rt X) (hd : decode cc pc = .ok (.invokestatic i, 3)) (hp : pc + 3 = q) (hq : glk o i = some (kd, mi, 6, 1, ci)) (hkd : kd = 1 ∨ kd = 3) (hc : gcat st ≤ 8) (hb : kc ≤ MC ∧ ks ≤ MS) (hd' : d' + 1 ≤ d) (h : gC mi d' 0 0 [a0, a1, a2, a3, a4, a5] sh M (fun v sh' M' => ∃ x, v = some (.int x) ∧ X q lv (.int x :: st) sh' M' kc ks)) : X pc lv (a5 :: a4 :: a3 :: a2 :: a1 :: a0 :: st) sh M kc ks := by
  subst hp
  refine hX.1 _ _ _ _ _ _ _ _ _ hd ⟨rfl, ?_⟩
  refine glc_i hq ?_
  rw [if_neg (show ¬ kd = 6 by omega)]
  refine ⟨hkd, by simp, ?_⟩
  show gcat st ≤ 8 ∧ gCall d mi [a0, a1, a2, a3, a4, a5] sh M kc ks MC MS (lv.map Prod.snd ++ st) (fun v sh' M' kc' ks' => gret 1 v (fun w => X (pc + 3) lv (w ++ st) sh' M' kc' ks'))
  exact ⟨hc, ⟨d', 0, 0, hd', by omega, by omega, Or.inl rfl, gC_mono (fun v sh' M' z => by obtain ⟨x, rfl, z⟩ := z; exact ⟨rfl, z⟩) h⟩⟩
theorem s_invs6_2 {i mi ci d' : Nat} {kd : Nat} {a0 a1 a2 a3 a4 a5 : Value} (hX : gCl cc o nL d MC MS rt ini sc Rt X) (hd : decode cc pc = .ok (.invokestatic i, 3)) (hp : pc + 3 = q) (hq : glk o i = some (kd, mi, 6, 2, ci)) (hkd : kd = 1 ∨ kd = 3) (hc : gcat st ≤ 8) (hb : kc ≤ MC ∧ ks ≤ MS) (hd' : d' + 1 ≤ d) (h : gC mi d' 0 0 [a0, a1, a2, a3, a4, a5] sh M (fun v sh' M' => ∃ x, v = some (.long x) ∧ X q lv (.long x :: st) sh' M' kc ks)) : X pc lv (a5 :: a4 :: a3 :: a2 :: a1 :: a0 :: st) sh M kc ks := by
  subst hp
  refine hX.1 _ _ _ _ _ _ _ _ _ hd ⟨rfl, ?_⟩
  refine glc_i hq ?_
  rw [if_neg (show ¬ kd = 6 by omega)]
  refine ⟨hkd, by simp, ?_⟩
  show gcat st ≤ 8 ∧ gCall d mi [a0, a1, a2, a3, a4, a5] sh M kc ks MC MS (lv.map Prod.snd ++ st) (fun v sh' M' kc' ks' => gret 2 v (fun w => X (pc + 3) lv (w ++ st) sh' M' kc' ks'))
  exact ⟨hc, ⟨d', 0, 0, hd', by omega, by omega, Or.inl rfl, gC_mono (fun v sh' M' z => by obtain ⟨x, rfl, z⟩ := z; exact ⟨rfl, z⟩) h⟩⟩
theorem s_iret (hX : gCl cc o nL d MC MS rt ini sc Rt X) (hd : decode cc pc = .ok (.ireturn, 1)) (hr : rt = 1 ∨ (rt = 2 ∧ (x = 0 ∨ x = 1))) (h : Rt (some (.int x)) sh M kc ks) : X pc lv [.int x] sh M kc ks := hX.1 _ _ _ _ _ _ _ _ _ hd ⟨rfl, rfl, hr, h⟩
theorem s_lret (hX : gCl cc o nL d MC MS rt ini sc Rt X) (hd : decode cc pc = .ok (.lreturn, 1)) (hr : rt = 3) (h : Rt (some (.long u)) sh M kc ks) : X pc lv [.long u] sh M kc ks := hX.1 _ _ _ _ _ _ _ _ _ hd ⟨rfl, rfl, hr, h⟩
theorem s_ret (hX : gCl cc o nL d MC MS rt ini sc Rt X) (hd : decode cc pc = .ok (.return_, 1)) (hr : rt = 0) (h : Rt none sh M kc ks) : X pc lv [] sh M kc ks := hX.1 _ _ _ _ _ _ _ _ _ hd ⟨rfl, rfl, hr, h⟩
theorem s_nif_eq {off : Int} {r a b : Nat} (hX : gCl cc o nL d MC MS rt ini sc Rt X) (hd : decode cc pc = .ok (.ifCond .eq off, 3)) (hp : pc + 3 = q) (ho : (pc : Int) + off = (r : Int)) (ex : x = nI a) (ey : (0 : Int32) = nI b) (ha : a < 2 ^ 31) (hb : b < 2 ^ 31) (ht : a = b → X r lv st sh M kc ks) (hf : ¬ (a = b) → X q lv st sh M kc ks) : X pc lv (.int x :: st) sh M kc ks := by
  subst ex
  have key := (nI_eq ha hb)
  rw [← ey] at key
  exact s_if_eq hX hd hp ho (fun z => ht (key.mp z)) (fun z => hf (fun w => z (key.mpr w)))
theorem s_nicmp_eq {off : Int} {r a b : Nat} (hX : gCl cc o nL d MC MS rt ini sc Rt X) (hd : decode cc pc = .ok (.if_icmp .eq off, 3)) (hp : pc + 3 = q) (ho : (pc : Int) + off = (r : Int)) (ex : x = nI a) (ey : y = nI b) (ha : a < 2 ^ 31) (hb : b < 2 ^ 31) (ht : a = b → X r lv st sh M kc ks) (hf : ¬ (a = b) → X q lv st sh M kc ks) : X pc lv (.int y :: .int x :: st) sh M kc ks := by
  subst ex
  have key := (nI_eq ha hb)
  rw [← ey] at key
  exact s_icmp_eq hX hd hp ho (fun z => ht (key.mp z)) (fun z => hf (fun w => z (key.mpr w)))
theorem s_nif_ne {off : Int} {r a b : Nat} (hX : gCl cc o nL d MC MS rt ini sc Rt X) (hd : decode cc pc = .ok (.ifCond .ne off, 3)) (hp : pc + 3 = q) (ho : (pc : Int) + off = (r : Int)) (ex : x = nI a) (ey : (0 : Int32) = nI b) (ha : a < 2 ^ 31) (hb : b < 2 ^ 31) (ht : ¬ a = b → X r lv st sh M kc ks) (hf : ¬ (¬ a = b) → X q lv st sh M kc ks) : X pc lv (.int x :: st) sh M kc ks := by
  subst ex
  have key := (not_congr (nI_eq ha hb))
  rw [← ey] at key
  exact s_if_ne hX hd hp ho (fun z => ht (key.mp z)) (fun z => hf (fun w => z (key.mpr w)))
theorem s_nicmp_ne {off : Int} {r a b : Nat} (hX : gCl cc o nL d MC MS rt ini sc Rt X) (hd : decode cc pc = .ok (.if_icmp .ne off, 3)) (hp : pc + 3 = q) (ho : (pc : Int) + off = (r : Int)) (ex : x = nI a) (ey : y = nI b) (ha : a < 2 ^ 31) (hb : b < 2 ^ 31) (ht : ¬ a = b → X r lv st sh M kc ks) (hf : ¬ (¬ a = b) → X q lv st sh M kc ks) : X pc lv (.int y :: .int x :: st) sh M kc ks := by
  subst ex
  have key := (not_congr (nI_eq ha hb))
  rw [← ey] at key
  exact s_icmp_ne hX hd hp ho (fun z => ht (key.mp z)) (fun z => hf (fun w => z (key.mpr w)))
theorem s_nif_lt {off : Int} {r a b : Nat} (hX : gCl cc o nL d MC MS rt ini sc Rt X) (hd : decode cc pc = .ok (.ifCond .lt off, 3)) (hp : pc + 3 = q) (ho : (pc : Int) + off = (r : Int)) (ex : x = nI a) (ey : (0 : Int32) = nI b) (ha : a < 2 ^ 31) (hb : b < 2 ^ 31) (ht : a < b → X r lv st sh M kc ks) (hf : ¬ (a < b) → X q lv st sh M kc ks) : X pc lv (.int x :: st) sh M kc ks := by
  subst ex
  have key := (nI_ltI ha hb)
  rw [← ey] at key
  exact s_if_lt hX hd hp ho (fun z => ht (key.mp z)) (fun z => hf (fun w => z (key.mpr w)))
theorem s_nicmp_lt {off : Int} {r a b : Nat} (hX : gCl cc o nL d MC MS rt ini sc Rt X) (hd : decode cc pc = .ok (.if_icmp .lt off, 3)) (hp : pc + 3 = q) (ho : (pc : Int) + off = (r : Int)) (ex : x = nI a) (ey : y = nI b) (ha : a < 2 ^ 31) (hb : b < 2 ^ 31) (ht : a < b → X r lv st sh M kc ks) (hf : ¬ (a < b) → X q lv st sh M kc ks) : X pc lv (.int y :: .int x :: st) sh M kc ks := by
  subst ex
  have key := (nI_ltI ha hb)
  rw [← ey] at key
  exact s_icmp_lt hX hd hp ho (fun z => ht (key.mp z)) (fun z => hf (fun w => z (key.mpr w)))
theorem s_nif_ge {off : Int} {r a b : Nat} (hX : gCl cc o nL d MC MS rt ini sc Rt X) (hd : decode cc pc = .ok (.ifCond .ge off, 3)) (hp : pc + 3 = q) (ho : (pc : Int) + off = (r : Int)) (ex : x = nI a) (ey : (0 : Int32) = nI b) (ha : a < 2 ^ 31) (hb : b < 2 ^ 31) (ht : b ≤ a → X r lv st sh M kc ks) (hf : ¬ (b ≤ a) → X q lv st sh M kc ks) : X pc lv (.int x :: st) sh M kc ks := by
  subst ex
  have key := (nI_leI hb ha)
  rw [← ey] at key
  exact s_if_ge hX hd hp ho (fun z => ht (key.mp z)) (fun z => hf (fun w => z (key.mpr w)))
theorem s_nicmp_ge {off : Int} {r a b : Nat} (hX : gCl cc o nL d MC MS rt ini sc Rt X) (hd : decode cc pc = .ok (.if_icmp .ge off, 3)) (hp : pc + 3 = q) (ho : (pc : Int) + off = (r : Int)) (ex : x = nI a) (ey : y = nI b) (ha : a < 2 ^ 31) (hb : b < 2 ^ 31) (ht : b ≤ a → X r lv st sh M kc ks) (hf : ¬ (b ≤ a) → X q lv st sh M kc ks) : X pc lv (.int y :: .int x :: st) sh M kc ks := by
  subst ex
  have key := (nI_leI hb ha)
  rw [← ey] at key
  exact s_icmp_ge hX hd hp ho (fun z => ht (key.mp z)) (fun z => hf (fun w => z (key.mpr w)))
theorem s_nif_gt {off : Int} {r a b : Nat} (hX : gCl cc o nL d MC MS rt ini sc Rt X) (hd : decode cc pc = .ok (.ifCond .gt off, 3)) (hp : pc + 3 = q) (ho : (pc : Int) + off = (r : Int)) (ex : x = nI a) (ey : (0 : Int32) = nI b) (ha : a < 2 ^ 31) (hb : b < 2 ^ 31) (ht : b < a → X r lv st sh M kc ks) (hf : ¬ (b < a) → X q lv st sh M kc ks) : X pc lv (.int x :: st) sh M kc ks := by
  subst ex
  have key := (nI_ltI hb ha)
  rw [← ey] at key
  exact s_if_gt hX hd hp ho (fun z => ht (key.mp z)) (fun z => hf (fun w => z (key.mpr w)))
theorem s_nicmp_gt {off : Int} {r a b : Nat} (hX : gCl cc o nL d MC MS rt ini sc Rt X) (hd : decode cc pc = .ok (.if_icmp .gt off, 3)) (hp : pc + 3 = q) (ho : (pc : Int) + off = (r : Int)) (ex : x = nI a) (ey : y = nI b) (ha : a < 2 ^ 31) (hb : b < 2 ^ 31) (ht : b < a → X r lv st sh M kc ks) (hf : ¬ (b < a) → X q lv st sh M kc ks) : X pc lv (.int y :: .int x :: st) sh M kc ks := by
  subst ex
  have key := (nI_ltI hb ha)
  rw [← ey] at key
  exact s_icmp_gt hX hd hp ho (fun z => ht (key.mp z)) (fun z => hf (fun w => z (key.mpr w)))
theorem s_nif_le {off : Int} {r a b : Nat} (hX : gCl cc o nL d MC MS rt ini sc Rt X) (hd : decode cc pc = .ok (.ifCond .le off, 3)) (hp : pc + 3 = q) (ho : (pc : Int) + off = (r : Int)) (ex : x = nI a) (ey : (0 : Int32) = nI b) (ha : a < 2 ^ 31) (hb : b < 2 ^ 31) (ht : a ≤ b → X r lv st sh M kc ks) (hf : ¬ (a ≤ b) → X q lv st sh M kc ks) : X pc lv (.int x :: st) sh M kc ks := by
  subst ex
  have key := (nI_leI ha hb)
  rw [← ey] at key
  exact s_if_le hX hd hp ho (fun z => ht (key.mp z)) (fun z => hf (fun w => z (key.mpr w)))
theorem s_nicmp_le {off : Int} {r a b : Nat} (hX : gCl cc o nL d MC MS rt ini sc Rt X) (hd : decode cc pc = .ok (.if_icmp .le off, 3)) (hp : pc + 3 = q) (ho : (pc : Int) + off = (r : Int)) (ex : x = nI a) (ey : y = nI b) (ha : a < 2 ^ 31) (hb : b < 2 ^ 31) (ht : a ≤ b → X r lv st sh M kc ks) (hf : ¬ (a ≤ b) → X q lv st sh M kc ks) : X pc lv (.int y :: .int x :: st) sh M kc ks := by
  subst ex
  have key := (nI_leI ha hb)
  rw [← ey] at key
  exact s_icmp_le hX hd hp ho (fun z => ht (key.mp z)) (fun z => hf (fun w => z (key.mpr w)))
end SR
