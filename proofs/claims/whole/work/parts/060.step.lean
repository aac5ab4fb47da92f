/-! A METHOD'S CONTRACT, AND ONE STEP -/
def gQ (Q : Option Value → List gS → gM → Prop) (D : va_G) (cy : Nat → ClassId) (ad0 : Nat → Nat) (n0 mc : Nat) (A : Nat → Prop) : Array Value → State → Outcome → State → Prop := fun _ st oc t =>
  (∃ (v : Option Value) (sh : List gS) (M : gM) (ad : Nat → Nat), oc = .returned (v.map (gv ad)) ∧ Q v sh M ∧ (∀ k, k < n0 ∨ 1000000 ≤ k → ad k = ad0 k) ∧ (mc = 0 → ad = ad0) ∧ n0 ≤ sh.length ∧ va_P D vwCl (gW cy ad sh M) t.heap ∧ va_D A (gW cy ad sh M)) ∧ va_F A st t
def gPc (avs : List Value) (D : va_G) (cy : Nat → ClassId) (ad : Nat → Nat) (sz : Nat) (sh : List gS) (M : gM) : Array Value → State → Prop := va_Pc (avs.map (gv ad)) (fun U => U.heap.size = sz ∧ va_P D vwCl (gW cy ad sh M) U.heap ∧ va_K D vwCl (gtys cy) U ∧ va_D (fun _ => True) (gW cy ad sh M) ∧ gXt U)
abbrev grm (d mc ms : Nat) : Room := { frames := d, cells := mc, slots := ms, locals := 40 * d }
/-- method mi, called with avs over the picture sh, M, comes back, with Q; d: frames, mc, ms: cells and slots that it may make -/
def gC (mi d mc ms : Nat) (avs : List Value) (sh : List gS) (M : gM) (Q : Option Value → List gS → gM → Prop) : Prop :=
  ∀ q, gmt[mi]? = some q → ∀ (l : Launch) (D : va_G) (cy : Nat → ClassId) (ad : Nat → Nat) (sz : Nat), Met l q.1 (.code q.1 q.2.1 q.2.2.1 q.2.2.2.1 :: gwl) (grm d mc ms) (gPc avs D cy ad sz sh M) (gQ Q D cy ad sh.length mc (va_A (gW cy ad sh M) sz)) mc ms (va_A (gW cy ad sh M) sz)
def gCall (d mi : Nat) (avs : List Value) (sh : List gS) (M : gM) (kc ks MC MS : Nat) (oth : List Value) (post : Option Value → List gS → gM → Nat → Nat → Prop) : Prop :=
  ∃ d' mc ms, d' + 1 ≤ d ∧ kc + mc ≤ MC ∧ ks + ms ≤ MS ∧ (mc = 0 ∨ oth.all (gokV sh.length) = true) ∧ gC mi d' mc ms avs sh M (fun v sh' M' => post v sh' M' (kc + mc) (ks + ms))
def gret (r : Nat) (v : Option Value) (F : List Value → Prop) : Prop := match v with
  | none => r = 0 ∧ F []
  | some (.int x) => r = 1 ∧ F [.int x]
  | some (.long x) => r = 2 ∧ F [.long x]
  | _ => False
theorem gret_e {r : Nat} {v : Option Value} {F : List Value → Prop} (h : gret r v F) : F v.toList ∧ ∀ ad, v.map (gv ad) = v := by
  unfold gret at h; split at h
  · exact ⟨h.2, fun _ => rfl⟩
  · exact ⟨h.2, fun _ => rfl⟩
  · exact ⟨h.2, fun _ => rfl⟩
  · exact h.elim
/-- the object that is asked is of that class -/
def grc (sh : List gS) (b ci : Nat) : Prop := match sh[b]? with
  | some (.inl q) => q.1 = ci
  | _ => False
theorem grc_e {sh : List gS} {b ci : Nat} (h : grc sh b ci) : ∃ fs, sh[b]? = some (.inl (ci, fs)) := by
  unfold grc at h; split at h
  · next q hq => exact ⟨q.2, by rw [hq, ← h]⟩
  · exact h.elim
def gcat (st : List Value) : Nat := (st.map fun v => v.category).sum
/-- arraycopy: from a0 at sp to a1 at dp, n -/
def gcpy (st : List Value) (F : Nat → Int32 → Nat → Int32 → Int32 → List Value → Prop) : Prop := match st with
  | .int n :: .int dp :: .ref a1 :: .int sp :: .ref a0 :: r => F a0 sp a1 dp n r
  | _ => False
theorem gcpy_e {st : List Value} {F : Nat → Int32 → Nat → Int32 → Int32 → List Value → Prop} (h : gcpy st F) : ∃ a0 sp a1 dp n r, st = .int n :: .int dp :: .ref a1 :: .int sp :: .ref a0 :: r ∧ F a0 sp a1 dp n r := by
  unfold gcpy at h; split at h
  · exact ⟨_, _, _, _, _, _, rfl, h⟩
  · exact h.elim
/-- a call by the link table: what, with how many arguments, what comes back -/
def glc (o i : Nat) (F : Nat → Nat → Nat → Nat → Nat → Prop) : Prop := match glk o i with
  | some q => F q.1 q.2.1 q.2.2.1 q.2.2.2.1 q.2.2.2.2
  | none => False
theorem glc_e {o i : Nat} {F : Nat → Nat → Nat → Nat → Nat → Prop} (h : glc o i F) : ∃ q, glk o i = some q ∧ F q.1 q.2.1 q.2.2.1 q.2.2.2.1 q.2.2.2.2 := by
  unfold glc at h; split at h
  · next q hq => exact ⟨q, hq, h⟩
  · exact h.elim
def gfc (o i : Nat) (F : Nat → Nat → Nat → Prop) : Prop := match gfl o i with
  | some q => F q.1 q.2.1 q.2.2
  | none => False
theorem gfc_e {o i : Nat} {F : Nat → Nat → Nat → Prop} (h : gfc o i F) : ∃ q, gfl o i = some q ∧ F q.1 q.2.1 q.2.2 := by
  unfold gfc at h; split at h
  · next q hq => exact ⟨q, hq, h⟩
  · exact h.elim
def gnc (o i : Nat) (F : Nat → Prop) : Prop := match gnw o i with
  | some q => F q
  | none => False
theorem gnc_e {o i : Nat} {F : Nat → Prop} (h : gnc o i F) : ∃ q, gnw o i = some q ∧ F q := by
  unfold gnc at h; split at h
  · next q hq => exact ⟨q, hq, h⟩
  · exact h.elim
def gokA (sh : List gS) (lv : List (Nat × Value)) (st : List Value) : Bool := sh.all (gokS sh.length) && lv.all (fun q => gokV sh.length q.2) && st.all (gokV sh.length) && decide (sh.length < 1000000)
abbrev gRt : Type := Option Value → List gS → gM → Nat → Nat → Prop
def gof (x : Int32) (f : Option Value) : Value := match f with
  | none => .int x
  | some v => v
def gx (o nL d MC MS rt : Nat) (ini : Bool) (sc : Option (Nat × (Nat → Int32))) (X : gX) (Rt : gRt) (ins : Instr) (len pc : Nat) (lv : List (Nat × Value)) (st : List Value) (sh : List gS) (M : gM) (kc ks : Nat) : Prop :=
  match ins with
  | .iconst n => len = 1 ∧ X (pc + 1) lv (.int (Int32.ofInt n) :: st) sh M kc ks
  | .bipush n => len = 2 ∧ (-128 ≤ n ∧ n ≤ 127) ∧ X (pc + 2) lv (.int (Int32.ofInt n) :: st) sh M kc ks
  | .sipush n => len = 3 ∧ (-32768 ≤ n ∧ n ≤ 32767) ∧ X (pc + 3) lv (.int (Int32.ofInt n) :: st) sh M kc ks
  | .lconst n => len = 1 ∧ X (pc + 1) lv (.long (Int64.ofNat n.val) :: st) sh M kc ks
  | .ldc2_w i => len = 3 ∧ ∃ x, gcl o i = some x ∧ X (pc + 3) lv (.long x :: st) sh M kc ks
  | .ldc_w i => len = 3 ∧ ∃ x, gci o i = some x ∧ X (pc + 3) lv (.int x :: st) sh M kc ks
  | .iload_n k => len = 1 ∧ glI lv k.val (fun x => X (pc + 1) lv (.int x :: st) sh M kc ks)
  | .iload k => len = 2 ∧ glI lv k (fun x => X (pc + 2) lv (.int x :: st) sh M kc ks)
  | .lload_n k => len = 1 ∧ glL lv k.val (fun x => X (pc + 1) lv (.long x :: st) sh M kc ks)
  | .lload k => len = 2 ∧ glL lv k (fun x => X (pc + 2) lv (.long x :: st) sh M kc ks)
  | .aload_n k => len = 1 ∧ glR lv k.val (fun x => X (pc + 1) lv (.ref x :: st) sh M kc ks)
  | .istore_n k => len = 1 ∧ k.val < nL ∧ gp1 st (fun x r => X (pc + 1) (lput lv k.val (.int x)) r sh M kc ks)
  | .istore k => len = 2 ∧ k < nL ∧ gp1 st (fun x r => X (pc + 2) (lput lv k (.int x)) r sh M kc ks)
  | .lstore_n k => len = 1 ∧ k.val + 1 < nL ∧ gq1 st (fun x r => X (pc + 1) (lputL lv k.val (.long x)) r sh M kc ks)
  | .lstore k => len = 2 ∧ k + 1 < nL ∧ gq1 st (fun x r => X (pc + 2) (lputL lv k (.long x)) r sh M kc ks)
  | .astore_n k => len = 1 ∧ k.val < nL ∧ gpr st (fun x r => X (pc + 1) (lput lv k.val (.ref x)) r sh M kc ks)
  | .iinc k n => len = 3 ∧ k < nL ∧ glI lv k (fun x => X (pc + 3) (lput lv k (.int (x + Int32.ofInt n))) st sh M kc ks)
  | .iadd => len = 1 ∧ gp2 st (fun x y r => X (pc + 1) lv (.int (x + y) :: r) sh M kc ks)
  | .isub => len = 1 ∧ gp2 st (fun x y r => X (pc + 1) lv (.int (x - y) :: r) sh M kc ks)
  | .imul => len = 1 ∧ gp2 st (fun x y r => X (pc + 1) lv (.int (x * y) :: r) sh M kc ks)
  | .iand => len = 1 ∧ gp2 st (fun x y r => X (pc + 1) lv (.int (x &&& y) :: r) sh M kc ks)
  | .ior => len = 1 ∧ gp2 st (fun x y r => X (pc + 1) lv (.int (x ||| y) :: r) sh M kc ks)
  | .idiv => len = 1 ∧ gp2 st (fun x y r => ¬ y = 0 ∧ X (pc + 1) lv (.int (x / y) :: r) sh M kc ks)
  | .irem => len = 1 ∧ gp2 st (fun x y r => ¬ y = 0 ∧ X (pc + 1) lv (.int (irm x y) :: r) sh M kc ks)
  | .ishl => len = 1 ∧ gp2 st (fun x y r => X (pc + 1) lv (.int (x <<< (y &&& 31)) :: r) sh M kc ks)
  | .ishr => len = 1 ∧ gp2 st (fun x y r => X (pc + 1) lv (.int (x >>> (y &&& 31)) :: r) sh M kc ks)
  | .iushr => len = 1 ∧ gp2 st (fun x y r => X (pc + 1) lv (.int (iush x y) :: r) sh M kc ks)
  | .ineg => len = 1 ∧ gp1 st (fun x r => X (pc + 1) lv (.int (-x) :: r) sh M kc ks)
  | .i2l => len = 1 ∧ gp1 st (fun x r => X (pc + 1) lv (.long x.toInt64 :: r) sh M kc ks)
  | .i2b => len = 1 ∧ gp1 st (fun x r => X (pc + 1) lv (.int x.toInt8.toInt32 :: r) sh M kc ks)
  | .l2i => len = 1 ∧ gq1 st (fun x r => X (pc + 1) lv (.int x.toInt32 :: r) sh M kc ks)
  | .ladd => len = 1 ∧ gq2 st (fun x y r => X (pc + 1) lv (.long (x + y) :: r) sh M kc ks)
  | .lmul => len = 1 ∧ gq2 st (fun x y r => X (pc + 1) lv (.long (x * y) :: r) sh M kc ks)
  | .ldiv => len = 1 ∧ gq2 st (fun x y r => ¬ y = 0 ∧ X (pc + 1) lv (.long (x / y) :: r) sh M kc ks)
  | .lrem => len = 1 ∧ gq2 st (fun x y r => ¬ y = 0 ∧ X (pc + 1) lv (.long (lrm x y) :: r) sh M kc ks)
  | .lcmp => len = 1 ∧ gq2 st (fun x y r => X (pc + 1) lv (.int (lg_cmp x y) :: r) sh M kc ks)
  | .dup => len = 1 ∧ (match st with
    | v :: r => v.category = 1 ∧ X (pc + 1) lv (v :: v :: r) sh M kc ks
    | _ => False)
  | .dup2 => len = 1 ∧ (match st with
    | v :: w :: r => (v.category = 1 ∧ w.category = 1) ∧ X (pc + 1) lv (v :: w :: v :: w :: r) sh M kc ks
    | _ => False)
  | .pop => len = 1 ∧ (match st with
    | v :: r => v.category = 1 ∧ X (pc + 1) lv r sh M kc ks
    | _ => False)
  | .goto off => len = 3 ∧ gto X pc off lv st sh M kc ks
  | .ifCond c off => len = 3 ∧ gp1 st (fun x r => 0 ≤ (pc : Int) + off ∧ (gcmp c x 0 → X ((pc : Int) + off).toNat lv r sh M kc ks) ∧ (¬ gcmp c x 0 → X (pc + 3) lv r sh M kc ks))
  | .if_icmp c off => len = 3 ∧ gp2 st (fun x y r => 0 ≤ (pc : Int) + off ∧ (gcmp c x y → X ((pc : Int) + off).toNat lv r sh M kc ks) ∧ (¬ gcmp c x y → X (pc + 3) lv r sh M kc ks))
  | .tableswitch df lo hi offs => gp1 st (fun x r => hi = lo + offs.toList.length - 1 ∧ (x.toInt < lo ∨ hi < x.toInt → gto X pc df lv r sh M kc ks) ∧ gswT (fun off => gto X pc off lv r sh M kc ks) x lo offs.toList)
  | .lookupswitch df ps => (ps.toList.zip (ps.toList.drop 1)).all (fun (a, next) => a.1 < next.1) = true ∧ gp1 st (fun x r => gswL (fun off => gto X pc off lv r sh M kc ks) x df ps.toList)
  | .getfield i => len = 3 ∧ gfc o i (fun ci k _ => gpr st (fun a r => ggf sh a ci k (fun _ f => X (pc + 3) lv (gof (M a k) f :: r) sh M kc ks)))
  | .putfield i => len = 3 ∧ gfc o i (fun ci k t =>
      if t < 2 then gpir st (fun a x r => ggf sh a ci k (fun _ f => f = none ∧ (t = 1 → x = 0 ∨ x = 1) ∧ X (pc + 3) lv r sh (gsr M a (upd (M a) k x)) kc ks))
      else gprr st (fun a b r => (t = 3 → ini = true ∧ ci = o) ∧ ggf sh a ci k (fun fs _ => X (pc + 3) lv r (sh.set a (.inl (ci, fs.set k (some (.ref b))))) M kc ks)))
  | .iaload => len = 1 ∧ gpir st (fun a i r => gar sh a 0 (fun n => vp_in i n ∧ X (pc + 1) lv (.int (M a i.toNatClampNeg) :: r) sh M kc ks) (a = 1000000 ∧ ∃ q, sc = some q ∧ vp_in i q.1 ∧ X (pc + 1) lv (.int (q.2 i.toNatClampNeg) :: r) sh M kc ks))
  | .baload => len = 1 ∧ gpir st (fun a i r => gar sh a 1 (fun n => vp_in i n ∧ X (pc + 1) lv (.int (M a i.toNatClampNeg) :: r) sh M kc ks) False)
  | .aaload => len = 1 ∧ gpir st (fun a i r => gaq sh a (fun l => vp_in i l.length ∧ ∃ q, l.getD i.toNatClampNeg none = some q ∧ X (pc + 1) lv (.ref q :: r) sh M kc ks))
  | .iastore => len = 1 ∧ gpiir st (fun a i x r => gar sh a 0 (fun n => vp_in i n ∧ X (pc + 1) lv r sh (gsr M a (upd (M a) i.toNatClampNeg x)) kc ks) False)
  | .bastore => len = 1 ∧ gpiir st (fun a i x r => gar sh a 1 (fun n => vp_in i n ∧ X (pc + 1) lv r sh (gsr M a (upd (M a) i.toNatClampNeg x.toInt8.toInt32)) kc ks) False)
  | .aastore => len = 1 ∧ gprir st (fun a i v r => gaq sh a (fun l => vp_in i l.length ∧ grc sh v 3 ∧ X (pc + 1) lv r (sh.set a (.inr (.inr (l.set i.toNatClampNeg (some v))))) M kc ks))
  | .arraylength => len = 1 ∧ gpr st (fun a r => match sh[a]? with
      | some (.inr (.inl q)) => q.1 < 2 ∧ X (pc + 1) lv (.int (nI q.2) :: r) sh M kc ks
      | some (.inr (.inr l)) => X (pc + 1) lv (.int (nI l.length) :: r) sh M kc ks
      | none => a = 1000000 ∧ ∃ q, sc = some q ∧ X (pc + 1) lv (.int (nI q.1) :: r) sh M kc ks
      | _ => False)
  | .new i => len = 3 ∧ gnc o i (fun ci => kc + 1 ≤ MC ∧ ks + (gdef ci).length ≤ MS ∧ gokA sh lv st = true ∧ X (pc + 3) lv (.ref sh.length :: st) (sh ++ [.inl (ci, gdef ci)]) (gsr M sh.length (fun _ => 0)) (kc + 1) (ks + (gdef ci).length))
  | .newarray t => len = 2 ∧ gp1 st (fun n r => (t = .int ∨ t = .byte) ∧ ¬ n < 0 ∧ n.toNatClampNeg ≤ 1000 ∧ kc + 1 ≤ MC ∧ ks + n.toNatClampNeg ≤ MS ∧ gokA sh lv r = true ∧ X (pc + 2) lv (.ref sh.length :: r) (sh ++ [.inr (.inl (if t = .int then 0 else 1, n.toNatClampNeg))]) (gsr M sh.length (fun _ => 0)) (kc + 1) (ks + n.toNatClampNeg))
  | .anewarray i => len = 3 ∧ gnw o i = some 3 ∧ gp1 st (fun n r => ¬ n < 0 ∧ n.toNatClampNeg ≤ 1000 ∧ kc + 1 ≤ MC ∧ ks + n.toNatClampNeg ≤ MS ∧ gokA sh lv r = true ∧ X (pc + 3) lv (.ref sh.length :: r) (sh ++ [.inr (.inr (List.replicate n.toNatClampNeg none))]) (gsr M sh.length (fun _ => 0)) (kc + 1) (ks + n.toNatClampNeg))
  | .invokevirtual i => len = 3 ∧ glc o i (fun kd mi n r ci => kd = 0 ∧ n ≤ st.length ∧ gpr (st.drop n) (fun b rest => gcat rest ≤ 8 ∧ grc sh b ci ∧ gCall d mi (.ref b :: (st.take n).reverse) sh M kc ks MC MS (lv.map Prod.snd ++ rest) (fun v sh' M' kc' ks' => gret r v (fun w => X (pc + 3) lv (w ++ rest) sh' M' kc' ks'))))
  | .invokestatic i => len = 3 ∧ glc o i (fun kd mi n r _ => if kd = 6 then gcpy st (fun a0 sp a1 dp m rest => gcat rest ≤ 8 ∧ 1 ≤ d ∧ gar sh a0 0 (fun n0 => gar sh a1 0 (fun n1 => ¬ sp < 0 ∧ ¬ dp < 0 ∧ ¬ m < 0 ∧ sp.toNatClampNeg + m.toNatClampNeg ≤ n0 ∧ dp.toNatClampNeg + m.toNatClampNeg ≤ n1 ∧ X (pc + 3) lv rest sh (gsr M a1 (va_cpy (M a0) (M a1) sp.toNatClampNeg dp.toNatClampNeg m.toNatClampNeg)) kc ks) False) False)
      else (kd = 1 ∨ kd = 3) ∧ n ≤ st.length ∧ gcat (st.drop n) ≤ 8 ∧ gCall d mi ((st.take n).reverse) sh M kc ks MC MS (lv.map Prod.snd ++ st.drop n) (fun v sh' M' kc' ks' => gret r v (fun w => X (pc + 3) lv (w ++ st.drop n) sh' M' kc' ks')))
  | .invokespecial i => len = 3 ∧ glc o i (fun kd mi n r _ => if kd = 5 then gpr st (fun _ rest => gcat rest ≤ 8 ∧ 1 ≤ d ∧ X (pc + 3) lv rest sh M kc ks)
      else (kd = 2 ∨ kd = 4) ∧ n ≤ st.length ∧ gpr (st.drop n) (fun b rest => gcat rest ≤ 8 ∧ gCall d mi (.ref b :: (st.take n).reverse) sh M kc ks MC MS (lv.map Prod.snd ++ rest) (fun v sh' M' kc' ks' => gret r v (fun w => X (pc + 3) lv (w ++ rest) sh' M' kc' ks'))))
  | .ireturn => len = 1 ∧ gp1 st (fun x r => r = [] ∧ (rt = 1 ∨ (rt = 2 ∧ (x = 0 ∨ x = 1))) ∧ Rt (some (.int x)) sh M kc ks)
  | .lreturn => len = 1 ∧ gq1 st (fun x r => r = [] ∧ rt = 3 ∧ Rt (some (.long x)) sh M kc ks)
  | .return_ => len = 1 ∧ st = [] ∧ rt = 0 ∧ Rt none sh M kc ks
  | _ => False
