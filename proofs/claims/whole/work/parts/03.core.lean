/-! The judgement Ok: from here a method of a world's side comes to its end, and answers as Post says. One row an instruction. -/
abbrev TC : Type := (Nat → Nat → Int32) × (Nat → Int64)
abbrev TR : Type := Nat → Nat → Int32
def up2 (f : Nat → Nat → Int32) (k j : Nat) (x : Int32) : Nat → Nat → Int32 := fun i => cond (Nat.beq i k) (upd (f k) j x) (f i)
def rc (S : TC) (k : Nat) (j : Int32) : Int32 := S.1 k j.toNatClampNeg
def rl (S : TC) (j : Int32) : Int64 := S.2 j.toNatClampNeg
def rr (S : TR) (k : Nat) (j : Int32) : Int32 := S k j.toNatClampNeg
def wc (S : TC) (k : Nat) (j x : Int32) : TC := (up2 S.1 k j.toNatClampNeg x, S.2)
def wl (S : TC) (j : Int32) (x : Int64) : TC := (S.1, vp_updL S.2 j.toNatClampNeg x)
def wr (S : TR) (k : Nat) (j x : Int32) : TR := up2 S k j.toNatClampNeg x
def fc (S : TC) (k j : Nat) (x : Int32) : TC := (up2 S.1 k j x, S.2)
def fr (S : TR) (k j : Nat) (x : Int32) : TR := up2 S k j x
abbrev inB (j : Int32) (n : Nat) : Prop := 0 ≤ j.toInt ∧ j.toInt < n
abbrev isB (x : Int32) : Prop := x = 0 ∨ x = 1
def st {α β : Type} (e : α) (k : α → β) : β := k e
def gd {β : Type} (c : Prop) [Decidable c] (k : Option β) : Option β := if c then k else none
def bd {α σ β : Type} (o : Option (α × σ)) (k : α → σ → Option β) : Option β := match o with
  | none => none
  | some z => k z.1 z.2
theorem st_e {α β : Type} {e : α} {k : α → β} {z : β} (h : st e k = z) : ∃ x, x = e ∧ k x = z := ⟨e, rfl, h⟩
theorem gd_e {β : Type} {c : Prop} [Decidable c] {k : Option β} {z : β} (h : gd c k = some z) : c ∧ k = some z := by
  unfold gd at h
  by_cases hc : c
  · rw [if_pos hc] at h; exact ⟨hc, h⟩
  · rw [if_neg hc] at h; cases h
theorem bd_e {α σ β : Type} {o : Option (α × σ)} {k : α → σ → Option β} {z : β} (h : bd o k = some z) : ∃ x s, o = some (x, s) ∧ k x s = some z := by
  cases o with
  | none => cases h
  | some w => exact ⟨w.1, w.2, rfl, h⟩
theorem so_e {α σ : Type} {x z : α} {s t : σ} (h : some (x, s) = some (z, t)) : x = z ∧ s = t := by
  cases h; exact ⟨rfl, rfl⟩
theorem if_t {α : Type} {c : Prop} [Decidable c] {a b z : α} (hc : c) (h : (if c then a else b) = z) : a = z := by rw [if_pos hc] at h; exact h
theorem if_f {α : Type} {c : Prop} [Decidable c] {a b z : α} (hc : ¬ c) (h : (if c then a else b) = z) : b = z := by rw [if_neg hc] at h; exact h
theorem ib_in {j : Int32} {n : Nat} (h : inB j n) : vp_in j n := vp_in_iff.mpr h
theorem ib_nar {x : Int32} (h : isB x) : narrow .boolean (.int x) = .int x := by rcases h with h | h <;> subst h <;> rfl
theorem ib_vp {x : Int32} (h : isB x) : vp_nar .boolean x = x := by rcases h with h | h <;> subst h <;> rfl
theorem ib_fit {x : Int32} (h : isB x) : fits .boolean (.int x) = true := by rcases h with h | h <;> subst h <;> rfl
def pI {σ : Type} (z : Int32) (S : σ) : Option Value → σ → Prop := fun v u => v = some (.int z) ∧ u = S
def pL {σ : Type} (z : Int64) (S : σ) : Option Value → σ → Prop := fun v u => v = some (.long z) ∧ u = S
def pV {σ : Type} (_z : Unit) (S : σ) : Option Value → σ → Prop := fun v u => v = none ∧ u = S
def ok_F (D : va_G) (tys : List (ClassId × FieldType)) (own : String) (b : ByteArray) (nL : Nat) (ret : Option FieldType) (p : Program) (s : State) (m : MethodId) (args : Array Value) (meth : Method) (c : Code) : Prop :=
  p.tables.exec = Jvm.exec ∧ c.code = b ∧ meth.sig.returnType = ret ∧ meth.locks = false ∧ c.maxLocals = nL ∧ s.vm.findClass own = some m.cls ∧ (∀ w ∈ w_all, w.before args s = true) ∧ va_K D classes tys s
def ok_Y (D : va_G) (A : Nat → Prop) (w : va_W) (s : State) (H : Heap) (locs : List Loc) (ls : Array Slot) (nL : Nat) (Lc : List (Nat × Value)) : Prop :=
  va_P D classes w H ∧ va_D A w ∧ va_S A s.heap H locs ∧ lv_has ls nL Lc ∧ ∀ q : Nat, s.heap.size ≤ q → A q
def ok_Q {σ : Type} (wd : σ → va_W) (D : va_G) (tys : List (ClassId × FieldType)) (A : Nat → Prop) (Post : Option Value → σ → Prop) : Array Value → State → Outcome → State → Prop := fun _ st oc t =>
  (∃ (v : Option Value) (u : σ), oc = .returned v ∧ Post v u ∧ va_P D classes (wd u) t.heap ∧ va_K D classes tys t ∧ va_D A (wd u)) ∧ va_F A st t
abbrev og_X : Type := State → Array Value → (Nat → Prop) → Prop
abbrev og_Q : Type := List Frame → Array Value → State → (Nat → Prop) → State → Prop
def Og {σ : Type} (wd : σ → va_W) (D : va_G) (tys : List (ClassId × FieldType)) (l : Launch) (rm : Room) (own : String) (b : ByteArray) (nL : Nat) (ret : Option FieldType) (X : og_X) (nc ns : Nat) (QQ : og_Q) (S : σ) (pc : Nat) (Lc : List (Nat × Value)) (St : List Value) : Prop :=
  ∀ (p : Program) (e : Env) (s : State) (m : MethodId) (args : Array Value) (below : List Frame) (meth : Method) (c : Code) (A : Nat → Prop) (H : Heap) (locs : List Loc) (ls : Array Slot),
    ok_F D tys own b nL ret p s m args meth c ∧ X s args A → ok_Y D A (wd S) s H locs ls nL Lc →
    W p l e rm s m args below meth c H locs nc ns (QQ below args s A) (F0 m pc ls St)
def og_T : og_X := fun _ _ _ => True
def og_M {σ : Type} (wd : σ → va_W) (D : va_G) (tys : List (ClassId × FieldType)) (Post : Option Value → σ → Prop) : og_Q := fun below args s A => MQ below (ok_Q wd D tys A Post) args s 0 0 A
abbrev Ok {σ : Type} (wd : σ → va_W) (D : va_G) (tys : List (ClassId × FieldType)) (l : Launch) (rm : Room) (own : String) (b : ByteArray) (nL : Nat) (ret : Option FieldType) (S : σ) (pc : Nat) (Lc : List (Nat × Value)) (St : List Value) (Post : Option Value → σ → Prop) : Prop :=
  Og wd D tys l rm own b nL ret og_T 0 0 (og_M wd D tys Post) S pc Lc St
def ok_B {σ : Type} (wd : σ → va_W) (D : va_G) (tys : List (ClassId × FieldType)) (S : σ) (sz : Nat) : State → Prop := fun U => U.heap.size = sz ∧ va_P D classes (wd S) U.heap ∧ va_K D classes tys U ∧ va_D (fun _ => True) (wd S)
def Ct {σ : Type} (wd : σ → va_W) (D : va_G) (tys : List (ClassId × FieldType)) (l : Launch) (y : MethodName) (bc : ByteArray) (nc : Nat) (rt : Option FieldType) (rmc : Room) (av : List Value) (S : σ) (Post : Option Value → σ → Prop) : Prop :=
  ∀ sz : Nat, Met l y (Cond.code y bc nc rt :: w_all) rmc (va_Pc av (ok_B wd D tys S sz)) (ok_Q wd D tys (va_A (wd S) sz) Post) 0 0 (va_A (wd S) sz)
theorem ok_bl {σ : Type} {wd : σ → va_W} {D : va_G} {tys : List (ClassId × FieldType)} {S : σ} {sz : Nat} {av : List Value} : FrameBlind (va_Pc av (ok_B wd D tys S sz)) := fun a U g mk q => by
  obtain ⟨q0, q1, qP, qK, qD⟩ := q
  exact ⟨q0, q1, qP, va_K.moved (u := U) (U := U.calling g mk a) (Vm.Alike.refl U.vm) qK, qD⟩
theorem ok_gi {ws : List Cond} (h : ∀ w ∈ ws, w ∈ w_all) : GoodIn w_all ws := fun w hw => ⟨h w hw, w_good w (h w hw)⟩
section OKR
variable {σ : Type} {wd : σ → va_W} {D : va_G} {tys : List (ClassId × FieldType)} {l : Launch} {rm : Room} {own : String} {b : ByteArray} {nL : Nat} {ret : Option FieldType} {S : σ} {pc q : Nat} {Lc : List (Nat × Value)} {St : List Value} {Post : Option Value → σ → Prop} {X : og_X} {nc0 ns0 : Nat} {QQ : og_Q}
theorem ct_of {y : MethodName} {bc : ByteArray} {nc : Nat} {rt : Option FieldType} {rmc : Room} {av : List Value} (hy : plainName y.cls = true) (hl : (lg_sl av).length ≤ nc) (hLc : lv_args 0 av = Lc) (k : Ok wd D tys l rmc y.cls bc nc rt S 0 Lc [] Post) : Ct wd D tys l y bc nc rt rmc av S Post := by
  intro sz
  refine Met.ofW (cc := bc) (maxL := nc) (ret := rt) hy rfl ?_
  intro p e s m args below meth c s₁ B hml hv
  obtain ⟨rfl, hsz, hP, hK, hD0⟩ := hv
  have hts := atoms_spec (ws := Cond.code y bc nc rt :: w_all) B.pre
  subst hLc
  rw [lg_entry_eq]
  exact k p e s m _ below meth c (va_A (wd S) sz) s.heap [] _ ⟨⟨B.exec, B.bytes, B.returns, B.notSynchronized, hml, findClass_of_methodNamed B.named, fun w hw => hts w (List.mem_cons_of_mem _ hw), hK⟩, trivial⟩ ⟨hP, hD0.self, va_S.rf, lv_entry av hl, fun q h => Or.inr (hsz ▸ h)⟩
theorem ok_sub {Lc' : List (Nat × Value)} (ks : List Nat) (hl : lv_pick Lc ks = Lc') (k : Og wd D tys l rm own b nL ret X nc0 ns0 QQ S pc Lc' St) : Og wd D tys l rm own b nL ret X nc0 ns0 QQ S pc Lc St :=
  fun p e s m args below meth c A H locs ls hF hY => k p e s m args below meth c A H locs ls hF ⟨hY.1, hY.2.1, hY.2.2.1, lv_sub hY.2.2.2.1 ks hl, hY.2.2.2.2⟩
theorem ok_topi {x x' : Int32} (hx : x' = x) (k : Og wd D tys l rm own b nL ret X nc0 ns0 QQ S pc Lc (.int x' :: St)) : Og wd D tys l rm own b nL ret X nc0 ns0 QQ S pc Lc (.int x :: St) := hx ▸ k
theorem ok_topl {x x' : Int64} (hx : x' = x) (k : Og wd D tys l rm own b nL ret X nc0 ns0 QQ S pc Lc (.long x' :: St)) : Og wd D tys l rm own b nL ret X nc0 ns0 QQ S pc Lc (.long x :: St) := hx ▸ k

theorem ok_iadd {x y : Int32} (hd : decode b pc = .ok (.iadd, 1)) (hq : pc + 1 = q) (k : Og wd D tys l rm own b nL ret X nc0 ns0 QQ S q Lc (.int (x + y) :: St)) : Og wd D tys l rm own b nL ret X nc0 ns0 QQ S pc Lc (.int y :: .int x :: St) := by
  subst hq
  intro p e s m args below meth c A H locs ls hF hY
  exact lv_iadd hF.1.1 hF.1.2.1 hd (k p e s m args below meth c A H locs ls hF hY)
theorem ok_isub {x y : Int32} (hd : decode b pc = .ok (.isub, 1)) (hq : pc + 1 = q) (k : Og wd D tys l rm own b nL ret X nc0 ns0 QQ S q Lc (.int (x - y) :: St)) : Og wd D tys l rm own b nL ret X nc0 ns0 QQ S pc Lc (.int y :: .int x :: St) := by
  subst hq
  intro p e s m args below meth c A H locs ls hF hY
  exact lv_isub hF.1.1 hF.1.2.1 hd (k p e s m args below meth c A H locs ls hF hY)
theorem ok_imul {x y : Int32} (hd : decode b pc = .ok (.imul, 1)) (hq : pc + 1 = q) (k : Og wd D tys l rm own b nL ret X nc0 ns0 QQ S q Lc (.int (x * y) :: St)) : Og wd D tys l rm own b nL ret X nc0 ns0 QQ S pc Lc (.int y :: .int x :: St) := by
  subst hq
  intro p e s m args below meth c A H locs ls hF hY
  exact lv_imul hF.1.1 hF.1.2.1 hd (k p e s m args below meth c A H locs ls hF hY)
theorem ok_iand {x y : Int32} (hd : decode b pc = .ok (.iand, 1)) (hq : pc + 1 = q) (k : Og wd D tys l rm own b nL ret X nc0 ns0 QQ S q Lc (.int (x &&& y) :: St)) : Og wd D tys l rm own b nL ret X nc0 ns0 QQ S pc Lc (.int y :: .int x :: St) := by
  subst hq
  intro p e s m args below meth c A H locs ls hF hY
  exact lv_iand hF.1.1 hF.1.2.1 hd (k p e s m args below meth c A H locs ls hF hY)
theorem ok_ior {x y : Int32} (hd : decode b pc = .ok (.ior, 1)) (hq : pc + 1 = q) (k : Og wd D tys l rm own b nL ret X nc0 ns0 QQ S q Lc (.int (x ||| y) :: St)) : Og wd D tys l rm own b nL ret X nc0 ns0 QQ S pc Lc (.int y :: .int x :: St) := by
  subst hq
  intro p e s m args below meth c A H locs ls hF hY
  exact lv_ior hF.1.1 hF.1.2.1 hd (k p e s m args below meth c A H locs ls hF hY)
theorem ok_ixor {x y : Int32} (hd : decode b pc = .ok (.ixor, 1)) (hq : pc + 1 = q) (k : Og wd D tys l rm own b nL ret X nc0 ns0 QQ S q Lc (.int (x ^^^ y) :: St)) : Og wd D tys l rm own b nL ret X nc0 ns0 QQ S pc Lc (.int y :: .int x :: St) := by
  subst hq
  intro p e s m args below meth c A H locs ls hF hY
  exact lv_ixor hF.1.1 hF.1.2.1 hd (k p e s m args below meth c A H locs ls hF hY)
theorem ok_ishl {x y : Int32} (hd : decode b pc = .ok (.ishl, 1)) (hq : pc + 1 = q) (k : Og wd D tys l rm own b nL ret X nc0 ns0 QQ S q Lc (.int (x <<< (y &&& 31)) :: St)) : Og wd D tys l rm own b nL ret X nc0 ns0 QQ S pc Lc (.int y :: .int x :: St) := by
  subst hq
  intro p e s m args below meth c A H locs ls hF hY
  exact lv_ishl hF.1.1 hF.1.2.1 hd (k p e s m args below meth c A H locs ls hF hY)
theorem ok_ishr {x y : Int32} (hd : decode b pc = .ok (.ishr, 1)) (hq : pc + 1 = q) (k : Og wd D tys l rm own b nL ret X nc0 ns0 QQ S q Lc (.int (x >>> (y &&& 31)) :: St)) : Og wd D tys l rm own b nL ret X nc0 ns0 QQ S pc Lc (.int y :: .int x :: St) := by
  subst hq
  intro p e s m args below meth c A H locs ls hF hY
  exact lv_ishr hF.1.1 hF.1.2.1 hd (k p e s m args below meth c A H locs ls hF hY)
theorem ok_idiv {x y : Int32} (hd : decode b pc = .ok (.idiv, 1)) (hne : ¬ y = 0) (hq : pc + 1 = q) (k : Og wd D tys l rm own b nL ret X nc0 ns0 QQ S q Lc (.int (x / y) :: St)) : Og wd D tys l rm own b nL ret X nc0 ns0 QQ S pc Lc (.int y :: .int x :: St) := by
  subst hq
  intro p e s m args below meth c A H locs ls hF hY
  exact lv_idiv hF.1.1 hF.1.2.1 hd hne (k p e s m args below meth c A H locs ls hF hY)
theorem ok_irem {x y : Int32} (hd : decode b pc = .ok (.irem, 1)) (hne : ¬ y = 0) (hq : pc + 1 = q) (k : Og wd D tys l rm own b nL ret X nc0 ns0 QQ S q Lc (.int (x - x / y * y) :: St)) : Og wd D tys l rm own b nL ret X nc0 ns0 QQ S pc Lc (.int y :: .int x :: St) := by
  subst hq
  intro p e s m args below meth c A H locs ls hF hY
  exact lv_irem hF.1.1 hF.1.2.1 hd hne (k p e s m args below meth c A H locs ls hF hY)
theorem ok_ladd {x y : Int64} (hd : decode b pc = .ok (.ladd, 1)) (hq : pc + 1 = q) (k : Og wd D tys l rm own b nL ret X nc0 ns0 QQ S q Lc (.long (x + y) :: St)) : Og wd D tys l rm own b nL ret X nc0 ns0 QQ S pc Lc (.long y :: .long x :: St) := by
  subst hq
  intro p e s m args below meth c A H locs ls hF hY
  exact lv_ladd hF.1.1 hF.1.2.1 hd (k p e s m args below meth c A H locs ls hF hY)
theorem ok_lsub {x y : Int64} (hd : decode b pc = .ok (.lsub, 1)) (hq : pc + 1 = q) (k : Og wd D tys l rm own b nL ret X nc0 ns0 QQ S q Lc (.long (x - y) :: St)) : Og wd D tys l rm own b nL ret X nc0 ns0 QQ S pc Lc (.long y :: .long x :: St) := by
  subst hq
  intro p e s m args below meth c A H locs ls hF hY
  exact lv_lsub hF.1.1 hF.1.2.1 hd (k p e s m args below meth c A H locs ls hF hY)
theorem ok_land {x y : Int64} (hd : decode b pc = .ok (.land, 1)) (hq : pc + 1 = q) (k : Og wd D tys l rm own b nL ret X nc0 ns0 QQ S q Lc (.long (x &&& y) :: St)) : Og wd D tys l rm own b nL ret X nc0 ns0 QQ S pc Lc (.long y :: .long x :: St) := by
  subst hq
  intro p e s m args below meth c A H locs ls hF hY
  exact lv_land hF.1.1 hF.1.2.1 hd (k p e s m args below meth c A H locs ls hF hY)
theorem ok_lor {x y : Int64} (hd : decode b pc = .ok (.lor, 1)) (hq : pc + 1 = q) (k : Og wd D tys l rm own b nL ret X nc0 ns0 QQ S q Lc (.long (x ||| y) :: St)) : Og wd D tys l rm own b nL ret X nc0 ns0 QQ S pc Lc (.long y :: .long x :: St) := by
  subst hq
  intro p e s m args below meth c A H locs ls hF hY
  exact lv_lor hF.1.1 hF.1.2.1 hd (k p e s m args below meth c A H locs ls hF hY)
theorem ok_lxor {x y : Int64} (hd : decode b pc = .ok (.lxor, 1)) (hq : pc + 1 = q) (k : Og wd D tys l rm own b nL ret X nc0 ns0 QQ S q Lc (.long (x ^^^ y) :: St)) : Og wd D tys l rm own b nL ret X nc0 ns0 QQ S pc Lc (.long y :: .long x :: St) := by
  subst hq
  intro p e s m args below meth c A H locs ls hF hY
  exact lv_lxor hF.1.1 hF.1.2.1 hd (k p e s m args below meth c A H locs ls hF hY)
theorem ok_lshl {x : Int64} {y : Int32} (hd : decode b pc = .ok (.lshl, 1)) (hq : pc + 1 = q) (k : Og wd D tys l rm own b nL ret X nc0 ns0 QQ S q Lc (.long (x <<< (y.toInt64 &&& 63)) :: St)) : Og wd D tys l rm own b nL ret X nc0 ns0 QQ S pc Lc (.int y :: .long x :: St) := by
  subst hq
  intro p e s m args below meth c A H locs ls hF hY
  exact lv_lshl hF.1.1 hF.1.2.1 hd rfl (k p e s m args below meth c A H locs ls hF hY)
theorem ok_lushr {x : Int64} {y : Int32} (hd : decode b pc = .ok (.lushr, 1)) (hq : pc + 1 = q) (k : Og wd D tys l rm own b nL ret X nc0 ns0 QQ S q Lc (.long ((x.toUInt64 >>> (y.toInt64.toUInt64 &&& Int64.toUInt64 63)).toInt64) :: St)) : Og wd D tys l rm own b nL ret X nc0 ns0 QQ S pc Lc (.int y :: .long x :: St) := by
  subst hq
  intro p e s m args below meth c A H locs ls hF hY
  exact lv_lushr hF.1.1 hF.1.2.1 hd rfl (k p e s m args below meth c A H locs ls hF hY)
theorem ok_i2l {x : Int32} (hd : decode b pc = .ok (.i2l, 1)) (hq : pc + 1 = q) (k : Og wd D tys l rm own b nL ret X nc0 ns0 QQ S q Lc (.long x.toInt64 :: St)) : Og wd D tys l rm own b nL ret X nc0 ns0 QQ S pc Lc (.int x :: St) := by
  subst hq
  intro p e s m args below meth c A H locs ls hF hY
  exact lv_i2l hF.1.1 hF.1.2.1 hd rfl (k p e s m args below meth c A H locs ls hF hY)
theorem ok_l2i {x : Int64} (hd : decode b pc = .ok (.l2i, 1)) (hq : pc + 1 = q) (k : Og wd D tys l rm own b nL ret X nc0 ns0 QQ S q Lc (.int x.toInt32 :: St)) : Og wd D tys l rm own b nL ret X nc0 ns0 QQ S pc Lc (.long x :: St) := by
  subst hq
  intro p e s m args below meth c A H locs ls hF hY
  exact lv_l2i hF.1.1 hF.1.2.1 hd rfl (k p e s m args below meth c A H locs ls hF hY)
theorem ok_lcmp {x y : Int64} (hd : decode b pc = .ok (.lcmp, 1)) (hq : pc + 1 = q) (k : Og wd D tys l rm own b nL ret X nc0 ns0 QQ S q Lc (.int (lg_cmp x y) :: St)) : Og wd D tys l rm own b nL ret X nc0 ns0 QQ S pc Lc (.long y :: .long x :: St) := by
  subst hq
  intro p e s m args below meth c A H locs ls hF hY
  exact W.lcmp hF.1.1 hF.1.2.1 hd (k p e s m args below meth c A H locs ls hF hY)
theorem ok_dup {va : Value} (hd : decode b pc = .ok (.dup, 1)) (hva : va.category = 1) (hq : pc + 1 = q) (k : Og wd D tys l rm own b nL ret X nc0 ns0 QQ S q Lc (va :: va :: St)) : Og wd D tys l rm own b nL ret X nc0 ns0 QQ S pc Lc (va :: St) := by
  subst hq
  intro p e s m args below meth c A H locs ls hF hY
  exact lv_dup hF.1.1 hF.1.2.1 hd hva (k p e s m args below meth c A H locs ls hF hY)
theorem ok_pop {va : Value} (hd : decode b pc = .ok (.pop, 1)) (hva : va.category = 1) (hq : pc + 1 = q) (k : Og wd D tys l rm own b nL ret X nc0 ns0 QQ S q Lc (St)) : Og wd D tys l rm own b nL ret X nc0 ns0 QQ S pc Lc (va :: St) := by
  subst hq
  intro p e s m args below meth c A H locs ls hF hY
  exact lv_pop hF.1.1 hF.1.2.1 hd hva (k p e s m args below meth c A H locs ls hF hY)
theorem ok_dup2 {va vb : Value} (hd : decode b pc = .ok (.dup2, 1)) (hva : va.category = 1) (hvb : vb.category = 1) (hq : pc + 1 = q) (k : Og wd D tys l rm own b nL ret X nc0 ns0 QQ S q Lc (va :: vb :: va :: vb :: St)) : Og wd D tys l rm own b nL ret X nc0 ns0 QQ S pc Lc (va :: vb :: St) := by
  subst hq
  intro p e s m args below meth c A H locs ls hF hY
  exact lv_dup2_11 hF.1.1 hF.1.2.1 hd hva hvb (k p e s m args below meth c A H locs ls hF hY)
theorem ok_iconst {n : Int} {v : Int32} (hd : decode b pc = .ok (.iconst n, 1)) (hv : Int32.ofInt n = v) (hq : pc + 1 = q) (k : Og wd D tys l rm own b nL ret X nc0 ns0 QQ S q Lc (.int v :: St)) : Og wd D tys l rm own b nL ret X nc0 ns0 QQ S pc Lc (St) := by
  subst hq
  intro p e s m args below meth c A H locs ls hF hY
  exact lv_iconst hF.1.1 hF.1.2.1 hd hv (k p e s m args below meth c A H locs ls hF hY)
theorem ok_bipush {n : Int} {v : Int32} (hd : decode b pc = .ok (.bipush n, 2)) (hv : (Int8.ofInt n).toInt32 = v) (hq : pc + 2 = q) (k : Og wd D tys l rm own b nL ret X nc0 ns0 QQ S q Lc (.int v :: St)) : Og wd D tys l rm own b nL ret X nc0 ns0 QQ S pc Lc (St) := by
  subst hq
  intro p e s m args below meth c A H locs ls hF hY
  exact lv_bipush hF.1.1 hF.1.2.1 hd hv (k p e s m args below meth c A H locs ls hF hY)
theorem ok_sipush {n : Int} {v : Int32} (hd : decode b pc = .ok (.sipush n, 3)) (hv : (Int16.ofInt n).toInt32 = v) (hq : pc + 3 = q) (k : Og wd D tys l rm own b nL ret X nc0 ns0 QQ S q Lc (.int v :: St)) : Og wd D tys l rm own b nL ret X nc0 ns0 QQ S pc Lc (St) := by
  subst hq
  intro p e s m args below meth c A H locs ls hF hY
  exact lv_sipush hF.1.1 hF.1.2.1 hd hv (k p e s m args below meth c A H locs ls hF hY)
theorem ok_lconst {n : Fin 2} {v : Int64} (hd : decode b pc = .ok (.lconst n, 1)) (hv : Int64.ofNat (n : Nat) = v) (hq : pc + 1 = q) (k : Og wd D tys l rm own b nL ret X nc0 ns0 QQ S q Lc (.long v :: St)) : Og wd D tys l rm own b nL ret X nc0 ns0 QQ S pc Lc (St) := by
  subst hq
  intro p e s m args below meth c A H locs ls hF hY
  exact lv_lconst hF.1.1 hF.1.2.1 hd hv (k p e s m args below meth c A H locs ls hF hY)
theorem ok_ldc {index : Nat} {v : Int32} (hc : Cond.constant own index v ∈ w_all) (hd : decode b pc = .ok (.ldc index, 2)) (hq : pc + 2 = q) (k : Og wd D tys l rm own b nL ret X nc0 ns0 QQ S q Lc (.int v :: St)) : Og wd D tys l rm own b nL ret X nc0 ns0 QQ S pc Lc (St) := by
  subst hq
  intro p e s m args below meth c A H locs ls hF hY
  exact lv_ldc hF.1.1 hF.1.2.1 hF.1.2.2.2.2.2.1 (hF.1.2.2.2.2.2.2.1 _ hc) hd (k p e s m args below meth c A H locs ls hF hY)
theorem ok_ldc2 {index : Nat} {v : Int64} (hc : Cond.constantLong own index v ∈ w_all) (hd : decode b pc = .ok (.ldc2_w index, 3)) (hq : pc + 3 = q) (k : Og wd D tys l rm own b nL ret X nc0 ns0 QQ S q Lc (.long v :: St)) : Og wd D tys l rm own b nL ret X nc0 ns0 QQ S pc Lc (St) := by
  subst hq
  intro p e s m args below meth c A H locs ls hF hY
  exact lv_ldc2 hF.1.1 hF.1.2.1 hF.1.2.2.2.2.2.1 (hF.1.2.2.2.2.2.2.1 _ hc) hd (k p e s m args below meth c A H locs ls hF hY)
theorem ok_iload_n {k4 : Fin 4} {i : Nat} {x : Int32} (k0 : Nat) (hd : decode b pc = .ok (.iload_n k4, 1)) (hi : (k4 : Nat) = i) (hk : Lc[k0]? = some (i, .int x)) (hq : pc + 1 = q) (k : Og wd D tys l rm own b nL ret X nc0 ns0 QQ S q Lc (.int x :: St)) : Og wd D tys l rm own b nL ret X nc0 ns0 QQ S pc Lc (St) := by
  subst hq
  intro p e s m args below meth c A H locs ls hF hY
  exact lv_iload_n hF.1.1 hF.1.2.1 hd hi (lv_at hY.2.2.2.1 k0 hk) (k p e s m args below meth c A H locs ls hF hY)
theorem ok_iload {i : Nat} {x : Int32} (k0 : Nat) (hd : decode b pc = .ok (.iload i, 2)) (hk : Lc[k0]? = some (i, .int x)) (hq : pc + 2 = q) (k : Og wd D tys l rm own b nL ret X nc0 ns0 QQ S q Lc (.int x :: St)) : Og wd D tys l rm own b nL ret X nc0 ns0 QQ S pc Lc (St) := by
  subst hq
  intro p e s m args below meth c A H locs ls hF hY
  exact lv_iload hF.1.1 hF.1.2.1 hd (lv_at hY.2.2.2.1 k0 hk) (k p e s m args below meth c A H locs ls hF hY)
theorem ok_lload_n {k4 : Fin 4} {i : Nat} {x : Int64} (k0 : Nat) (hd : decode b pc = .ok (.lload_n k4, 1)) (hi : (k4 : Nat) = i) (hk : Lc[k0]? = some (i, .long x)) (hq : pc + 1 = q) (k : Og wd D tys l rm own b nL ret X nc0 ns0 QQ S q Lc (.long x :: St)) : Og wd D tys l rm own b nL ret X nc0 ns0 QQ S pc Lc (St) := by
  subst hq
  intro p e s m args below meth c A H locs ls hF hY
  exact lv_lload_n hF.1.1 hF.1.2.1 hd hi (lv_at hY.2.2.2.1 k0 hk) (k p e s m args below meth c A H locs ls hF hY)
theorem ok_lload {i : Nat} {x : Int64} (k0 : Nat) (hd : decode b pc = .ok (.lload i, 2)) (hk : Lc[k0]? = some (i, .long x)) (hq : pc + 2 = q) (k : Og wd D tys l rm own b nL ret X nc0 ns0 QQ S q Lc (.long x :: St)) : Og wd D tys l rm own b nL ret X nc0 ns0 QQ S pc Lc (St) := by
  subst hq
  intro p e s m args below meth c A H locs ls hF hY
  exact lv_lload hF.1.1 hF.1.2.1 hd (lv_at hY.2.2.2.1 k0 hk) (k p e s m args below meth c A H locs ls hF hY)
theorem ok_aload_n {k4 : Fin 4} {i : Nat} {x : Nat} (k0 : Nat) (hd : decode b pc = .ok (.aload_n k4, 1)) (hi : (k4 : Nat) = i) (hk : Lc[k0]? = some (i, .ref x)) (hq : pc + 1 = q) (k : Og wd D tys l rm own b nL ret X nc0 ns0 QQ S q Lc (.ref x :: St)) : Og wd D tys l rm own b nL ret X nc0 ns0 QQ S pc Lc (St) := by
  subst hq
  intro p e s m args below meth c A H locs ls hF hY
  exact lv_aload_n hF.1.1 hF.1.2.1 hd hi (lv_at hY.2.2.2.1 k0 hk) (k p e s m args below meth c A H locs ls hF hY)
theorem ok_aload {i : Nat} {x : Nat} (k0 : Nat) (hd : decode b pc = .ok (.aload i, 2)) (hk : Lc[k0]? = some (i, .ref x)) (hq : pc + 2 = q) (k : Og wd D tys l rm own b nL ret X nc0 ns0 QQ S q Lc (.ref x :: St)) : Og wd D tys l rm own b nL ret X nc0 ns0 QQ S pc Lc (St) := by
  subst hq
  intro p e s m args below meth c A H locs ls hF hY
  exact lv_aload hF.1.1 hF.1.2.1 hd (lv_at hY.2.2.2.1 k0 hk) (k p e s m args below meth c A H locs ls hF hY)
theorem ok_istore_n {k4 : Fin 4} {i : Nat} {x : Int32} {lv : List (Nat × Value)} (hd : decode b pc = .ok (.istore_n k4, 1)) (hi : (k4 : Nat) = i) (hn : i < nL) (hl : (i, Value.int x) :: Lc.filter (fun q => !(q.1 == i) && !(q.1 + 1 == i && q.2.category == 2)) = lv) (hq : pc + 1 = q) (k : Og wd D tys l rm own b nL ret X nc0 ns0 QQ S q lv St) : Og wd D tys l rm own b nL ret X nc0 ns0 QQ S pc Lc (.int x :: St) := by
  subst hq
  intro p e s m args below meth c A H locs ls hF hY
  exact lv_istore_n hF.1.1 hF.1.2.1 hd hi hY.2.2.2.1 hn hl (fun ls2 hl2 => k p e s m args below meth c A H locs ls2 hF ⟨hY.1, hY.2.1, hY.2.2.1, hl2, hY.2.2.2.2⟩)
theorem ok_istore {i : Nat} {x : Int32} {lv : List (Nat × Value)} (hd : decode b pc = .ok (.istore i, 2)) (hn : i < nL) (hl : (i, Value.int x) :: Lc.filter (fun q => !(q.1 == i) && !(q.1 + 1 == i && q.2.category == 2)) = lv) (hq : pc + 2 = q) (k : Og wd D tys l rm own b nL ret X nc0 ns0 QQ S q lv St) : Og wd D tys l rm own b nL ret X nc0 ns0 QQ S pc Lc (.int x :: St) := by
  subst hq
  intro p e s m args below meth c A H locs ls hF hY
  exact lv_istore hF.1.1 hF.1.2.1 hd hY.2.2.2.1 hn hl (fun ls2 hl2 => k p e s m args below meth c A H locs ls2 hF ⟨hY.1, hY.2.1, hY.2.2.1, hl2, hY.2.2.2.2⟩)
theorem ok_lstore_n {k4 : Fin 4} {i : Nat} {x : Int64} {lv : List (Nat × Value)} (hd : decode b pc = .ok (.lstore_n k4, 1)) (hi : (k4 : Nat) = i) (hn : i + 1 < nL) (hl : (i, Value.long x) :: Lc.filter (fun q => !(q.1 == i) && (!(q.1 == i + 1) && !(q.1 + 1 == i && q.2.category == 2))) = lv) (hq : pc + 1 = q) (k : Og wd D tys l rm own b nL ret X nc0 ns0 QQ S q lv St) : Og wd D tys l rm own b nL ret X nc0 ns0 QQ S pc Lc (.long x :: St) := by
  subst hq
  intro p e s m args below meth c A H locs ls hF hY
  exact lv_lstore_n hF.1.1 hF.1.2.1 hd hi hY.2.2.2.1 hn hl (fun ls2 hl2 => k p e s m args below meth c A H locs ls2 hF ⟨hY.1, hY.2.1, hY.2.2.1, hl2, hY.2.2.2.2⟩)
theorem ok_lstore {i : Nat} {x : Int64} {lv : List (Nat × Value)} (hd : decode b pc = .ok (.lstore i, 2)) (hn : i + 1 < nL) (hl : (i, Value.long x) :: Lc.filter (fun q => !(q.1 == i) && (!(q.1 == i + 1) && !(q.1 + 1 == i && q.2.category == 2))) = lv) (hq : pc + 2 = q) (k : Og wd D tys l rm own b nL ret X nc0 ns0 QQ S q lv St) : Og wd D tys l rm own b nL ret X nc0 ns0 QQ S pc Lc (.long x :: St) := by
  subst hq
  intro p e s m args below meth c A H locs ls hF hY
  exact lv_lstore hF.1.1 hF.1.2.1 hd hY.2.2.2.1 hn hl (fun ls2 hl2 => k p e s m args below meth c A H locs ls2 hF ⟨hY.1, hY.2.1, hY.2.2.1, hl2, hY.2.2.2.2⟩)
theorem ok_iinc {i : Nat} {n : Int} {x v d : Int32} {lv : List (Nat × Value)} (k0 : Nat) (hd : decode b pc = .ok (.iinc i n, 3)) (hk : Lc[k0]? = some (i, .int x)) (hdn : Int32.ofInt n = d) (hv : v = x + d) (hn : i < nL) (hl : (i, Value.int v) :: Lc.filter (fun q => !(q.1 == i) && !(q.1 + 1 == i && q.2.category == 2)) = lv) (hq : pc + 3 = q) (k : Og wd D tys l rm own b nL ret X nc0 ns0 QQ S q lv St) : Og wd D tys l rm own b nL ret X nc0 ns0 QQ S pc Lc St := by
  subst hq
  subst hdn
  intro p e s m args below meth c A H locs ls hF hY
  exact lv_iinc hF.1.1 hF.1.2.1 hd hY.2.2.2.1 hk hv.symm hn hl (fun ls2 hl2 => k p e s m args below meth c A H locs ls2 hF ⟨hY.1, hY.2.1, hY.2.2.1, hl2, hY.2.2.2.2⟩)
theorem ok_if_eq {x : Int32} {off : Int} {t : Nat} (hd : decode b pc = .ok (.ifCond .eq off, 3)) (ht : (pc : Int) + off = (t : Int)) (hq : pc + 3 = q) (kt : x = 0 → Og wd D tys l rm own b nL ret X nc0 ns0 QQ S t Lc St) (kf : ¬ x = 0 → Og wd D tys l rm own b nL ret X nc0 ns0 QQ S q Lc St) : Og wd D tys l rm own b nL ret X nc0 ns0 QQ S pc Lc (.int x :: St) := by
  subst hq
  intro p e s m args below meth c A H locs ls hF hY
  exact lv_if_eq hF.1.1 hF.1.2.1 hd ht (fun hc => kt hc p e s m args below meth c A H locs ls hF hY) (fun hc => kf hc p e s m args below meth c A H locs ls hF hY)
theorem ok_if_ne {x : Int32} {off : Int} {t : Nat} (hd : decode b pc = .ok (.ifCond .ne off, 3)) (ht : (pc : Int) + off = (t : Int)) (hq : pc + 3 = q) (kt : ¬ x = 0 → Og wd D tys l rm own b nL ret X nc0 ns0 QQ S t Lc St) (kf : x = 0 → Og wd D tys l rm own b nL ret X nc0 ns0 QQ S q Lc St) : Og wd D tys l rm own b nL ret X nc0 ns0 QQ S pc Lc (.int x :: St) := by
  subst hq
  intro p e s m args below meth c A H locs ls hF hY
  exact lv_if_ne hF.1.1 hF.1.2.1 hd ht (fun hc => kt hc p e s m args below meth c A H locs ls hF hY) (fun hc => kf hc p e s m args below meth c A H locs ls hF hY)
theorem ok_if_lt {x : Int32} {off : Int} {t : Nat} (hd : decode b pc = .ok (.ifCond .lt off, 3)) (ht : (pc : Int) + off = (t : Int)) (hq : pc + 3 = q) (kt : x < 0 → Og wd D tys l rm own b nL ret X nc0 ns0 QQ S t Lc St) (kf : ¬ x < 0 → Og wd D tys l rm own b nL ret X nc0 ns0 QQ S q Lc St) : Og wd D tys l rm own b nL ret X nc0 ns0 QQ S pc Lc (.int x :: St) := by
  subst hq
  intro p e s m args below meth c A H locs ls hF hY
  exact lv_if_lt hF.1.1 hF.1.2.1 hd ht (fun hc => kt hc p e s m args below meth c A H locs ls hF hY) (fun hc => kf hc p e s m args below meth c A H locs ls hF hY)
theorem ok_if_ge {x : Int32} {off : Int} {t : Nat} (hd : decode b pc = .ok (.ifCond .ge off, 3)) (ht : (pc : Int) + off = (t : Int)) (hq : pc + 3 = q) (kt : 0 ≤ x → Og wd D tys l rm own b nL ret X nc0 ns0 QQ S t Lc St) (kf : ¬ 0 ≤ x → Og wd D tys l rm own b nL ret X nc0 ns0 QQ S q Lc St) : Og wd D tys l rm own b nL ret X nc0 ns0 QQ S pc Lc (.int x :: St) := by
  subst hq
  intro p e s m args below meth c A H locs ls hF hY
  exact lv_if_ge hF.1.1 hF.1.2.1 hd ht (fun hc => kt hc p e s m args below meth c A H locs ls hF hY) (fun hc => kf hc p e s m args below meth c A H locs ls hF hY)
theorem ok_if_gt {x : Int32} {off : Int} {t : Nat} (hd : decode b pc = .ok (.ifCond .gt off, 3)) (ht : (pc : Int) + off = (t : Int)) (hq : pc + 3 = q) (kt : 0 < x → Og wd D tys l rm own b nL ret X nc0 ns0 QQ S t Lc St) (kf : ¬ 0 < x → Og wd D tys l rm own b nL ret X nc0 ns0 QQ S q Lc St) : Og wd D tys l rm own b nL ret X nc0 ns0 QQ S pc Lc (.int x :: St) := by
  subst hq
  intro p e s m args below meth c A H locs ls hF hY
  exact lv_if_gt hF.1.1 hF.1.2.1 hd ht (fun hc => kt hc p e s m args below meth c A H locs ls hF hY) (fun hc => kf hc p e s m args below meth c A H locs ls hF hY)
theorem ok_if_le {x : Int32} {off : Int} {t : Nat} (hd : decode b pc = .ok (.ifCond .le off, 3)) (ht : (pc : Int) + off = (t : Int)) (hq : pc + 3 = q) (kt : x ≤ 0 → Og wd D tys l rm own b nL ret X nc0 ns0 QQ S t Lc St) (kf : ¬ x ≤ 0 → Og wd D tys l rm own b nL ret X nc0 ns0 QQ S q Lc St) : Og wd D tys l rm own b nL ret X nc0 ns0 QQ S pc Lc (.int x :: St) := by
  subst hq
  intro p e s m args below meth c A H locs ls hF hY
  exact lv_if_le hF.1.1 hF.1.2.1 hd ht (fun hc => kt hc p e s m args below meth c A H locs ls hF hY) (fun hc => kf hc p e s m args below meth c A H locs ls hF hY)
theorem ok_icmp_eq {x y : Int32} {off : Int} {t : Nat} (hd : decode b pc = .ok (.if_icmp .eq off, 3)) (ht : (pc : Int) + off = (t : Int)) (hq : pc + 3 = q) (kt : x = y → Og wd D tys l rm own b nL ret X nc0 ns0 QQ S t Lc St) (kf : ¬ x = y → Og wd D tys l rm own b nL ret X nc0 ns0 QQ S q Lc St) : Og wd D tys l rm own b nL ret X nc0 ns0 QQ S pc Lc (.int y :: .int x :: St) := by
  subst hq
  intro p e s m args below meth c A H locs ls hF hY
  exact lv_icmp_eq hF.1.1 hF.1.2.1 hd ht (fun hc => kt hc p e s m args below meth c A H locs ls hF hY) (fun hc => kf hc p e s m args below meth c A H locs ls hF hY)
theorem ok_icmp_ne {x y : Int32} {off : Int} {t : Nat} (hd : decode b pc = .ok (.if_icmp .ne off, 3)) (ht : (pc : Int) + off = (t : Int)) (hq : pc + 3 = q) (kt : ¬ x = y → Og wd D tys l rm own b nL ret X nc0 ns0 QQ S t Lc St) (kf : x = y → Og wd D tys l rm own b nL ret X nc0 ns0 QQ S q Lc St) : Og wd D tys l rm own b nL ret X nc0 ns0 QQ S pc Lc (.int y :: .int x :: St) := by
  subst hq
  intro p e s m args below meth c A H locs ls hF hY
  exact lv_icmp_ne hF.1.1 hF.1.2.1 hd ht (fun hc => kt hc p e s m args below meth c A H locs ls hF hY) (fun hc => kf hc p e s m args below meth c A H locs ls hF hY)
theorem ok_icmp_lt {x y : Int32} {off : Int} {t : Nat} (hd : decode b pc = .ok (.if_icmp .lt off, 3)) (ht : (pc : Int) + off = (t : Int)) (hq : pc + 3 = q) (kt : x < y → Og wd D tys l rm own b nL ret X nc0 ns0 QQ S t Lc St) (kf : ¬ x < y → Og wd D tys l rm own b nL ret X nc0 ns0 QQ S q Lc St) : Og wd D tys l rm own b nL ret X nc0 ns0 QQ S pc Lc (.int y :: .int x :: St) := by
  subst hq
  intro p e s m args below meth c A H locs ls hF hY
  exact lv_icmp_lt hF.1.1 hF.1.2.1 hd ht (fun hc => kt hc p e s m args below meth c A H locs ls hF hY) (fun hc => kf hc p e s m args below meth c A H locs ls hF hY)
theorem ok_icmp_ge {x y : Int32} {off : Int} {t : Nat} (hd : decode b pc = .ok (.if_icmp .ge off, 3)) (ht : (pc : Int) + off = (t : Int)) (hq : pc + 3 = q) (kt : y ≤ x → Og wd D tys l rm own b nL ret X nc0 ns0 QQ S t Lc St) (kf : ¬ y ≤ x → Og wd D tys l rm own b nL ret X nc0 ns0 QQ S q Lc St) : Og wd D tys l rm own b nL ret X nc0 ns0 QQ S pc Lc (.int y :: .int x :: St) := by
  subst hq
  intro p e s m args below meth c A H locs ls hF hY
  exact lv_icmp_ge hF.1.1 hF.1.2.1 hd ht (fun hc => kt hc p e s m args below meth c A H locs ls hF hY) (fun hc => kf hc p e s m args below meth c A H locs ls hF hY)
theorem ok_icmp_gt {x y : Int32} {off : Int} {t : Nat} (hd : decode b pc = .ok (.if_icmp .gt off, 3)) (ht : (pc : Int) + off = (t : Int)) (hq : pc + 3 = q) (kt : y < x → Og wd D tys l rm own b nL ret X nc0 ns0 QQ S t Lc St) (kf : ¬ y < x → Og wd D tys l rm own b nL ret X nc0 ns0 QQ S q Lc St) : Og wd D tys l rm own b nL ret X nc0 ns0 QQ S pc Lc (.int y :: .int x :: St) := by
  subst hq
  intro p e s m args below meth c A H locs ls hF hY
  exact lv_icmp_gt hF.1.1 hF.1.2.1 hd ht (fun hc => kt hc p e s m args below meth c A H locs ls hF hY) (fun hc => kf hc p e s m args below meth c A H locs ls hF hY)
theorem ok_icmp_le {x y : Int32} {off : Int} {t : Nat} (hd : decode b pc = .ok (.if_icmp .le off, 3)) (ht : (pc : Int) + off = (t : Int)) (hq : pc + 3 = q) (kt : x ≤ y → Og wd D tys l rm own b nL ret X nc0 ns0 QQ S t Lc St) (kf : ¬ x ≤ y → Og wd D tys l rm own b nL ret X nc0 ns0 QQ S q Lc St) : Og wd D tys l rm own b nL ret X nc0 ns0 QQ S pc Lc (.int y :: .int x :: St) := by
  subst hq
  intro p e s m args below meth c A H locs ls hF hY
  exact lv_icmp_le hF.1.1 hF.1.2.1 hd ht (fun hc => kt hc p e s m args below meth c A H locs ls hF hY) (fun hc => kf hc p e s m args below meth c A H locs ls hF hY)
theorem ok_goto {off : Int} (hd : decode b pc = .ok (.goto off, 3)) (ht : (pc : Int) + off = (q : Int)) (k : Og wd D tys l rm own b nL ret X nc0 ns0 QQ S q Lc St) : Og wd D tys l rm own b nL ret X nc0 ns0 QQ S pc Lc St := fun p e s m args below meth c A H locs ls hF hY => lv_goto hF.1.1 hF.1.2.1 hd ht (k p e s m args below meth c A H locs ls hF hY)
theorem ok_iret {x : Int32} (hd : decode b pc = .ok (.ireturn, 1)) (hp : Post (some (.int x)) S) : Ok wd D tys l rm own b nL (some .int) S pc Lc [.int x] Post := fun p e s m args below meth c A H locs ls hF hY => W.iret hF.1.1 hF.1.2.1 hF.1.2.2.1 (fun t ht hW => ⟨⟨some (.int x), S, rfl, hp, by rw [ht]; exact hY.1, va_K.moved hW.alike hF.1.2.2.2.2.2.2.2, hY.2.1⟩, hY.2.2.1.F ht⟩) hY.2.2.1.2.2 hd hF.1.2.2.2.1
theorem ok_zret {x : Int32} (hd : decode b pc = .ok (.ireturn, 1)) (hb : isB x) (hp : Post (some (.int x)) S) : Ok wd D tys l rm own b nL (some .boolean) S pc Lc [.int x] Post := fun p e s m args below meth c A H locs ls hF hY => W.zret hF.1.1 hF.1.2.1 hF.1.2.2.1 (ib_nar hb) (fun t ht hW => ⟨⟨some (.int x), S, rfl, hp, by rw [ht]; exact hY.1, va_K.moved hW.alike hF.1.2.2.2.2.2.2.2, hY.2.1⟩, hY.2.2.1.F ht⟩) hY.2.2.1.2.2 hd hF.1.2.2.2.1
theorem ok_lret {x : Int64} (hd : decode b pc = .ok (.lreturn, 1)) (hp : Post (some (.long x)) S) : Ok wd D tys l rm own b nL (some .long) S pc Lc [.long x] Post := fun p e s m args below meth c A H locs ls hF hY => W.lret hF.1.1 hF.1.2.1 hF.1.2.2.1 (fun t ht hW => ⟨⟨some (.long x), S, rfl, hp, by rw [ht]; exact hY.1, va_K.moved hW.alike hF.1.2.2.2.2.2.2.2, hY.2.1⟩, hY.2.2.1.F ht⟩) hY.2.2.1.2.2 hd hF.1.2.2.2.1
theorem ok_vret  (hd : decode b pc = .ok (.return_, 1)) (hp : Post (none) S) : Ok wd D tys l rm own b nL none S pc Lc [] Post := fun p e s m args below meth c A H locs ls hF hY => W.vret hF.1.1 hF.1.2.1 hF.1.2.2.1 (fun t ht hW => ⟨⟨none, S, rfl, hp, by rw [ht]; exact hY.1, va_K.moved hW.alike hF.1.2.2.2.2.2.2.2, hY.2.1⟩, hY.2.2.1.F ht⟩) hY.2.2.1.2.2 hd hF.1.2.2.2.1
theorem ok_after {p : Program} {e : Env} {s : State} {m : MethodId} {args : Array Value} {below : List Frame} {meth : Method} {c : Code} {A : Nat → Prop} {H : Heap} {locs : List Loc} {ls : Array Slot} {st0 : List Value} {P1 : Option Value → σ → Prop} {av : Array Value}
    (hr : va_Run p l e rm s m args below meth c H locs nc0 ns0 0 0 (F0 m pc ls st0) St (ok_Q wd D tys (va_A (wd S) H.size) P1 av) (va_A (wd S) H.size))
    (hF : ok_F D tys own b nL ret p s m args meth c ∧ X s args A) (hY : ok_Y D A (wd S) s H locs ls nL Lc) (kk : ∀ v u, P1 v u → Og wd D tys l rm own b nL ret X nc0 ns0 QQ u (pc + 3) Lc (v.toList ++ St)) :
    W p l e rm s m args below meth c H locs nc0 ns0 (QQ below args s A) (F0 m pc ls st0) := by
  intro T hT X0
  obtain ⟨v, st₀, t, T', L, h0, X', hL, e1, e2, ⟨⟨v', u, hv, hp, hP1, hK1, hD1⟩, hz, hk⟩, st⟩ := hr T hT X0
  cases hv
  rw [h0] at hz hk
  obtain ⟨hP, hD, hS, hls, hA⟩ := hY
  have hsub : ∀ q, va_A (wd S) H.size q → A q := fun q h => by
    rcases h with ⟨k, e, h⟩ | h
    · exact hD.2 k (q, e) h
    · exact hA q (Nat.le_trans hS.1 h)
  have hS2 : va_S A s.heap T'.heap (locs ++ L) := ⟨Nat.le_trans hS.1 (by rw [e1]; exact hz), fun q h1 h2 => by rw [e1, hk q (Nat.lt_of_lt_of_le h1 hS.1) (fun z => h2 (hsub q z))]; exact hS.2.1 q h1 h2, fun q hq => by
      rcases List.mem_append.mp hq with h | h
      · exact hS.2.2 q h
      · exact hsub _ (hL q h)⟩
  obtain ⟨t2, a1, b1⟩ := kk v u hp p e s m args below meth c A T'.heap (locs ++ L) ls hF ⟨by rw [e1]; exact hP1, hD1.weaken (fun k q _ h => hsub q.1 h), hS2, hls, hA⟩ T' rfl X'
  exact ⟨t2, st t2 a1, b1⟩
theorem ok_cV {y : MethodName} {bc : ByteArray} {nc n index : Nat} {rt : Option FieldType} {rmc : Room} {As : List Value} {P1 : Option Value → σ → Prop} {st0 : List Value} {C : String} {T : u_T} {N ci q0 ab : Nat} {fs : List Value} (hct : Ct wd D tys l y bc nc rt rmc (.ref ab :: As) S P1) (hd : decode b pc = .ok (.invokevirtual index, 3))
    (hcode : Cond.code y bc nc rt ∈ w_all) (hws : Cond.methodLink own index y ∈ w_all ∧ Cond.instanceMethod y ∈ w_all ∧ Cond.selects C y y ∈ w_all ∧ Cond.initialized C ∈ w_all)
    (hyd : y.cls = C ∧ y.cls ≠ "java/lang/invoke/MethodHandle" ∧ y.cls ≠ "java/lang/invoke/VarHandle" ∧ (parseMethodDescriptor y.desc).map (fun d => d.parameters.length) = some n) (hrm : (rmc.cells = 0 ∧ rmc.slots = 0) ∧ rmc.frames + 1 ≤ rm.frames ∧ 8 + (nc + 11) + rmc.locals ≤ rm.locals) (hn : As.length = n)
    (hrc : (wd S)[q0]? = some (ab, .inr (ci, fs))) (hcl : classes[ci]? = some (C, T, N)) (hst : st0 = As.reverse ++ .ref ab :: St) (hroom : (St.map fun v => v.category).sum ≤ 8)
    (hcs : nc0 ≤ rm.cells ∧ ns0 ≤ rm.slots) (kk : ∀ v u, P1 v u → Og wd D tys l rm own b nL ret X nc0 ns0 QQ u (pc + 3) Lc (v.toList ++ St)) : Og wd D tys l rm own b nL ret X nc0 ns0 QQ S pc Lc st0 := by
  intro p e s m args below meth c A H locs ls hF hY
  have hG : GoodIn w_all (wsV own index C y (Cond.code y bc nc rt :: w_all)) := ok_gi (fun w hw => by
    unfold wsV at hw
    rcases List.mem_append.mp hw with h | h
    · simp only [List.mem_cons, List.not_mem_nil, or_false] at h
      rcases h with h | h | h | h <;> subst h
      · exact hws.1
      · exact hws.2.1
      · exact hws.2.2.1
      · exact hws.2.2.2
    · rcases List.mem_cons.mp h with h | h
      · subst h; exact hcode
      · exact h)
  exact ok_after (va_runV (As := As) (rest := St) (C := C) ⟨hF.1.1, hF.1.2.1, hF.1.2.2.2.2.1, hF.1.2.2.2.2.2.1, hF.1.2.2.2.2.2.2.1⟩ (hct H.size) (cwV n hF.1.2.2.2.2.2.2.1 hG rfl hrm.1.1 hrm.1.2 hyd hrm.2) ⟨ok_bl, va_recv hF.1.2.2.2.2.2.2.2 hY.1 hcl hrc, fun U hU hW => ⟨rfl, by rw [hU], by rw [hU]; exact hY.1, va_K.moved hW.alike hF.1.2.2.2.2.2.2.2, hY.2.1.weaken (fun _ _ _ _ => trivial)⟩⟩ rfl hn hY.2.2.2.1.1 hst (lv_room hroom) hd hcs) hF hY kk
theorem ok_cS {y : MethodName} {bc : ByteArray} {nc n index : Nat} {rt : Option FieldType} {rmc : Room} {As : List Value} {P1 : Option Value → σ → Prop} {st0 : List Value} (hct : Ct wd D tys l y bc nc rt rmc As S P1) (hd : decode b pc = .ok (.invokestatic index, 3))
    (hcode : Cond.code y bc nc rt ∈ w_all) (hws : Cond.methodLink own index y ∈ w_all ∧ Cond.static y ∈ w_all ∧ Cond.initialized y.cls ∈ w_all)
    (hyd : y.cls ≠ "java/lang/invoke/MethodHandle" ∧ y.cls ≠ "java/lang/invoke/VarHandle" ∧ (parseMethodDescriptor y.desc).map (fun d => d.parameters.length) = some n) (hrm : (rmc.cells = 0 ∧ rmc.slots = 0) ∧ rmc.frames + 1 ≤ rm.frames ∧ 8 + (nc + 11) + rmc.locals ≤ rm.locals) (hn : As.length = n)
    (hst : st0 = As.reverse ++ St) (hroom : (St.map fun v => v.category).sum ≤ 8)
    (hcs : nc0 ≤ rm.cells ∧ ns0 ≤ rm.slots) (kk : ∀ v u, P1 v u → Og wd D tys l rm own b nL ret X nc0 ns0 QQ u (pc + 3) Lc (v.toList ++ St)) : Og wd D tys l rm own b nL ret X nc0 ns0 QQ S pc Lc st0 := by
  intro p e s m args below meth c A H locs ls hF hY
  have hts := hF.1.2.2.2.2.2.2.1
  have hG : GoodIn w_all (Cond.code y bc nc rt :: w_all) := ok_gi (fun w hw => by
    rcases List.mem_cons.mp hw with h | h
    · subst h; exact hcode
    · exact h)
  exact ok_after (va_runS (As := As) (rest := St) ⟨hF.1.1, hF.1.2.1, hF.1.2.2.2.2.1, hF.1.2.2.2.2.2.1, hts⟩ (hct H.size) ⟨callB_of n hts hG rfl hrm.1.1 hrm.1.2 (hts _ hws.2.2) (hts _ hws.1) hyd hrm.2, hts _ hws.2.1⟩ ⟨ok_bl, fun U hU hW => ⟨rfl, by rw [hU], by rw [hU]; exact hY.1, va_K.moved hW.alike hF.1.2.2.2.2.2.2.2, hY.2.1.weaken (fun _ _ _ _ => trivial)⟩⟩ rfl hn hY.2.2.2.1.1 hst (lv_room hroom) hd hcs) hF hY kk
end OKR
