def lX (b L : Nat) (xs : Nat → Int32) : og_X := fun s args A => args = #[Value.ref b] ∧ (∀ w ∈ w_law, w.before args s = true) ∧ va_X b L xs s s.heap ∧ b < s.heap.size ∧ ∀ q, A q → s.heap.size ≤ q
def lQ : og_Q := fun below args s _ => lw_Z below args s
abbrev wL (g g2 : Nat → ClassId) (a r : Nat → Nat) (S : TC × TR) : va_W := wC g a S.1 ++ wR g2 r S.2
abbrev Lg (l : Launch) (D : va_G) (g g2 : Nat → ClassId) (a r : Nat → Nat) (b L : Nat) (xs : Nat → Int32) (C : TC) (R : TR) (pc : Nat) (Lc : List (Nat × Value)) (St : List Value) : Prop :=
  Og (wL g g2 a r) D (tyC g ++ tyR g2) l room_1 R_law code 4 ret (lX b L xs) 27 815 lQ (C, R) pc Lc St
section LROW
variable {l : Launch} {D : va_G} {g g2 : Nat → ClassId} {a r : Nat → Nat} {b L : Nat} {xs : Nat → Int32} {C : TC} {R : TR} {pc q : Nat} {Lc : List (Nat × Value)} {St : List Value}
theorem lk_sld {ix : Int32} {j : Nat} (hj : ix = nI j) (hlt : j < L) (hL : L ≤ 2048) (hd : decode code pc = .ok (.iaload, 1)) (hq : pc + 1 = q) (k : Lg l D g g2 a r b L xs C R q Lc (.int (xs j) :: St)) : Lg l D g g2 a r b L xs C R pc Lc (.int ix :: .ref b :: St) := by
  subst hq; subst hj
  intro p e s m args below meth c A H locs ls hF hY
  obtain ⟨x1, x2, x3, x4, x5⟩ := hF.2
  refine va_sld hF.1.1 hF.1.2.1 x3 x4 (fun z => by have := x5 b z; omega) hY.2.2.1 (vp_in_nI hlt (by omega)) hd ?_
  rw [nI_clamp (by omega)]
  exact k p e s m args below meth c A H locs ls hF hY
theorem lk_slen (hd : decode code pc = .ok (.arraylength, 1)) (hq : pc + 1 = q) (k : Lg l D g g2 a r b L xs C R q Lc (.int (nI L) :: St)) : Lg l D g g2 a r b L xs C R pc Lc (.ref b :: St) := by
  subst hq
  intro p e s m args below meth c A H locs ls hF hY
  obtain ⟨x1, x2, x3, x4, x5⟩ := hF.2
  exact va_slen hF.1.1 hF.1.2.1 x3 x4 (fun z => by have := x5 b z; omega) hY.2.2.1 hd (k p e s m args below meth c A H locs ls hF hY)
theorem lk_ret (hd : decode code pc = .ok (.ireturn, 1)) : Lg l D g g2 a r b L xs C R pc Lc [.int 1] := by
  intro p e s m args below meth c A H locs ls hF hY
  obtain ⟨x1, x2, x3, x4, x5⟩ := hF.2
  subst x1
  exact va_forget (fun q hq => x5 _ (hY.2.2.1.2.2 q hq)) (lw_ret hF.1.1 hF.1.2.1 hF.1.2.2.1 hF.1.2.2.2.1 hd)
theorem lk_tabIn {x : Int32} {off : Int} {t : Nat} {dflt lo hi : Int} {offs : Array Int} {len : Nat} (hd : decode code pc = .ok (.tableswitch dflt lo hi offs, len)) (h1 : ¬ x.toInt < lo) (h2 : ¬ hi < x.toInt) (ho : offs[(x.toInt - lo).toNat]? = some off) (ht : (pc : Int) + off = (t : Int)) (k : Lg l D g g2 a r b L xs C R t Lc St) : Lg l D g g2 a r b L xs C R pc Lc (.int x :: St) :=
  fun p e s m args below meth c A H locs ls hF hY => lv_tableIn hF.1.1 hF.1.2.1 hd h1 h2 ho ht (k p e s m args below meth c A H locs ls hF hY)
theorem lk_tabOut {x : Int32} {t : Nat} {dflt lo hi : Int} {offs : Array Int} {len : Nat} (hd : decode code pc = .ok (.tableswitch dflt lo hi offs, len)) (h : x.toInt < lo ∨ hi < x.toInt) (ht : (pc : Int) + dflt = (t : Int)) (k : Lg l D g g2 a r b L xs C R t Lc St) : Lg l D g g2 a r b L xs C R pc Lc (.int x :: St) :=
  fun p e s m args below meth c A H locs ls hF hY => lv_tableOut hF.1.1 hF.1.2.1 hd h ht (k p e s m args below meth c A H locs ls hF hY)
theorem lk_cC {y : MethodName} {bc : ByteArray} {nc n index : Nat} {rt : Option FieldType} {rmc : Room} {As : List Value} {P1 : Option Value → TC → Prop} {st0 : List Value} (hct : Ct (wC g a) D (tyC g) l y bc nc rt rmc (.ref (a 0) :: As) C P1) (hd : decode code pc = .ok (.invokevirtual index, 3))
    (hcode : Cond.code y bc nc rt ∈ w_all) (hws : Cond.methodLink R_law index y ∈ w_law ∧ Cond.instanceMethod y ∈ w_law ∧ Cond.selects R_S y y ∈ w_law ∧ Cond.initialized R_S ∈ w_law)
    (hyd : y.cls = R_S ∧ y.cls ≠ "java/lang/invoke/MethodHandle" ∧ y.cls ≠ "java/lang/invoke/VarHandle" ∧ (parseMethodDescriptor y.desc).map (fun d => d.parameters.length) = some n) (hrm : (rmc.cells = 0 ∧ rmc.slots = 0) ∧ rmc.frames + 1 ≤ room_1.frames ∧ 8 + (nc + 11) + rmc.locals ≤ room_1.locals) (hn : As.length = n)
    (hst : st0 = As.reverse ++ .ref (a 0) :: St) (hroom : (St.map fun v => v.category).sum ≤ 8)
    (kk : ∀ v u, P1 v u → Lg l D g g2 a r b L xs u R (pc + 3) Lc (v.toList ++ St)) : Lg l D g g2 a r b L xs C R pc Lc st0 := by
  intro p e s m args below meth c A H locs ls hF hY
  have hts : ∀ w ∈ w_law ++ w_all, w.before args s = true := fun w hw => (List.mem_append.mp hw).elim (hF.2.2.1 w) (hF.1.2.2.2.2.2.2.1 w)
  have hG : GoodIn (w_law ++ w_all) (wsV R_law index R_S y (Cond.code y bc nc rt :: w_all)) := fun w hw => by
    unfold wsV at hw
    rcases List.mem_append.mp hw with h | h
    · have hm : w ∈ w_law := by
        simp only [List.mem_cons, List.not_mem_nil, or_false] at h
        rcases h with h | h | h | h <;> subst h
        · exact hws.1
        · exact hws.2.1
        · exact hws.2.2.1
        · exact hws.2.2.2
      exact ⟨List.mem_append_left _ hm, v_good w hm⟩
    · have hm : w ∈ w_all := by
        rcases List.mem_cons.mp h with h | h
        · subst h; exact hcode
        · exact h
      exact ⟨List.mem_append_right _ hm, w_good w hm⟩
  obtain ⟨hP, hD, hS, hls, hA⟩ := hY
  have hP : va_P D classes (wC g a C ++ wR g2 r R) H := hP
  have hD : va_D A (wC g a C ++ wR g2 r R) := hD
  have hPc := hP.sub (ws' := wC g a C) [0, 1, 2, 3, 4, 5, 6, 7, 8, 9, 10] rfl
  have hDc := hD.sub (ws' := wC g a C) [0, 1, 2, 3, 4, 5, 6, 7, 8, 9, 10] (by decide) rfl
  have hKc := hF.1.2.2.2.2.2.2.2.sub (tys' := tyC g) [0, 1, 2, 3, 4, 5, 6, 7, 8] rfl
  have hFc := va_free (wc := wC g a C) hD hS hA [0, 1, 2, 3, 4, 5, 6, 7, 8, 9, 10] rfl
  have hr := va_runV (p := p) (e := e) (below := below) (meth := meth) (locs := locs) (cells := 27) (slots := 815) (g := F0 m pc ls st0) (As := As) (rest := St) (C := R_S) ⟨hF.1.1, hF.1.2.1, hF.1.2.2.2.2.1, hF.1.2.2.2.2.2.1, hts⟩ (hct H.size) (cwV n hts hG rfl hrm.1.1 hrm.1.2 hyd hrm.2) ⟨ok_bl, va_recv (q0 := 0) (ci := 0) (q := (R_S, F_S, 3)) hKc hPc rfl rfl, fun U hU hW => ⟨rfl, by rw [hU], by rw [hU]; exact hPc, va_K.moved hW.alike hKc, hDc.weaken (fun _ _ _ _ => trivial)⟩⟩ rfl hn hls.1 hst (lv_room hroom) hd ⟨Nat.le_of_ble_eq_true rfl, Nat.le_of_ble_eq_true rfl⟩
  intro T hT X0
  obtain ⟨v, st₀, t, T', L', h0, X', hL', e1, e2, ⟨⟨v', u, hv, hp, hP1, hK1, hD1⟩, hz, hk⟩, st⟩ := hr T hT X0
  cases hv
  rw [h0] at hz hk
  obtain ⟨hPj, hDj⟩ := va_join (H1 := T'.heap) (wr := wR g2 r R) (w1 := wC g a u) hP hD [0, 1, 2, 3, 4, 5, 6, 7, 8, 9, 10] [11, 12, 13, 14, 15, 16, 17, 18, 19, 20, 21, 22, 23, 24, 25, 26] rfl rfl (by decide) (by decide) (fun q h1 h2 => by rw [e1]; exact hk q h1 h2) hFc (by rw [e1]; exact hP1) hD1
  have hP2 := hPj.sub (ws' := wL g g2 a r (u, R)) [16, 17, 18, 19, 20, 21, 22, 23, 24, 25, 26, 0, 1, 2, 3, 4, 5, 6, 7, 8, 9, 10, 11, 12, 13, 14, 15] rfl
  have hD2 := hDj.sub (ws' := wL g g2 a r (u, R)) [16, 17, 18, 19, 20, 21, 22, 23, 24, 25, 26, 0, 1, 2, 3, 4, 5, 6, 7, 8, 9, 10, 11, 12, 13, 14, 15] (by decide) rfl
  have hS2 : va_S A s.heap T'.heap (locs ++ L') := ⟨Nat.le_trans hS.1 (by rw [e1]; exact hz), fun q h1 h2 => by rw [e1, hk q (Nat.lt_of_lt_of_le h1 hS.1) (fun z => h2 (hFc q z))]; exact hS.2.1 q h1 h2, fun q hq => by
      rcases List.mem_append.mp hq with h | h
      · exact hS.2.2 q h
      · exact hFc _ (hL' q h)⟩
  obtain ⟨t2, a1, b1⟩ := kk v u hp p e s m args below meth c A T'.heap (locs ++ L') ls hF ⟨hP2, hD2, hS2, hls, hA⟩ T' rfl X'
  exact ⟨t2, st t2 a1, b1⟩
theorem lk_cM {y : MethodName} {bc : ByteArray} {nc n index : Nat} {rt : Option FieldType} {rmc : Room} {As : List Value} {P1 : Option Value → TR → Prop} {st0 : List Value} (hct : Ct (wR g2 r) D (tyR g2) l y bc nc rt rmc (.ref (r 0) :: As) R P1) (hd : decode code pc = .ok (.invokevirtual index, 3))
    (hcode : Cond.code y bc nc rt ∈ w_all) (hws : Cond.methodLink R_law index y ∈ w_law ∧ Cond.instanceMethod y ∈ w_law ∧ Cond.selects R_M y y ∈ w_law ∧ Cond.initialized R_M ∈ w_law)
    (hyd : y.cls = R_M ∧ y.cls ≠ "java/lang/invoke/MethodHandle" ∧ y.cls ≠ "java/lang/invoke/VarHandle" ∧ (parseMethodDescriptor y.desc).map (fun d => d.parameters.length) = some n) (hrm : (rmc.cells = 0 ∧ rmc.slots = 0) ∧ rmc.frames + 1 ≤ room_1.frames ∧ 8 + (nc + 11) + rmc.locals ≤ room_1.locals) (hn : As.length = n)
    (hst : st0 = As.reverse ++ .ref (r 0) :: St) (hroom : (St.map fun v => v.category).sum ≤ 8)
    (kk : ∀ v u, P1 v u → Lg l D g g2 a r b L xs C u (pc + 3) Lc (v.toList ++ St)) : Lg l D g g2 a r b L xs C R pc Lc st0 := by
  intro p e s m args below meth c A H locs ls hF hY
  have hts : ∀ w ∈ w_law ++ w_all, w.before args s = true := fun w hw => (List.mem_append.mp hw).elim (hF.2.2.1 w) (hF.1.2.2.2.2.2.2.1 w)
  have hG : GoodIn (w_law ++ w_all) (wsV R_law index R_M y (Cond.code y bc nc rt :: w_all)) := fun w hw => by
    unfold wsV at hw
    rcases List.mem_append.mp hw with h | h
    · have hm : w ∈ w_law := by
        simp only [List.mem_cons, List.not_mem_nil, or_false] at h
        rcases h with h | h | h | h <;> subst h
        · exact hws.1
        · exact hws.2.1
        · exact hws.2.2.1
        · exact hws.2.2.2
      exact ⟨List.mem_append_left _ hm, v_good w hm⟩
    · have hm : w ∈ w_all := by
        rcases List.mem_cons.mp h with h | h
        · subst h; exact hcode
        · exact h
      exact ⟨List.mem_append_right _ hm, w_good w hm⟩
  obtain ⟨hP, hD, hS, hls, hA⟩ := hY
  have hP : va_P D classes (wC g a C ++ wR g2 r R) H := hP
  have hD : va_D A (wC g a C ++ wR g2 r R) := hD
  have hPc := hP.sub (ws' := wR g2 r R) [11, 12, 13, 14, 15, 16, 17, 18, 19, 20, 21, 22, 23, 24, 25, 26] rfl
  have hDc := hD.sub (ws' := wR g2 r R) [11, 12, 13, 14, 15, 16, 17, 18, 19, 20, 21, 22, 23, 24, 25, 26] (by decide) rfl
  have hKc := hF.1.2.2.2.2.2.2.2.sub (tys' := tyR g2) [9, 10, 11, 12, 13, 14, 15, 16, 17, 18, 19, 20, 21, 22, 23] rfl
  have hFc := va_free (wc := wR g2 r R) hD hS hA [11, 12, 13, 14, 15, 16, 17, 18, 19, 20, 21, 22, 23, 24, 25, 26] rfl
  have hr := va_runV (p := p) (e := e) (below := below) (meth := meth) (locs := locs) (cells := 27) (slots := 815) (g := F0 m pc ls st0) (As := As) (rest := St) (C := R_M) ⟨hF.1.1, hF.1.2.1, hF.1.2.2.2.2.1, hF.1.2.2.2.2.2.1, hts⟩ (hct H.size) (cwV n hts hG rfl hrm.1.1 hrm.1.2 hyd hrm.2) ⟨ok_bl, va_recv (q0 := 0) (ci := 2) (q := (R_M, F_M, 27)) hKc hPc rfl rfl, fun U hU hW => ⟨rfl, by rw [hU], by rw [hU]; exact hPc, va_K.moved hW.alike hKc, hDc.weaken (fun _ _ _ _ => trivial)⟩⟩ rfl hn hls.1 hst (lv_room hroom) hd ⟨Nat.le_of_ble_eq_true rfl, Nat.le_of_ble_eq_true rfl⟩
  intro T hT X0
  obtain ⟨v, st₀, t, T', L', h0, X', hL', e1, e2, ⟨⟨v', u, hv, hp, hP1, hK1, hD1⟩, hz, hk⟩, st⟩ := hr T hT X0
  cases hv
  rw [h0] at hz hk
  obtain ⟨hPj, hDj⟩ := va_join (H1 := T'.heap) (wr := wC g a C) (w1 := wR g2 r u) hP hD [11, 12, 13, 14, 15, 16, 17, 18, 19, 20, 21, 22, 23, 24, 25, 26] [0, 1, 2, 3, 4, 5, 6, 7, 8, 9, 10] rfl rfl (by decide) (by decide) (fun q h1 h2 => by rw [e1]; exact hk q h1 h2) hFc (by rw [e1]; exact hP1) hD1
  have hP2 := hPj.sub (ws' := wL g g2 a r (C, u)) [0, 1, 2, 3, 4, 5, 6, 7, 8, 9, 10, 11, 12, 13, 14, 15, 16, 17, 18, 19, 20, 21, 22, 23, 24, 25, 26] rfl
  have hD2 := hDj.sub (ws' := wL g g2 a r (C, u)) [0, 1, 2, 3, 4, 5, 6, 7, 8, 9, 10, 11, 12, 13, 14, 15, 16, 17, 18, 19, 20, 21, 22, 23, 24, 25, 26] (by decide) rfl
  have hS2 : va_S A s.heap T'.heap (locs ++ L') := ⟨Nat.le_trans hS.1 (by rw [e1]; exact hz), fun q h1 h2 => by rw [e1, hk q (Nat.lt_of_lt_of_le h1 hS.1) (fun z => h2 (hFc q z))]; exact hS.2.1 q h1 h2, fun q hq => by
      rcases List.mem_append.mp hq with h | h
      · exact hS.2.2 q h
      · exact hFc _ (hL' q h)⟩
  obtain ⟨t2, a1, b1⟩ := kk v u hp p e s m args below meth c A T'.heap (locs ++ L') ls hF ⟨hP2, hD2, hS2, hls, hA⟩ T' rfl X'
  exact ⟨t2, st t2 a1, b1⟩
theorem lc_S_create {S2 : TC} {p1 : Int32} {p2 : Int32} {p3 : Int32} {z : Int32} (hk : fn_S_create C p1 p2 p3 = some (z, S2)) (hd : decode code pc = .ok (.invokevirtual 13, 3)) (hq : pc + 3 = q) (hroom : (St.map fun v => v.category).sum ≤ 8) (k : Lg l D g g2 a r b L xs S2 R q Lc (.int z :: St)) : Lg l D g g2 a r b L xs C R pc Lc (.int p3 :: .int p2 :: .int p1 :: .ref (a 0) :: St) := by
  subst hq
  exact lk_cC (As := [.int p1, .int p2, .int p3]) (n := 3) (ct_S_create p1 p2 p3 C z S2 hk) hd wm_391 ⟨vm_12, vm_13, vm_14, vm_2⟩ (by decide +kernel) ⟨⟨rfl, rfl⟩, Nat.le_of_ble_eq_true rfl, Nat.le_of_ble_eq_true rfl⟩ rfl rfl hroom (fun v u h => by obtain ⟨rfl, rfl⟩ := h; exact k)
theorem lc_M_create {S2 : TR} {p1 : Int32} {p2 : Int32} {p3 : Int32} {z : Int32} (hk : fn_M_create R p1 p2 p3 = some (z, S2)) (hd : decode code pc = .ok (.invokevirtual 17, 3)) (hq : pc + 3 = q) (hroom : (St.map fun v => v.category).sum ≤ 8) (k : Lg l D g g2 a r b L xs C S2 q Lc (.int z :: St)) : Lg l D g g2 a r b L xs C R pc Lc (.int p3 :: .int p2 :: .int p1 :: .ref (r 0) :: St) := by
  subst hq
  exact lk_cM (As := [.int p1, .int p2, .int p3]) (n := 3) (ct_M_create p1 p2 p3 R z S2 hk) hd wm_410 ⟨vm_15, vm_16, vm_17, vm_5⟩ (by decide +kernel) ⟨⟨rfl, rfl⟩, Nat.le_of_ble_eq_true rfl, Nat.le_of_ble_eq_true rfl⟩ rfl rfl hroom (fun v u h => by obtain ⟨rfl, rfl⟩ := h; exact k)
theorem lc_S_write {S2 : TC} {p1 : Int32} {p2 : Int32} {p3 : Int32} {z : Int32} (hk : fn_S_write C p1 p2 p3 = some (z, S2)) (hd : decode code pc = .ok (.invokevirtual 18, 3)) (hq : pc + 3 = q) (hroom : (St.map fun v => v.category).sum ≤ 8) (k : Lg l D g g2 a r b L xs S2 R q Lc (.int z :: St)) : Lg l D g g2 a r b L xs C R pc Lc (.int p3 :: .int p2 :: .int p1 :: .ref (a 0) :: St) := by
  subst hq
  exact lk_cC (As := [.int p1, .int p2, .int p3]) (n := 3) (ct_S_write p1 p2 p3 C z S2 hk) hd wm_392 ⟨vm_18, vm_19, vm_20, vm_2⟩ (by decide +kernel) ⟨⟨rfl, rfl⟩, Nat.le_of_ble_eq_true rfl, Nat.le_of_ble_eq_true rfl⟩ rfl rfl hroom (fun v u h => by obtain ⟨rfl, rfl⟩ := h; exact k)
theorem lc_M_write {S2 : TR} {p1 : Int32} {p2 : Int32} {p3 : Int32} {z : Int32} (hk : fn_M_write R p1 p2 p3 = some (z, S2)) (hd : decode code pc = .ok (.invokevirtual 22, 3)) (hq : pc + 3 = q) (hroom : (St.map fun v => v.category).sum ≤ 8) (k : Lg l D g g2 a r b L xs C S2 q Lc (.int z :: St)) : Lg l D g g2 a r b L xs C R pc Lc (.int p3 :: .int p2 :: .int p1 :: .ref (r 0) :: St) := by
  subst hq
  exact lk_cM (As := [.int p1, .int p2, .int p3]) (n := 3) (ct_M_write p1 p2 p3 R z S2 hk) hd wm_411 ⟨vm_21, vm_22, vm_23, vm_5⟩ (by decide +kernel) ⟨⟨rfl, rfl⟩, Nat.le_of_ble_eq_true rfl, Nat.le_of_ble_eq_true rfl⟩ rfl rfl hroom (fun v u h => by obtain ⟨rfl, rfl⟩ := h; exact k)
theorem lc_S_read {S2 : TC} {p1 : Int32} {p2 : Int32} {z : Int64} (hk : fn_S_read C p1 p2 = some (z, S2)) (hd : decode code pc = .ok (.invokevirtual 23, 3)) (hq : pc + 3 = q) (hroom : (St.map fun v => v.category).sum ≤ 8) (k : Lg l D g g2 a r b L xs S2 R q Lc (.long z :: St)) : Lg l D g g2 a r b L xs C R pc Lc (.int p2 :: .int p1 :: .ref (a 0) :: St) := by
  subst hq
  exact lk_cC (As := [.int p1, .int p2]) (n := 2) (ct_S_read p1 p2 C z S2 hk) hd wm_393 ⟨vm_24, vm_25, vm_26, vm_2⟩ (by decide +kernel) ⟨⟨rfl, rfl⟩, Nat.le_of_ble_eq_true rfl, Nat.le_of_ble_eq_true rfl⟩ rfl rfl hroom (fun v u h => by obtain ⟨rfl, rfl⟩ := h; exact k)
theorem lc_M_read {S2 : TR} {p1 : Int32} {p2 : Int32} {z : Int64} (hk : fn_M_read R p1 p2 = some (z, S2)) (hd : decode code pc = .ok (.invokevirtual 27, 3)) (hq : pc + 3 = q) (hroom : (St.map fun v => v.category).sum ≤ 8) (k : Lg l D g g2 a r b L xs C S2 q Lc (.long z :: St)) : Lg l D g g2 a r b L xs C R pc Lc (.int p2 :: .int p1 :: .ref (r 0) :: St) := by
  subst hq
  exact lk_cM (As := [.int p1, .int p2]) (n := 2) (ct_M_read p1 p2 R z S2 hk) hd wm_412 ⟨vm_27, vm_28, vm_29, vm_5⟩ (by decide +kernel) ⟨⟨rfl, rfl⟩, Nat.le_of_ble_eq_true rfl, Nat.le_of_ble_eq_true rfl⟩ rfl rfl hroom (fun v u h => by obtain ⟨rfl, rfl⟩ := h; exact k)
theorem lc_S_truncate {S2 : TC} {p1 : Int32} {p2 : Int32} {z : Int32} (hk : fn_S_truncate C p1 p2 = some (z, S2)) (hd : decode code pc = .ok (.invokevirtual 28, 3)) (hq : pc + 3 = q) (hroom : (St.map fun v => v.category).sum ≤ 8) (k : Lg l D g g2 a r b L xs S2 R q Lc (.int z :: St)) : Lg l D g g2 a r b L xs C R pc Lc (.int p2 :: .int p1 :: .ref (a 0) :: St) := by
  subst hq
  exact lk_cC (As := [.int p1, .int p2]) (n := 2) (ct_S_truncate p1 p2 C z S2 hk) hd wm_394 ⟨vm_30, vm_31, vm_32, vm_2⟩ (by decide +kernel) ⟨⟨rfl, rfl⟩, Nat.le_of_ble_eq_true rfl, Nat.le_of_ble_eq_true rfl⟩ rfl rfl hroom (fun v u h => by obtain ⟨rfl, rfl⟩ := h; exact k)
theorem lc_M_truncate {S2 : TR} {p1 : Int32} {p2 : Int32} {z : Int32} (hk : fn_M_truncate R p1 p2 = some (z, S2)) (hd : decode code pc = .ok (.invokevirtual 32, 3)) (hq : pc + 3 = q) (hroom : (St.map fun v => v.category).sum ≤ 8) (k : Lg l D g g2 a r b L xs C S2 q Lc (.int z :: St)) : Lg l D g g2 a r b L xs C R pc Lc (.int p2 :: .int p1 :: .ref (r 0) :: St) := by
  subst hq
  exact lk_cM (As := [.int p1, .int p2]) (n := 2) (ct_M_truncate p1 p2 R z S2 hk) hd wm_413 ⟨vm_33, vm_34, vm_35, vm_5⟩ (by decide +kernel) ⟨⟨rfl, rfl⟩, Nat.le_of_ble_eq_true rfl, Nat.le_of_ble_eq_true rfl⟩ rfl rfl hroom (fun v u h => by obtain ⟨rfl, rfl⟩ := h; exact k)
theorem lc_S_move {S2 : TC} {p1 : Int32} {p2 : Int32} {p3 : Int32} {z : Int32} (hk : fn_S_move C p1 p2 p3 = some (z, S2)) (hd : decode code pc = .ok (.invokevirtual 33, 3)) (hq : pc + 3 = q) (hroom : (St.map fun v => v.category).sum ≤ 8) (k : Lg l D g g2 a r b L xs S2 R q Lc (.int z :: St)) : Lg l D g g2 a r b L xs C R pc Lc (.int p3 :: .int p2 :: .int p1 :: .ref (a 0) :: St) := by
  subst hq
  exact lk_cC (As := [.int p1, .int p2, .int p3]) (n := 3) (ct_S_move p1 p2 p3 C z S2 hk) hd wm_395 ⟨vm_36, vm_37, vm_38, vm_2⟩ (by decide +kernel) ⟨⟨rfl, rfl⟩, Nat.le_of_ble_eq_true rfl, Nat.le_of_ble_eq_true rfl⟩ rfl rfl hroom (fun v u h => by obtain ⟨rfl, rfl⟩ := h; exact k)
theorem lc_M_move {S2 : TR} {p1 : Int32} {p2 : Int32} {p3 : Int32} {z : Int32} (hk : fn_M_move R p1 p2 p3 = some (z, S2)) (hd : decode code pc = .ok (.invokevirtual 36, 3)) (hq : pc + 3 = q) (hroom : (St.map fun v => v.category).sum ≤ 8) (k : Lg l D g g2 a r b L xs C S2 q Lc (.int z :: St)) : Lg l D g g2 a r b L xs C R pc Lc (.int p3 :: .int p2 :: .int p1 :: .ref (r 0) :: St) := by
  subst hq
  exact lk_cM (As := [.int p1, .int p2, .int p3]) (n := 3) (ct_M_move p1 p2 p3 R z S2 hk) hd wm_414 ⟨vm_39, vm_40, vm_41, vm_5⟩ (by decide +kernel) ⟨⟨rfl, rfl⟩, Nat.le_of_ble_eq_true rfl, Nat.le_of_ble_eq_true rfl⟩ rfl rfl hroom (fun v u h => by obtain ⟨rfl, rfl⟩ := h; exact k)
theorem lc_S_remove {S2 : TC} {p1 : Int32} {z : Int32} (hk : fn_S_remove C p1 = some (z, S2)) (hd : decode code pc = .ok (.invokevirtual 37, 3)) (hq : pc + 3 = q) (hroom : (St.map fun v => v.category).sum ≤ 8) (k : Lg l D g g2 a r b L xs S2 R q Lc (.int z :: St)) : Lg l D g g2 a r b L xs C R pc Lc (.int p1 :: .ref (a 0) :: St) := by
  subst hq
  exact lk_cC (As := [.int p1]) (n := 1) (ct_S_remove p1 C z S2 hk) hd wm_396 ⟨vm_42, vm_43, vm_44, vm_2⟩ (by decide +kernel) ⟨⟨rfl, rfl⟩, Nat.le_of_ble_eq_true rfl, Nat.le_of_ble_eq_true rfl⟩ rfl rfl hroom (fun v u h => by obtain ⟨rfl, rfl⟩ := h; exact k)
theorem lc_M_remove {S2 : TR} {p1 : Int32} {z : Int32} (hk : fn_M_remove R p1 = some (z, S2)) (hd : decode code pc = .ok (.invokevirtual 41, 3)) (hq : pc + 3 = q) (hroom : (St.map fun v => v.category).sum ≤ 8) (k : Lg l D g g2 a r b L xs C S2 q Lc (.int z :: St)) : Lg l D g g2 a r b L xs C R pc Lc (.int p1 :: .ref (r 0) :: St) := by
  subst hq
  exact lk_cM (As := [.int p1]) (n := 1) (ct_M_remove p1 R z S2 hk) hd wm_415 ⟨vm_45, vm_46, vm_47, vm_5⟩ (by decide +kernel) ⟨⟨rfl, rfl⟩, Nat.le_of_ble_eq_true rfl, Nat.le_of_ble_eq_true rfl⟩ rfl rfl hroom (fun v u h => by obtain ⟨rfl, rfl⟩ := h; exact k)
theorem lc_S_find {S2 : TC} {p1 : Int32} {p2 : Int32} {z : Int32} (hk : fn_S_find C p1 p2 = some (z, S2)) (hd : decode code pc = .ok (.invokevirtual 42, 3)) (hq : pc + 3 = q) (hroom : (St.map fun v => v.category).sum ≤ 8) (k : Lg l D g g2 a r b L xs S2 R q Lc (.int z :: St)) : Lg l D g g2 a r b L xs C R pc Lc (.int p2 :: .int p1 :: .ref (a 0) :: St) := by
  subst hq
  exact lk_cC (As := [.int p1, .int p2]) (n := 2) (ct_S_find p1 p2 C z S2 hk) hd wm_397 ⟨vm_48, vm_49, vm_50, vm_2⟩ (by decide +kernel) ⟨⟨rfl, rfl⟩, Nat.le_of_ble_eq_true rfl, Nat.le_of_ble_eq_true rfl⟩ rfl rfl hroom (fun v u h => by obtain ⟨rfl, rfl⟩ := h; exact k)
theorem lc_M_find {S2 : TR} {p1 : Int32} {p2 : Int32} {z : Int32} (hk : fn_M_find R p1 p2 = some (z, S2)) (hd : decode code pc = .ok (.invokevirtual 45, 3)) (hq : pc + 3 = q) (hroom : (St.map fun v => v.category).sum ≤ 8) (k : Lg l D g g2 a r b L xs C S2 q Lc (.int z :: St)) : Lg l D g g2 a r b L xs C R pc Lc (.int p2 :: .int p1 :: .ref (r 0) :: St) := by
  subst hq
  exact lk_cM (As := [.int p1, .int p2]) (n := 2) (ct_M_find p1 p2 R z S2 hk) hd wm_416 ⟨vm_51, vm_52, vm_53, vm_5⟩ (by decide +kernel) ⟨⟨rfl, rfl⟩, Nat.le_of_ble_eq_true rfl, Nat.le_of_ble_eq_true rfl⟩ rfl rfl hroom (fun v u h => by obtain ⟨rfl, rfl⟩ := h; exact k)
theorem lc_S_size {S2 : TC} {p1 : Int32} {z : Int32} (hk : fn_S_size C p1 = some (z, S2)) (hd : decode code pc = .ok (.invokevirtual 46, 3)) (hq : pc + 3 = q) (hroom : (St.map fun v => v.category).sum ≤ 8) (k : Lg l D g g2 a r b L xs S2 R q Lc (.int z :: St)) : Lg l D g g2 a r b L xs C R pc Lc (.int p1 :: .ref (a 0) :: St) := by
  subst hq
  exact lk_cC (As := [.int p1]) (n := 1) (ct_S_size p1 C z S2 hk) hd wm_398 ⟨vm_54, vm_55, vm_56, vm_2⟩ (by decide +kernel) ⟨⟨rfl, rfl⟩, Nat.le_of_ble_eq_true rfl, Nat.le_of_ble_eq_true rfl⟩ rfl rfl hroom (fun v u h => by obtain ⟨rfl, rfl⟩ := h; exact k)
theorem lc_M_size {S2 : TR} {p1 : Int32} {z : Int32} (hk : fn_M_size R p1 = some (z, S2)) (hd : decode code pc = .ok (.invokevirtual 49, 3)) (hq : pc + 3 = q) (hroom : (St.map fun v => v.category).sum ≤ 8) (k : Lg l D g g2 a r b L xs C S2 q Lc (.int z :: St)) : Lg l D g g2 a r b L xs C R pc Lc (.int p1 :: .ref (r 0) :: St) := by
  subst hq
  exact lk_cM (As := [.int p1]) (n := 1) (ct_M_size p1 R z S2 hk) hd wm_417 ⟨vm_57, vm_58, vm_59, vm_5⟩ (by decide +kernel) ⟨⟨rfl, rfl⟩, Nat.le_of_ble_eq_true rfl, Nat.le_of_ble_eq_true rfl⟩ rfl rfl hroom (fun v u h => by obtain ⟨rfl, rfl⟩ := h; exact k)
theorem lc_S_parentOf {S2 : TC} {p1 : Int32} {z : Int32} (hk : fn_S_parentOf C p1 = some (z, S2)) (hd : decode code pc = .ok (.invokevirtual 50, 3)) (hq : pc + 3 = q) (hroom : (St.map fun v => v.category).sum ≤ 8) (k : Lg l D g g2 a r b L xs S2 R q Lc (.int z :: St)) : Lg l D g g2 a r b L xs C R pc Lc (.int p1 :: .ref (a 0) :: St) := by
  subst hq
  exact lk_cC (As := [.int p1]) (n := 1) (ct_S_parentOf p1 C z S2 hk) hd wm_399 ⟨vm_60, vm_61, vm_62, vm_2⟩ (by decide +kernel) ⟨⟨rfl, rfl⟩, Nat.le_of_ble_eq_true rfl, Nat.le_of_ble_eq_true rfl⟩ rfl rfl hroom (fun v u h => by obtain ⟨rfl, rfl⟩ := h; exact k)
theorem lc_M_parentOf {S2 : TR} {p1 : Int32} {z : Int32} (hk : fn_M_parentOf R p1 = some (z, S2)) (hd : decode code pc = .ok (.invokevirtual 53, 3)) (hq : pc + 3 = q) (hroom : (St.map fun v => v.category).sum ≤ 8) (k : Lg l D g g2 a r b L xs C S2 q Lc (.int z :: St)) : Lg l D g g2 a r b L xs C R pc Lc (.int p1 :: .ref (r 0) :: St) := by
  subst hq
  exact lk_cM (As := [.int p1]) (n := 1) (ct_M_parentOf p1 R z S2 hk) hd wm_418 ⟨vm_63, vm_64, vm_65, vm_5⟩ (by decide +kernel) ⟨⟨rfl, rfl⟩, Nat.le_of_ble_eq_true rfl, Nat.le_of_ble_eq_true rfl⟩ rfl rfl hroom (fun v u h => by obtain ⟨rfl, rfl⟩ := h; exact k)
theorem lc_S_nameOf {S2 : TC} {p1 : Int32} {z : Int64} (hk : fn_S_nameOf C p1 = some (z, S2)) (hd : decode code pc = .ok (.invokevirtual 54, 3)) (hq : pc + 3 = q) (hroom : (St.map fun v => v.category).sum ≤ 8) (k : Lg l D g g2 a r b L xs S2 R q Lc (.long z :: St)) : Lg l D g g2 a r b L xs C R pc Lc (.int p1 :: .ref (a 0) :: St) := by
  subst hq
  exact lk_cC (As := [.int p1]) (n := 1) (ct_S_nameOf p1 C z S2 hk) hd wm_400 ⟨vm_66, vm_67, vm_68, vm_2⟩ (by decide +kernel) ⟨⟨rfl, rfl⟩, Nat.le_of_ble_eq_true rfl, Nat.le_of_ble_eq_true rfl⟩ rfl rfl hroom (fun v u h => by obtain ⟨rfl, rfl⟩ := h; exact k)
theorem lc_M_nameOf {S2 : TR} {p1 : Int32} {z : Int64} (hk : fn_M_nameOf R p1 = some (z, S2)) (hd : decode code pc = .ok (.invokevirtual 58, 3)) (hq : pc + 3 = q) (hroom : (St.map fun v => v.category).sum ≤ 8) (k : Lg l D g g2 a r b L xs C S2 q Lc (.long z :: St)) : Lg l D g g2 a r b L xs C R pc Lc (.int p1 :: .ref (r 0) :: St) := by
  subst hq
  exact lk_cM (As := [.int p1]) (n := 1) (ct_M_nameOf p1 R z S2 hk) hd wm_419 ⟨vm_69, vm_70, vm_71, vm_5⟩ (by decide +kernel) ⟨⟨rfl, rfl⟩, Nat.le_of_ble_eq_true rfl, Nat.le_of_ble_eq_true rfl⟩ rfl rfl hroom (fun v u h => by obtain ⟨rfl, rfl⟩ := h; exact k)
theorem lc_S_checkpoint {S2 : TC} {z : Int32} (hk : fn_S_checkpoint C = some (z, S2)) (hd : decode code pc = .ok (.invokevirtual 59, 3)) (hq : pc + 3 = q) (hroom : (St.map fun v => v.category).sum ≤ 8) (k : Lg l D g g2 a r b L xs S2 R q Lc (.int z :: St)) : Lg l D g g2 a r b L xs C R pc Lc (.ref (a 0) :: St) := by
  subst hq
  exact lk_cC (As := []) (n := 0) (ct_S_checkpoint C z S2 hk) hd wm_401 ⟨vm_72, vm_73, vm_74, vm_2⟩ (by decide +kernel) ⟨⟨rfl, rfl⟩, Nat.le_of_ble_eq_true rfl, Nat.le_of_ble_eq_true rfl⟩ rfl rfl hroom (fun v u h => by obtain ⟨rfl, rfl⟩ := h; exact k)
theorem lc_M_checkpoint {S2 : TR} {z : Int32} (hk : fn_M_checkpoint R = some (z, S2)) (hd : decode code pc = .ok (.invokevirtual 63, 3)) (hq : pc + 3 = q) (hroom : (St.map fun v => v.category).sum ≤ 8) (k : Lg l D g g2 a r b L xs C S2 q Lc (.int z :: St)) : Lg l D g g2 a r b L xs C R pc Lc (.ref (r 0) :: St) := by
  subst hq
  exact lk_cM (As := []) (n := 0) (ct_M_checkpoint R z S2 hk) hd wm_420 ⟨vm_75, vm_76, vm_77, vm_5⟩ (by decide +kernel) ⟨⟨rfl, rfl⟩, Nat.le_of_ble_eq_true rfl, Nat.le_of_ble_eq_true rfl⟩ rfl rfl hroom (fun v u h => by obtain ⟨rfl, rfl⟩ := h; exact k)
theorem lc_S_mount {S2 : TC} {p1 : Int32} {z : Int32} (hk : fn_S_mount C p1 = some (z, S2)) (hd : decode code pc = .ok (.invokevirtual 64, 3)) (hq : pc + 3 = q) (hroom : (St.map fun v => v.category).sum ≤ 8) (k : Lg l D g g2 a r b L xs S2 R q Lc (.int z :: St)) : Lg l D g g2 a r b L xs C R pc Lc (.int p1 :: .ref (a 0) :: St) := by
  subst hq
  exact lk_cC (As := [.int p1]) (n := 1) (ct_S_mount p1 C z S2 hk) hd wm_402 ⟨vm_78, vm_79, vm_80, vm_2⟩ (by decide +kernel) ⟨⟨rfl, rfl⟩, Nat.le_of_ble_eq_true rfl, Nat.le_of_ble_eq_true rfl⟩ rfl rfl hroom (fun v u h => by obtain ⟨rfl, rfl⟩ := h; exact k)
theorem lc_M_mount {S2 : TR} {p1 : Int32} {z : Int32} (hk : fn_M_mount R p1 = some (z, S2)) (hd : decode code pc = .ok (.invokevirtual 68, 3)) (hq : pc + 3 = q) (hroom : (St.map fun v => v.category).sum ≤ 8) (k : Lg l D g g2 a r b L xs C S2 q Lc (.int z :: St)) : Lg l D g g2 a r b L xs C R pc Lc (.int p1 :: .ref (r 0) :: St) := by
  subst hq
  exact lk_cM (As := [.int p1]) (n := 1) (ct_M_mount p1 R z S2 hk) hd wm_421 ⟨vm_81, vm_82, vm_83, vm_5⟩ (by decide +kernel) ⟨⟨rfl, rfl⟩, Nat.le_of_ble_eq_true rfl, Nat.le_of_ble_eq_true rfl⟩ rfl rfl hroom (fun v u h => by obtain ⟨rfl, rfl⟩ := h; exact k)
theorem lc_S_cut {S2 : TC} {p1 : Int32} {z : Unit} (hk : fn_S_cut C p1 = some (z, S2)) (hd : decode code pc = .ok (.invokevirtual 69, 3)) (hq : pc + 3 = q) (hroom : (St.map fun v => v.category).sum ≤ 8) (k : Lg l D g g2 a r b L xs S2 R q Lc (St)) : Lg l D g g2 a r b L xs C R pc Lc (.int p1 :: .ref (a 0) :: St) := by
  subst hq
  exact lk_cC (As := [.int p1]) (n := 1) (ct_S_cut p1 C z S2 hk) hd wm_403 ⟨vm_84, vm_85, vm_86, vm_2⟩ (by decide +kernel) ⟨⟨rfl, rfl⟩, Nat.le_of_ble_eq_true rfl, Nat.le_of_ble_eq_true rfl⟩ rfl rfl hroom (fun v u h => by obtain ⟨rfl, rfl⟩ := h; exact k)
theorem lc_M_cut {S2 : TR} {p1 : Int32} {z : Unit} (hk : fn_M_cut R p1 = some (z, S2)) (hd : decode code pc = .ok (.invokevirtual 73, 3)) (hq : pc + 3 = q) (hroom : (St.map fun v => v.category).sum ≤ 8) (k : Lg l D g g2 a r b L xs C S2 q Lc (St)) : Lg l D g g2 a r b L xs C R pc Lc (.int p1 :: .ref (r 0) :: St) := by
  subst hq
  exact lk_cM (As := [.int p1]) (n := 1) (ct_M_cut p1 R z S2 hk) hd wm_422 ⟨vm_87, vm_88, vm_89, vm_5⟩ (by decide +kernel) ⟨⟨rfl, rfl⟩, Nat.le_of_ble_eq_true rfl, Nat.le_of_ble_eq_true rfl⟩ rfl rfl hroom (fun v u h => by obtain ⟨rfl, rfl⟩ := h; exact k)
theorem lc_S_flip {S2 : TC} {p1 : Int32} {p2 : Int32} {p3 : Int32} {z : Int32} (hk : fn_S_flip C p1 p2 p3 = some (z, S2)) (hd : decode code pc = .ok (.invokevirtual 74, 3)) (hq : pc + 3 = q) (hroom : (St.map fun v => v.category).sum ≤ 8) (k : Lg l D g g2 a r b L xs S2 R q Lc (.int z :: St)) : Lg l D g g2 a r b L xs C R pc Lc (.int p3 :: .int p2 :: .int p1 :: .ref (a 0) :: St) := by
  subst hq
  exact lk_cC (As := [.int p1, .int p2, .int p3]) (n := 3) (ct_S_flip p1 p2 p3 C z S2 hk) hd wm_404 ⟨vm_90, vm_91, vm_92, vm_2⟩ (by decide +kernel) ⟨⟨rfl, rfl⟩, Nat.le_of_ble_eq_true rfl, Nat.le_of_ble_eq_true rfl⟩ rfl rfl hroom (fun v u h => by obtain ⟨rfl, rfl⟩ := h; exact k)
theorem lc_M_flip {S2 : TR} {p1 : Int32} {p2 : Int32} {p3 : Int32} {z : Int32} (hk : fn_M_flip R p1 p2 p3 = some (z, S2)) (hd : decode code pc = .ok (.invokevirtual 78, 3)) (hq : pc + 3 = q) (hroom : (St.map fun v => v.category).sum ≤ 8) (k : Lg l D g g2 a r b L xs C S2 q Lc (.int z :: St)) : Lg l D g g2 a r b L xs C R pc Lc (.int p3 :: .int p2 :: .int p1 :: .ref (r 0) :: St) := by
  subst hq
  exact lk_cM (As := [.int p1, .int p2, .int p3]) (n := 3) (ct_M_flip p1 p2 p3 R z S2 hk) hd wm_423 ⟨vm_93, vm_94, vm_95, vm_5⟩ (by decide +kernel) ⟨⟨rfl, rfl⟩, Nat.le_of_ble_eq_true rfl, Nat.le_of_ble_eq_true rfl⟩ rfl rfl hroom (fun v u h => by obtain ⟨rfl, rfl⟩ := h; exact k)
theorem lc_S_wear {S2 : TC} {p1 : Int32} {z : Int32} (hk : fn_S_wear C p1 = some (z, S2)) (hd : decode code pc = .ok (.invokevirtual 79, 3)) (hq : pc + 3 = q) (hroom : (St.map fun v => v.category).sum ≤ 8) (k : Lg l D g g2 a r b L xs S2 R q Lc (.int z :: St)) : Lg l D g g2 a r b L xs C R pc Lc (.int p1 :: .ref (a 0) :: St) := by
  subst hq
  exact lk_cC (As := [.int p1]) (n := 1) (ct_S_wear p1 C z S2 hk) hd wm_405 ⟨vm_96, vm_97, vm_98, vm_2⟩ (by decide +kernel) ⟨⟨rfl, rfl⟩, Nat.le_of_ble_eq_true rfl, Nat.le_of_ble_eq_true rfl⟩ rfl rfl hroom (fun v u h => by obtain ⟨rfl, rfl⟩ := h; exact k)
theorem lc_M_wear {S2 : TR} {p1 : Int32} {z : Int32} (hk : fn_M_wear R p1 = some (z, S2)) (hd : decode code pc = .ok (.invokevirtual 83, 3)) (hq : pc + 3 = q) (hroom : (St.map fun v => v.category).sum ≤ 8) (k : Lg l D g g2 a r b L xs C S2 q Lc (.int z :: St)) : Lg l D g g2 a r b L xs C R pc Lc (.int p1 :: .ref (r 0) :: St) := by
  subst hq
  exact lk_cM (As := [.int p1]) (n := 1) (ct_M_wear p1 R z S2 hk) hd wm_424 ⟨vm_99, vm_100, vm_101, vm_5⟩ (by decide +kernel) ⟨⟨rfl, rfl⟩, Nat.le_of_ble_eq_true rfl, Nat.le_of_ble_eq_true rfl⟩ rfl rfl hroom (fun v u h => by obtain ⟨rfl, rfl⟩ := h; exact k)
theorem lc_S_tags {S2 : TC} {p1 : Int32} {p2 : Int32} {z : Int32} (hk : fn_S_tags C p1 p2 = some (z, S2)) (hd : decode code pc = .ok (.invokevirtual 84, 3)) (hq : pc + 3 = q) (hroom : (St.map fun v => v.category).sum ≤ 8) (k : Lg l D g g2 a r b L xs S2 R q Lc (.int z :: St)) : Lg l D g g2 a r b L xs C R pc Lc (.int p2 :: .int p1 :: .ref (a 0) :: St) := by
  subst hq
  exact lk_cC (As := [.int p1, .int p2]) (n := 2) (ct_S_tags p1 p2 C z S2 hk) hd wm_406 ⟨vm_102, vm_103, vm_104, vm_2⟩ (by decide +kernel) ⟨⟨rfl, rfl⟩, Nat.le_of_ble_eq_true rfl, Nat.le_of_ble_eq_true rfl⟩ rfl rfl hroom (fun v u h => by obtain ⟨rfl, rfl⟩ := h; exact k)
theorem lc_M_tags {S2 : TR} {p1 : Int32} {p2 : Int32} {z : Int32} (hk : fn_M_tags R p1 p2 = some (z, S2)) (hd : decode code pc = .ok (.invokevirtual 87, 3)) (hq : pc + 3 = q) (hroom : (St.map fun v => v.category).sum ≤ 8) (k : Lg l D g g2 a r b L xs C S2 q Lc (.int z :: St)) : Lg l D g g2 a r b L xs C R pc Lc (.int p2 :: .int p1 :: .ref (r 0) :: St) := by
  subst hq
  exact lk_cM (As := [.int p1, .int p2]) (n := 2) (ct_M_tags p1 p2 R z S2 hk) hd wm_425 ⟨vm_105, vm_106, vm_107, vm_5⟩ (by decide +kernel) ⟨⟨rfl, rfl⟩, Nat.le_of_ble_eq_true rfl, Nat.le_of_ble_eq_true rfl⟩ rfl rfl hroom (fun v u h => by obtain ⟨rfl, rfl⟩ := h; exact k)
theorem lc_S_free {S2 : TC} {z : Int32} (hk : fn_S_free C = some (z, S2)) (hd : decode code pc = .ok (.invokevirtual 88, 3)) (hq : pc + 3 = q) (hroom : (St.map fun v => v.category).sum ≤ 8) (k : Lg l D g g2 a r b L xs S2 R q Lc (.int z :: St)) : Lg l D g g2 a r b L xs C R pc Lc (.ref (a 0) :: St) := by
  subst hq
  exact lk_cC (As := []) (n := 0) (ct_S_free C z S2 hk) hd wm_407 ⟨vm_108, vm_109, vm_110, vm_2⟩ (by decide +kernel) ⟨⟨rfl, rfl⟩, Nat.le_of_ble_eq_true rfl, Nat.le_of_ble_eq_true rfl⟩ rfl rfl hroom (fun v u h => by obtain ⟨rfl, rfl⟩ := h; exact k)
theorem lc_M_free {S2 : TR} {z : Int32} (hk : fn_M_free R = some (z, S2)) (hd : decode code pc = .ok (.invokevirtual 91, 3)) (hq : pc + 3 = q) (hroom : (St.map fun v => v.category).sum ≤ 8) (k : Lg l D g g2 a r b L xs C S2 q Lc (.int z :: St)) : Lg l D g g2 a r b L xs C R pc Lc (.ref (r 0) :: St) := by
  subst hq
  exact lk_cM (As := []) (n := 0) (ct_M_free R z S2 hk) hd wm_141 ⟨vm_111, vm_112, vm_113, vm_5⟩ (by decide +kernel) ⟨⟨rfl, rfl⟩, Nat.le_of_ble_eq_true rfl, Nat.le_of_ble_eq_true rfl⟩ rfl rfl hroom (fun v u h => by obtain ⟨rfl, rfl⟩ := h; exact k)
theorem lc_S_erases {S2 : TC} {p1 : Int32} {z : Int32} (hk : fn_S_erases C p1 = some (z, S2)) (hd : decode code pc = .ok (.invokevirtual 92, 3)) (hq : pc + 3 = q) (hroom : (St.map fun v => v.category).sum ≤ 8) (k : Lg l D g g2 a r b L xs S2 R q Lc (.int z :: St)) : Lg l D g g2 a r b L xs C R pc Lc (.int p1 :: .ref (a 0) :: St) := by
  subst hq
  exact lk_cC (As := [.int p1]) (n := 1) (ct_S_erases p1 C z S2 hk) hd wm_408 ⟨vm_114, vm_115, vm_116, vm_2⟩ (by decide +kernel) ⟨⟨rfl, rfl⟩, Nat.le_of_ble_eq_true rfl, Nat.le_of_ble_eq_true rfl⟩ rfl rfl hroom (fun v u h => by obtain ⟨rfl, rfl⟩ := h; exact k)
theorem lc_M_erases {S2 : TR} {p1 : Int32} {z : Int32} (hk : fn_M_erases R p1 = some (z, S2)) (hd : decode code pc = .ok (.invokevirtual 95, 3)) (hq : pc + 3 = q) (hroom : (St.map fun v => v.category).sum ≤ 8) (k : Lg l D g g2 a r b L xs C S2 q Lc (.int z :: St)) : Lg l D g g2 a r b L xs C R pc Lc (.int p1 :: .ref (r 0) :: St) := by
  subst hq
  exact lk_cM (As := [.int p1]) (n := 1) (ct_M_erases p1 R z S2 hk) hd wm_426 ⟨vm_117, vm_118, vm_119, vm_5⟩ (by decide +kernel) ⟨⟨rfl, rfl⟩, Nat.le_of_ble_eq_true rfl, Nat.le_of_ble_eq_true rfl⟩ rfl rfl hroom (fun v u h => by obtain ⟨rfl, rfl⟩ := h; exact k)
theorem lc_S_steps {S2 : TC} {z : Int32} (hk : fn_S_steps C = some (z, S2)) (hd : decode code pc = .ok (.invokevirtual 96, 3)) (hq : pc + 3 = q) (hroom : (St.map fun v => v.category).sum ≤ 8) (k : Lg l D g g2 a r b L xs S2 R q Lc (.int z :: St)) : Lg l D g g2 a r b L xs C R pc Lc (.ref (a 0) :: St) := by
  subst hq
  exact lk_cC (As := []) (n := 0) (ct_S_steps C z S2 hk) hd wm_409 ⟨vm_120, vm_121, vm_122, vm_2⟩ (by decide +kernel) ⟨⟨rfl, rfl⟩, Nat.le_of_ble_eq_true rfl, Nat.le_of_ble_eq_true rfl⟩ rfl rfl hroom (fun v u h => by obtain ⟨rfl, rfl⟩ := h; exact k)
theorem lc_M_steps {S2 : TR} {z : Int32} (hk : fn_M_steps R = some (z, S2)) (hd : decode code pc = .ok (.invokevirtual 99, 3)) (hq : pc + 3 = q) (hroom : (St.map fun v => v.category).sum ≤ 8) (k : Lg l D g g2 a r b L xs C S2 q Lc (.int z :: St)) : Lg l D g g2 a r b L xs C R pc Lc (.ref (r 0) :: St) := by
  subst hq
  exact lk_cM (As := []) (n := 0) (ct_M_steps R z S2 hk) hd wm_427 ⟨vm_123, vm_124, vm_125, vm_5⟩ (by decide +kernel) ⟨⟨rfl, rfl⟩, Nat.le_of_ble_eq_true rfl, Nat.le_of_ble_eq_true rfl⟩ rfl rfl hroom (fun v u h => by obtain ⟨rfl, rfl⟩ := h; exact k)
end LROW
