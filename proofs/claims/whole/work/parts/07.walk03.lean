section WALK
variable {l : Launch} {D : va_G} {g : Nat → ClassId} {a r : Nat → Nat}
set_option maxRecDepth 20000 in
set_option maxHeartbeats 4000000 in
theorem wl_C_fillRegion_16 (n : Nat) : ∀ (p1 : Int32) (S : TC) (z : Int32) (Sz : TC), lp_C_fillRegion_16 n S p1 = some (z, Sz) → Ok (wC g a) D (tyC g) l rm_C_fillRegion R_C b_C_fillRegion 2 (some .boolean) S 16 [(0, .ref (a 1)), (1, .int p1)] [] (pI z Sz) := by
  induction n with
  | zero => intro p1 S z Sz h; exact absurd h (fun h => by cases h)
  | succ n ih =>
    intro p1 S z Sz h
    rw [le_C_fillRegion_16] at h
    refine ok_iload_n (q := 17) 1 d_C_fillRegion_16 rfl rfl rfl ?_
    refine ok_bipush (v := (6 : Int32)) (q := 19) d_C_fillRegion_17 (by decide) rfl ?_
    refine ok_icmp_ge (q := 22) (t := 35) d_C_fillRegion_19 (by decide) rfl (fun hc => ?_) (fun hc => ?_)
    · replace h := if_t hc h
      refine ok_iconst (v := (1 : Int32)) (q := 36) d_C_fillRegion_35 (by decide) rfl ?_
      obtain ⟨rfl, rfl⟩ := so_e h
      exact ok_zret d_C_fillRegion_36 (by decide) ⟨rfl, rfl⟩
    · replace h := if_f hc h
      refine ok_aload_n (q := 23) 0 d_C_fillRegion_22 rfl rfl rfl ?_
      refine gf_C_35 (q := 26) d_C_fillRegion_23 rfl ?_
      refine ok_iload_n (q := 27) 1 d_C_fillRegion_26 rfl rfl rfl ?_
      refine ok_iconst (v := (0 : Int32)) (q := 28) d_C_fillRegion_27 (by decide) rfl ?_
      obtain ⟨hi, h⟩ := gd_e h
      obtain ⟨S1, e_S1, h⟩ := st_e h
      refine as_C_9 (q := 29) hi e_S1 (by decide) d_C_fillRegion_28 rfl ?_
      obtain ⟨x2, e_x2, h⟩ := st_e h
      refine ok_iinc (d := (1 : Int32)) (q := 32) (lv := [(1, .int x2), (0, .ref (a 1))]) 1 d_C_fillRegion_29 rfl (by decide) e_x2 (by decide) rfl rfl ?_
      refine ok_goto (q := 16) d_C_fillRegion_32 (by decide) ?_
      exact ok_sub [1, 0] rfl (ih x2 _ _ _ h)
set_option maxRecDepth 20000 in
set_option maxHeartbeats 4000000 in
theorem wk_C_fillRegion (S : TC) (z : Int32) (Sz : TC) (h : fn_C_fillRegion S = some (z, Sz)) : Ok (wC g a) D (tyC g) l rm_C_fillRegion R_C b_C_fillRegion 2 (some .boolean) S 0 [(0, .ref (a 1))] [] (pI z Sz) := by
  unfold fn_C_fillRegion at h
  refine ok_aload_n (q := 1) 0 d_C_fillRegion_0 rfl rfl rfl ?_
  obtain ⟨x3, S1, hk, h⟩ := bd_e h
  refine cs_C_91 (q := 4) hk d_C_fillRegion_1 rfl (by decide) (Nat.le_of_ble_eq_true rfl) ?_
  refine ok_if_ne (q := 7) (t := 9) d_C_fillRegion_4 (by decide) rfl (fun hc => ?_) (fun hc => ?_)
  · replace h := if_f hc h
    refine ok_aload_n (q := 10) 0 d_C_fillRegion_9 rfl rfl rfl ?_
    refine ok_iconst (v := (1 : Int32)) (q := 11) d_C_fillRegion_10 (by decide) rfl ?_
    obtain ⟨S4, e_S4, h⟩ := st_e h
    refine pf_C_38 (q := 14) e_S4 (by decide) d_C_fillRegion_11 rfl ?_
    refine ok_iconst (v := (0 : Int32)) (q := 15) d_C_fillRegion_14 (by decide) rfl ?_
    refine ok_istore_n (q := 16) (lv := [(1, .int (0 : Int32)), (0, .ref (a 1))]) d_C_fillRegion_15 rfl (by decide) rfl rfl ?_
    exact ok_sub [1, 0] rfl (wl_C_fillRegion_16 64 (0 : Int32) _ _ _ h)
  · replace h := if_t hc h
    refine ok_iconst (v := (0 : Int32)) (q := 8) d_C_fillRegion_7 (by decide) rfl ?_
    obtain ⟨rfl, rfl⟩ := so_e h
    exact ok_zret d_C_fillRegion_8 (by decide) ⟨rfl, rfl⟩
set_option maxRecDepth 20000 in
set_option maxHeartbeats 4000000 in
theorem ct_C_fillRegion (S : TC) (z : Int32) (Sz : TC) (h : fn_C_fillRegion S = some (z, Sz)) : Ct (wC g a) D (tyC g) l y_C_fillRegion b_C_fillRegion 2 (some .boolean) rm_C_fillRegion [.ref (a 1)] S (pI z Sz) := ct_of (by decide) (Nat.le_of_ble_eq_true rfl) rfl (wk_C_fillRegion S z Sz h)
theorem cs_S_111 {l : Launch} {D : va_G} {g : Nat → ClassId} {a : Nat → Nat} {rm : Room} {b : ByteArray} {nL : Nat} {ret : Option FieldType} {pc q : Nat} {Lc : List (Nat × Value)} {St : List Value} {S S2 : TC} {Post : Option Value → TC → Prop} {z : Int32} (hk : fn_C_fillRegion S = some (z, S2)) (hd : decode b pc = .ok (.invokevirtual 111, 3)) (hq : pc + 3 = q) (hrm : rm_C_fillRegion.frames + 1 ≤ rm.frames ∧ 8 + (2 + 11) + rm_C_fillRegion.locals ≤ rm.locals) (hroom : (St.map fun v => v.category).sum ≤ 8) (k : Ok (wC g a) D (tyC g) l rm R_S b nL ret S2 q Lc (.int z :: St) Post) : Ok (wC g a) D (tyC g) l rm R_S b nL ret S pc Lc (.ref (a 1) :: St) Post := by
  subst hq
  exact ok_cV (As := []) (n := 0) (C := R_C) (T := F_C) (N := 11) (ci := 1) (q0 := 1) (ct_C_fillRegion S z S2 hk) hd wm_292 ⟨wm_293, wm_294, wm_295, wm_69⟩ (by decide +kernel) ⟨⟨rfl, rfl⟩, hrm⟩ rfl rfl rfl rfl hroom ⟨Nat.zero_le _, Nat.zero_le _⟩ (fun v u h => by obtain ⟨rfl, rfl⟩ := h; exact k)
set_option maxRecDepth 20000 in
set_option maxHeartbeats 4000000 in
theorem wk_S_checkpoint (S : TC) (z : Int32) (Sz : TC) (h : fn_S_checkpoint S = some (z, Sz)) : Ok (wC g a) D (tyC g) l rm_S_checkpoint R_S b_S_checkpoint 1 (some .int) S 0 [(0, .ref (a 0))] [] (pI z Sz) := by
  unfold fn_S_checkpoint at h
  refine ok_aload_n (q := 1) 0 d_S_checkpoint_0 rfl rfl rfl ?_
  obtain ⟨x1, e_x1, h⟩ := st_e h
  refine gf_S_20 (q := 4) e_x1 d_S_checkpoint_1 rfl ?_
  refine ok_if_ne (q := 7) (t := 10) d_S_checkpoint_4 (by decide) rfl (fun hc => ?_) (fun hc => ?_)
  · replace h := if_f hc h
    refine ok_aload_n (q := 11) 0 d_S_checkpoint_10 rfl rfl rfl ?_
    refine gf_S_12 (q := 14) d_S_checkpoint_11 rfl ?_
    obtain ⟨x4, S2, hk, h⟩ := bd_e h
    refine cs_S_107 (q := 17) hk d_S_checkpoint_14 rfl (by decide) (Nat.le_of_ble_eq_true rfl) ?_
    refine ok_if_eq (q := 20) (t := 40) d_S_checkpoint_17 (by decide) rfl (fun hc => ?_) (fun hc => ?_)
    · replace h := if_t hc h
      refine ok_aload_n (q := 41) 0 d_S_checkpoint_40 rfl rfl rfl ?_
      obtain ⟨x7, S5, hk, h⟩ := bd_e h
      refine cs_S_49 (q := 44) hk d_S_checkpoint_41 rfl (by decide) (Nat.le_of_ble_eq_true rfl) ?_
      obtain ⟨rfl, rfl⟩ := so_e h
      exact ok_iret d_S_checkpoint_44 ⟨rfl, rfl⟩
    · replace h := if_f hc h
      refine ok_aload_n (q := 21) 0 d_S_checkpoint_20 rfl rfl rfl ?_
      refine gf_S_12 (q := 24) d_S_checkpoint_21 rfl ?_
      obtain ⟨x10, S8, hk, h⟩ := bd_e h
      refine cs_S_111 (q := 27) hk d_S_checkpoint_24 rfl (by decide) (Nat.le_of_ble_eq_true rfl) ?_
      refine ok_if_eq (q := 30) (t := 40) d_S_checkpoint_27 (by decide) rfl (fun hc => ?_) (fun hc => ?_)
      · replace h := if_t hc h
        refine ok_aload_n (q := 41) 0 d_S_checkpoint_40 rfl rfl rfl ?_
        obtain ⟨x13, S11, hk, h⟩ := bd_e h
        refine cs_S_49 (q := 44) hk d_S_checkpoint_41 rfl (by decide) (Nat.le_of_ble_eq_true rfl) ?_
        obtain ⟨rfl, rfl⟩ := so_e h
        exact ok_iret d_S_checkpoint_44 ⟨rfl, rfl⟩
      · replace h := if_f hc h
        refine ok_aload_n (q := 31) 0 d_S_checkpoint_30 rfl rfl rfl ?_
        refine gf_S_12 (q := 34) d_S_checkpoint_31 rfl ?_
        obtain ⟨x16, S14, hk, h⟩ := bd_e h
        refine cs_S_114 (q := 37) hk d_S_checkpoint_34 rfl (by decide) (Nat.le_of_ble_eq_true rfl) ?_
        refine ok_goto (q := 44) d_S_checkpoint_37 (by decide) ?_
        obtain ⟨rfl, rfl⟩ := so_e h
        exact ok_iret d_S_checkpoint_44 ⟨rfl, rfl⟩
  · replace h := if_t hc h
    refine ok_bipush (v := (-9 : Int32)) (q := 9) d_S_checkpoint_7 (by decide) rfl ?_
    obtain ⟨rfl, rfl⟩ := so_e h
    exact ok_iret d_S_checkpoint_9 ⟨rfl, rfl⟩
set_option maxRecDepth 20000 in
set_option maxHeartbeats 4000000 in
theorem ct_S_checkpoint (S : TC) (z : Int32) (Sz : TC) (h : fn_S_checkpoint S = some (z, Sz)) : Ct (wC g a) D (tyC g) l y_S_checkpoint b_S_checkpoint 1 (some .int) rm_S_checkpoint [.ref (a 0)] S (pI z Sz) := ct_of (by decide) (Nat.le_of_ble_eq_true rfl) rfl (wk_S_checkpoint S z Sz h)

set_option maxRecDepth 20000 in
set_option maxHeartbeats 4000000 in
theorem wl_C_countGood_4 (n : Nat) : ∀ (p1 : Int32) (p2 : Int32) (S : TC) (z : Int32) (Sz : TC), lp_C_countGood_4 n S p1 p2 = some (z, Sz) → Ok (wC g a) D (tyC g) l rm_C_countGood R_C b_C_countGood 3 (some .int) S 4 [(0, .ref (a 1)), (1, .int p1), (2, .int p2)] [] (pI z Sz) := by
  induction n with
  | zero => intro p1 p2 S z Sz h; exact absurd h (fun h => by cases h)
  | succ n ih =>
    intro p1 p2 S z Sz h
    rw [le_C_countGood_4] at h
    refine ok_iload_n (q := 5) 2 d_C_countGood_4 rfl rfl rfl ?_
    refine ok_bipush (v := (6 : Int32)) (q := 7) d_C_countGood_5 (by decide) rfl ?_
    refine ok_icmp_ge (q := 10) (t := 28) d_C_countGood_7 (by decide) rfl (fun hc => ?_) (fun hc => ?_)
    · replace h := if_t hc h
      refine ok_iload_n (q := 29) 1 d_C_countGood_28 rfl rfl rfl ?_
      obtain ⟨rfl, rfl⟩ := so_e h
      exact ok_iret d_C_countGood_29 ⟨rfl, rfl⟩
    · replace h := if_f hc h
      refine ok_aload_n (q := 11) 0 d_C_countGood_10 rfl rfl rfl ?_
      refine gf_C_32 (q := 14) d_C_countGood_11 rfl ?_
      refine ok_iload_n (q := 15) 2 d_C_countGood_14 rfl rfl rfl ?_
      obtain ⟨hg, h⟩ := gd_e h
      obtain ⟨x1, e_x1, h⟩ := st_e h
      refine al_C_8 (q := 16) hg e_x1 d_C_countGood_15 rfl ?_
      refine ok_if_ne (q := 19) (t := 22) d_C_countGood_16 (by decide) rfl (fun hc => ?_) (fun hc => ?_)
      · replace h := if_f hc h
        obtain ⟨x2, e_x2, h⟩ := st_e h
        refine ok_iinc (d := (1 : Int32)) (q := 25) (lv := [(2, .int x2), (0, .ref (a 1)), (1, .int p1)]) 2 d_C_countGood_22 rfl (by decide) e_x2 (by decide) rfl rfl ?_
        refine ok_goto (q := 4) d_C_countGood_25 (by decide) ?_
        exact ok_sub [1, 2, 0] rfl (ih p1 x2 _ _ _ h)
      · replace h := if_t hc h
        obtain ⟨x3, e_x3, h⟩ := st_e h
        refine ok_iinc (d := (1 : Int32)) (q := 22) (lv := [(1, .int x3), (0, .ref (a 1)), (2, .int p2)]) 1 d_C_countGood_19 rfl (by decide) e_x3 (by decide) rfl rfl ?_
        obtain ⟨x4, e_x4, h⟩ := st_e h
        refine ok_iinc (d := (1 : Int32)) (q := 25) (lv := [(2, .int x4), (1, .int x3), (0, .ref (a 1))]) 2 d_C_countGood_22 rfl (by decide) e_x4 (by decide) rfl rfl ?_
        refine ok_goto (q := 4) d_C_countGood_25 (by decide) ?_
        exact ok_sub [2, 1, 0] rfl (ih x3 x4 _ _ _ h)
set_option maxRecDepth 20000 in
set_option maxHeartbeats 4000000 in
theorem wk_C_countGood (S : TC) (z : Int32) (Sz : TC) (h : fn_C_countGood S = some (z, Sz)) : Ok (wC g a) D (tyC g) l rm_C_countGood R_C b_C_countGood 3 (some .int) S 0 [(0, .ref (a 1))] [] (pI z Sz) := by
  unfold fn_C_countGood at h
  refine ok_iconst (v := (0 : Int32)) (q := 1) d_C_countGood_0 (by decide) rfl ?_
  refine ok_istore_n (q := 2) (lv := [(1, .int (0 : Int32)), (0, .ref (a 1))]) d_C_countGood_1 rfl (by decide) rfl rfl ?_
  refine ok_iconst (v := (0 : Int32)) (q := 3) d_C_countGood_2 (by decide) rfl ?_
  refine ok_istore_n (q := 4) (lv := [(2, .int (0 : Int32)), (1, .int (0 : Int32)), (0, .ref (a 1))]) d_C_countGood_3 rfl (by decide) rfl rfl ?_
  exact ok_sub [2, 1, 0] rfl (wl_C_countGood_4 64 (0 : Int32) (0 : Int32) _ _ _ h)
set_option maxRecDepth 20000 in
set_option maxHeartbeats 4000000 in
theorem ct_C_countGood (S : TC) (z : Int32) (Sz : TC) (h : fn_C_countGood S = some (z, Sz)) : Ct (wC g a) D (tyC g) l y_C_countGood b_C_countGood 3 (some .int) rm_C_countGood [.ref (a 1)] S (pI z Sz) := ct_of (by decide) (Nat.le_of_ble_eq_true rfl) rfl (wk_C_countGood S z Sz h)
theorem cs_S_120 {l : Launch} {D : va_G} {g : Nat → ClassId} {a : Nat → Nat} {rm : Room} {b : ByteArray} {nL : Nat} {ret : Option FieldType} {pc q : Nat} {Lc : List (Nat × Value)} {St : List Value} {S S2 : TC} {Post : Option Value → TC → Prop} {z : Int32} (hk : fn_C_countGood S = some (z, S2)) (hd : decode b pc = .ok (.invokevirtual 120, 3)) (hq : pc + 3 = q) (hrm : rm_C_countGood.frames + 1 ≤ rm.frames ∧ 8 + (3 + 11) + rm_C_countGood.locals ≤ rm.locals) (hroom : (St.map fun v => v.category).sum ≤ 8) (k : Ok (wC g a) D (tyC g) l rm R_S b nL ret S2 q Lc (.int z :: St) Post) : Ok (wC g a) D (tyC g) l rm R_S b nL ret S pc Lc (.ref (a 1) :: St) Post := by
  subst hq
  exact ok_cV (As := []) (n := 0) (C := R_C) (T := F_C) (N := 11) (ci := 1) (q0 := 1) (ct_C_countGood S z S2 hk) hd wm_300 ⟨wm_301, wm_302, wm_303, wm_69⟩ (by decide +kernel) ⟨⟨rfl, rfl⟩, hrm⟩ rfl rfl rfl rfl hroom ⟨Nat.zero_le _, Nat.zero_le _⟩ (fun v u h => by obtain ⟨rfl, rfl⟩ := h; exact k)
set_option maxRecDepth 20000 in
set_option maxHeartbeats 4000000 in
theorem wl_C_countGoodTouched_4 (n : Nat) : ∀ (p1 : Int32) (p2 : Int32) (S : TC) (z : Int32) (Sz : TC), lp_C_countGoodTouched_4 n S p1 p2 = some (z, Sz) → Ok (wC g a) D (tyC g) l rm_C_countGoodTouched R_C b_C_countGoodTouched 3 (some .int) S 4 [(0, .ref (a 1)), (1, .int p1), (2, .int p2)] [] (pI z Sz) := by
  induction n with
  | zero => intro p1 p2 S z Sz h; exact absurd h (fun h => by cases h)
  | succ n ih =>
    intro p1 p2 S z Sz h
    rw [le_C_countGoodTouched_4] at h
    refine ok_iload_n (q := 5) 2 d_C_countGoodTouched_4 rfl rfl rfl ?_
    refine ok_bipush (v := (6 : Int32)) (q := 7) d_C_countGoodTouched_5 (by decide) rfl ?_
    refine ok_icmp_ge (q := 10) (t := 37) d_C_countGoodTouched_7 (by decide) rfl (fun hc => ?_) (fun hc => ?_)
    · replace h := if_t hc h
      refine ok_iload_n (q := 38) 1 d_C_countGoodTouched_37 rfl rfl rfl ?_
      obtain ⟨rfl, rfl⟩ := so_e h
      exact ok_iret d_C_countGoodTouched_38 ⟨rfl, rfl⟩
    · replace h := if_f hc h
      refine ok_aload_n (q := 11) 0 d_C_countGoodTouched_10 rfl rfl rfl ?_
      refine gf_C_32 (q := 14) d_C_countGoodTouched_11 rfl ?_
      refine ok_iload_n (q := 15) 2 d_C_countGoodTouched_14 rfl rfl rfl ?_
      obtain ⟨hg, h⟩ := gd_e h
      obtain ⟨x1, e_x1, h⟩ := st_e h
      refine al_C_8 (q := 16) hg e_x1 d_C_countGoodTouched_15 rfl ?_
      refine ok_if_ne (q := 19) (t := 31) d_C_countGoodTouched_16 (by decide) rfl (fun hc => ?_) (fun hc => ?_)
      · replace h := if_f hc h
        obtain ⟨x2, e_x2, h⟩ := st_e h
        refine ok_iinc (d := (1 : Int32)) (q := 34) (lv := [(2, .int x2), (0, .ref (a 1)), (1, .int p1)]) 2 d_C_countGoodTouched_31 rfl (by decide) e_x2 (by decide) rfl rfl ?_
        refine ok_goto (q := 4) d_C_countGoodTouched_34 (by decide) ?_
        exact ok_sub [1, 2, 0] rfl (ih p1 x2 _ _ _ h)
      · replace h := if_t hc h
        refine ok_aload_n (q := 20) 0 d_C_countGoodTouched_19 rfl rfl rfl ?_
        refine gf_C_35 (q := 23) d_C_countGoodTouched_20 rfl ?_
        refine ok_iload_n (q := 24) 2 d_C_countGoodTouched_23 rfl rfl rfl ?_
        obtain ⟨hg, h⟩ := gd_e h
        obtain ⟨x3, e_x3, h⟩ := st_e h
        refine al_C_9 (q := 25) hg e_x3 d_C_countGoodTouched_24 rfl ?_
        refine ok_if_eq (q := 28) (t := 31) d_C_countGoodTouched_25 (by decide) rfl (fun hc => ?_) (fun hc => ?_)
        · replace h := if_t hc h
          obtain ⟨x4, e_x4, h⟩ := st_e h
          refine ok_iinc (d := (1 : Int32)) (q := 34) (lv := [(2, .int x4), (0, .ref (a 1)), (1, .int p1)]) 2 d_C_countGoodTouched_31 rfl (by decide) e_x4 (by decide) rfl rfl ?_
          refine ok_goto (q := 4) d_C_countGoodTouched_34 (by decide) ?_
          exact ok_sub [1, 2, 0] rfl (ih p1 x4 _ _ _ h)
        · replace h := if_f hc h
          obtain ⟨x5, e_x5, h⟩ := st_e h
          refine ok_iinc (d := (1 : Int32)) (q := 31) (lv := [(1, .int x5), (0, .ref (a 1)), (2, .int p2)]) 1 d_C_countGoodTouched_28 rfl (by decide) e_x5 (by decide) rfl rfl ?_
          obtain ⟨x6, e_x6, h⟩ := st_e h
          refine ok_iinc (d := (1 : Int32)) (q := 34) (lv := [(2, .int x6), (1, .int x5), (0, .ref (a 1))]) 2 d_C_countGoodTouched_31 rfl (by decide) e_x6 (by decide) rfl rfl ?_
          refine ok_goto (q := 4) d_C_countGoodTouched_34 (by decide) ?_
          exact ok_sub [2, 1, 0] rfl (ih x5 x6 _ _ _ h)
set_option maxRecDepth 20000 in
set_option maxHeartbeats 4000000 in
theorem wk_C_countGoodTouched (S : TC) (z : Int32) (Sz : TC) (h : fn_C_countGoodTouched S = some (z, Sz)) : Ok (wC g a) D (tyC g) l rm_C_countGoodTouched R_C b_C_countGoodTouched 3 (some .int) S 0 [(0, .ref (a 1))] [] (pI z Sz) := by
  unfold fn_C_countGoodTouched at h
  refine ok_iconst (v := (0 : Int32)) (q := 1) d_C_countGoodTouched_0 (by decide) rfl ?_
  refine ok_istore_n (q := 2) (lv := [(1, .int (0 : Int32)), (0, .ref (a 1))]) d_C_countGoodTouched_1 rfl (by decide) rfl rfl ?_
  refine ok_iconst (v := (0 : Int32)) (q := 3) d_C_countGoodTouched_2 (by decide) rfl ?_
  refine ok_istore_n (q := 4) (lv := [(2, .int (0 : Int32)), (1, .int (0 : Int32)), (0, .ref (a 1))]) d_C_countGoodTouched_3 rfl (by decide) rfl rfl ?_
  exact ok_sub [2, 1, 0] rfl (wl_C_countGoodTouched_4 64 (0 : Int32) (0 : Int32) _ _ _ h)
set_option maxRecDepth 20000 in
set_option maxHeartbeats 4000000 in
theorem ct_C_countGoodTouched (S : TC) (z : Int32) (Sz : TC) (h : fn_C_countGoodTouched S = some (z, Sz)) : Ct (wC g a) D (tyC g) l y_C_countGoodTouched b_C_countGoodTouched 3 (some .int) rm_C_countGoodTouched [.ref (a 1)] S (pI z Sz) := ct_of (by decide) (Nat.le_of_ble_eq_true rfl) rfl (wk_C_countGoodTouched S z Sz h)
theorem cs_S_123 {l : Launch} {D : va_G} {g : Nat → ClassId} {a : Nat → Nat} {rm : Room} {b : ByteArray} {nL : Nat} {ret : Option FieldType} {pc q : Nat} {Lc : List (Nat × Value)} {St : List Value} {S S2 : TC} {Post : Option Value → TC → Prop} {z : Int32} (hk : fn_C_countGoodTouched S = some (z, S2)) (hd : decode b pc = .ok (.invokevirtual 123, 3)) (hq : pc + 3 = q) (hrm : rm_C_countGoodTouched.frames + 1 ≤ rm.frames ∧ 8 + (3 + 11) + rm_C_countGoodTouched.locals ≤ rm.locals) (hroom : (St.map fun v => v.category).sum ≤ 8) (k : Ok (wC g a) D (tyC g) l rm R_S b nL ret S2 q Lc (.int z :: St) Post) : Ok (wC g a) D (tyC g) l rm R_S b nL ret S pc Lc (.ref (a 1) :: St) Post := by
  subst hq
  exact ok_cV (As := []) (n := 0) (C := R_C) (T := F_C) (N := 11) (ci := 1) (q0 := 1) (ct_C_countGoodTouched S z S2 hk) hd wm_304 ⟨wm_305, wm_306, wm_307, wm_69⟩ (by decide +kernel) ⟨⟨rfl, rfl⟩, hrm⟩ rfl rfl rfl rfl hroom ⟨Nat.zero_le _, Nat.zero_le _⟩ (fun v u h => by obtain ⟨rfl, rfl⟩ := h; exact k)
set_option maxRecDepth 20000 in
set_option maxHeartbeats 4000000 in
theorem wl_S_markStale_2 (n : Nat) : ∀ (p1 : Int32) (S : TC) (z : Int32) (Sz : TC), lp_S_markStale_2 n S p1 = some (z, Sz) → Ok (wC g a) D (tyC g) l rm_S_markStale R_S b_S_markStale 2 (some .boolean) S 2 [(0, .ref (a 0)), (1, .int p1)] [] (pI z Sz) := by
  induction n with
  | zero => intro p1 S z Sz h; exact absurd h (fun h => by cases h)
  | succ n ih =>
    intro p1 S z Sz h
    rw [le_S_markStale_2] at h
    refine ok_iload_n (q := 3) 1 d_S_markStale_2 rfl rfl rfl ?_
    refine ok_bipush (v := (48 : Int32)) (q := 5) d_S_markStale_3 (by decide) rfl ?_
    refine ok_icmp_ge (q := 8) (t := 36) d_S_markStale_5 (by decide) rfl (fun hc => ?_) (fun hc => ?_)
    · replace h := if_t hc h
      refine ok_iconst (v := (1 : Int32)) (q := 37) d_S_markStale_36 (by decide) rfl ?_
      obtain ⟨rfl, rfl⟩ := so_e h
      exact ok_zret d_S_markStale_37 (by decide) ⟨rfl, rfl⟩
    · replace h := if_f hc h
      refine ok_aload_n (q := 9) 0 d_S_markStale_8 rfl rfl rfl ?_
      refine gf_S_16 (q := 12) d_S_markStale_9 rfl ?_
      refine ok_iload_n (q := 13) 1 d_S_markStale_12 rfl rfl rfl ?_
      obtain ⟨hg, h⟩ := gd_e h
      obtain ⟨x1, e_x1, h⟩ := st_e h
      refine al_C_10 (q := 14) hg e_x1 d_S_markStale_13 rfl ?_
      refine ok_if_eq (q := 17) (t := 30) d_S_markStale_14 (by decide) rfl (fun hc => ?_) (fun hc => ?_)
      · replace h := if_t hc h
        obtain ⟨x2, e_x2, h⟩ := st_e h
        refine ok_iinc (d := (1 : Int32)) (q := 33) (lv := [(1, .int x2), (0, .ref (a 0))]) 1 d_S_markStale_30 rfl (by decide) e_x2 (by decide) rfl rfl ?_
        refine ok_goto (q := 2) d_S_markStale_33 (by decide) ?_
        exact ok_sub [1, 0] rfl (ih x2 _ _ _ h)
      · replace h := if_f hc h
        refine ok_aload_n (q := 18) 0 d_S_markStale_17 rfl rfl rfl ?_
        refine gf_S_12 (q := 21) d_S_markStale_18 rfl ?_
        refine ok_iload_n (q := 22) 1 d_S_markStale_21 rfl rfl rfl ?_
        obtain ⟨x5, S3, hk, h⟩ := bd_e h
        refine cs_S_185 (q := 25) hk d_S_markStale_22 rfl (by decide) (Nat.le_of_ble_eq_true rfl) ?_
        refine ok_if_ne (q := 28) (t := 30) d_S_markStale_25 (by decide) rfl (fun hc => ?_) (fun hc => ?_)
        · replace h := if_f hc h
          obtain ⟨x6, e_x6, h⟩ := st_e h
          refine ok_iinc (d := (1 : Int32)) (q := 33) (lv := [(1, .int x6), (0, .ref (a 0))]) 1 d_S_markStale_30 rfl (by decide) e_x6 (by decide) rfl rfl ?_
          refine ok_goto (q := 2) d_S_markStale_33 (by decide) ?_
          exact ok_sub [1, 0] rfl (ih x6 _ _ _ h)
        · replace h := if_t hc h
          refine ok_iconst (v := (0 : Int32)) (q := 29) d_S_markStale_28 (by decide) rfl ?_
          obtain ⟨rfl, rfl⟩ := so_e h
          exact ok_zret d_S_markStale_29 (by decide) ⟨rfl, rfl⟩
set_option maxRecDepth 20000 in
set_option maxHeartbeats 4000000 in
theorem wk_S_markStale (S : TC) (z : Int32) (Sz : TC) (h : fn_S_markStale S = some (z, Sz)) : Ok (wC g a) D (tyC g) l rm_S_markStale R_S b_S_markStale 2 (some .boolean) S 0 [(0, .ref (a 0))] [] (pI z Sz) := by
  unfold fn_S_markStale at h
  refine ok_iconst (v := (0 : Int32)) (q := 1) d_S_markStale_0 (by decide) rfl ?_
  refine ok_istore_n (q := 2) (lv := [(1, .int (0 : Int32)), (0, .ref (a 0))]) d_S_markStale_1 rfl (by decide) rfl rfl ?_
  exact ok_sub [1, 0] rfl (wl_S_markStale_2 64 (0 : Int32) _ _ _ h)
set_option maxRecDepth 20000 in
set_option maxHeartbeats 4000000 in
theorem ct_S_markStale (S : TC) (z : Int32) (Sz : TC) (h : fn_S_markStale S = some (z, Sz)) : Ct (wC g a) D (tyC g) l y_S_markStale b_S_markStale 2 (some .boolean) rm_S_markStale [.ref (a 0)] S (pI z Sz) := ct_of (by decide) (Nat.le_of_ble_eq_true rfl) rfl (wk_S_markStale S z Sz h)
theorem cs_S_129 {l : Launch} {D : va_G} {g : Nat → ClassId} {a : Nat → Nat} {rm : Room} {b : ByteArray} {nL : Nat} {ret : Option FieldType} {pc q : Nat} {Lc : List (Nat × Value)} {St : List Value} {S S2 : TC} {Post : Option Value → TC → Prop} {z : Int32} (hk : fn_S_markStale S = some (z, S2)) (hd : decode b pc = .ok (.invokevirtual 129, 3)) (hq : pc + 3 = q) (hrm : rm_S_markStale.frames + 1 ≤ rm.frames ∧ 8 + (2 + 11) + rm_S_markStale.locals ≤ rm.locals) (hroom : (St.map fun v => v.category).sum ≤ 8) (k : Ok (wC g a) D (tyC g) l rm R_S b nL ret S2 q Lc (.int z :: St) Post) : Ok (wC g a) D (tyC g) l rm R_S b nL ret S pc Lc (.ref (a 0) :: St) Post := by
  subst hq
  exact ok_cV (As := []) (n := 0) (C := R_S) (T := F_S) (N := 3) (ci := 0) (q0 := 0) (ct_S_markStale S z S2 hk) hd wm_312 ⟨wm_313, wm_314, wm_315, wm_204⟩ (by decide +kernel) ⟨⟨rfl, rfl⟩, hrm⟩ rfl rfl rfl rfl hroom ⟨Nat.zero_le _, Nat.zero_le _⟩ (fun v u h => by obtain ⟨rfl, rfl⟩ := h; exact k)
set_option maxRecDepth 20000 in
set_option maxHeartbeats 4000000 in
theorem wk_T_follow (p0 : Int32) (p1 : Int32) (S : TC) (z : Int32) (Sz : TC) (h : fn_T_follow S p0 p1 = some (z, Sz)) : Ok (wC g a) D (tyC g) l rm_T_follow R_T b_T_follow 2 (some .boolean) S 0 [(0, .int p0), (1, .int p1)] [] (pI z Sz) := by
  unfold fn_T_follow at h
  refine ok_iload_n (q := 1) 0 d_T_follow_0 rfl rfl rfl ?_
  refine ok_bipush (v := (63 : Int32)) (q := 3) d_T_follow_1 (by decide) rfl ?_
  refine ok_iand (q := 4) d_T_follow_3 rfl ?_
  refine ok_iload_n (q := 5) 1 d_T_follow_4 rfl rfl rfl ?_
  refine ok_bipush (v := (63 : Int32)) (q := 7) d_T_follow_5 (by decide) rfl ?_
  refine ok_iand (q := 8) d_T_follow_7 rfl ?_
  refine ok_icmp_ne (q := 11) (t := 30) d_T_follow_8 (by decide) rfl (fun hc => ?_) (fun hc => ?_)
  · replace h := if_f hc h
    refine ok_iconst (v := (0 : Int32)) (q := 31) d_T_follow_30 (by decide) rfl ?_
    obtain ⟨rfl, rfl⟩ := so_e h
    exact ok_zret d_T_follow_31 (by decide) ⟨rfl, rfl⟩
  · replace h := if_t hc h
    refine ok_iload_n (q := 12) 0 d_T_follow_11 rfl rfl rfl ?_
    obtain ⟨x3, S1, hk, h⟩ := bd_e h
    refine cs_T_14 (q := 15) hk d_T_follow_12 rfl (by decide) (Nat.le_of_ble_eq_true rfl) ?_
    refine ok_iload_n (q := 16) 1 d_T_follow_15 rfl rfl rfl ?_
    refine ok_sipush (v := (192 : Int32)) (q := 19) d_T_follow_16 (by decide) rfl ?_
    refine ok_iand (q := 20) d_T_follow_19 rfl ?_
    refine ok_bipush (v := (6 : Int32)) (q := 22) d_T_follow_20 (by decide) rfl ?_
    refine ok_ishr (q := 23) d_T_follow_22 rfl ?_
    refine ok_icmp_ne (q := 26) (t := 30) d_T_follow_23 (by decide) rfl (fun hc => ?_) (fun hc => ?_)
    · replace h := if_f hc h
      refine ok_iconst (v := (0 : Int32)) (q := 31) d_T_follow_30 (by decide) rfl ?_
      obtain ⟨rfl, rfl⟩ := so_e h
      exact ok_zret d_T_follow_31 (by decide) ⟨rfl, rfl⟩
    · replace h := if_t hc h
      refine ok_iconst (v := (1 : Int32)) (q := 27) d_T_follow_26 (by decide) rfl ?_
      refine ok_goto (q := 31) d_T_follow_27 (by decide) ?_
      obtain ⟨rfl, rfl⟩ := so_e h
      exact ok_zret d_T_follow_31 (by decide) ⟨rfl, rfl⟩
set_option maxRecDepth 20000 in
set_option maxHeartbeats 4000000 in
theorem ct_T_follow (p0 : Int32) (p1 : Int32) (S : TC) (z : Int32) (Sz : TC) (h : fn_T_follow S p0 p1 = some (z, Sz)) : Ct (wC g a) D (tyC g) l y_T_follow b_T_follow 2 (some .boolean) rm_T_follow [.int p0, .int p1] S (pI z Sz) := ct_of (by decide) (Nat.le_of_ble_eq_true rfl) rfl (wk_T_follow p0 p1 S z Sz h)
theorem cs_C_79 {l : Launch} {D : va_G} {g : Nat → ClassId} {a : Nat → Nat} {rm : Room} {b : ByteArray} {nL : Nat} {ret : Option FieldType} {pc q : Nat} {Lc : List (Nat × Value)} {St : List Value} {S S2 : TC} {Post : Option Value → TC → Prop} {p0 : Int32} {p1 : Int32} {z : Int32} (hk : fn_T_follow S p0 p1 = some (z, S2)) (hd : decode b pc = .ok (.invokestatic 79, 3)) (hq : pc + 3 = q) (hrm : rm_T_follow.frames + 1 ≤ rm.frames ∧ 8 + (2 + 11) + rm_T_follow.locals ≤ rm.locals) (hroom : (St.map fun v => v.category).sum ≤ 8) (k : Ok (wC g a) D (tyC g) l rm R_C b nL ret S2 q Lc (.int z :: St) Post) : Ok (wC g a) D (tyC g) l rm R_C b nL ret S pc Lc (.int p1 :: .int p0 :: St) Post := by
  subst hq
  exact ok_cS (As := [.int p0, .int p1]) (n := 2) (ct_T_follow p0 p1 S z S2 hk) hd wm_93 ⟨wm_94, wm_95, wm_73⟩ (by decide +kernel) ⟨⟨rfl, rfl⟩, hrm⟩ rfl rfl hroom ⟨Nat.zero_le _, Nat.zero_le _⟩ (fun v u h => by obtain ⟨rfl, rfl⟩ := h; exact k)
set_option maxRecDepth 20000 in
set_option maxHeartbeats 4000000 in
theorem wl_C_hasSuccessor_2 (n : Nat) : ∀ (p1 : Int32) (p2 : Int32) (S : TC) (z : Int32) (Sz : TC), lp_C_hasSuccessor_2 n S p1 p2 = some (z, Sz) → Ok (wC g a) D (tyC g) l rm_C_hasSuccessor R_C b_C_hasSuccessor 3 (some .boolean) S 2 [(0, .ref (a 1)), (1, .int p1), (2, .int p2)] [] (pI z Sz) := by
  induction n with
  | zero => intro p1 p2 S z Sz h; exact absurd h (fun h => by cases h)
  | succ n ih =>
    intro p1 p2 S z Sz h
    rw [le_C_hasSuccessor_2] at h
    refine ok_iload_n (q := 3) 2 d_C_hasSuccessor_2 rfl rfl rfl ?_
    refine ok_bipush (v := (48 : Int32)) (q := 5) d_C_hasSuccessor_3 (by decide) rfl ?_
    refine ok_icmp_ge (q := 8) (t := 42) d_C_hasSuccessor_5 (by decide) rfl (fun hc => ?_) (fun hc => ?_)
    · replace h := if_t hc h
      refine ok_iconst (v := (0 : Int32)) (q := 43) d_C_hasSuccessor_42 (by decide) rfl ?_
      obtain ⟨rfl, rfl⟩ := so_e h
      exact ok_zret d_C_hasSuccessor_43 (by decide) ⟨rfl, rfl⟩
    · replace h := if_f hc h
      refine ok_aload_n (q := 9) 0 d_C_hasSuccessor_8 rfl rfl rfl ?_
      refine ok_iload_n (q := 10) 2 d_C_hasSuccessor_9 rfl rfl rfl ?_
      obtain ⟨x3, S1, hk, h⟩ := bd_e h
      refine cs_C_69 (q := 13) hk d_C_hasSuccessor_10 rfl (by decide) (Nat.le_of_ble_eq_true rfl) ?_
      refine ok_if_eq (q := 16) (t := 36) d_C_hasSuccessor_13 (by decide) rfl (fun hc => ?_) (fun hc => ?_)
      · replace h := if_t hc h
        obtain ⟨x4, e_x4, h⟩ := st_e h
        refine ok_iinc (d := (1 : Int32)) (q := 39) (lv := [(2, .int x4), (0, .ref (a 1)), (1, .int p1)]) 2 d_C_hasSuccessor_36 rfl (by decide) e_x4 (by decide) rfl rfl ?_
        refine ok_goto (q := 2) d_C_hasSuccessor_39 (by decide) ?_
        exact ok_sub [1, 2, 0] rfl (ih p1 x4 _ _ _ h)
      · replace h := if_f hc h
        refine ok_aload_n (q := 17) 0 d_C_hasSuccessor_16 rfl rfl rfl ?_
        refine gf_C_9 (q := 20) d_C_hasSuccessor_17 rfl ?_
        refine ok_iload_n (q := 21) 1 d_C_hasSuccessor_20 rfl rfl rfl ?_
        obtain ⟨hg, h⟩ := gd_e h
        obtain ⟨x5, e_x5, h⟩ := st_e h
        refine al_C_2 (q := 22) hg e_x5 d_C_hasSuccessor_21 rfl ?_
        refine ok_aload_n (q := 23) 0 d_C_hasSuccessor_22 rfl rfl rfl ?_
        refine gf_C_9 (q := 26) d_C_hasSuccessor_23 rfl ?_
        refine ok_iload_n (q := 27) 2 d_C_hasSuccessor_26 rfl rfl rfl ?_
        obtain ⟨hg, h⟩ := gd_e h
        obtain ⟨x6, e_x6, h⟩ := st_e h
        refine al_C_2 (q := 28) hg e_x6 d_C_hasSuccessor_27 rfl ?_
        obtain ⟨x9, S7, hk, h⟩ := bd_e h
        refine cs_C_79 (q := 31) hk d_C_hasSuccessor_28 rfl (by decide) (Nat.le_of_ble_eq_true rfl) ?_
        refine ok_if_eq (q := 34) (t := 36) d_C_hasSuccessor_31 (by decide) rfl (fun hc => ?_) (fun hc => ?_)
        · replace h := if_t hc h
          obtain ⟨x10, e_x10, h⟩ := st_e h
          refine ok_iinc (d := (1 : Int32)) (q := 39) (lv := [(2, .int x10), (0, .ref (a 1)), (1, .int p1)]) 2 d_C_hasSuccessor_36 rfl (by decide) e_x10 (by decide) rfl rfl ?_
          refine ok_goto (q := 2) d_C_hasSuccessor_39 (by decide) ?_
          exact ok_sub [1, 2, 0] rfl (ih p1 x10 _ _ _ h)
        · replace h := if_f hc h
          refine ok_iconst (v := (1 : Int32)) (q := 35) d_C_hasSuccessor_34 (by decide) rfl ?_
          obtain ⟨rfl, rfl⟩ := so_e h
          exact ok_zret d_C_hasSuccessor_35 (by decide) ⟨rfl, rfl⟩
set_option maxRecDepth 20000 in
set_option maxHeartbeats 4000000 in
theorem wk_C_hasSuccessor (p1 : Int32) (S : TC) (z : Int32) (Sz : TC) (h : fn_C_hasSuccessor S p1 = some (z, Sz)) : Ok (wC g a) D (tyC g) l rm_C_hasSuccessor R_C b_C_hasSuccessor 3 (some .boolean) S 0 [(0, .ref (a 1)), (1, .int p1)] [] (pI z Sz) := by
  unfold fn_C_hasSuccessor at h
  refine ok_iconst (v := (0 : Int32)) (q := 1) d_C_hasSuccessor_0 (by decide) rfl ?_
  refine ok_istore_n (q := 2) (lv := [(2, .int (0 : Int32)), (0, .ref (a 1)), (1, .int p1)]) d_C_hasSuccessor_1 rfl (by decide) rfl rfl ?_
  exact ok_sub [1, 2, 0] rfl (wl_C_hasSuccessor_2 64 p1 (0 : Int32) _ _ _ h)
set_option maxRecDepth 20000 in
set_option maxHeartbeats 4000000 in
theorem ct_C_hasSuccessor (p1 : Int32) (S : TC) (z : Int32) (Sz : TC) (h : fn_C_hasSuccessor S p1 = some (z, Sz)) : Ct (wC g a) D (tyC g) l y_C_hasSuccessor b_C_hasSuccessor 3 (some .boolean) rm_C_hasSuccessor [.ref (a 1), .int p1] S (pI z Sz) := ct_of (by decide) (Nat.le_of_ble_eq_true rfl) rfl (wk_C_hasSuccessor p1 S z Sz h)
theorem cs_C_76 {l : Launch} {D : va_G} {g : Nat → ClassId} {a : Nat → Nat} {rm : Room} {b : ByteArray} {nL : Nat} {ret : Option FieldType} {pc q : Nat} {Lc : List (Nat × Value)} {St : List Value} {S S2 : TC} {Post : Option Value → TC → Prop} {p1 : Int32} {z : Int32} (hk : fn_C_hasSuccessor S p1 = some (z, S2)) (hd : decode b pc = .ok (.invokevirtual 76, 3)) (hq : pc + 3 = q) (hrm : rm_C_hasSuccessor.frames + 1 ≤ rm.frames ∧ 8 + (3 + 11) + rm_C_hasSuccessor.locals ≤ rm.locals) (hroom : (St.map fun v => v.category).sum ≤ 8) (k : Ok (wC g a) D (tyC g) l rm R_C b nL ret S2 q Lc (.int z :: St) Post) : Ok (wC g a) D (tyC g) l rm R_C b nL ret S pc Lc (.int p1 :: .ref (a 1) :: St) Post := by
  subst hq
  exact ok_cV (As := [.int p1]) (n := 1) (C := R_C) (T := F_C) (N := 11) (ci := 1) (q0 := 1) (ct_C_hasSuccessor p1 S z S2 hk) hd wm_89 ⟨wm_90, wm_91, wm_92, wm_69⟩ (by decide +kernel) ⟨⟨rfl, rfl⟩, hrm⟩ rfl rfl rfl rfl hroom ⟨Nat.zero_le _, Nat.zero_le _⟩ (fun v u h => by obtain ⟨rfl, rfl⟩ := h; exact k)
theorem cs_S_222 {l : Launch} {D : va_G} {g : Nat → ClassId} {a : Nat → Nat} {rm : Room} {b : ByteArray} {nL : Nat} {ret : Option FieldType} {pc q : Nat} {Lc : List (Nat × Value)} {St : List Value} {S S2 : TC} {Post : Option Value → TC → Prop} {p1 : Int32} {z : Int32} (hk : fn_C_hasSuccessor S p1 = some (z, S2)) (hd : decode b pc = .ok (.invokevirtual 222, 3)) (hq : pc + 3 = q) (hrm : rm_C_hasSuccessor.frames + 1 ≤ rm.frames ∧ 8 + (3 + 11) + rm_C_hasSuccessor.locals ≤ rm.locals) (hroom : (St.map fun v => v.category).sum ≤ 8) (k : Ok (wC g a) D (tyC g) l rm R_S b nL ret S2 q Lc (.int z :: St) Post) : Ok (wC g a) D (tyC g) l rm R_S b nL ret S pc Lc (.int p1 :: .ref (a 1) :: St) Post := by
  subst hq
  exact ok_cV (As := [.int p1]) (n := 1) (C := R_C) (T := F_C) (N := 11) (ci := 1) (q0 := 1) (ct_C_hasSuccessor p1 S z S2 hk) hd wm_89 ⟨wm_374, wm_91, wm_92, wm_69⟩ (by decide +kernel) ⟨⟨rfl, rfl⟩, hrm⟩ rfl rfl rfl rfl hroom ⟨Nat.zero_le _, Nat.zero_le _⟩ (fun v u h => by obtain ⟨rfl, rfl⟩ := h; exact k)
set_option maxRecDepth 20000 in
set_option maxHeartbeats 4000000 in
theorem wl_C_latestHeader_2 (n : Nat) : ∀ (p1 : Int32) (p2 : Int32) (S : TC) (z : Int32) (Sz : TC), lp_C_latestHeader_2 n S p1 p2 = some (z, Sz) → Ok (wC g a) D (tyC g) l rm_C_latestHeader R_C b_C_latestHeader 3 (some .int) S 2 [(0, .ref (a 1)), (1, .int p1), (2, .int p2)] [] (pI z Sz) := by
  induction n with
  | zero => intro p1 p2 S z Sz h; exact absurd h (fun h => by cases h)
  | succ n ih =>
    intro p1 p2 S z Sz h
    rw [le_C_latestHeader_2] at h
    refine ok_iload_n (q := 3) 2 d_C_latestHeader_2 rfl rfl rfl ?_
    refine ok_bipush (v := (48 : Int32)) (q := 5) d_C_latestHeader_3 (by decide) rfl ?_
    refine ok_icmp_ge (q := 8) (t := 46) d_C_latestHeader_5 (by decide) rfl (fun hc => ?_) (fun hc => ?_)
    · replace h := if_t hc h
      refine ok_iconst (v := (-1 : Int32)) (q := 47) d_C_latestHeader_46 (by decide) rfl ?_
      obtain ⟨rfl, rfl⟩ := so_e h
      exact ok_iret d_C_latestHeader_47 ⟨rfl, rfl⟩
    · replace h := if_f hc h
      refine ok_aload_n (q := 9) 0 d_C_latestHeader_8 rfl rfl rfl ?_
      refine ok_iload_n (q := 10) 2 d_C_latestHeader_9 rfl rfl rfl ?_
      obtain ⟨x3, S1, hk, h⟩ := bd_e h
      refine cs_C_69 (q := 13) hk d_C_latestHeader_10 rfl (by decide) (Nat.le_of_ble_eq_true rfl) ?_
      refine ok_if_eq (q := 16) (t := 40) d_C_latestHeader_13 (by decide) rfl (fun hc => ?_) (fun hc => ?_)
      · replace h := if_t hc h
        obtain ⟨x4, e_x4, h⟩ := st_e h
        refine ok_iinc (d := (1 : Int32)) (q := 43) (lv := [(2, .int x4), (0, .ref (a 1)), (1, .int p1)]) 2 d_C_latestHeader_40 rfl (by decide) e_x4 (by decide) rfl rfl ?_
        refine ok_goto (q := 2) d_C_latestHeader_43 (by decide) ?_
        exact ok_sub [1, 2, 0] rfl (ih p1 x4 _ _ _ h)
      · replace h := if_f hc h
        refine ok_aload_n (q := 17) 0 d_C_latestHeader_16 rfl rfl rfl ?_
        refine gf_C_9 (q := 20) d_C_latestHeader_17 rfl ?_
        refine ok_iload_n (q := 21) 2 d_C_latestHeader_20 rfl rfl rfl ?_
        obtain ⟨hg, h⟩ := gd_e h
        obtain ⟨x5, e_x5, h⟩ := st_e h
        refine al_C_2 (q := 22) hg e_x5 d_C_latestHeader_21 rfl ?_
        refine ok_iload_n (q := 23) 1 d_C_latestHeader_22 rfl rfl rfl ?_
        refine ok_iconst (v := (0 : Int32)) (q := 24) d_C_latestHeader_23 (by decide) rfl ?_
        obtain ⟨x8, S6, hk, h⟩ := bd_e h
        refine cs_C_72 (q := 27) hk d_C_latestHeader_24 rfl (by decide) (Nat.le_of_ble_eq_true rfl) ?_
        refine ok_if_eq (q := 30) (t := 40) d_C_latestHeader_27 (by decide) rfl (fun hc => ?_) (fun hc => ?_)
        · replace h := if_t hc h
          obtain ⟨x9, e_x9, h⟩ := st_e h
          refine ok_iinc (d := (1 : Int32)) (q := 43) (lv := [(2, .int x9), (0, .ref (a 1)), (1, .int p1)]) 2 d_C_latestHeader_40 rfl (by decide) e_x9 (by decide) rfl rfl ?_
          refine ok_goto (q := 2) d_C_latestHeader_43 (by decide) ?_
          exact ok_sub [1, 2, 0] rfl (ih p1 x9 _ _ _ h)
        · replace h := if_f hc h
          refine ok_aload_n (q := 31) 0 d_C_latestHeader_30 rfl rfl rfl ?_
          refine ok_iload_n (q := 32) 2 d_C_latestHeader_31 rfl rfl rfl ?_
          obtain ⟨x12, S10, hk, h⟩ := bd_e h
          refine cs_C_76 (q := 35) hk d_C_latestHeader_32 rfl (by decide) (Nat.le_of_ble_eq_true rfl) ?_
          refine ok_if_ne (q := 38) (t := 40) d_C_latestHeader_35 (by decide) rfl (fun hc => ?_) (fun hc => ?_)
          · replace h := if_f hc h
            obtain ⟨x13, e_x13, h⟩ := st_e h
            refine ok_iinc (d := (1 : Int32)) (q := 43) (lv := [(2, .int x13), (0, .ref (a 1)), (1, .int p1)]) 2 d_C_latestHeader_40 rfl (by decide) e_x13 (by decide) rfl rfl ?_
            refine ok_goto (q := 2) d_C_latestHeader_43 (by decide) ?_
            exact ok_sub [1, 2, 0] rfl (ih p1 x13 _ _ _ h)
          · replace h := if_t hc h
            refine ok_iload_n (q := 39) 2 d_C_latestHeader_38 rfl rfl rfl ?_
            obtain ⟨rfl, rfl⟩ := so_e h
            exact ok_iret d_C_latestHeader_39 ⟨rfl, rfl⟩
set_option maxRecDepth 20000 in
set_option maxHeartbeats 4000000 in
theorem wk_C_latestHeader (p1 : Int32) (S : TC) (z : Int32) (Sz : TC) (h : fn_C_latestHeader S p1 = some (z, Sz)) : Ok (wC g a) D (tyC g) l rm_C_latestHeader R_C b_C_latestHeader 3 (some .int) S 0 [(0, .ref (a 1)), (1, .int p1)] [] (pI z Sz) := by
  unfold fn_C_latestHeader at h
  refine ok_iconst (v := (0 : Int32)) (q := 1) d_C_latestHeader_0 (by decide) rfl ?_
  refine ok_istore_n (q := 2) (lv := [(2, .int (0 : Int32)), (0, .ref (a 1)), (1, .int p1)]) d_C_latestHeader_1 rfl (by decide) rfl rfl ?_
  exact ok_sub [1, 2, 0] rfl (wl_C_latestHeader_2 64 p1 (0 : Int32) _ _ _ h)
set_option maxRecDepth 20000 in
set_option maxHeartbeats 4000000 in
theorem ct_C_latestHeader (p1 : Int32) (S : TC) (z : Int32) (Sz : TC) (h : fn_C_latestHeader S p1 = some (z, Sz)) : Ct (wC g a) D (tyC g) l y_C_latestHeader b_C_latestHeader 3 (some .int) rm_C_latestHeader [.ref (a 1), .int p1] S (pI z Sz) := ct_of (by decide) (Nat.le_of_ble_eq_true rfl) rfl (wk_C_latestHeader p1 S z Sz h)
theorem cs_S_234 {l : Launch} {D : va_G} {g : Nat → ClassId} {a : Nat → Nat} {rm : Room} {b : ByteArray} {nL : Nat} {ret : Option FieldType} {pc q : Nat} {Lc : List (Nat × Value)} {St : List Value} {S S2 : TC} {Post : Option Value → TC → Prop} {p1 : Int32} {z : Int32} (hk : fn_C_latestHeader S p1 = some (z, S2)) (hd : decode b pc = .ok (.invokevirtual 234, 3)) (hq : pc + 3 = q) (hrm : rm_C_latestHeader.frames + 1 ≤ rm.frames ∧ 8 + (3 + 11) + rm_C_latestHeader.locals ≤ rm.locals) (hroom : (St.map fun v => v.category).sum ≤ 8) (k : Ok (wC g a) D (tyC g) l rm R_S b nL ret S2 q Lc (.int z :: St) Post) : Ok (wC g a) D (tyC g) l rm R_S b nL ret S pc Lc (.int p1 :: .ref (a 1) :: St) Post := by
  subst hq
  exact ok_cV (As := [.int p1]) (n := 1) (C := R_C) (T := F_C) (N := 11) (ci := 1) (q0 := 1) (ct_C_latestHeader p1 S z S2 hk) hd wm_385 ⟨wm_386, wm_387, wm_388, wm_69⟩ (by decide +kernel) ⟨⟨rfl, rfl⟩, hrm⟩ rfl rfl rfl rfl hroom ⟨Nat.zero_le _, Nat.zero_le _⟩ (fun v u h => by obtain ⟨rfl, rfl⟩ := h; exact k)
set_option maxRecDepth 20000 in
set_option maxHeartbeats 4000000 in
theorem wk_T_chunk (p0 : Int32) (S : TC) (z : Int32) (Sz : TC) (h : fn_T_chunk S p0 = some (z, Sz)) : Ok (wC g a) D (tyC g) l rm_T_chunk R_T b_T_chunk 1 (some .int) S 0 [(0, .int p0)] [] (pI z Sz) := by
  unfold fn_T_chunk at h
  refine ok_iload_n (q := 1) 0 d_T_chunk_0 rfl rfl rfl ?_
  refine ok_iconst (v := (3 : Int32)) (q := 2) d_T_chunk_1 (by decide) rfl ?_
  refine ok_ishr (q := 3) d_T_chunk_2 rfl ?_
  refine ok_bipush (v := (7 : Int32)) (q := 5) d_T_chunk_3 (by decide) rfl ?_
  refine ok_iand (q := 6) d_T_chunk_5 rfl ?_
  obtain ⟨rfl, rfl⟩ := so_e h
  exact ok_iret d_T_chunk_6 ⟨rfl, rfl⟩
set_option maxRecDepth 20000 in
set_option maxHeartbeats 4000000 in
theorem ct_T_chunk (p0 : Int32) (S : TC) (z : Int32) (Sz : TC) (h : fn_T_chunk S p0 = some (z, Sz)) : Ct (wC g a) D (tyC g) l y_T_chunk b_T_chunk 1 (some .int) rm_T_chunk [.int p0] S (pI z Sz) := ct_of (by decide) (Nat.le_of_ble_eq_true rfl) rfl (wk_T_chunk p0 S z Sz h)
theorem cs_S_228 {l : Launch} {D : va_G} {g : Nat → ClassId} {a : Nat → Nat} {rm : Room} {b : ByteArray} {nL : Nat} {ret : Option FieldType} {pc q : Nat} {Lc : List (Nat × Value)} {St : List Value} {S S2 : TC} {Post : Option Value → TC → Prop} {p0 : Int32} {z : Int32} (hk : fn_T_chunk S p0 = some (z, S2)) (hd : decode b pc = .ok (.invokestatic 228, 3)) (hq : pc + 3 = q) (hrm : rm_T_chunk.frames + 1 ≤ rm.frames ∧ 8 + (1 + 11) + rm_T_chunk.locals ≤ rm.locals) (hroom : (St.map fun v => v.category).sum ≤ 8) (k : Ok (wC g a) D (tyC g) l rm R_S b nL ret S2 q Lc (.int z :: St) Post) : Ok (wC g a) D (tyC g) l rm R_S b nL ret S pc Lc (.int p0 :: St) Post := by
  subst hq
  exact ok_cS (As := [.int p0]) (n := 1) (ct_T_chunk p0 S z S2 hk) hd wm_379 ⟨wm_380, wm_381, wm_73⟩ (by decide +kernel) ⟨⟨rfl, rfl⟩, hrm⟩ rfl rfl hroom ⟨Nat.zero_le _, Nat.zero_le _⟩ (fun v u h => by obtain ⟨rfl, rfl⟩ := h; exact k)
set_option maxRecDepth 20000 in
set_option maxHeartbeats 4000000 in
theorem wk_T_object (p0 : Int32) (S : TC) (z : Int32) (Sz : TC) (h : fn_T_object S p0 = some (z, Sz)) : Ok (wC g a) D (tyC g) l rm_T_object R_T b_T_object 1 (some .int) S 0 [(0, .int p0)] [] (pI z Sz) := by
  unfold fn_T_object at h
  refine ok_iload_n (q := 1) 0 d_T_object_0 rfl rfl rfl ?_
  refine ok_bipush (v := (7 : Int32)) (q := 3) d_T_object_1 (by decide) rfl ?_
  refine ok_iand (q := 4) d_T_object_3 rfl ?_
  obtain ⟨rfl, rfl⟩ := so_e h
  exact ok_iret d_T_object_4 ⟨rfl, rfl⟩
set_option maxRecDepth 20000 in
set_option maxHeartbeats 4000000 in
theorem ct_T_object (p0 : Int32) (S : TC) (z : Int32) (Sz : TC) (h : fn_T_object S p0 = some (z, Sz)) : Ct (wC g a) D (tyC g) l y_T_object b_T_object 1 (some .int) rm_T_object [.int p0] S (pI z Sz) := ct_of (by decide) (Nat.le_of_ble_eq_true rfl) rfl (wk_T_object p0 S z Sz h)
theorem cs_S_231 {l : Launch} {D : va_G} {g : Nat → ClassId} {a : Nat → Nat} {rm : Room} {b : ByteArray} {nL : Nat} {ret : Option FieldType} {pc q : Nat} {Lc : List (Nat × Value)} {St : List Value} {S S2 : TC} {Post : Option Value → TC → Prop} {p0 : Int32} {z : Int32} (hk : fn_T_object S p0 = some (z, S2)) (hd : decode b pc = .ok (.invokestatic 231, 3)) (hq : pc + 3 = q) (hrm : rm_T_object.frames + 1 ≤ rm.frames ∧ 8 + (1 + 11) + rm_T_object.locals ≤ rm.locals) (hroom : (St.map fun v => v.category).sum ≤ 8) (k : Ok (wC g a) D (tyC g) l rm R_S b nL ret S2 q Lc (.int z :: St) Post) : Ok (wC g a) D (tyC g) l rm R_S b nL ret S pc Lc (.int p0 :: St) Post := by
  subst hq
  exact ok_cS (As := [.int p0]) (n := 1) (ct_T_object p0 S z S2 hk) hd wm_382 ⟨wm_383, wm_384, wm_73⟩ (by decide +kernel) ⟨⟨rfl, rfl⟩, hrm⟩ rfl rfl hroom ⟨Nat.zero_le _, Nat.zero_le _⟩ (fun v u h => by obtain ⟨rfl, rfl⟩ := h; exact k)
set_option maxRecDepth 20000 in
set_option maxHeartbeats 4000000 in
theorem wk_S_isBeyondFile (p1 : Int32) (S : TC) (z : Int32) (Sz : TC) (h : fn_S_isBeyondFile S p1 = some (z, Sz)) : Ok (wC g a) D (tyC g) l rm_S_isBeyondFile R_S b_S_isBeyondFile 4 (some .boolean) S 0 [(0, .ref (a 0)), (1, .int p1)] [] (pI z Sz) := by
  unfold fn_S_isBeyondFile at h
  refine ok_aload_n (q := 1) 0 d_S_isBeyondFile_0 rfl rfl rfl ?_
  refine gf_S_12 (q := 4) d_S_isBeyondFile_1 rfl ?_
  refine gf_S_154 (q := 7) d_S_isBeyondFile_4 rfl ?_
  refine ok_iload_n (q := 8) 1 d_S_isBeyondFile_7 rfl rfl rfl ?_
  obtain ⟨hg, h⟩ := gd_e h
  obtain ⟨x1, e_x1, h⟩ := st_e h
  refine al_C_2 (q := 9) hg e_x1 d_S_isBeyondFile_8 rfl ?_
  obtain ⟨x4, S2, hk, h⟩ := bd_e h
  refine cs_S_228 (q := 12) hk d_S_isBeyondFile_9 rfl (by decide) (Nat.le_of_ble_eq_true rfl) ?_
  refine ok_istore_n (q := 13) (lv := [(2, .int x4), (0, .ref (a 0)), (1, .int p1)]) d_S_isBeyondFile_12 rfl (by decide) rfl rfl ?_
  refine ok_iload_n (q := 14) 0 d_S_isBeyondFile_13 rfl rfl rfl ?_
  refine ok_if_ne (q := 17) (t := 19) d_S_isBeyondFile_14 (by decide) rfl (fun hc => ?_) (fun hc => ?_)
  · replace h := if_f hc h
    refine ok_aload_n (q := 20) 1 d_S_isBeyondFile_19 rfl rfl rfl ?_
    refine gf_S_12 (q := 23) d_S_isBeyondFile_20 rfl ?_
    refine ok_aload_n (q := 24) 1 d_S_isBeyondFile_23 rfl rfl rfl ?_
    refine gf_S_12 (q := 27) d_S_isBeyondFile_24 rfl ?_
    refine gf_S_154 (q := 30) d_S_isBeyondFile_27 rfl ?_
    refine ok_iload_n (q := 31) 2 d_S_isBeyondFile_30 rfl rfl rfl ?_
    obtain ⟨hg, h⟩ := gd_e h
    obtain ⟨x5, e_x5, h⟩ := st_e h
    refine al_C_2 (q := 32) hg e_x5 d_S_isBeyondFile_31 rfl ?_
    obtain ⟨x8, S6, hk, h⟩ := bd_e h
    refine cs_S_231 (q := 35) hk d_S_isBeyondFile_32 rfl (by decide) (Nat.le_of_ble_eq_true rfl) ?_
    obtain ⟨x11, S9, hk, h⟩ := bd_e h
    refine cs_S_234 (q := 38) hk d_S_isBeyondFile_35 rfl (by decide) (Nat.le_of_ble_eq_true rfl) ?_
    refine ok_istore_n (q := 39) (lv := [(3, .int x11), (2, .int x4), (0, .ref (a 0)), (1, .int p1)]) d_S_isBeyondFile_38 rfl (by decide) rfl rfl ?_
    refine ok_iload_n (q := 40) 0 d_S_isBeyondFile_39 rfl rfl rfl ?_
    refine ok_iconst (v := (-1 : Int32)) (q := 41) d_S_isBeyondFile_40 (by decide) rfl ?_
    refine ok_icmp_eq (q := 44) (t := 60) d_S_isBeyondFile_41 (by decide) rfl (fun hc => ?_) (fun hc => ?_)
    · replace h := if_t hc h
      refine ok_iconst (v := (1 : Int32)) (q := 61) d_S_isBeyondFile_60 (by decide) rfl ?_
      refine ok_goto (q := 65) d_S_isBeyondFile_61 (by decide) ?_
      obtain ⟨rfl, rfl⟩ := so_e h
      exact ok_zret d_S_isBeyondFile_65 (by decide) ⟨rfl, rfl⟩
    · replace h := if_f hc h
      refine ok_iload_n (q := 45) 1 d_S_isBeyondFile_44 rfl rfl rfl ?_
      refine ok_aload_n (q := 46) 2 d_S_isBeyondFile_45 rfl rfl rfl ?_
      refine gf_S_12 (q := 49) d_S_isBeyondFile_46 rfl ?_
      refine gf_S_154 (q := 52) d_S_isBeyondFile_49 rfl ?_
      refine ok_iload_n (q := 53) 0 d_S_isBeyondFile_52 rfl rfl rfl ?_
      obtain ⟨hg, h⟩ := gd_e h
      obtain ⟨x12, e_x12, h⟩ := st_e h
      refine al_C_2 (q := 54) hg e_x12 d_S_isBeyondFile_53 rfl ?_
      obtain ⟨x15, S13, hk, h⟩ := bd_e h
      refine cs_S_58 (q := 57) hk d_S_isBeyondFile_54 rfl (by decide) (Nat.le_of_ble_eq_true rfl) ?_
      refine ok_icmp_le (q := 60) (t := 64) d_S_isBeyondFile_57 (by decide) rfl (fun hc => ?_) (fun hc => ?_)
      · replace h := if_t hc h
        refine ok_iconst (v := (0 : Int32)) (q := 65) d_S_isBeyondFile_64 (by decide) rfl ?_
        obtain ⟨rfl, rfl⟩ := so_e h
        exact ok_zret d_S_isBeyondFile_65 (by decide) ⟨rfl, rfl⟩
      · replace h := if_f hc h
        refine ok_iconst (v := (1 : Int32)) (q := 61) d_S_isBeyondFile_60 (by decide) rfl ?_
        refine ok_goto (q := 65) d_S_isBeyondFile_61 (by decide) ?_
        obtain ⟨rfl, rfl⟩ := so_e h
        exact ok_zret d_S_isBeyondFile_65 (by decide) ⟨rfl, rfl⟩
  · replace h := if_t hc h
    refine ok_iconst (v := (0 : Int32)) (q := 18) d_S_isBeyondFile_17 (by decide) rfl ?_
    obtain ⟨rfl, rfl⟩ := so_e h
    exact ok_zret d_S_isBeyondFile_18 (by decide) ⟨rfl, rfl⟩
set_option maxRecDepth 20000 in
set_option maxHeartbeats 4000000 in
theorem ct_S_isBeyondFile (p1 : Int32) (S : TC) (z : Int32) (Sz : TC) (h : fn_S_isBeyondFile S p1 = some (z, Sz)) : Ct (wC g a) D (tyC g) l y_S_isBeyondFile b_S_isBeyondFile 4 (some .boolean) rm_S_isBeyondFile [.ref (a 0), .int p1] S (pI z Sz) := ct_of (by decide) (Nat.le_of_ble_eq_true rfl) rfl (wk_S_isBeyondFile p1 S z Sz h)
theorem cs_S_225 {l : Launch} {D : va_G} {g : Nat → ClassId} {a : Nat → Nat} {rm : Room} {b : ByteArray} {nL : Nat} {ret : Option FieldType} {pc q : Nat} {Lc : List (Nat × Value)} {St : List Value} {S S2 : TC} {Post : Option Value → TC → Prop} {p1 : Int32} {z : Int32} (hk : fn_S_isBeyondFile S p1 = some (z, S2)) (hd : decode b pc = .ok (.invokevirtual 225, 3)) (hq : pc + 3 = q) (hrm : rm_S_isBeyondFile.frames + 1 ≤ rm.frames ∧ 8 + (4 + 11) + rm_S_isBeyondFile.locals ≤ rm.locals) (hroom : (St.map fun v => v.category).sum ≤ 8) (k : Ok (wC g a) D (tyC g) l rm R_S b nL ret S2 q Lc (.int z :: St) Post) : Ok (wC g a) D (tyC g) l rm R_S b nL ret S pc Lc (.int p1 :: .ref (a 0) :: St) Post := by
  subst hq
  exact ok_cV (As := [.int p1]) (n := 1) (C := R_S) (T := F_S) (N := 3) (ci := 0) (q0 := 0) (ct_S_isBeyondFile p1 S z S2 hk) hd wm_375 ⟨wm_376, wm_377, wm_378, wm_204⟩ (by decide +kernel) ⟨⟨rfl, rfl⟩, hrm⟩ rfl rfl rfl rfl hroom ⟨Nat.zero_le _, Nat.zero_le _⟩ (fun v u h => by obtain ⟨rfl, rfl⟩ := h; exact k)
set_option maxRecDepth 20000 in
set_option maxHeartbeats 4000000 in
theorem wl_S_settleStale_2 (n : Nat) : ∀ (p1 : Int32) (S : TC) (z : Unit) (Sz : TC), lp_S_settleStale_2 n S p1 = some (z, Sz) → Ok (wC g a) D (tyC g) l rm_S_settleStale R_S b_S_settleStale 2 none S 2 [(0, .ref (a 0)), (1, .int p1)] [] (pV z Sz) := by
  induction n with
  | zero => intro p1 S z Sz h; exact absurd h (fun h => by cases h)
  | succ n ih =>
    intro p1 S z Sz h
    rw [le_S_settleStale_2] at h
    refine ok_iload_n (q := 3) 1 d_S_settleStale_2 rfl rfl rfl ?_
    refine ok_bipush (v := (48 : Int32)) (q := 5) d_S_settleStale_3 (by decide) rfl ?_
    refine ok_icmp_ge (q := 8) (t := 55) d_S_settleStale_5 (by decide) rfl (fun hc => ?_) (fun hc => ?_)
    · replace h := if_t hc h
      obtain ⟨-, rfl⟩ := so_e h
      exact ok_vret d_S_settleStale_55 ⟨rfl, rfl⟩
    · replace h := if_f hc h
      refine ok_aload_n (q := 9) 0 d_S_settleStale_8 rfl rfl rfl ?_
      refine gf_S_16 (q := 12) d_S_settleStale_9 rfl ?_
      refine ok_iload_n (q := 13) 1 d_S_settleStale_12 rfl rfl rfl ?_
      refine ok_aload_n (q := 14) 0 d_S_settleStale_13 rfl rfl rfl ?_
      refine gf_S_12 (q := 17) d_S_settleStale_14 rfl ?_
      refine ok_iload_n (q := 18) 1 d_S_settleStale_17 rfl rfl rfl ?_
      obtain ⟨x3, S1, hk, h⟩ := bd_e h
      refine cs_S_216 (q := 21) hk d_S_settleStale_18 rfl (by decide) (Nat.le_of_ble_eq_true rfl) ?_
      refine ok_if_eq (q := 24) (t := 47) d_S_settleStale_21 (by decide) rfl (fun hc => ?_) (fun hc => ?_)
      · replace h := if_t hc h
        refine ok_iconst (v := (0 : Int32)) (q := 48) d_S_settleStale_47 (by decide) rfl ?_
        obtain ⟨hi, h⟩ := gd_e h
        obtain ⟨S4, e_S4, h⟩ := st_e h
        refine as_C_10 (q := 49) hi e_S4 (by decide) d_S_settleStale_48 rfl ?_
        obtain ⟨x5, e_x5, h⟩ := st_e h
        refine ok_iinc (d := (1 : Int32)) (q := 52) (lv := [(1, .int x5), (0, .ref (a 0))]) 1 d_S_settleStale_49 rfl (by decide) e_x5 (by decide) rfl rfl ?_
        refine ok_goto (q := 2) d_S_settleStale_52 (by decide) ?_
        exact ok_sub [1, 0] rfl (ih x5 _ _ _ h)
      · replace h := if_f hc h
        refine ok_aload_n (q := 25) 0 d_S_settleStale_24 rfl rfl rfl ?_
        refine gf_S_12 (q := 28) d_S_settleStale_25 rfl ?_
        refine ok_iload_n (q := 29) 1 d_S_settleStale_28 rfl rfl rfl ?_
        obtain ⟨x8, S6, hk, h⟩ := bd_e h
        refine cs_S_222 (q := 32) hk d_S_settleStale_29 rfl (by decide) (Nat.le_of_ble_eq_true rfl) ?_
        refine ok_if_ne (q := 35) (t := 43) d_S_settleStale_32 (by decide) rfl (fun hc => ?_) (fun hc => ?_)
        · replace h := if_f hc h
          refine ok_iconst (v := (1 : Int32)) (q := 44) d_S_settleStale_43 (by decide) rfl ?_
          refine ok_goto (q := 48) d_S_settleStale_44 (by decide) ?_
          obtain ⟨hi, h⟩ := gd_e h
          obtain ⟨S9, e_S9, h⟩ := st_e h
          refine as_C_10 (q := 49) hi e_S9 (by decide) d_S_settleStale_48 rfl ?_
          obtain ⟨x10, e_x10, h⟩ := st_e h
          refine ok_iinc (d := (1 : Int32)) (q := 52) (lv := [(1, .int x10), (0, .ref (a 0))]) 1 d_S_settleStale_49 rfl (by decide) e_x10 (by decide) rfl rfl ?_
          refine ok_goto (q := 2) d_S_settleStale_52 (by decide) ?_
          exact ok_sub [1, 0] rfl (ih x10 _ _ _ h)
        · replace h := if_t hc h
          refine ok_aload_n (q := 36) 0 d_S_settleStale_35 rfl rfl rfl ?_
          refine ok_iload_n (q := 37) 1 d_S_settleStale_36 rfl rfl rfl ?_
          obtain ⟨x13, S11, hk, h⟩ := bd_e h
          refine cs_S_225 (q := 40) hk d_S_settleStale_37 rfl (by decide) (Nat.le_of_ble_eq_true rfl) ?_
          refine ok_if_eq (q := 43) (t := 47) d_S_settleStale_40 (by decide) rfl (fun hc => ?_) (fun hc => ?_)
          · replace h := if_t hc h
            refine ok_iconst (v := (0 : Int32)) (q := 48) d_S_settleStale_47 (by decide) rfl ?_
            obtain ⟨hi, h⟩ := gd_e h
            obtain ⟨S14, e_S14, h⟩ := st_e h
            refine as_C_10 (q := 49) hi e_S14 (by decide) d_S_settleStale_48 rfl ?_
            obtain ⟨x15, e_x15, h⟩ := st_e h
            refine ok_iinc (d := (1 : Int32)) (q := 52) (lv := [(1, .int x15), (0, .ref (a 0))]) 1 d_S_settleStale_49 rfl (by decide) e_x15 (by decide) rfl rfl ?_
            refine ok_goto (q := 2) d_S_settleStale_52 (by decide) ?_
            exact ok_sub [1, 0] rfl (ih x15 _ _ _ h)
          · replace h := if_f hc h
            refine ok_iconst (v := (1 : Int32)) (q := 44) d_S_settleStale_43 (by decide) rfl ?_
            refine ok_goto (q := 48) d_S_settleStale_44 (by decide) ?_
            obtain ⟨hi, h⟩ := gd_e h
            obtain ⟨S16, e_S16, h⟩ := st_e h
            refine as_C_10 (q := 49) hi e_S16 (by decide) d_S_settleStale_48 rfl ?_
            obtain ⟨x17, e_x17, h⟩ := st_e h
            refine ok_iinc (d := (1 : Int32)) (q := 52) (lv := [(1, .int x17), (0, .ref (a 0))]) 1 d_S_settleStale_49 rfl (by decide) e_x17 (by decide) rfl rfl ?_
            refine ok_goto (q := 2) d_S_settleStale_52 (by decide) ?_
            exact ok_sub [1, 0] rfl (ih x17 _ _ _ h)
set_option maxRecDepth 20000 in
set_option maxHeartbeats 4000000 in
theorem wk_S_settleStale (S : TC) (z : Unit) (Sz : TC) (h : fn_S_settleStale S = some (z, Sz)) : Ok (wC g a) D (tyC g) l rm_S_settleStale R_S b_S_settleStale 2 none S 0 [(0, .ref (a 0))] [] (pV z Sz) := by
  unfold fn_S_settleStale at h
  refine ok_iconst (v := (0 : Int32)) (q := 1) d_S_settleStale_0 (by decide) rfl ?_
  refine ok_istore_n (q := 2) (lv := [(1, .int (0 : Int32)), (0, .ref (a 0))]) d_S_settleStale_1 rfl (by decide) rfl rfl ?_
  exact ok_sub [1, 0] rfl (wl_S_settleStale_2 64 (0 : Int32) _ _ _ h)
set_option maxRecDepth 20000 in
set_option maxHeartbeats 4000000 in
theorem ct_S_settleStale (S : TC) (z : Unit) (Sz : TC) (h : fn_S_settleStale S = some (z, Sz)) : Ct (wC g a) D (tyC g) l y_S_settleStale b_S_settleStale 2 none rm_S_settleStale [.ref (a 0)] S (pV z Sz) := ct_of (by decide) (Nat.le_of_ble_eq_true rfl) rfl (wk_S_settleStale S z Sz h)
theorem cs_S_126 {l : Launch} {D : va_G} {g : Nat → ClassId} {a : Nat → Nat} {rm : Room} {b : ByteArray} {nL : Nat} {ret : Option FieldType} {pc q : Nat} {Lc : List (Nat × Value)} {St : List Value} {S S2 : TC} {Post : Option Value → TC → Prop} {z : Unit} (hk : fn_S_settleStale S = some (z, S2)) (hd : decode b pc = .ok (.invokevirtual 126, 3)) (hq : pc + 3 = q) (hrm : rm_S_settleStale.frames + 1 ≤ rm.frames ∧ 8 + (2 + 11) + rm_S_settleStale.locals ≤ rm.locals) (hroom : (St.map fun v => v.category).sum ≤ 8) (k : Ok (wC g a) D (tyC g) l rm R_S b nL ret S2 q Lc (St) Post) : Ok (wC g a) D (tyC g) l rm R_S b nL ret S pc Lc (.ref (a 0) :: St) Post := by
  subst hq
  exact ok_cV (As := []) (n := 0) (C := R_S) (T := F_S) (N := 3) (ci := 0) (q0 := 0) (ct_S_settleStale S z S2 hk) hd wm_308 ⟨wm_309, wm_310, wm_311, wm_204⟩ (by decide +kernel) ⟨⟨rfl, rfl⟩, hrm⟩ rfl rfl rfl rfl hroom ⟨Nat.zero_le _, Nat.zero_le _⟩ (fun v u h => by obtain ⟨rfl, rfl⟩ := h; exact k)
set_option maxRecDepth 20000 in
set_option maxHeartbeats 4000000 in
theorem wk_S_mount (p1 : Int32) (S : TC) (z : Int32) (Sz : TC) (h : fn_S_mount S p1 = some (z, Sz)) : Ok (wC g a) D (tyC g) l rm_S_mount R_S b_S_mount 3 (some .int) S 0 [(0, .ref (a 0)), (1, .int p1)] [] (pI z Sz) := by
  unfold fn_S_mount at h
  refine ok_iload_n (q := 1) 1 d_S_mount_0 rfl rfl rfl ?_
  refine ok_if_ne (q := 4) (t := 14) d_S_mount_1 (by decide) rfl (fun hc => ?_) (fun hc => ?_)
  · replace h := if_f hc h
    refine ok_bipush (v := (8 : Int32)) (q := 16) d_S_mount_14 (by decide) rfl ?_
    refine ok_aload_n (q := 17) 0 d_S_mount_16 rfl rfl rfl ?_
    refine gf_S_12 (q := 20) d_S_mount_17 rfl ?_
    obtain ⟨x3, S1, hk, h⟩ := bd_e h
    refine cs_S_120 (q := 23) hk d_S_mount_20 rfl (by decide) (Nat.le_of_ble_eq_true rfl) ?_
    refine ok_imul (q := 24) d_S_mount_23 rfl ?_
    refine ok_goto (q := 39) d_S_mount_24 (by decide) ?_
    obtain ⟨x4, e_x4, h⟩ := st_e h
    refine ok_topi e_x4 ?_
    refine ok_istore_n (q := 40) (lv := [(2, .int x4), (0, .ref (a 0)), (1, .int p1)]) d_S_mount_39 rfl (by decide) rfl rfl ?_
    refine ok_aload_n (q := 41) 1 d_S_mount_40 rfl rfl rfl ?_
    obtain ⟨_, S5, hk, h⟩ := bd_e h
    refine cs_S_126 (q := 44) hk d_S_mount_41 rfl (by decide) (Nat.le_of_ble_eq_true rfl) ?_
    refine ok_aload_n (q := 45) 1 d_S_mount_44 rfl rfl rfl ?_
    refine ok_aload_n (q := 46) 1 d_S_mount_45 rfl rfl rfl ?_
    obtain ⟨x9, S7, hk, h⟩ := bd_e h
    refine cs_S_129 (q := 49) hk d_S_mount_46 rfl (by decide) (Nat.le_of_ble_eq_true rfl) ?_
    obtain ⟨hg, h⟩ := gd_e h
    obtain ⟨S10, e_S10, h⟩ := st_e h
    refine pf_S_20 (q := 52) e_S10 hg d_S_mount_49 rfl ?_
    refine ok_aload_n (q := 53) 1 d_S_mount_52 rfl rfl rfl ?_
    obtain ⟨x11, e_x11, h⟩ := st_e h
    refine gf_S_20 (q := 56) e_x11 d_S_mount_53 rfl ?_
    refine ok_if_eq (q := 59) (t := 63) d_S_mount_56 (by decide) rfl (fun hc => ?_) (fun hc => ?_)
    · replace h := if_t hc h
      refine ok_bipush (v := (-9 : Int32)) (q := 65) d_S_mount_63 (by decide) rfl ?_
      obtain ⟨rfl, rfl⟩ := so_e h
      exact ok_iret d_S_mount_65 ⟨rfl, rfl⟩
    · replace h := if_f hc h
      refine ok_iload_n (q := 60) 0 d_S_mount_59 rfl rfl rfl ?_
      refine ok_goto (q := 65) d_S_mount_60 (by decide) ?_
      obtain ⟨rfl, rfl⟩ := so_e h
      exact ok_iret d_S_mount_65 ⟨rfl, rfl⟩
  · replace h := if_t hc h
    refine ok_aload_n (q := 5) 0 d_S_mount_4 rfl rfl rfl ?_
    refine gf_S_12 (q := 8) d_S_mount_5 rfl ?_
    obtain ⟨x12, e_x12, h⟩ := st_e h
    refine gf_S_117 (q := 11) e_x12 d_S_mount_8 rfl ?_
    refine ok_if_ne (q := 14) (t := 27) d_S_mount_11 (by decide) rfl (fun hc => ?_) (fun hc => ?_)
    · replace h := if_f hc h
      refine ok_bipush (v := (8 : Int32)) (q := 29) d_S_mount_27 (by decide) rfl ?_
      refine ok_aload_n (q := 30) 0 d_S_mount_29 rfl rfl rfl ?_
      refine gf_S_12 (q := 33) d_S_mount_30 rfl ?_
      obtain ⟨x15, S13, hk, h⟩ := bd_e h
      refine cs_S_123 (q := 36) hk d_S_mount_33 rfl (by decide) (Nat.le_of_ble_eq_true rfl) ?_
      refine ok_imul (q := 37) d_S_mount_36 rfl ?_
      refine ok_iconst (v := (1 : Int32)) (q := 38) d_S_mount_37 (by decide) rfl ?_
      refine ok_iadd (q := 39) d_S_mount_38 rfl ?_
      obtain ⟨x16, e_x16, h⟩ := st_e h
      refine ok_topi e_x16 ?_
      refine ok_istore_n (q := 40) (lv := [(2, .int x16), (0, .ref (a 0)), (1, .int p1)]) d_S_mount_39 rfl (by decide) rfl rfl ?_
      refine ok_aload_n (q := 41) 1 d_S_mount_40 rfl rfl rfl ?_
      obtain ⟨_, S17, hk, h⟩ := bd_e h
      refine cs_S_126 (q := 44) hk d_S_mount_41 rfl (by decide) (Nat.le_of_ble_eq_true rfl) ?_
      refine ok_aload_n (q := 45) 1 d_S_mount_44 rfl rfl rfl ?_
      refine ok_aload_n (q := 46) 1 d_S_mount_45 rfl rfl rfl ?_
      obtain ⟨x21, S19, hk, h⟩ := bd_e h
      refine cs_S_129 (q := 49) hk d_S_mount_46 rfl (by decide) (Nat.le_of_ble_eq_true rfl) ?_
      obtain ⟨hg, h⟩ := gd_e h
      obtain ⟨S22, e_S22, h⟩ := st_e h
      refine pf_S_20 (q := 52) e_S22 hg d_S_mount_49 rfl ?_
      refine ok_aload_n (q := 53) 1 d_S_mount_52 rfl rfl rfl ?_
      obtain ⟨x23, e_x23, h⟩ := st_e h
      refine gf_S_20 (q := 56) e_x23 d_S_mount_53 rfl ?_
      refine ok_if_eq (q := 59) (t := 63) d_S_mount_56 (by decide) rfl (fun hc => ?_) (fun hc => ?_)
      · replace h := if_t hc h
        refine ok_bipush (v := (-9 : Int32)) (q := 65) d_S_mount_63 (by decide) rfl ?_
        obtain ⟨rfl, rfl⟩ := so_e h
        exact ok_iret d_S_mount_65 ⟨rfl, rfl⟩
      · replace h := if_f hc h
        refine ok_iload_n (q := 60) 0 d_S_mount_59 rfl rfl rfl ?_
        refine ok_goto (q := 65) d_S_mount_60 (by decide) ?_
        obtain ⟨rfl, rfl⟩ := so_e h
        exact ok_iret d_S_mount_65 ⟨rfl, rfl⟩
    · replace h := if_t hc h
      refine ok_bipush (v := (8 : Int32)) (q := 16) d_S_mount_14 (by decide) rfl ?_
      refine ok_aload_n (q := 17) 0 d_S_mount_16 rfl rfl rfl ?_
      refine gf_S_12 (q := 20) d_S_mount_17 rfl ?_
      obtain ⟨x26, S24, hk, h⟩ := bd_e h
      refine cs_S_120 (q := 23) hk d_S_mount_20 rfl (by decide) (Nat.le_of_ble_eq_true rfl) ?_
      refine ok_imul (q := 24) d_S_mount_23 rfl ?_
      refine ok_goto (q := 39) d_S_mount_24 (by decide) ?_
      obtain ⟨x27, e_x27, h⟩ := st_e h
      refine ok_topi e_x27 ?_
      refine ok_istore_n (q := 40) (lv := [(2, .int x27), (0, .ref (a 0)), (1, .int p1)]) d_S_mount_39 rfl (by decide) rfl rfl ?_
      refine ok_aload_n (q := 41) 1 d_S_mount_40 rfl rfl rfl ?_
      obtain ⟨_, S28, hk, h⟩ := bd_e h
      refine cs_S_126 (q := 44) hk d_S_mount_41 rfl (by decide) (Nat.le_of_ble_eq_true rfl) ?_
      refine ok_aload_n (q := 45) 1 d_S_mount_44 rfl rfl rfl ?_
      refine ok_aload_n (q := 46) 1 d_S_mount_45 rfl rfl rfl ?_
      obtain ⟨x32, S30, hk, h⟩ := bd_e h
      refine cs_S_129 (q := 49) hk d_S_mount_46 rfl (by decide) (Nat.le_of_ble_eq_true rfl) ?_
      obtain ⟨hg, h⟩ := gd_e h
      obtain ⟨S33, e_S33, h⟩ := st_e h
      refine pf_S_20 (q := 52) e_S33 hg d_S_mount_49 rfl ?_
      refine ok_aload_n (q := 53) 1 d_S_mount_52 rfl rfl rfl ?_
      obtain ⟨x34, e_x34, h⟩ := st_e h
      refine gf_S_20 (q := 56) e_x34 d_S_mount_53 rfl ?_
      refine ok_if_eq (q := 59) (t := 63) d_S_mount_56 (by decide) rfl (fun hc => ?_) (fun hc => ?_)
      · replace h := if_t hc h
        refine ok_bipush (v := (-9 : Int32)) (q := 65) d_S_mount_63 (by decide) rfl ?_
        obtain ⟨rfl, rfl⟩ := so_e h
        exact ok_iret d_S_mount_65 ⟨rfl, rfl⟩
      · replace h := if_f hc h
        refine ok_iload_n (q := 60) 0 d_S_mount_59 rfl rfl rfl ?_
        refine ok_goto (q := 65) d_S_mount_60 (by decide) ?_
        obtain ⟨rfl, rfl⟩ := so_e h
        exact ok_iret d_S_mount_65 ⟨rfl, rfl⟩
set_option maxRecDepth 20000 in
set_option maxHeartbeats 4000000 in
theorem ct_S_mount (p1 : Int32) (S : TC) (z : Int32) (Sz : TC) (h : fn_S_mount S p1 = some (z, Sz)) : Ct (wC g a) D (tyC g) l y_S_mount b_S_mount 3 (some .int) rm_S_mount [.ref (a 0), .int p1] S (pI z Sz) := ct_of (by decide) (Nat.le_of_ble_eq_true rfl) rfl (wk_S_mount p1 S z Sz h)

set_option maxRecDepth 20000 in
set_option maxHeartbeats 4000000 in
theorem wk_S_cut (p1 : Int32) (S : TC) (z : Unit) (Sz : TC) (h : fn_S_cut S p1 = some (z, Sz)) : Ok (wC g a) D (tyC g) l rm_S_cut R_S b_S_cut 2 none S 0 [(0, .ref (a 0)), (1, .int p1)] [] (pV z Sz) := by
  unfold fn_S_cut at h
  refine ok_aload_n (q := 1) 0 d_S_cut_0 rfl rfl rfl ?_
  refine gf_S_12 (q := 4) d_S_cut_1 rfl ?_
  refine ok_iload_n (q := 5) 1 d_S_cut_4 rfl rfl rfl ?_
  refine ok_if_lt (q := 8) (t := 19) d_S_cut_5 (by decide) rfl (fun hc => ?_) (fun hc => ?_)
  · replace h := if_t hc h
    refine ok_iconst (v := (-1 : Int32)) (q := 20) d_S_cut_19 (by decide) rfl ?_
    obtain ⟨S1, e_S1, h⟩ := st_e h
    refine pf_S_132 (q := 23) e_S1 d_S_cut_20 rfl ?_
    obtain ⟨-, rfl⟩ := so_e h
    exact ok_vret d_S_cut_23 ⟨rfl, rfl⟩
  · replace h := if_f hc h
    refine ok_iload_n (q := 9) 1 d_S_cut_8 rfl rfl rfl ?_
    refine ok_sipush (v := (1000 : Int32)) (q := 12) d_S_cut_9 (by decide) rfl ?_
    refine ok_icmp_gt (q := 15) (t := 19) d_S_cut_12 (by decide) rfl (fun hc => ?_) (fun hc => ?_)
    · replace h := if_t hc h
      refine ok_iconst (v := (-1 : Int32)) (q := 20) d_S_cut_19 (by decide) rfl ?_
      obtain ⟨S2, e_S2, h⟩ := st_e h
      refine pf_S_132 (q := 23) e_S2 d_S_cut_20 rfl ?_
      obtain ⟨-, rfl⟩ := so_e h
      exact ok_vret d_S_cut_23 ⟨rfl, rfl⟩
    · replace h := if_f hc h
      refine ok_iload_n (q := 16) 1 d_S_cut_15 rfl rfl rfl ?_
      refine ok_goto (q := 20) d_S_cut_16 (by decide) ?_
      obtain ⟨S3, e_S3, h⟩ := st_e h
      refine pf_S_132 (q := 23) e_S3 d_S_cut_20 rfl ?_
      obtain ⟨-, rfl⟩ := so_e h
      exact ok_vret d_S_cut_23 ⟨rfl, rfl⟩
set_option maxRecDepth 20000 in
set_option maxHeartbeats 4000000 in
theorem ct_S_cut (p1 : Int32) (S : TC) (z : Unit) (Sz : TC) (h : fn_S_cut S p1 = some (z, Sz)) : Ct (wC g a) D (tyC g) l y_S_cut b_S_cut 2 none rm_S_cut [.ref (a 0), .int p1] S (pV z Sz) := ct_of (by decide) (Nat.le_of_ble_eq_true rfl) rfl (wk_S_cut p1 S z Sz h)

set_option maxRecDepth 20000 in
set_option maxHeartbeats 4000000 in
theorem wk_C_turnBit (p1 : Int32) (p2 : Int32) (S : TC) (z : Int32) (Sz : TC) (h : fn_C_turnBit S p1 p2 = some (z, Sz)) : Ok (wC g a) D (tyC g) l rm_C_turnBit R_C b_C_turnBit 3 (some .boolean) S 0 [(0, .ref (a 1)), (1, .int p1), (2, .int p2)] [] (pI z Sz) := by
  unfold fn_C_turnBit at h
  refine ok_aload_n (q := 1) 0 d_C_turnBit_0 rfl rfl rfl ?_
  refine gf_C_32 (q := 4) d_C_turnBit_1 rfl ?_
  refine ok_iload_n (q := 5) 1 d_C_turnBit_4 rfl rfl rfl ?_
  refine ok_bipush (v := (8 : Int32)) (q := 7) d_C_turnBit_5 (by decide) rfl ?_
  refine ok_idiv (q := 8) d_C_turnBit_7 (by decide) rfl ?_
  obtain ⟨hg, h⟩ := gd_e h
  obtain ⟨x1, e_x1, h⟩ := st_e h
  refine al_C_8 (q := 9) hg e_x1 d_C_turnBit_8 rfl ?_
  refine ok_if_ne (q := 12) (t := 28) d_C_turnBit_9 (by decide) rfl (fun hc => ?_) (fun hc => ?_)
  · replace h := if_f hc h
    refine ok_iconst (v := (0 : Int32)) (q := 29) d_C_turnBit_28 (by decide) rfl ?_
    obtain ⟨rfl, rfl⟩ := so_e h
    exact ok_zret d_C_turnBit_29 (by decide) ⟨rfl, rfl⟩
  · replace h := if_t hc h
    refine ok_aload_n (q := 13) 0 d_C_turnBit_12 rfl rfl rfl ?_
    refine ok_iload_n (q := 14) 1 d_C_turnBit_13 rfl rfl rfl ?_
    obtain ⟨x4, S2, hk, h⟩ := bd_e h
    refine cs_C_49 (q := 17) hk d_C_turnBit_14 rfl (by decide) (Nat.le_of_ble_eq_true rfl) ?_
    refine ok_if_eq (q := 20) (t := 28) d_C_turnBit_17 (by decide) rfl (fun hc => ?_) (fun hc => ?_)
    · replace h := if_t hc h
      refine ok_iconst (v := (0 : Int32)) (q := 29) d_C_turnBit_28 (by decide) rfl ?_
      obtain ⟨rfl, rfl⟩ := so_e h
      exact ok_zret d_C_turnBit_29 (by decide) ⟨rfl, rfl⟩
    · replace h := if_f hc h
      refine ok_aload_n (q := 21) 0 d_C_turnBit_20 rfl rfl rfl ?_
      refine ok_iload_n (q := 22) 1 d_C_turnBit_21 rfl rfl rfl ?_
      obtain ⟨x7, S5, hk, h⟩ := bd_e h
      refine cs_C_64 (q := 25) hk d_C_turnBit_22 rfl (by decide) (Nat.le_of_ble_eq_true rfl) ?_
      refine ok_if_eq (q := 28) (t := 30) d_C_turnBit_25 (by decide) rfl (fun hc => ?_) (fun hc => ?_)
      · replace h := if_t hc h
        refine ok_aload_n (q := 31) 0 d_C_turnBit_30 rfl rfl rfl ?_
        refine gf_C_18 (q := 34) d_C_turnBit_31 rfl ?_
        refine ok_iload_n (q := 35) 1 d_C_turnBit_34 rfl rfl rfl ?_
        refine ok_dup2 (q := 36) d_C_turnBit_35 rfl rfl rfl ?_
        obtain ⟨hg, h⟩ := gd_e h
        obtain ⟨y8, e_y8, h⟩ := st_e h
        refine al_C_4 (q := 37) hg e_y8 d_C_turnBit_36 rfl ?_
        refine ok_lconst (v := (1 : Int64)) (q := 38) d_C_turnBit_37 (by decide) rfl ?_
        refine ok_iload_n (q := 39) 2 d_C_turnBit_38 rfl rfl rfl ?_
        refine ok_lshl (q := 40) d_C_turnBit_39 rfl ?_
        refine ok_lxor (q := 41) d_C_turnBit_40 rfl ?_
        obtain ⟨hi, h⟩ := gd_e h
        obtain ⟨S9, e_S9, h⟩ := st_e h
        refine as_C_4 (q := 42) hi e_S9 d_C_turnBit_41 rfl ?_
        refine ok_iconst (v := (1 : Int32)) (q := 43) d_C_turnBit_42 (by decide) rfl ?_
        obtain ⟨rfl, rfl⟩ := so_e h
        exact ok_zret d_C_turnBit_43 (by decide) ⟨rfl, rfl⟩
      · replace h := if_f hc h
        refine ok_iconst (v := (0 : Int32)) (q := 29) d_C_turnBit_28 (by decide) rfl ?_
        obtain ⟨rfl, rfl⟩ := so_e h
        exact ok_zret d_C_turnBit_29 (by decide) ⟨rfl, rfl⟩
set_option maxRecDepth 20000 in
set_option maxHeartbeats 4000000 in
theorem ct_C_turnBit (p1 : Int32) (p2 : Int32) (S : TC) (z : Int32) (Sz : TC) (h : fn_C_turnBit S p1 p2 = some (z, Sz)) : Ct (wC g a) D (tyC g) l y_C_turnBit b_C_turnBit 3 (some .boolean) rm_C_turnBit [.ref (a 1), .int p1, .int p2] S (pI z Sz) := ct_of (by decide) (Nat.le_of_ble_eq_true rfl) rfl (wk_C_turnBit p1 p2 S z Sz h)
theorem cs_S_139 {l : Launch} {D : va_G} {g : Nat → ClassId} {a : Nat → Nat} {rm : Room} {b : ByteArray} {nL : Nat} {ret : Option FieldType} {pc q : Nat} {Lc : List (Nat × Value)} {St : List Value} {S S2 : TC} {Post : Option Value → TC → Prop} {p1 : Int32} {p2 : Int32} {z : Int32} (hk : fn_C_turnBit S p1 p2 = some (z, S2)) (hd : decode b pc = .ok (.invokevirtual 139, 3)) (hq : pc + 3 = q) (hrm : rm_C_turnBit.frames + 1 ≤ rm.frames ∧ 8 + (3 + 11) + rm_C_turnBit.locals ≤ rm.locals) (hroom : (St.map fun v => v.category).sum ≤ 8) (k : Ok (wC g a) D (tyC g) l rm R_S b nL ret S2 q Lc (.int z :: St) Post) : Ok (wC g a) D (tyC g) l rm R_S b nL ret S pc Lc (.int p2 :: .int p1 :: .ref (a 1) :: St) Post := by
  subst hq
  exact ok_cV (As := [.int p1, .int p2]) (n := 2) (C := R_C) (T := F_C) (N := 11) (ci := 1) (q0 := 1) (ct_C_turnBit p1 p2 S z S2 hk) hd wm_319 ⟨wm_320, wm_321, wm_322, wm_69⟩ (by decide +kernel) ⟨⟨rfl, rfl⟩, hrm⟩ rfl rfl rfl rfl hroom ⟨Nat.zero_le _, Nat.zero_le _⟩ (fun v u h => by obtain ⟨rfl, rfl⟩ := h; exact k)
set_option maxRecDepth 20000 in
set_option maxHeartbeats 4000000 in
theorem wk_S_isBlock (p0 : Int32) (S : TC) (z : Int32) (Sz : TC) (h : fn_S_isBlock S p0 = some (z, Sz)) : Ok (wC g a) D (tyC g) l rm_S_isBlock R_S b_S_isBlock 1 (some .boolean) S 0 [(0, .int p0)] [] (pI z Sz) := by
  unfold fn_S_isBlock at h
  refine ok_iload_n (q := 1) 0 d_S_isBlock_0 rfl rfl rfl ?_
  refine ok_if_lt (q := 4) (t := 14) d_S_isBlock_1 (by decide) rfl (fun hc => ?_) (fun hc => ?_)
  · replace h := if_t hc h
    refine ok_iconst (v := (0 : Int32)) (q := 15) d_S_isBlock_14 (by decide) rfl ?_
    obtain ⟨rfl, rfl⟩ := so_e h
    exact ok_zret d_S_isBlock_15 (by decide) ⟨rfl, rfl⟩
  · replace h := if_f hc h
    refine ok_iload_n (q := 5) 0 d_S_isBlock_4 rfl rfl rfl ?_
    refine ok_bipush (v := (6 : Int32)) (q := 7) d_S_isBlock_5 (by decide) rfl ?_
    refine ok_icmp_ge (q := 10) (t := 14) d_S_isBlock_7 (by decide) rfl (fun hc => ?_) (fun hc => ?_)
    · replace h := if_t hc h
      refine ok_iconst (v := (0 : Int32)) (q := 15) d_S_isBlock_14 (by decide) rfl ?_
      obtain ⟨rfl, rfl⟩ := so_e h
      exact ok_zret d_S_isBlock_15 (by decide) ⟨rfl, rfl⟩
    · replace h := if_f hc h
      refine ok_iconst (v := (1 : Int32)) (q := 11) d_S_isBlock_10 (by decide) rfl ?_
      refine ok_goto (q := 15) d_S_isBlock_11 (by decide) ?_
      obtain ⟨rfl, rfl⟩ := so_e h
      exact ok_zret d_S_isBlock_15 (by decide) ⟨rfl, rfl⟩
set_option maxRecDepth 20000 in
set_option maxHeartbeats 4000000 in
theorem ct_S_isBlock (p0 : Int32) (S : TC) (z : Int32) (Sz : TC) (h : fn_S_isBlock S p0 = some (z, Sz)) : Ct (wC g a) D (tyC g) l y_S_isBlock b_S_isBlock 1 (some .boolean) rm_S_isBlock [.int p0] S (pI z Sz) := ct_of (by decide) (Nat.le_of_ble_eq_true rfl) rfl (wk_S_isBlock p0 S z Sz h)
theorem cs_S_142 {l : Launch} {D : va_G} {g : Nat → ClassId} {a : Nat → Nat} {rm : Room} {b : ByteArray} {nL : Nat} {ret : Option FieldType} {pc q : Nat} {Lc : List (Nat × Value)} {St : List Value} {S S2 : TC} {Post : Option Value → TC → Prop} {p0 : Int32} {z : Int32} (hk : fn_S_isBlock S p0 = some (z, S2)) (hd : decode b pc = .ok (.invokestatic 142, 3)) (hq : pc + 3 = q) (hrm : rm_S_isBlock.frames + 1 ≤ rm.frames ∧ 8 + (1 + 11) + rm_S_isBlock.locals ≤ rm.locals) (hroom : (St.map fun v => v.category).sum ≤ 8) (k : Ok (wC g a) D (tyC g) l rm R_S b nL ret S2 q Lc (.int z :: St) Post) : Ok (wC g a) D (tyC g) l rm R_S b nL ret S pc Lc (.int p0 :: St) Post := by
  subst hq
  exact ok_cS (As := [.int p0]) (n := 1) (ct_S_isBlock p0 S z S2 hk) hd wm_323 ⟨wm_324, wm_325, wm_204⟩ (by decide +kernel) ⟨⟨rfl, rfl⟩, hrm⟩ rfl rfl hroom ⟨Nat.zero_le _, Nat.zero_le _⟩ (fun v u h => by obtain ⟨rfl, rfl⟩ := h; exact k)
set_option maxRecDepth 20000 in
set_option maxHeartbeats 4000000 in
theorem wk_S_isPage (p0 : Int32) (p1 : Int32) (S : TC) (z : Int32) (Sz : TC) (h : fn_S_isPage S p0 p1 = some (z, Sz)) : Ok (wC g a) D (tyC g) l rm_S_isPage R_S b_S_isPage 2 (some .boolean) S 0 [(0, .int p0), (1, .int p1)] [] (pI z Sz) := by
  unfold fn_S_isPage at h
  refine ok_iload_n (q := 1) 0 d_S_isPage_0 rfl rfl rfl ?_
  obtain ⟨x3, S1, hk, h⟩ := bd_e h
  refine cs_S_142 (q := 4) hk d_S_isPage_1 rfl (by decide) (Nat.le_of_ble_eq_true rfl) ?_
  refine ok_if_eq (q := 7) (t := 21) d_S_isPage_4 (by decide) rfl (fun hc => ?_) (fun hc => ?_)
  · replace h := if_t hc h
    refine ok_iconst (v := (0 : Int32)) (q := 22) d_S_isPage_21 (by decide) rfl ?_
    obtain ⟨rfl, rfl⟩ := so_e h
    exact ok_zret d_S_isPage_22 (by decide) ⟨rfl, rfl⟩
  · replace h := if_f hc h
    refine ok_iload_n (q := 8) 1 d_S_isPage_7 rfl rfl rfl ?_
    refine ok_if_lt (q := 11) (t := 21) d_S_isPage_8 (by decide) rfl (fun hc => ?_) (fun hc => ?_)
    · replace h := if_t hc h
      refine ok_iconst (v := (0 : Int32)) (q := 22) d_S_isPage_21 (by decide) rfl ?_
      obtain ⟨rfl, rfl⟩ := so_e h
      exact ok_zret d_S_isPage_22 (by decide) ⟨rfl, rfl⟩
    · replace h := if_f hc h
      refine ok_iload_n (q := 12) 1 d_S_isPage_11 rfl rfl rfl ?_
      refine ok_bipush (v := (8 : Int32)) (q := 14) d_S_isPage_12 (by decide) rfl ?_
      refine ok_icmp_ge (q := 17) (t := 21) d_S_isPage_14 (by decide) rfl (fun hc => ?_) (fun hc => ?_)
      · replace h := if_t hc h
        refine ok_iconst (v := (0 : Int32)) (q := 22) d_S_isPage_21 (by decide) rfl ?_
        obtain ⟨rfl, rfl⟩ := so_e h
        exact ok_zret d_S_isPage_22 (by decide) ⟨rfl, rfl⟩
      · replace h := if_f hc h
        refine ok_iconst (v := (1 : Int32)) (q := 18) d_S_isPage_17 (by decide) rfl ?_
        refine ok_goto (q := 22) d_S_isPage_18 (by decide) ?_
        obtain ⟨rfl, rfl⟩ := so_e h
        exact ok_zret d_S_isPage_22 (by decide) ⟨rfl, rfl⟩
set_option maxRecDepth 20000 in
set_option maxHeartbeats 4000000 in
theorem ct_S_isPage (p0 : Int32) (p1 : Int32) (S : TC) (z : Int32) (Sz : TC) (h : fn_S_isPage S p0 p1 = some (z, Sz)) : Ct (wC g a) D (tyC g) l y_S_isPage b_S_isPage 2 (some .boolean) rm_S_isPage [.int p0, .int p1] S (pI z Sz) := ct_of (by decide) (Nat.le_of_ble_eq_true rfl) rfl (wk_S_isPage p0 p1 S z Sz h)
theorem cs_S_136 {l : Launch} {D : va_G} {g : Nat → ClassId} {a : Nat → Nat} {rm : Room} {b : ByteArray} {nL : Nat} {ret : Option FieldType} {pc q : Nat} {Lc : List (Nat × Value)} {St : List Value} {S S2 : TC} {Post : Option Value → TC → Prop} {p0 : Int32} {p1 : Int32} {z : Int32} (hk : fn_S_isPage S p0 p1 = some (z, S2)) (hd : decode b pc = .ok (.invokestatic 136, 3)) (hq : pc + 3 = q) (hrm : rm_S_isPage.frames + 1 ≤ rm.frames ∧ 8 + (2 + 11) + rm_S_isPage.locals ≤ rm.locals) (hroom : (St.map fun v => v.category).sum ≤ 8) (k : Ok (wC g a) D (tyC g) l rm R_S b nL ret S2 q Lc (.int z :: St) Post) : Ok (wC g a) D (tyC g) l rm R_S b nL ret S pc Lc (.int p1 :: .int p0 :: St) Post := by
  subst hq
  exact ok_cS (As := [.int p0, .int p1]) (n := 2) (ct_S_isPage p0 p1 S z S2 hk) hd wm_316 ⟨wm_317, wm_318, wm_204⟩ (by decide +kernel) ⟨⟨rfl, rfl⟩, hrm⟩ rfl rfl hroom ⟨Nat.zero_le _, Nat.zero_le _⟩ (fun v u h => by obtain ⟨rfl, rfl⟩ := h; exact k)
set_option maxRecDepth 20000 in
set_option maxHeartbeats 4000000 in
theorem wk_S_flip (p1 : Int32) (p2 : Int32) (p3 : Int32) (S : TC) (z : Int32) (Sz : TC) (h : fn_S_flip S p1 p2 p3 = some (z, Sz)) : Ok (wC g a) D (tyC g) l rm_S_flip R_S b_S_flip 4 (some .boolean) S 0 [(0, .ref (a 0)), (1, .int p1), (2, .int p2), (3, .int p3)] [] (pI z Sz) := by
  unfold fn_S_flip at h
  refine ok_iload_n (q := 1) 1 d_S_flip_0 rfl rfl rfl ?_
  refine ok_iload_n (q := 2) 2 d_S_flip_1 rfl rfl rfl ?_
  obtain ⟨x3, S1, hk, h⟩ := bd_e h
  refine cs_S_136 (q := 5) hk d_S_flip_2 rfl (by decide) (Nat.le_of_ble_eq_true rfl) ?_
  refine ok_if_eq (q := 8) (t := 18) d_S_flip_5 (by decide) rfl (fun hc => ?_) (fun hc => ?_)
  · replace h := if_t hc h
    refine ok_iconst (v := (0 : Int32)) (q := 19) d_S_flip_18 (by decide) rfl ?_
    obtain ⟨rfl, rfl⟩ := so_e h
    exact ok_zret d_S_flip_19 (by decide) ⟨rfl, rfl⟩
  · replace h := if_f hc h
    refine ok_iload_n (q := 9) 3 d_S_flip_8 rfl rfl rfl ?_
    refine ok_if_lt (q := 12) (t := 18) d_S_flip_9 (by decide) rfl (fun hc => ?_) (fun hc => ?_)
    · replace h := if_t hc h
      refine ok_iconst (v := (0 : Int32)) (q := 19) d_S_flip_18 (by decide) rfl ?_
      obtain ⟨rfl, rfl⟩ := so_e h
      exact ok_zret d_S_flip_19 (by decide) ⟨rfl, rfl⟩
    · replace h := if_f hc h
      refine ok_iload_n (q := 13) 3 d_S_flip_12 rfl rfl rfl ?_
      refine ok_bipush (v := (39 : Int32)) (q := 15) d_S_flip_13 (by decide) rfl ?_
      refine ok_icmp_lt (q := 18) (t := 20) d_S_flip_15 (by decide) rfl (fun hc => ?_) (fun hc => ?_)
      · replace h := if_t hc h
        refine ok_aload_n (q := 21) 0 d_S_flip_20 rfl rfl rfl ?_
        refine gf_S_12 (q := 24) d_S_flip_21 rfl ?_
        refine ok_iload_n (q := 25) 1 d_S_flip_24 rfl rfl rfl ?_
        refine ok_bipush (v := (8 : Int32)) (q := 27) d_S_flip_25 (by decide) rfl ?_
        refine ok_imul (q := 28) d_S_flip_27 rfl ?_
        refine ok_iload_n (q := 29) 2 d_S_flip_28 rfl rfl rfl ?_
        refine ok_iadd (q := 30) d_S_flip_29 rfl ?_
        refine ok_iload_n (q := 31) 3 d_S_flip_30 rfl rfl rfl ?_
        obtain ⟨x6, S4, hk, h⟩ := bd_e h
        refine cs_S_139 (q := 34) hk d_S_flip_31 rfl (by decide) (Nat.le_of_ble_eq_true rfl) ?_
        obtain ⟨hg, h⟩ := gd_e h
        obtain ⟨rfl, rfl⟩ := so_e h
        exact ok_zret d_S_flip_34 hg ⟨rfl, rfl⟩
      · replace h := if_f hc h
        refine ok_iconst (v := (0 : Int32)) (q := 19) d_S_flip_18 (by decide) rfl ?_
        obtain ⟨rfl, rfl⟩ := so_e h
        exact ok_zret d_S_flip_19 (by decide) ⟨rfl, rfl⟩
set_option maxRecDepth 20000 in
set_option maxHeartbeats 4000000 in
theorem ct_S_flip (p1 : Int32) (p2 : Int32) (p3 : Int32) (S : TC) (z : Int32) (Sz : TC) (h : fn_S_flip S p1 p2 p3 = some (z, Sz)) : Ct (wC g a) D (tyC g) l y_S_flip b_S_flip 4 (some .boolean) rm_S_flip [.ref (a 0), .int p1, .int p2, .int p3] S (pI z Sz) := ct_of (by decide) (Nat.le_of_ble_eq_true rfl) rfl (wk_S_flip p1 p2 p3 S z Sz h)

set_option maxRecDepth 20000 in
set_option maxHeartbeats 4000000 in
theorem wk_S_wear (p1 : Int32) (S : TC) (z : Int32) (Sz : TC) (h : fn_S_wear S p1 = some (z, Sz)) : Ok (wC g a) D (tyC g) l rm_S_wear R_S b_S_wear 2 (some .boolean) S 0 [(0, .ref (a 0)), (1, .int p1)] [] (pI z Sz) := by
  unfold fn_S_wear at h
  refine ok_iload_n (q := 1) 1 d_S_wear_0 rfl rfl rfl ?_
  obtain ⟨x3, S1, hk, h⟩ := bd_e h
  refine cs_S_142 (q := 4) hk d_S_wear_1 rfl (by decide) (Nat.le_of_ble_eq_true rfl) ?_
  refine ok_if_eq (q := 7) (t := 31) d_S_wear_4 (by decide) rfl (fun hc => ?_) (fun hc => ?_)
  · replace h := if_t hc h
    refine ok_iconst (v := (0 : Int32)) (q := 32) d_S_wear_31 (by decide) rfl ?_
    obtain ⟨rfl, rfl⟩ := so_e h
    exact ok_zret d_S_wear_32 (by decide) ⟨rfl, rfl⟩
  · replace h := if_f hc h
    refine ok_aload_n (q := 8) 0 d_S_wear_7 rfl rfl rfl ?_
    refine gf_S_12 (q := 11) d_S_wear_8 rfl ?_
    refine gf_S_145 (q := 14) d_S_wear_11 rfl ?_
    refine ok_iload_n (q := 15) 1 d_S_wear_14 rfl rfl rfl ?_
    obtain ⟨hg, h⟩ := gd_e h
    obtain ⟨x4, e_x4, h⟩ := st_e h
    refine al_C_8 (q := 16) hg e_x4 d_S_wear_15 rfl ?_
    refine ok_if_ne (q := 19) (t := 31) d_S_wear_16 (by decide) rfl (fun hc => ?_) (fun hc => ?_)
    · replace h := if_f hc h
      refine ok_iconst (v := (0 : Int32)) (q := 32) d_S_wear_31 (by decide) rfl ?_
      obtain ⟨rfl, rfl⟩ := so_e h
      exact ok_zret d_S_wear_32 (by decide) ⟨rfl, rfl⟩
    · replace h := if_t hc h
      refine ok_aload_n (q := 20) 0 d_S_wear_19 rfl rfl rfl ?_
      refine gf_S_12 (q := 23) d_S_wear_20 rfl ?_
      refine gf_S_148 (q := 26) d_S_wear_23 rfl ?_
      refine ok_iload_n (q := 27) 1 d_S_wear_26 rfl rfl rfl ?_
      obtain ⟨hg, h⟩ := gd_e h
      obtain ⟨x5, e_x5, h⟩ := st_e h
      refine al_C_7 (q := 28) hg e_x5 d_S_wear_27 rfl ?_
      refine ok_if_eq (q := 31) (t := 33) d_S_wear_28 (by decide) rfl (fun hc => ?_) (fun hc => ?_)
      · replace h := if_t hc h
        refine ok_aload_n (q := 34) 0 d_S_wear_33 rfl rfl rfl ?_
        refine gf_S_12 (q := 37) d_S_wear_34 rfl ?_
        refine gf_S_148 (q := 40) d_S_wear_37 rfl ?_
        refine ok_iload_n (q := 41) 1 d_S_wear_40 rfl rfl rfl ?_
        refine ok_iconst (v := (1 : Int32)) (q := 42) d_S_wear_41 (by decide) rfl ?_
        obtain ⟨hi, h⟩ := gd_e h
        obtain ⟨S6, e_S6, h⟩ := st_e h
        refine as_C_7 (q := 43) hi e_S6 (by decide) d_S_wear_42 rfl ?_
        refine ok_iconst (v := (1 : Int32)) (q := 44) d_S_wear_43 (by decide) rfl ?_
        obtain ⟨rfl, rfl⟩ := so_e h
        exact ok_zret d_S_wear_44 (by decide) ⟨rfl, rfl⟩
      · replace h := if_f hc h
        refine ok_iconst (v := (0 : Int32)) (q := 32) d_S_wear_31 (by decide) rfl ?_
        obtain ⟨rfl, rfl⟩ := so_e h
        exact ok_zret d_S_wear_32 (by decide) ⟨rfl, rfl⟩
set_option maxRecDepth 20000 in
set_option maxHeartbeats 4000000 in
theorem ct_S_wear (p1 : Int32) (S : TC) (z : Int32) (Sz : TC) (h : fn_S_wear S p1 = some (z, Sz)) : Ct (wC g a) D (tyC g) l y_S_wear b_S_wear 2 (some .boolean) rm_S_wear [.ref (a 0), .int p1] S (pI z Sz) := ct_of (by decide) (Nat.le_of_ble_eq_true rfl) rfl (wk_S_wear p1 S z Sz h)

set_option maxRecDepth 20000 in
set_option maxHeartbeats 4000000 in
theorem wk_S_tags (p1 : Int32) (p2 : Int32) (S : TC) (z : Int32) (Sz : TC) (h : fn_S_tags S p1 p2 = some (z, Sz)) : Ok (wC g a) D (tyC g) l rm_S_tags R_S b_S_tags 4 (some .int) S 0 [(0, .ref (a 0)), (1, .int p1), (2, .int p2)] [] (pI z Sz) := by
  unfold fn_S_tags at h
  refine ok_iload_n (q := 1) 1 d_S_tags_0 rfl rfl rfl ?_
  refine ok_iload_n (q := 2) 2 d_S_tags_1 rfl rfl rfl ?_
  obtain ⟨x3, S1, hk, h⟩ := bd_e h
  refine cs_S_136 (q := 5) hk d_S_tags_2 rfl (by decide) (Nat.le_of_ble_eq_true rfl) ?_
  refine ok_if_ne (q := 8) (t := 10) d_S_tags_5 (by decide) rfl (fun hc => ?_) (fun hc => ?_)
  · replace h := if_f hc h
    refine ok_iload_n (q := 11) 1 d_S_tags_10 rfl rfl rfl ?_
    refine ok_bipush (v := (8 : Int32)) (q := 13) d_S_tags_11 (by decide) rfl ?_
    refine ok_imul (q := 14) d_S_tags_13 rfl ?_
    refine ok_iload_n (q := 15) 2 d_S_tags_14 rfl rfl rfl ?_
    refine ok_iadd (q := 16) d_S_tags_15 rfl ?_
    obtain ⟨x4, e_x4, h⟩ := st_e h
    refine ok_topi e_x4 ?_
    refine ok_istore_n (q := 17) (lv := [(3, .int x4), (0, .ref (a 0)), (1, .int p1), (2, .int p2)]) d_S_tags_16 rfl (by decide) rfl rfl ?_
    refine ok_aload_n (q := 18) 1 d_S_tags_17 rfl rfl rfl ?_
    refine gf_S_12 (q := 21) d_S_tags_18 rfl ?_
    refine ok_iload_n (q := 22) 0 d_S_tags_21 rfl rfl rfl ?_
    obtain ⟨x7, S5, hk, h⟩ := bd_e h
    refine cs_S_151 (q := 25) hk d_S_tags_22 rfl (by decide) (Nat.le_of_ble_eq_true rfl) ?_
    refine ok_if_eq (q := 28) (t := 40) d_S_tags_25 (by decide) rfl (fun hc => ?_) (fun hc => ?_)
    · replace h := if_t hc h
      refine ok_bipush (v := (-2 : Int32)) (q := 42) d_S_tags_40 (by decide) rfl ?_
      obtain ⟨rfl, rfl⟩ := so_e h
      exact ok_iret d_S_tags_42 ⟨rfl, rfl⟩
    · replace h := if_f hc h
      refine ok_aload_n (q := 29) 1 d_S_tags_28 rfl rfl rfl ?_
      refine gf_S_12 (q := 32) d_S_tags_29 rfl ?_
      refine gf_S_154 (q := 35) d_S_tags_32 rfl ?_
      refine ok_iload_n (q := 36) 0 d_S_tags_35 rfl rfl rfl ?_
      obtain ⟨hg, h⟩ := gd_e h
      obtain ⟨x8, e_x8, h⟩ := st_e h
      refine al_C_2 (q := 37) hg e_x8 d_S_tags_36 rfl ?_
      refine ok_goto (q := 42) d_S_tags_37 (by decide) ?_
      obtain ⟨rfl, rfl⟩ := so_e h
      exact ok_iret d_S_tags_42 ⟨rfl, rfl⟩
  · replace h := if_t hc h
    refine ok_iconst (v := (-1 : Int32)) (q := 9) d_S_tags_8 (by decide) rfl ?_
    obtain ⟨rfl, rfl⟩ := so_e h
    exact ok_iret d_S_tags_9 ⟨rfl, rfl⟩
set_option maxRecDepth 20000 in
set_option maxHeartbeats 4000000 in
theorem ct_S_tags (p1 : Int32) (p2 : Int32) (S : TC) (z : Int32) (Sz : TC) (h : fn_S_tags S p1 p2 = some (z, Sz)) : Ct (wC g a) D (tyC g) l y_S_tags b_S_tags 4 (some .int) rm_S_tags [.ref (a 0), .int p1, .int p2] S (pI z Sz) := ct_of (by decide) (Nat.le_of_ble_eq_true rfl) rfl (wk_S_tags p1 p2 S z Sz h)

end WALK
