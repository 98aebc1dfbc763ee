section WALK
variable {l : Launch} {D : va_G} {g : Nat → ClassId} {a r : Nat → Nat}
set_option maxRecDepth 20000 in
set_option maxHeartbeats 4000000 in
theorem wk_T_withSerial (p0 : Int32) (p1 : Int32) (S : TC) (z : Int32) (Sz : TC) (h : fn_T_withSerial S p0 p1 = some (z, Sz)) : Ok (wC g a) D (tyC g) l rm_T_withSerial R_T b_T_withSerial 2 (some .int) S 0 [(0, .int p0), (1, .int p1)] [] (pI z Sz) := by
  unfold fn_T_withSerial at h
  refine ok_iload_n (q := 1) 0 d_T_withSerial_0 rfl rfl rfl ?_
  refine ok_sipush (v := (-193 : Int32)) (q := 4) d_T_withSerial_1 (by decide) rfl ?_
  refine ok_iand (q := 5) d_T_withSerial_4 rfl ?_
  refine ok_iload_n (q := 6) 1 d_T_withSerial_5 rfl rfl rfl ?_
  refine ok_bipush (v := (6 : Int32)) (q := 8) d_T_withSerial_6 (by decide) rfl ?_
  refine ok_ishl (q := 9) d_T_withSerial_8 rfl ?_
  refine ok_ior (q := 10) d_T_withSerial_9 rfl ?_
  obtain ⟨rfl, rfl⟩ := so_e h
  exact ok_iret d_T_withSerial_10 ⟨rfl, rfl⟩
set_option maxRecDepth 20000 in
set_option maxHeartbeats 4000000 in
theorem ct_T_withSerial (p0 : Int32) (p1 : Int32) (S : TC) (z : Int32) (Sz : TC) (h : fn_T_withSerial S p0 p1 = some (z, Sz)) : Ct (wC g a) D (tyC g) l y_T_withSerial b_T_withSerial 2 (some .int) rm_T_withSerial [.int p0, .int p1] S (pI z Sz) := ct_of (by decide) (Nat.le_of_ble_eq_true rfl) rfl (wk_T_withSerial p0 p1 S z Sz h)
theorem cs_S_175 {l : Launch} {D : va_G} {g : Nat → ClassId} {a : Nat → Nat} {rm : Room} {b : ByteArray} {nL : Nat} {ret : Option FieldType} {pc q : Nat} {Lc : List (Nat × Value)} {St : List Value} {S S2 : TC} {Post : Option Value → TC → Prop} {p0 : Int32} {p1 : Int32} {z : Int32} (hk : fn_T_withSerial S p0 p1 = some (z, S2)) (hd : decode b pc = .ok (.invokestatic 175, 3)) (hq : pc + 3 = q) (hrm : rm_T_withSerial.frames + 1 ≤ rm.frames ∧ 8 + (2 + 11) + rm_T_withSerial.locals ≤ rm.locals) (hroom : (St.map fun v => v.category).sum ≤ 8) (k : Ok (wC g a) D (tyC g) l rm R_S b nL ret S2 q Lc (.int z :: St) Post) : Ok (wC g a) D (tyC g) l rm R_S b nL ret S pc Lc (.int p1 :: .int p0 :: St) Post := by
  subst hq
  exact ok_cS (As := [.int p0, .int p1]) (n := 2) (ct_T_withSerial p0 p1 S z S2 hk) hd wm_338 ⟨wm_339, wm_340, wm_73⟩ (by decide +kernel) ⟨⟨rfl, rfl⟩, hrm⟩ rfl rfl hroom ⟨Nat.zero_le _, Nat.zero_le _⟩ (fun v u h => by obtain ⟨rfl, rfl⟩ := h; exact k)
set_option maxRecDepth 20000 in
set_option maxHeartbeats 4000000 in
theorem wk_S_put (p1 : Int32) (p2 : Int32) (p3 : Int32) (p4 : Int64) (S : TC) (z : Int32) (Sz : TC) (h : fn_S_put S p1 p2 p3 p4 = some (z, Sz)) : Ok (wC g a) D (tyC g) l rm_S_put R_S b_S_put 7 (some .boolean) S 0 [(0, .ref (a 0)), (1, .int p1), (2, .int p2), (3, .int p3), (4, .long p4)] [] (pI z Sz) := by
  unfold fn_S_put at h
  refine ok_iload_n (q := 1) 1 d_S_put_0 rfl rfl rfl ?_
  refine ok_iconst (v := (-1 : Int32)) (q := 2) d_S_put_1 (by decide) rfl ?_
  refine ok_icmp_ne (q := 5) (t := 21) d_S_put_2 (by decide) rfl (fun hc => ?_) (fun hc => ?_)
  · replace h := if_f hc h
    refine ok_aload_n (q := 22) 0 d_S_put_21 rfl rfl rfl ?_
    refine gf_S_12 (q := 25) d_S_put_22 rfl ?_
    refine gf_S_154 (q := 28) d_S_put_25 rfl ?_
    refine ok_iload_n (q := 29) 1 d_S_put_28 rfl rfl rfl ?_
    obtain ⟨hg, h⟩ := gd_e h
    obtain ⟨x1, e_x1, h⟩ := st_e h
    refine al_C_2 (q := 30) hg e_x1 d_S_put_29 rfl ?_
    obtain ⟨x4, S2, hk, h⟩ := bd_e h
    refine cs_S_182 (q := 33) hk d_S_put_30 rfl (by decide) (Nat.le_of_ble_eq_true rfl) ?_
    refine ok_istore (q := 35) (lv := [(6, .int x4), (0, .ref (a 0)), (1, .int p1), (2, .int p2), (3, .int p3), (4, .long p4)]) d_S_put_33 (by decide) rfl rfl ?_
    refine ok_aload_n (q := 36) 1 d_S_put_35 rfl rfl rfl ?_
    refine gf_S_12 (q := 39) d_S_put_36 rfl ?_
    refine ok_iload_n (q := 40) 3 d_S_put_39 rfl rfl rfl ?_
    refine ok_iload (q := 42) 0 d_S_put_40 rfl rfl ?_
    obtain ⟨x7, S5, hk, h⟩ := bd_e h
    refine cs_S_175 (q := 45) hk d_S_put_42 rfl (by decide) (Nat.le_of_ble_eq_true rfl) ?_
    refine ok_iload_n (q := 46) 4 d_S_put_45 rfl rfl rfl ?_
    refine ok_lload (q := 48) 5 d_S_put_46 rfl rfl ?_
    obtain ⟨x10, S8, hk, h⟩ := bd_e h
    refine cs_S_178 (q := 51) hk d_S_put_48 rfl (by decide) (Nat.le_of_ble_eq_true rfl) ?_
    refine ok_if_eq (q := 54) (t := 69) d_S_put_51 (by decide) rfl (fun hc => ?_) (fun hc => ?_)
    · replace h := if_t hc h
      refine ok_iconst (v := (0 : Int32)) (q := 70) d_S_put_69 (by decide) rfl ?_
      obtain ⟨rfl, rfl⟩ := so_e h
      exact ok_zret d_S_put_70 (by decide) ⟨rfl, rfl⟩
    · replace h := if_f hc h
      refine ok_aload_n (q := 55) 1 d_S_put_54 rfl rfl rfl ?_
      refine gf_S_12 (q := 58) d_S_put_55 rfl ?_
      refine ok_iload_n (q := 59) 2 d_S_put_58 rfl rfl rfl ?_
      obtain ⟨x13, S11, hk, h⟩ := bd_e h
      refine cs_S_185 (q := 62) hk d_S_put_59 rfl (by decide) (Nat.le_of_ble_eq_true rfl) ?_
      refine ok_if_eq (q := 65) (t := 69) d_S_put_62 (by decide) rfl (fun hc => ?_) (fun hc => ?_)
      · replace h := if_t hc h
        refine ok_iconst (v := (0 : Int32)) (q := 70) d_S_put_69 (by decide) rfl ?_
        obtain ⟨rfl, rfl⟩ := so_e h
        exact ok_zret d_S_put_70 (by decide) ⟨rfl, rfl⟩
      · replace h := if_f hc h
        refine ok_iconst (v := (1 : Int32)) (q := 66) d_S_put_65 (by decide) rfl ?_
        refine ok_goto (q := 70) d_S_put_66 (by decide) ?_
        obtain ⟨rfl, rfl⟩ := so_e h
        exact ok_zret d_S_put_70 (by decide) ⟨rfl, rfl⟩
  · replace h := if_t hc h
    refine ok_aload_n (q := 6) 0 d_S_put_5 rfl rfl rfl ?_
    refine gf_S_12 (q := 9) d_S_put_6 rfl ?_
    refine ok_iload_n (q := 10) 2 d_S_put_9 rfl rfl rfl ?_
    refine ok_iconst (v := (0 : Int32)) (q := 11) d_S_put_10 (by decide) rfl ?_
    obtain ⟨x16, S14, hk, h⟩ := bd_e h
    refine cs_S_175 (q := 14) hk d_S_put_11 rfl (by decide) (Nat.le_of_ble_eq_true rfl) ?_
    refine ok_iload_n (q := 15) 3 d_S_put_14 rfl rfl rfl ?_
    refine ok_lload (q := 17) 4 d_S_put_15 rfl rfl ?_
    obtain ⟨x19, S17, hk, h⟩ := bd_e h
    refine cs_S_178 (q := 20) hk d_S_put_17 rfl (by decide) (Nat.le_of_ble_eq_true rfl) ?_
    obtain ⟨hg, h⟩ := gd_e h
    obtain ⟨rfl, rfl⟩ := so_e h
    exact ok_zret d_S_put_20 hg ⟨rfl, rfl⟩
set_option maxRecDepth 20000 in
set_option maxHeartbeats 4000000 in
theorem ct_S_put (p1 : Int32) (p2 : Int32) (p3 : Int32) (p4 : Int64) (S : TC) (z : Int32) (Sz : TC) (h : fn_S_put S p1 p2 p3 p4 = some (z, Sz)) : Ct (wC g a) D (tyC g) l y_S_put b_S_put 7 (some .boolean) rm_S_put [.ref (a 0), .int p1, .int p2, .int p3, .long p4] S (pI z Sz) := ct_of (by decide) (Nat.le_of_ble_eq_true rfl) rfl (wk_S_put p1 p2 p3 p4 S z Sz h)
theorem cs_S_45 {l : Launch} {D : va_G} {g : Nat → ClassId} {a : Nat → Nat} {rm : Room} {b : ByteArray} {nL : Nat} {ret : Option FieldType} {pc q : Nat} {Lc : List (Nat × Value)} {St : List Value} {S S2 : TC} {Post : Option Value → TC → Prop} {p1 : Int32} {p2 : Int32} {p3 : Int32} {p4 : Int64} {z : Int32} (hk : fn_S_put S p1 p2 p3 p4 = some (z, S2)) (hd : decode b pc = .ok (.invokevirtual 45, 3)) (hq : pc + 3 = q) (hrm : rm_S_put.frames + 1 ≤ rm.frames ∧ 8 + (7 + 11) + rm_S_put.locals ≤ rm.locals) (hroom : (St.map fun v => v.category).sum ≤ 8) (k : Ok (wC g a) D (tyC g) l rm R_S b nL ret S2 q Lc (.int z :: St) Post) : Ok (wC g a) D (tyC g) l rm R_S b nL ret S pc Lc (.long p4 :: .int p3 :: .int p2 :: .int p1 :: .ref (a 0) :: St) Post := by
  subst hq
  exact ok_cV (As := [.int p1, .int p2, .int p3, .long p4]) (n := 4) (C := R_S) (T := F_S) (N := 3) (ci := 0) (q0 := 0) (ct_S_put p1 p2 p3 p4 S z S2 hk) hd wm_220 ⟨wm_221, wm_222, wm_223, wm_204⟩ (by decide +kernel) ⟨⟨rfl, rfl⟩, hrm⟩ rfl rfl rfl rfl hroom ⟨Nat.zero_le _, Nat.zero_le _⟩ (fun v u h => by obtain ⟨rfl, rfl⟩ := h; exact k)
set_option maxRecDepth 20000 in
set_option maxHeartbeats 4000000 in
theorem wk_S_putWordOf (p1 : Int32) (p2 : Int32) (S : TC) (z : Int32) (Sz : TC) (h : fn_S_putWordOf S p1 p2 = some (z, Sz)) : Ok (wC g a) D (tyC g) l rm_S_putWordOf R_S b_S_putWordOf 5 (some .boolean) S 0 [(0, .ref (a 0)), (1, .int p1), (2, .int p2)] [] (pI z Sz) := by
  unfold fn_S_putWordOf at h
  refine ok_aload_n (q := 1) 0 d_S_putWordOf_0 rfl rfl rfl ?_
  refine gf_S_12 (q := 4) d_S_putWordOf_1 rfl ?_
  refine ok_iload_n (q := 5) 1 d_S_putWordOf_4 rfl rfl rfl ?_
  obtain ⟨x3, S1, hk, h⟩ := bd_e h
  refine cs_S_188 (q := 8) hk d_S_putWordOf_5 rfl (by decide) (Nat.le_of_ble_eq_true rfl) ?_
  refine ok_if_eq (q := 11) (t := 23) d_S_putWordOf_8 (by decide) rfl (fun hc => ?_) (fun hc => ?_)
  · replace h := if_t hc h
    refine ok_lconst (v := (0 : Int64)) (q := 24) d_S_putWordOf_23 (by decide) rfl ?_
    refine ok_lstore_n (q := 25) (lv := [(3, .long (0 : Int64)), (0, .ref (a 0)), (1, .int p1), (2, .int p2)]) d_S_putWordOf_24 rfl (by decide) rfl rfl ?_
    refine ok_aload_n (q := 26) 1 d_S_putWordOf_25 rfl rfl rfl ?_
    refine ok_iload_n (q := 27) 2 d_S_putWordOf_26 rfl rfl rfl ?_
    refine ok_iload_n (q := 28) 3 d_S_putWordOf_27 rfl rfl rfl ?_
    refine ok_aload_n (q := 29) 1 d_S_putWordOf_28 rfl rfl rfl ?_
    refine gf_S_12 (q := 32) d_S_putWordOf_29 rfl ?_
    refine gf_S_195 (q := 35) d_S_putWordOf_32 rfl ?_
    refine ok_iload_n (q := 36) 2 d_S_putWordOf_35 rfl rfl rfl ?_
    obtain ⟨hg, h⟩ := gd_e h
    obtain ⟨x4, e_x4, h⟩ := st_e h
    refine al_C_3 (q := 37) hg e_x4 d_S_putWordOf_36 rfl ?_
    refine ok_lload_n (q := 38) 0 d_S_putWordOf_37 rfl rfl rfl ?_
    obtain ⟨x7, S5, hk, h⟩ := bd_e h
    refine cs_S_45 (q := 41) hk d_S_putWordOf_38 rfl (by decide) (Nat.le_of_ble_eq_true rfl) ?_
    obtain ⟨hg, h⟩ := gd_e h
    obtain ⟨rfl, rfl⟩ := so_e h
    exact ok_zret d_S_putWordOf_41 hg ⟨rfl, rfl⟩
  · replace h := if_f hc h
    refine ok_aload_n (q := 12) 0 d_S_putWordOf_11 rfl rfl rfl ?_
    refine gf_S_12 (q := 15) d_S_putWordOf_12 rfl ?_
    refine gf_S_191 (q := 18) d_S_putWordOf_15 rfl ?_
    refine ok_iload_n (q := 19) 1 d_S_putWordOf_18 rfl rfl rfl ?_
    obtain ⟨hg, h⟩ := gd_e h
    obtain ⟨y8, e_y8, h⟩ := st_e h
    refine al_C_4 (q := 20) hg e_y8 d_S_putWordOf_19 rfl ?_
    refine ok_goto (q := 24) d_S_putWordOf_20 (by decide) ?_
    refine ok_lstore_n (q := 25) (lv := [(3, .long y8), (0, .ref (a 0)), (1, .int p1), (2, .int p2)]) d_S_putWordOf_24 rfl (by decide) rfl rfl ?_
    refine ok_aload_n (q := 26) 1 d_S_putWordOf_25 rfl rfl rfl ?_
    refine ok_iload_n (q := 27) 2 d_S_putWordOf_26 rfl rfl rfl ?_
    refine ok_iload_n (q := 28) 3 d_S_putWordOf_27 rfl rfl rfl ?_
    refine ok_aload_n (q := 29) 1 d_S_putWordOf_28 rfl rfl rfl ?_
    refine gf_S_12 (q := 32) d_S_putWordOf_29 rfl ?_
    refine gf_S_195 (q := 35) d_S_putWordOf_32 rfl ?_
    refine ok_iload_n (q := 36) 2 d_S_putWordOf_35 rfl rfl rfl ?_
    obtain ⟨hg, h⟩ := gd_e h
    obtain ⟨x9, e_x9, h⟩ := st_e h
    refine al_C_3 (q := 37) hg e_x9 d_S_putWordOf_36 rfl ?_
    refine ok_lload_n (q := 38) 0 d_S_putWordOf_37 rfl rfl rfl ?_
    obtain ⟨x12, S10, hk, h⟩ := bd_e h
    refine cs_S_45 (q := 41) hk d_S_putWordOf_38 rfl (by decide) (Nat.le_of_ble_eq_true rfl) ?_
    obtain ⟨hg, h⟩ := gd_e h
    obtain ⟨rfl, rfl⟩ := so_e h
    exact ok_zret d_S_putWordOf_41 hg ⟨rfl, rfl⟩
set_option maxRecDepth 20000 in
set_option maxHeartbeats 4000000 in
theorem ct_S_putWordOf (p1 : Int32) (p2 : Int32) (S : TC) (z : Int32) (Sz : TC) (h : fn_S_putWordOf S p1 p2 = some (z, Sz)) : Ct (wC g a) D (tyC g) l y_S_putWordOf b_S_putWordOf 5 (some .boolean) rm_S_putWordOf [.ref (a 0), .int p1, .int p2] S (pI z Sz) := ct_of (by decide) (Nat.le_of_ble_eq_true rfl) rfl (wk_S_putWordOf p1 p2 S z Sz h)
theorem cs_S_201 {l : Launch} {D : va_G} {g : Nat → ClassId} {a : Nat → Nat} {rm : Room} {b : ByteArray} {nL : Nat} {ret : Option FieldType} {pc q : Nat} {Lc : List (Nat × Value)} {St : List Value} {S S2 : TC} {Post : Option Value → TC → Prop} {p1 : Int32} {p2 : Int32} {z : Int32} (hk : fn_S_putWordOf S p1 p2 = some (z, S2)) (hd : decode b pc = .ok (.invokevirtual 201, 3)) (hq : pc + 3 = q) (hrm : rm_S_putWordOf.frames + 1 ≤ rm.frames ∧ 8 + (5 + 11) + rm_S_putWordOf.locals ≤ rm.locals) (hroom : (St.map fun v => v.category).sum ≤ 8) (k : Ok (wC g a) D (tyC g) l rm R_S b nL ret S2 q Lc (.int z :: St) Post) : Ok (wC g a) D (tyC g) l rm R_S b nL ret S pc Lc (.int p2 :: .int p1 :: .ref (a 0) :: St) Post := by
  subst hq
  exact ok_cV (As := [.int p1, .int p2]) (n := 2) (C := R_S) (T := F_S) (N := 3) (ci := 0) (q0 := 0) (ct_S_putWordOf p1 p2 S z S2 hk) hd wm_356 ⟨wm_357, wm_358, wm_359, wm_204⟩ (by decide +kernel) ⟨⟨rfl, rfl⟩, hrm⟩ rfl rfl rfl rfl hroom ⟨Nat.zero_le _, Nat.zero_le _⟩ (fun v u h => by obtain ⟨rfl, rfl⟩ := h; exact k)
set_option maxRecDepth 20000 in
set_option maxHeartbeats 4000000 in
theorem wl_S_collect_7 (n : Nat) : ∀ (p1 : Int32) (p2 : Int32) (p3 : Int32) (S : TC) (z : Int32) (Sz : TC), lp_S_collect_7 n S p1 p2 p3 = some (z, Sz) → Ok (wC g a) D (tyC g) l rm_S_collect R_S b_S_collect 4 (some .boolean) S 7 [(0, .ref (a 0)), (1, .int p1), (2, .int p2), (3, .int p3)] [] (pI z Sz) := by
  induction n with
  | zero => intro p1 p2 p3 S z Sz h; exact absurd h (fun h => by cases h)
  | succ n ih =>
    intro p1 p2 p3 S z Sz h
    rw [le_S_collect_7] at h
    refine ok_iload_n (q := 8) 3 d_S_collect_7 rfl rfl rfl ?_
    refine ok_iload_n (q := 9) 2 d_S_collect_8 rfl rfl rfl ?_
    refine ok_bipush (v := (8 : Int32)) (q := 11) d_S_collect_9 (by decide) rfl ?_
    refine ok_iadd (q := 12) d_S_collect_11 rfl ?_
    refine ok_icmp_ge (q := 15) (t := 51) d_S_collect_12 (by decide) rfl (fun hc => ?_) (fun hc => ?_)
    · replace h := if_t hc h
      refine ok_aload_n (q := 52) 0 d_S_collect_51 rfl rfl rfl ?_
      refine gf_S_12 (q := 55) d_S_collect_52 rfl ?_
      refine ok_iload_n (q := 56) 1 d_S_collect_55 rfl rfl rfl ?_
      obtain ⟨x3, S1, hk, h⟩ := bd_e h
      refine cs_S_219 (q := 59) hk d_S_collect_56 rfl (by decide) (Nat.le_of_ble_eq_true rfl) ?_
      obtain ⟨hg, h⟩ := gd_e h
      obtain ⟨rfl, rfl⟩ := so_e h
      exact ok_zret d_S_collect_59 hg ⟨rfl, rfl⟩
    · replace h := if_f hc h
      refine ok_aload_n (q := 16) 0 d_S_collect_15 rfl rfl rfl ?_
      refine gf_S_12 (q := 19) d_S_collect_16 rfl ?_
      refine ok_iload_n (q := 20) 3 d_S_collect_19 rfl rfl rfl ?_
      obtain ⟨x6, S4, hk, h⟩ := bd_e h
      refine cs_S_216 (q := 23) hk d_S_collect_20 rfl (by decide) (Nat.le_of_ble_eq_true rfl) ?_
      refine ok_if_eq (q := 26) (t := 45) d_S_collect_23 (by decide) rfl (fun hc => ?_) (fun hc => ?_)
      · replace h := if_t hc h
        obtain ⟨x7, e_x7, h⟩ := st_e h
        refine ok_iinc (d := (1 : Int32)) (q := 48) (lv := [(3, .int x7), (0, .ref (a 0)), (1, .int p1), (2, .int p2)]) 3 d_S_collect_45 rfl (by decide) e_x7 (by decide) rfl rfl ?_
        refine ok_goto (q := 7) d_S_collect_48 (by decide) ?_
        exact ok_sub [1, 2, 3, 0] rfl (ih p1 p2 x7 _ _ _ h)
      · replace h := if_f hc h
        refine ok_aload_n (q := 27) 0 d_S_collect_26 rfl rfl rfl ?_
        refine ok_iload_n (q := 28) 3 d_S_collect_27 rfl rfl rfl ?_
        refine ok_aload_n (q := 29) 0 d_S_collect_28 rfl rfl rfl ?_
        refine gf_S_12 (q := 32) d_S_collect_29 rfl ?_
        refine gf_S_154 (q := 35) d_S_collect_32 rfl ?_
        refine ok_iload_n (q := 36) 3 d_S_collect_35 rfl rfl rfl ?_
        obtain ⟨hg, h⟩ := gd_e h
        obtain ⟨x8, e_x8, h⟩ := st_e h
        refine al_C_2 (q := 37) hg e_x8 d_S_collect_36 rfl ?_
        obtain ⟨x11, S9, hk, h⟩ := bd_e h
        refine cs_S_201 (q := 40) hk d_S_collect_37 rfl (by decide) (Nat.le_of_ble_eq_true rfl) ?_
        refine ok_if_ne (q := 43) (t := 45) d_S_collect_40 (by decide) rfl (fun hc => ?_) (fun hc => ?_)
        · replace h := if_f hc h
          obtain ⟨x12, e_x12, h⟩ := st_e h
          refine ok_iinc (d := (1 : Int32)) (q := 48) (lv := [(3, .int x12), (0, .ref (a 0)), (1, .int p1), (2, .int p2)]) 3 d_S_collect_45 rfl (by decide) e_x12 (by decide) rfl rfl ?_
          refine ok_goto (q := 7) d_S_collect_48 (by decide) ?_
          exact ok_sub [1, 2, 3, 0] rfl (ih p1 p2 x12 _ _ _ h)
        · replace h := if_t hc h
          refine ok_iconst (v := (0 : Int32)) (q := 44) d_S_collect_43 (by decide) rfl ?_
          obtain ⟨rfl, rfl⟩ := so_e h
          exact ok_zret d_S_collect_44 (by decide) ⟨rfl, rfl⟩
set_option maxRecDepth 20000 in
set_option maxHeartbeats 4000000 in
theorem wk_S_collect (p1 : Int32) (S : TC) (z : Int32) (Sz : TC) (h : fn_S_collect S p1 = some (z, Sz)) : Ok (wC g a) D (tyC g) l rm_S_collect R_S b_S_collect 4 (some .boolean) S 0 [(0, .ref (a 0)), (1, .int p1)] [] (pI z Sz) := by
  unfold fn_S_collect at h
  refine ok_iload_n (q := 1) 1 d_S_collect_0 rfl rfl rfl ?_
  refine ok_bipush (v := (8 : Int32)) (q := 3) d_S_collect_1 (by decide) rfl ?_
  refine ok_imul (q := 4) d_S_collect_3 rfl ?_
  obtain ⟨x1, e_x1, h⟩ := st_e h
  refine ok_topi e_x1 ?_
  refine ok_istore_n (q := 5) (lv := [(2, .int x1), (0, .ref (a 0)), (1, .int p1)]) d_S_collect_4 rfl (by decide) rfl rfl ?_
  refine ok_iload_n (q := 6) 0 d_S_collect_5 rfl rfl rfl ?_
  refine ok_istore_n (q := 7) (lv := [(3, .int x1), (2, .int x1), (0, .ref (a 0)), (1, .int p1)]) d_S_collect_6 rfl (by decide) rfl rfl ?_
  exact ok_sub [2, 3, 1, 0] rfl (wl_S_collect_7 64 p1 x1 x1 _ _ _ h)
set_option maxRecDepth 20000 in
set_option maxHeartbeats 4000000 in
theorem ct_S_collect (p1 : Int32) (S : TC) (z : Int32) (Sz : TC) (h : fn_S_collect S p1 = some (z, Sz)) : Ct (wC g a) D (tyC g) l y_S_collect b_S_collect 4 (some .boolean) rm_S_collect [.ref (a 0), .int p1] S (pI z Sz) := ct_of (by decide) (Nat.le_of_ble_eq_true rfl) rfl (wk_S_collect p1 S z Sz h)
theorem cs_S_207 {l : Launch} {D : va_G} {g : Nat → ClassId} {a : Nat → Nat} {rm : Room} {b : ByteArray} {nL : Nat} {ret : Option FieldType} {pc q : Nat} {Lc : List (Nat × Value)} {St : List Value} {S S2 : TC} {Post : Option Value → TC → Prop} {p1 : Int32} {z : Int32} (hk : fn_S_collect S p1 = some (z, S2)) (hd : decode b pc = .ok (.invokevirtual 207, 3)) (hq : pc + 3 = q) (hrm : rm_S_collect.frames + 1 ≤ rm.frames ∧ 8 + (4 + 11) + rm_S_collect.locals ≤ rm.locals) (hroom : (St.map fun v => v.category).sum ≤ 8) (k : Ok (wC g a) D (tyC g) l rm R_S b nL ret S2 q Lc (.int z :: St) Post) : Ok (wC g a) D (tyC g) l rm R_S b nL ret S pc Lc (.int p1 :: .ref (a 0) :: St) Post := by
  subst hq
  exact ok_cV (As := [.int p1]) (n := 1) (C := R_S) (T := F_S) (N := 3) (ci := 0) (q0 := 0) (ct_S_collect p1 S z S2 hk) hd wm_364 ⟨wm_365, wm_366, wm_367, wm_204⟩ (by decide +kernel) ⟨⟨rfl, rfl⟩, hrm⟩ rfl rfl rfl rfl hroom ⟨Nat.zero_le _, Nat.zero_le _⟩ (fun v u h => by obtain ⟨rfl, rfl⟩ := h; exact k)
set_option maxRecDepth 20000 in
set_option maxHeartbeats 4000000 in
theorem wk_S_switchOff (S : TC) (z : Int32) (Sz : TC) (h : fn_S_switchOff S = some (z, Sz)) : Ok (wC g a) D (tyC g) l rm_S_switchOff R_S b_S_switchOff 1 (some .int) S 0 [(0, .ref (a 0))] [] (pI z Sz) := by
  unfold fn_S_switchOff at h
  refine ok_aload_n (q := 1) 0 d_S_switchOff_0 rfl rfl rfl ?_
  refine ok_iconst (v := (0 : Int32)) (q := 2) d_S_switchOff_1 (by decide) rfl ?_
  obtain ⟨S1, e_S1, h⟩ := st_e h
  refine pf_S_20 (q := 5) e_S1 (by decide) d_S_switchOff_2 rfl ?_
  refine ok_bipush (v := (-9 : Int32)) (q := 7) d_S_switchOff_5 (by decide) rfl ?_
  obtain ⟨rfl, rfl⟩ := so_e h
  exact ok_iret d_S_switchOff_7 ⟨rfl, rfl⟩
set_option maxRecDepth 20000 in
set_option maxHeartbeats 4000000 in
theorem ct_S_switchOff (S : TC) (z : Int32) (Sz : TC) (h : fn_S_switchOff S = some (z, Sz)) : Ct (wC g a) D (tyC g) l y_S_switchOff b_S_switchOff 1 (some .int) rm_S_switchOff [.ref (a 0)] S (pI z Sz) := ct_of (by decide) (Nat.le_of_ble_eq_true rfl) rfl (wk_S_switchOff S z Sz h)
theorem cs_S_49 {l : Launch} {D : va_G} {g : Nat → ClassId} {a : Nat → Nat} {rm : Room} {b : ByteArray} {nL : Nat} {ret : Option FieldType} {pc q : Nat} {Lc : List (Nat × Value)} {St : List Value} {S S2 : TC} {Post : Option Value → TC → Prop} {z : Int32} (hk : fn_S_switchOff S = some (z, S2)) (hd : decode b pc = .ok (.invokevirtual 49, 3)) (hq : pc + 3 = q) (hrm : rm_S_switchOff.frames + 1 ≤ rm.frames ∧ 8 + (1 + 11) + rm_S_switchOff.locals ≤ rm.locals) (hroom : (St.map fun v => v.category).sum ≤ 8) (k : Ok (wC g a) D (tyC g) l rm R_S b nL ret S2 q Lc (.int z :: St) Post) : Ok (wC g a) D (tyC g) l rm R_S b nL ret S pc Lc (.ref (a 0) :: St) Post := by
  subst hq
  exact ok_cV (As := []) (n := 0) (C := R_S) (T := F_S) (N := 3) (ci := 0) (q0 := 0) (ct_S_switchOff S z S2 hk) hd wm_224 ⟨wm_225, wm_226, wm_227, wm_204⟩ (by decide +kernel) ⟨⟨rfl, rfl⟩, hrm⟩ rfl rfl rfl rfl hroom ⟨Nat.zero_le _, Nat.zero_le _⟩ (fun v u h => by obtain ⟨rfl, rfl⟩ := h; exact k)
set_option maxRecDepth 20000 in
set_option maxHeartbeats 4000000 in
theorem wl_S_makeRoom_7 (n : Nat) : ∀ (p2 : Int32) (p3 : Int32) (S : TC) (z : Int32) (Sz : TC), lp_S_makeRoom_7 n S p2 p3 = some (z, Sz) → Ok (wC g a) D (tyC g) l rm_S_makeRoom R_S b_S_makeRoom 5 (some .int) S 7 [(0, .ref (a 0)), (2, .int p2), (3, .int p3)] [] (pI z Sz) := by
  induction n with
  | zero => intro p2 p3 S z Sz h; exact absurd h (fun h => by cases h)
  | succ n ih =>
    intro p2 p3 S z Sz h
    rw [le_S_makeRoom_7] at h
    refine ok_iload_n (q := 8) 2 d_S_makeRoom_7 rfl rfl rfl ?_
    refine ok_sipush (v := (1000 : Int32)) (q := 11) d_S_makeRoom_8 (by decide) rfl ?_
    refine ok_icmp_ge (q := 14) (t := 60) d_S_makeRoom_11 (by decide) rfl (fun hc => ?_) (fun hc => ?_)
    · replace h := if_t hc h
      refine ok_aload_n (q := 61) 0 d_S_makeRoom_60 rfl rfl rfl ?_
      refine gf_S_12 (q := 64) d_S_makeRoom_61 rfl ?_
      obtain ⟨x3, S1, hk, h⟩ := bd_e h
      refine cs_S_158 (q := 67) hk d_S_makeRoom_64 rfl (by decide) (Nat.le_of_ble_eq_true rfl) ?_
      refine ok_iload_n (q := 68) 1 d_S_makeRoom_67 rfl rfl rfl ?_
      refine ok_icmp_ge (q := 71) (t := 76) d_S_makeRoom_68 (by decide) rfl (fun hc => ?_) (fun hc => ?_)
      · replace h := if_t hc h
        refine ok_iconst (v := (0 : Int32)) (q := 77) d_S_makeRoom_76 (by decide) rfl ?_
        obtain ⟨rfl, rfl⟩ := so_e h
        exact ok_iret d_S_makeRoom_77 ⟨rfl, rfl⟩
      · replace h := if_f hc h
        refine ok_bipush (v := (-6 : Int32)) (q := 73) d_S_makeRoom_71 (by decide) rfl ?_
        refine ok_goto (q := 77) d_S_makeRoom_73 (by decide) ?_
        obtain ⟨rfl, rfl⟩ := so_e h
        exact ok_iret d_S_makeRoom_77 ⟨rfl, rfl⟩
    · replace h := if_f hc h
      refine ok_aload_n (q := 15) 0 d_S_makeRoom_14 rfl rfl rfl ?_
      refine gf_S_12 (q := 18) d_S_makeRoom_15 rfl ?_
      obtain ⟨x6, S4, hk, h⟩ := bd_e h
      refine cs_S_158 (q := 21) hk d_S_makeRoom_18 rfl (by decide) (Nat.le_of_ble_eq_true rfl) ?_
      refine ok_iload_n (q := 22) 1 d_S_makeRoom_21 rfl rfl rfl ?_
      refine ok_icmp_ge (q := 25) (t := 60) d_S_makeRoom_22 (by decide) rfl (fun hc => ?_) (fun hc => ?_)
      · replace h := if_t hc h
        refine ok_aload_n (q := 61) 0 d_S_makeRoom_60 rfl rfl rfl ?_
        refine gf_S_12 (q := 64) d_S_makeRoom_61 rfl ?_
        obtain ⟨x9, S7, hk, h⟩ := bd_e h
        refine cs_S_158 (q := 67) hk d_S_makeRoom_64 rfl (by decide) (Nat.le_of_ble_eq_true rfl) ?_
        refine ok_iload_n (q := 68) 1 d_S_makeRoom_67 rfl rfl rfl ?_
        refine ok_icmp_ge (q := 71) (t := 76) d_S_makeRoom_68 (by decide) rfl (fun hc => ?_) (fun hc => ?_)
        · replace h := if_t hc h
          refine ok_iconst (v := (0 : Int32)) (q := 77) d_S_makeRoom_76 (by decide) rfl ?_
          obtain ⟨rfl, rfl⟩ := so_e h
          exact ok_iret d_S_makeRoom_77 ⟨rfl, rfl⟩
        · replace h := if_f hc h
          refine ok_bipush (v := (-6 : Int32)) (q := 73) d_S_makeRoom_71 (by decide) rfl ?_
          refine ok_goto (q := 77) d_S_makeRoom_73 (by decide) ?_
          obtain ⟨rfl, rfl⟩ := so_e h
          exact ok_iret d_S_makeRoom_77 ⟨rfl, rfl⟩
      · replace h := if_f hc h
        refine ok_aload_n (q := 26) 0 d_S_makeRoom_25 rfl rfl rfl ?_
        obtain ⟨x12, S10, hk, h⟩ := bd_e h
        refine cs_S_204 (q := 29) hk d_S_makeRoom_26 rfl (by decide) (Nat.le_of_ble_eq_true rfl) ?_
        refine ok_istore (q := 31) (lv := [(4, .int x12), (0, .ref (a 0)), (2, .int p2), (3, .int p3)]) d_S_makeRoom_29 (by decide) rfl rfl ?_
        refine ok_iload (q := 33) 0 d_S_makeRoom_31 rfl rfl ?_
        refine ok_iconst (v := (-1 : Int32)) (q := 34) d_S_makeRoom_33 (by decide) rfl ?_
        refine ok_icmp_ne (q := 37) (t := 40) d_S_makeRoom_34 (by decide) rfl (fun hc => ?_) (fun hc => ?_)
        · replace h := if_f hc h
          refine ok_aload_n (q := 41) 1 d_S_makeRoom_40 rfl rfl rfl ?_
          refine ok_iload (q := 43) 0 d_S_makeRoom_41 rfl rfl ?_
          obtain ⟨x15, S13, hk, h⟩ := bd_e h
          refine cs_S_207 (q := 46) hk d_S_makeRoom_43 rfl (by decide) (Nat.le_of_ble_eq_true rfl) ?_
          refine ok_if_ne (q := 49) (t := 54) d_S_makeRoom_46 (by decide) rfl (fun hc => ?_) (fun hc => ?_)
          · replace h := if_f hc h
            obtain ⟨x16, e_x16, h⟩ := st_e h
            refine ok_iinc (d := (1 : Int32)) (q := 57) (lv := [(3, .int x16), (4, .int x12), (0, .ref (a 0)), (2, .int p2)]) 3 d_S_makeRoom_54 rfl (by decide) e_x16 (by decide) rfl rfl ?_
            refine ok_goto (q := 7) d_S_makeRoom_57 (by decide) ?_
            exact ok_sub [2, 3, 0] rfl (ih p2 x16 _ _ _ h)
          · replace h := if_t hc h
            refine ok_aload_n (q := 50) 1 d_S_makeRoom_49 rfl rfl rfl ?_
            obtain ⟨x19, S17, hk, h⟩ := bd_e h
            refine cs_S_49 (q := 53) hk d_S_makeRoom_50 rfl (by decide) (Nat.le_of_ble_eq_true rfl) ?_
            obtain ⟨rfl, rfl⟩ := so_e h
            exact ok_iret d_S_makeRoom_53 ⟨rfl, rfl⟩
        · replace h := if_t hc h
          refine ok_bipush (v := (-6 : Int32)) (q := 39) d_S_makeRoom_37 (by decide) rfl ?_
          obtain ⟨rfl, rfl⟩ := so_e h
          exact ok_iret d_S_makeRoom_39 ⟨rfl, rfl⟩
set_option maxRecDepth 20000 in
set_option maxHeartbeats 4000000 in
theorem wk_S_makeRoom (p1 : Int32) (S : TC) (z : Int32) (Sz : TC) (h : fn_S_makeRoom S p1 = some (z, Sz)) : Ok (wC g a) D (tyC g) l rm_S_makeRoom R_S b_S_makeRoom 5 (some .int) S 0 [(0, .ref (a 0)), (1, .int p1)] [] (pI z Sz) := by
  unfold fn_S_makeRoom at h
  refine ok_bipush (v := (8 : Int32)) (q := 2) d_S_makeRoom_0 (by decide) rfl ?_
  refine ok_iload_n (q := 3) 1 d_S_makeRoom_2 rfl rfl rfl ?_
  refine ok_iadd (q := 4) d_S_makeRoom_3 rfl ?_
  obtain ⟨x1, e_x1, h⟩ := st_e h
  refine ok_topi e_x1 ?_
  refine ok_istore_n (q := 5) (lv := [(2, .int x1), (0, .ref (a 0)), (1, .int p1)]) d_S_makeRoom_4 rfl (by decide) rfl rfl ?_
  refine ok_iconst (v := (0 : Int32)) (q := 6) d_S_makeRoom_5 (by decide) rfl ?_
  refine ok_istore_n (q := 7) (lv := [(3, .int (0 : Int32)), (2, .int x1), (0, .ref (a 0)), (1, .int p1)]) d_S_makeRoom_6 rfl (by decide) rfl rfl ?_
  exact ok_sub [2, 1, 0] rfl (wl_S_makeRoom_7 64 x1 (0 : Int32) _ _ _ h)
set_option maxRecDepth 20000 in
set_option maxHeartbeats 4000000 in
theorem ct_S_makeRoom (p1 : Int32) (S : TC) (z : Int32) (Sz : TC) (h : fn_S_makeRoom S p1 = some (z, Sz)) : Ct (wC g a) D (tyC g) l y_S_makeRoom b_S_makeRoom 5 (some .int) rm_S_makeRoom [.ref (a 0), .int p1] S (pI z Sz) := ct_of (by decide) (Nat.le_of_ble_eq_true rfl) rfl (wk_S_makeRoom p1 S z Sz h)
theorem cs_S_36 {l : Launch} {D : va_G} {g : Nat → ClassId} {a : Nat → Nat} {rm : Room} {b : ByteArray} {nL : Nat} {ret : Option FieldType} {pc q : Nat} {Lc : List (Nat × Value)} {St : List Value} {S S2 : TC} {Post : Option Value → TC → Prop} {p1 : Int32} {z : Int32} (hk : fn_S_makeRoom S p1 = some (z, S2)) (hd : decode b pc = .ok (.invokevirtual 36, 3)) (hq : pc + 3 = q) (hrm : rm_S_makeRoom.frames + 1 ≤ rm.frames ∧ 8 + (5 + 11) + rm_S_makeRoom.locals ≤ rm.locals) (hroom : (St.map fun v => v.category).sum ≤ 8) (k : Ok (wC g a) D (tyC g) l rm R_S b nL ret S2 q Lc (.int z :: St) Post) : Ok (wC g a) D (tyC g) l rm R_S b nL ret S pc Lc (.int p1 :: .ref (a 0) :: St) Post := by
  subst hq
  exact ok_cV (As := [.int p1]) (n := 1) (C := R_S) (T := F_S) (N := 3) (ci := 0) (q0 := 0) (ct_S_makeRoom p1 S z S2 hk) hd wm_213 ⟨wm_214, wm_215, wm_216, wm_204⟩ (by decide +kernel) ⟨⟨rfl, rfl⟩, hrm⟩ rfl rfl rfl rfl hroom ⟨Nat.zero_le _, Nat.zero_le _⟩ (fun v u h => by obtain ⟨rfl, rfl⟩ := h; exact k)
set_option maxRecDepth 20000 in
set_option maxHeartbeats 4000000 in
theorem wk_S_headerTags (p1 : Int32) (S : TC) (z : Int32) (Sz : TC) (h : fn_S_headerTags S p1 = some (z, Sz)) : Ok (wC g a) D (tyC g) l rm_S_headerTags R_S b_S_headerTags 3 (some .int) S 0 [(0, .ref (a 0)), (1, .int p1)] [] (pI z Sz) := by
  unfold fn_S_headerTags at h
  refine ok_aload_n (q := 1) 0 d_S_headerTags_0 rfl rfl rfl ?_
  refine gf_S_12 (q := 4) d_S_headerTags_1 rfl ?_
  refine ok_iload_n (q := 5) 1 d_S_headerTags_4 rfl rfl rfl ?_
  refine ok_iconst (v := (0 : Int32)) (q := 6) d_S_headerTags_5 (by decide) rfl ?_
  obtain ⟨x3, S1, hk, h⟩ := bd_e h
  refine cs_S_61 (q := 9) hk d_S_headerTags_6 rfl (by decide) (Nat.le_of_ble_eq_true rfl) ?_
  refine ok_istore_n (q := 10) (lv := [(2, .int x3), (0, .ref (a 0)), (1, .int p1)]) d_S_headerTags_9 rfl (by decide) rfl rfl ?_
  refine ok_iload_n (q := 11) 0 d_S_headerTags_10 rfl rfl rfl ?_
  refine ok_iconst (v := (-1 : Int32)) (q := 12) d_S_headerTags_11 (by decide) rfl ?_
  refine ok_icmp_ne (q := 15) (t := 19) d_S_headerTags_12 (by decide) rfl (fun hc => ?_) (fun hc => ?_)
  · replace h := if_f hc h
    refine ok_aload_n (q := 20) 1 d_S_headerTags_19 rfl rfl rfl ?_
    refine gf_S_12 (q := 23) d_S_headerTags_20 rfl ?_
    refine gf_S_154 (q := 26) d_S_headerTags_23 rfl ?_
    refine ok_iload_n (q := 27) 0 d_S_headerTags_26 rfl rfl rfl ?_
    obtain ⟨hg, h⟩ := gd_e h
    obtain ⟨x4, e_x4, h⟩ := st_e h
    refine al_C_2 (q := 28) hg e_x4 d_S_headerTags_27 rfl ?_
    obtain ⟨rfl, rfl⟩ := so_e h
    exact ok_iret d_S_headerTags_28 ⟨rfl, rfl⟩
  · replace h := if_t hc h
    refine ok_iconst (v := (0 : Int32)) (q := 16) d_S_headerTags_15 (by decide) rfl ?_
    refine ok_goto (q := 28) d_S_headerTags_16 (by decide) ?_
    obtain ⟨rfl, rfl⟩ := so_e h
    exact ok_iret d_S_headerTags_28 ⟨rfl, rfl⟩
set_option maxRecDepth 20000 in
set_option maxHeartbeats 4000000 in
theorem ct_S_headerTags (p1 : Int32) (S : TC) (z : Int32) (Sz : TC) (h : fn_S_headerTags S p1 = some (z, Sz)) : Ct (wC g a) D (tyC g) l y_S_headerTags b_S_headerTags 3 (some .int) rm_S_headerTags [.ref (a 0), .int p1] S (pI z Sz) := ct_of (by decide) (Nat.le_of_ble_eq_true rfl) rfl (wk_S_headerTags p1 S z Sz h)
theorem cs_S_55 {l : Launch} {D : va_G} {g : Nat → ClassId} {a : Nat → Nat} {rm : Room} {b : ByteArray} {nL : Nat} {ret : Option FieldType} {pc q : Nat} {Lc : List (Nat × Value)} {St : List Value} {S S2 : TC} {Post : Option Value → TC → Prop} {p1 : Int32} {z : Int32} (hk : fn_S_headerTags S p1 = some (z, S2)) (hd : decode b pc = .ok (.invokevirtual 55, 3)) (hq : pc + 3 = q) (hrm : rm_S_headerTags.frames + 1 ≤ rm.frames ∧ 8 + (3 + 11) + rm_S_headerTags.locals ≤ rm.locals) (hroom : (St.map fun v => v.category).sum ≤ 8) (k : Ok (wC g a) D (tyC g) l rm R_S b nL ret S2 q Lc (.int z :: St) Post) : Ok (wC g a) D (tyC g) l rm R_S b nL ret S pc Lc (.int p1 :: .ref (a 0) :: St) Post := by
  subst hq
  exact ok_cV (As := [.int p1]) (n := 1) (C := R_S) (T := F_S) (N := 3) (ci := 0) (q0 := 0) (ct_S_headerTags p1 S z S2 hk) hd wm_232 ⟨wm_233, wm_234, wm_235, wm_204⟩ (by decide +kernel) ⟨⟨rfl, rfl⟩, hrm⟩ rfl rfl rfl rfl hroom ⟨Nat.zero_le _, Nat.zero_le _⟩ (fun v u h => by obtain ⟨rfl, rfl⟩ := h; exact k)
set_option maxRecDepth 20000 in
set_option maxHeartbeats 4000000 in
theorem wk_T_parent (p0 : Int32) (S : TC) (z : Int32) (Sz : TC) (h : fn_T_parent S p0 = some (z, Sz)) : Ok (wC g a) D (tyC g) l rm_T_parent R_T b_T_parent 1 (some .int) S 0 [(0, .int p0)] [] (pI z Sz) := by
  unfold fn_T_parent at h
  refine ok_iload_n (q := 1) 0 d_T_parent_0 rfl rfl rfl ?_
  refine ok_sipush (v := (3584 : Int32)) (q := 4) d_T_parent_1 (by decide) rfl ?_
  refine ok_iand (q := 5) d_T_parent_4 rfl ?_
  refine ok_bipush (v := (9 : Int32)) (q := 7) d_T_parent_5 (by decide) rfl ?_
  refine ok_ishr (q := 8) d_T_parent_7 rfl ?_
  obtain ⟨rfl, rfl⟩ := so_e h
  exact ok_iret d_T_parent_8 ⟨rfl, rfl⟩
set_option maxRecDepth 20000 in
set_option maxHeartbeats 4000000 in
theorem ct_T_parent (p0 : Int32) (S : TC) (z : Int32) (Sz : TC) (h : fn_T_parent S p0 = some (z, Sz)) : Ct (wC g a) D (tyC g) l y_T_parent b_T_parent 1 (some .int) rm_T_parent [.int p0] S (pI z Sz) := ct_of (by decide) (Nat.le_of_ble_eq_true rfl) rfl (wk_T_parent p0 S z Sz h)
theorem cs_S_101 {l : Launch} {D : va_G} {g : Nat → ClassId} {a : Nat → Nat} {rm : Room} {b : ByteArray} {nL : Nat} {ret : Option FieldType} {pc q : Nat} {Lc : List (Nat × Value)} {St : List Value} {S S2 : TC} {Post : Option Value → TC → Prop} {p0 : Int32} {z : Int32} (hk : fn_T_parent S p0 = some (z, S2)) (hd : decode b pc = .ok (.invokestatic 101, 3)) (hq : pc + 3 = q) (hrm : rm_T_parent.frames + 1 ≤ rm.frames ∧ 8 + (1 + 11) + rm_T_parent.locals ≤ rm.locals) (hroom : (St.map fun v => v.category).sum ≤ 8) (k : Ok (wC g a) D (tyC g) l rm R_S b nL ret S2 q Lc (.int z :: St) Post) : Ok (wC g a) D (tyC g) l rm R_S b nL ret S pc Lc (.int p0 :: St) Post := by
  subst hq
  exact ok_cS (As := [.int p0]) (n := 1) (ct_T_parent p0 S z S2 hk) hd wm_281 ⟨wm_282, wm_283, wm_73⟩ (by decide +kernel) ⟨⟨rfl, rfl⟩, hrm⟩ rfl rfl hroom ⟨Nat.zero_le _, Nat.zero_le _⟩ (fun v u h => by obtain ⟨rfl, rfl⟩ := h; exact k)
set_option maxRecDepth 20000 in
set_option maxHeartbeats 4000000 in
theorem wk_S_isIn (p1 : Int32) (p2 : Int32) (S : TC) (z : Int32) (Sz : TC) (h : fn_S_isIn S p1 p2 = some (z, Sz)) : Ok (wC g a) D (tyC g) l rm_S_isIn R_S b_S_isIn 3 (some .boolean) S 0 [(0, .ref (a 0)), (1, .int p1), (2, .int p2)] [] (pI z Sz) := by
  unfold fn_S_isIn at h
  refine ok_aload_n (q := 1) 0 d_S_isIn_0 rfl rfl rfl ?_
  refine ok_iload_n (q := 2) 1 d_S_isIn_1 rfl rfl rfl ?_
  obtain ⟨x3, S1, hk, h⟩ := bd_e h
  refine cs_S_94 (q := 5) hk d_S_isIn_2 rfl (by decide) (Nat.le_of_ble_eq_true rfl) ?_
  refine ok_if_eq (q := 8) (t := 24) d_S_isIn_5 (by decide) rfl (fun hc => ?_) (fun hc => ?_)
  · replace h := if_t hc h
    refine ok_iconst (v := (0 : Int32)) (q := 25) d_S_isIn_24 (by decide) rfl ?_
    obtain ⟨rfl, rfl⟩ := so_e h
    exact ok_zret d_S_isIn_25 (by decide) ⟨rfl, rfl⟩
  · replace h := if_f hc h
    refine ok_aload_n (q := 9) 0 d_S_isIn_8 rfl rfl rfl ?_
    refine ok_iload_n (q := 10) 1 d_S_isIn_9 rfl rfl rfl ?_
    obtain ⟨x6, S4, hk, h⟩ := bd_e h
    refine cs_S_55 (q := 13) hk d_S_isIn_10 rfl (by decide) (Nat.le_of_ble_eq_true rfl) ?_
    obtain ⟨x9, S7, hk, h⟩ := bd_e h
    refine cs_S_101 (q := 16) hk d_S_isIn_13 rfl (by decide) (Nat.le_of_ble_eq_true rfl) ?_
    refine ok_iload_n (q := 17) 2 d_S_isIn_16 rfl rfl rfl ?_
    refine ok_icmp_ne (q := 20) (t := 24) d_S_isIn_17 (by decide) rfl (fun hc => ?_) (fun hc => ?_)
    · replace h := if_f hc h
      refine ok_iconst (v := (0 : Int32)) (q := 25) d_S_isIn_24 (by decide) rfl ?_
      obtain ⟨rfl, rfl⟩ := so_e h
      exact ok_zret d_S_isIn_25 (by decide) ⟨rfl, rfl⟩
    · replace h := if_t hc h
      refine ok_iconst (v := (1 : Int32)) (q := 21) d_S_isIn_20 (by decide) rfl ?_
      refine ok_goto (q := 25) d_S_isIn_21 (by decide) ?_
      obtain ⟨rfl, rfl⟩ := so_e h
      exact ok_zret d_S_isIn_25 (by decide) ⟨rfl, rfl⟩
set_option maxRecDepth 20000 in
set_option maxHeartbeats 4000000 in
theorem ct_S_isIn (p1 : Int32) (p2 : Int32) (S : TC) (z : Int32) (Sz : TC) (h : fn_S_isIn S p1 p2 = some (z, Sz)) : Ct (wC g a) D (tyC g) l y_S_isIn b_S_isIn 3 (some .boolean) rm_S_isIn [.ref (a 0), .int p1, .int p2] S (pI z Sz) := ct_of (by decide) (Nat.le_of_ble_eq_true rfl) rfl (wk_S_isIn p1 p2 S z Sz h)
theorem cs_S_172 {l : Launch} {D : va_G} {g : Nat → ClassId} {a : Nat → Nat} {rm : Room} {b : ByteArray} {nL : Nat} {ret : Option FieldType} {pc q : Nat} {Lc : List (Nat × Value)} {St : List Value} {S S2 : TC} {Post : Option Value → TC → Prop} {p1 : Int32} {p2 : Int32} {z : Int32} (hk : fn_S_isIn S p1 p2 = some (z, S2)) (hd : decode b pc = .ok (.invokevirtual 172, 3)) (hq : pc + 3 = q) (hrm : rm_S_isIn.frames + 1 ≤ rm.frames ∧ 8 + (3 + 11) + rm_S_isIn.locals ≤ rm.locals) (hroom : (St.map fun v => v.category).sum ≤ 8) (k : Ok (wC g a) D (tyC g) l rm R_S b nL ret S2 q Lc (.int z :: St) Post) : Ok (wC g a) D (tyC g) l rm R_S b nL ret S pc Lc (.int p2 :: .int p1 :: .ref (a 0) :: St) Post := by
  subst hq
  exact ok_cV (As := [.int p1, .int p2]) (n := 2) (C := R_S) (T := F_S) (N := 3) (ci := 0) (q0 := 0) (ct_S_isIn p1 p2 S z S2 hk) hd wm_334 ⟨wm_335, wm_336, wm_337, wm_204⟩ (by decide +kernel) ⟨⟨rfl, rfl⟩, hrm⟩ rfl rfl rfl rfl hroom ⟨Nat.zero_le _, Nat.zero_le _⟩ (fun v u h => by obtain ⟨rfl, rfl⟩ := h; exact k)
set_option maxRecDepth 20000 in
set_option maxHeartbeats 4000000 in
theorem wk_C_wordRead (p1 : Int32) (S : TC) (z : Int64) (Sz : TC) (h : fn_C_wordRead S p1 = some (z, Sz)) : Ok (wC g a) D (tyC g) l rm_C_wordRead R_C b_C_wordRead 2 (some .long) S 0 [(0, .ref (a 1)), (1, .int p1)] [] (pL z Sz) := by
  unfold fn_C_wordRead at h
  refine ok_aload_n (q := 1) 0 d_C_wordRead_0 rfl rfl rfl ?_
  refine ok_iload_n (q := 2) 1 d_C_wordRead_1 rfl rfl rfl ?_
  obtain ⟨x3, S1, hk, h⟩ := bd_e h
  refine cs_C_64 (q := 5) hk d_C_wordRead_2 rfl (by decide) (Nat.le_of_ble_eq_true rfl) ?_
  refine ok_if_eq (q := 8) (t := 14) d_C_wordRead_5 (by decide) rfl (fun hc => ?_) (fun hc => ?_)
  · replace h := if_t hc h
    refine ok_aload_n (q := 15) 0 d_C_wordRead_14 rfl rfl rfl ?_
    refine gf_C_15 (q := 18) d_C_wordRead_15 rfl ?_
    refine ok_iload_n (q := 19) 1 d_C_wordRead_18 rfl rfl rfl ?_
    obtain ⟨hg, h⟩ := gd_e h
    obtain ⟨x4, e_x4, h⟩ := st_e h
    refine al_C_3 (q := 20) hg e_x4 d_C_wordRead_19 rfl ?_
    refine ok_i2l (q := 21) d_C_wordRead_20 rfl ?_
    obtain ⟨rfl, rfl⟩ := so_e h
    exact ok_lret d_C_wordRead_21 ⟨rfl, rfl⟩
  · replace h := if_f hc h
    refine ok_ldc2 (q := 11) wm_3 d_C_wordRead_8 rfl ?_
    refine ok_goto (q := 21) d_C_wordRead_11 (by decide) ?_
    obtain ⟨rfl, rfl⟩ := so_e h
    exact ok_lret d_C_wordRead_21 ⟨rfl, rfl⟩
set_option maxRecDepth 20000 in
set_option maxHeartbeats 4000000 in
theorem ct_C_wordRead (p1 : Int32) (S : TC) (z : Int64) (Sz : TC) (h : fn_C_wordRead S p1 = some (z, Sz)) : Ct (wC g a) D (tyC g) l y_C_wordRead b_C_wordRead 2 (some .long) rm_C_wordRead [.ref (a 1), .int p1] S (pL z Sz) := ct_of (by decide) (Nat.le_of_ble_eq_true rfl) rfl (wk_C_wordRead p1 S z Sz h)
theorem cs_S_75 {l : Launch} {D : va_G} {g : Nat → ClassId} {a : Nat → Nat} {rm : Room} {b : ByteArray} {nL : Nat} {ret : Option FieldType} {pc q : Nat} {Lc : List (Nat × Value)} {St : List Value} {S S2 : TC} {Post : Option Value → TC → Prop} {p1 : Int32} {z : Int64} (hk : fn_C_wordRead S p1 = some (z, S2)) (hd : decode b pc = .ok (.invokevirtual 75, 3)) (hq : pc + 3 = q) (hrm : rm_C_wordRead.frames + 1 ≤ rm.frames ∧ 8 + (2 + 11) + rm_C_wordRead.locals ≤ rm.locals) (hroom : (St.map fun v => v.category).sum ≤ 8) (k : Ok (wC g a) D (tyC g) l rm R_S b nL ret S2 q Lc (.long z :: St) Post) : Ok (wC g a) D (tyC g) l rm R_S b nL ret S pc Lc (.int p1 :: .ref (a 1) :: St) Post := by
  subst hq
  exact ok_cV (As := [.int p1]) (n := 1) (C := R_C) (T := F_C) (N := 11) (ci := 1) (q0 := 1) (ct_C_wordRead p1 S z S2 hk) hd wm_250 ⟨wm_251, wm_252, wm_253, wm_69⟩ (by decide +kernel) ⟨⟨rfl, rfl⟩, hrm⟩ rfl rfl rfl rfl hroom ⟨Nat.zero_le _, Nat.zero_le _⟩ (fun v u h => by obtain ⟨rfl, rfl⟩ := h; exact k)
set_option maxRecDepth 20000 in
set_option maxHeartbeats 4000000 in
theorem wk_S_nameRead (p1 : Int32) (S : TC) (z : Int64) (Sz : TC) (h : fn_S_nameRead S p1 = some (z, Sz)) : Ok (wC g a) D (tyC g) l rm_S_nameRead R_S b_S_nameRead 3 (some .long) S 0 [(0, .ref (a 0)), (1, .int p1)] [] (pL z Sz) := by
  unfold fn_S_nameRead at h
  refine ok_aload_n (q := 1) 0 d_S_nameRead_0 rfl rfl rfl ?_
  refine gf_S_12 (q := 4) d_S_nameRead_1 rfl ?_
  refine ok_iload_n (q := 5) 1 d_S_nameRead_4 rfl rfl rfl ?_
  refine ok_iconst (v := (0 : Int32)) (q := 6) d_S_nameRead_5 (by decide) rfl ?_
  obtain ⟨x3, S1, hk, h⟩ := bd_e h
  refine cs_S_61 (q := 9) hk d_S_nameRead_6 rfl (by decide) (Nat.le_of_ble_eq_true rfl) ?_
  refine ok_istore_n (q := 10) (lv := [(2, .int x3), (0, .ref (a 0)), (1, .int p1)]) d_S_nameRead_9 rfl (by decide) rfl rfl ?_
  refine ok_iload_n (q := 11) 0 d_S_nameRead_10 rfl rfl rfl ?_
  refine ok_iconst (v := (-1 : Int32)) (q := 12) d_S_nameRead_11 (by decide) rfl ?_
  refine ok_icmp_ne (q := 15) (t := 21) d_S_nameRead_12 (by decide) rfl (fun hc => ?_) (fun hc => ?_)
  · replace h := if_f hc h
    refine ok_aload_n (q := 22) 1 d_S_nameRead_21 rfl rfl rfl ?_
    refine gf_S_12 (q := 25) d_S_nameRead_22 rfl ?_
    refine ok_iload_n (q := 26) 0 d_S_nameRead_25 rfl rfl rfl ?_
    obtain ⟨y5, S4, hk, h⟩ := bd_e h
    refine cs_S_75 (q := 29) hk d_S_nameRead_26 rfl (by decide) (Nat.le_of_ble_eq_true rfl) ?_
    obtain ⟨rfl, rfl⟩ := so_e h
    exact ok_lret d_S_nameRead_29 ⟨rfl, rfl⟩
  · replace h := if_t hc h
    refine ok_ldc2 (q := 18) wm_4 d_S_nameRead_15 rfl ?_
    refine ok_goto (q := 29) d_S_nameRead_18 (by decide) ?_
    obtain ⟨rfl, rfl⟩ := so_e h
    exact ok_lret d_S_nameRead_29 ⟨rfl, rfl⟩
set_option maxRecDepth 20000 in
set_option maxHeartbeats 4000000 in
theorem ct_S_nameRead (p1 : Int32) (S : TC) (z : Int64) (Sz : TC) (h : fn_S_nameRead S p1 = some (z, Sz)) : Ct (wC g a) D (tyC g) l y_S_nameRead b_S_nameRead 3 (some .long) rm_S_nameRead [.ref (a 0), .int p1] S (pL z Sz) := ct_of (by decide) (Nat.le_of_ble_eq_true rfl) rfl (wk_S_nameRead p1 S z Sz h)
theorem cs_S_104 {l : Launch} {D : va_G} {g : Nat → ClassId} {a : Nat → Nat} {rm : Room} {b : ByteArray} {nL : Nat} {ret : Option FieldType} {pc q : Nat} {Lc : List (Nat × Value)} {St : List Value} {S S2 : TC} {Post : Option Value → TC → Prop} {p1 : Int32} {z : Int64} (hk : fn_S_nameRead S p1 = some (z, S2)) (hd : decode b pc = .ok (.invokevirtual 104, 3)) (hq : pc + 3 = q) (hrm : rm_S_nameRead.frames + 1 ≤ rm.frames ∧ 8 + (3 + 11) + rm_S_nameRead.locals ≤ rm.locals) (hroom : (St.map fun v => v.category).sum ≤ 8) (k : Ok (wC g a) D (tyC g) l rm R_S b nL ret S2 q Lc (.long z :: St) Post) : Ok (wC g a) D (tyC g) l rm R_S b nL ret S pc Lc (.int p1 :: .ref (a 0) :: St) Post := by
  subst hq
  exact ok_cV (As := [.int p1]) (n := 1) (C := R_S) (T := F_S) (N := 3) (ci := 0) (q0 := 0) (ct_S_nameRead p1 S z S2 hk) hd wm_284 ⟨wm_285, wm_286, wm_287, wm_204⟩ (by decide +kernel) ⟨⟨rfl, rfl⟩, hrm⟩ rfl rfl rfl rfl hroom ⟨Nat.zero_le _, Nat.zero_le _⟩ (fun v u h => by obtain ⟨rfl, rfl⟩ := h; exact k)
set_option maxRecDepth 20000 in
set_option maxHeartbeats 4000000 in
theorem wl_S_objectNamed_2 (n : Nat) : ∀ (p1 : Int32) (p2 : Int32) (p3 : Int32) (S : TC) (z : Int32) (Sz : TC), lp_S_objectNamed_2 n S p1 p2 p3 = some (z, Sz) → Ok (wC g a) D (tyC g) l rm_S_objectNamed R_S b_S_objectNamed 4 (some .int) S 2 [(0, .ref (a 0)), (1, .int p1), (2, .int p2), (3, .int p3)] [] (pI z Sz) := by
  induction n with
  | zero => intro p1 p2 p3 S z Sz h; exact absurd h (fun h => by cases h)
  | succ n ih =>
    intro p1 p2 p3 S z Sz h
    rw [le_S_objectNamed_2] at h
    refine ok_iload_n (q := 3) 3 d_S_objectNamed_2 rfl rfl rfl ?_
    refine ok_bipush (v := (7 : Int32)) (q := 5) d_S_objectNamed_3 (by decide) rfl ?_
    refine ok_icmp_gt (q := 8) (t := 36) d_S_objectNamed_5 (by decide) rfl (fun hc => ?_) (fun hc => ?_)
    · replace h := if_t hc h
      refine ok_iconst (v := (0 : Int32)) (q := 37) d_S_objectNamed_36 (by decide) rfl ?_
      obtain ⟨rfl, rfl⟩ := so_e h
      exact ok_iret d_S_objectNamed_37 ⟨rfl, rfl⟩
    · replace h := if_f hc h
      refine ok_aload_n (q := 9) 0 d_S_objectNamed_8 rfl rfl rfl ?_
      refine ok_iload_n (q := 10) 3 d_S_objectNamed_9 rfl rfl rfl ?_
      refine ok_iload_n (q := 11) 1 d_S_objectNamed_10 rfl rfl rfl ?_
      obtain ⟨x3, S1, hk, h⟩ := bd_e h
      refine cs_S_172 (q := 14) hk d_S_objectNamed_11 rfl (by decide) (Nat.le_of_ble_eq_true rfl) ?_
      refine ok_if_eq (q := 17) (t := 30) d_S_objectNamed_14 (by decide) rfl (fun hc => ?_) (fun hc => ?_)
      · replace h := if_t hc h
        obtain ⟨x4, e_x4, h⟩ := st_e h
        refine ok_iinc (d := (1 : Int32)) (q := 33) (lv := [(3, .int x4), (0, .ref (a 0)), (1, .int p1), (2, .int p2)]) 3 d_S_objectNamed_30 rfl (by decide) e_x4 (by decide) rfl rfl ?_
        refine ok_goto (q := 2) d_S_objectNamed_33 (by decide) ?_
        exact ok_sub [1, 2, 3, 0] rfl (ih p1 p2 x4 _ _ _ h)
      · replace h := if_f hc h
        refine ok_aload_n (q := 18) 0 d_S_objectNamed_17 rfl rfl rfl ?_
        refine ok_iload_n (q := 19) 3 d_S_objectNamed_18 rfl rfl rfl ?_
        obtain ⟨y6, S5, hk, h⟩ := bd_e h
        refine cs_S_104 (q := 22) hk d_S_objectNamed_19 rfl (by decide) (Nat.le_of_ble_eq_true rfl) ?_
        refine ok_iload_n (q := 23) 2 d_S_objectNamed_22 rfl rfl rfl ?_
        refine ok_i2l (q := 24) d_S_objectNamed_23 rfl ?_
        refine ok_lcmp (q := 25) d_S_objectNamed_24 rfl ?_
        refine ok_if_ne (q := 28) (t := 30) d_S_objectNamed_25 (by decide) rfl (fun hc => ?_) (fun hc => ?_)
        · replace h := if_f hc h
          obtain ⟨x7, e_x7, h⟩ := st_e h
          refine ok_iinc (d := (1 : Int32)) (q := 33) (lv := [(3, .int x7), (0, .ref (a 0)), (1, .int p1), (2, .int p2)]) 3 d_S_objectNamed_30 rfl (by decide) e_x7 (by decide) rfl rfl ?_
          refine ok_goto (q := 2) d_S_objectNamed_33 (by decide) ?_
          exact ok_sub [1, 2, 3, 0] rfl (ih p1 p2 x7 _ _ _ h)
        · replace h := if_t hc h
          refine ok_iload_n (q := 29) 3 d_S_objectNamed_28 rfl rfl rfl ?_
          obtain ⟨rfl, rfl⟩ := so_e h
          exact ok_iret d_S_objectNamed_29 ⟨rfl, rfl⟩
set_option maxRecDepth 20000 in
set_option maxHeartbeats 4000000 in
theorem wk_S_objectNamed (p1 : Int32) (p2 : Int32) (S : TC) (z : Int32) (Sz : TC) (h : fn_S_objectNamed S p1 p2 = some (z, Sz)) : Ok (wC g a) D (tyC g) l rm_S_objectNamed R_S b_S_objectNamed 4 (some .int) S 0 [(0, .ref (a 0)), (1, .int p1), (2, .int p2)] [] (pI z Sz) := by
  unfold fn_S_objectNamed at h
  refine ok_iconst (v := (1 : Int32)) (q := 1) d_S_objectNamed_0 (by decide) rfl ?_
  refine ok_istore_n (q := 2) (lv := [(3, .int (1 : Int32)), (0, .ref (a 0)), (1, .int p1), (2, .int p2)]) d_S_objectNamed_1 rfl (by decide) rfl rfl ?_
  exact ok_sub [1, 2, 3, 0] rfl (wl_S_objectNamed_2 64 p1 p2 (1 : Int32) _ _ _ h)
set_option maxRecDepth 20000 in
set_option maxHeartbeats 4000000 in
theorem ct_S_objectNamed (p1 : Int32) (p2 : Int32) (S : TC) (z : Int32) (Sz : TC) (h : fn_S_objectNamed S p1 p2 = some (z, Sz)) : Ct (wC g a) D (tyC g) l y_S_objectNamed b_S_objectNamed 4 (some .int) rm_S_objectNamed [.ref (a 0), .int p1, .int p2] S (pI z Sz) := ct_of (by decide) (Nat.le_of_ble_eq_true rfl) rfl (wk_S_objectNamed p1 p2 S z Sz h)
theorem cs_S_28 {l : Launch} {D : va_G} {g : Nat → ClassId} {a : Nat → Nat} {rm : Room} {b : ByteArray} {nL : Nat} {ret : Option FieldType} {pc q : Nat} {Lc : List (Nat × Value)} {St : List Value} {S S2 : TC} {Post : Option Value → TC → Prop} {p1 : Int32} {p2 : Int32} {z : Int32} (hk : fn_S_objectNamed S p1 p2 = some (z, S2)) (hd : decode b pc = .ok (.invokevirtual 28, 3)) (hq : pc + 3 = q) (hrm : rm_S_objectNamed.frames + 1 ≤ rm.frames ∧ 8 + (4 + 11) + rm_S_objectNamed.locals ≤ rm.locals) (hroom : (St.map fun v => v.category).sum ≤ 8) (k : Ok (wC g a) D (tyC g) l rm R_S b nL ret S2 q Lc (.int z :: St) Post) : Ok (wC g a) D (tyC g) l rm R_S b nL ret S pc Lc (.int p2 :: .int p1 :: .ref (a 0) :: St) Post := by
  subst hq
  exact ok_cV (As := [.int p1, .int p2]) (n := 2) (C := R_S) (T := F_S) (N := 3) (ci := 0) (q0 := 0) (ct_S_objectNamed p1 p2 S z S2 hk) hd wm_205 ⟨wm_206, wm_207, wm_208, wm_204⟩ (by decide +kernel) ⟨⟨rfl, rfl⟩, hrm⟩ rfl rfl rfl rfl hroom ⟨Nat.zero_le _, Nat.zero_le _⟩ (fun v u h => by obtain ⟨rfl, rfl⟩ := h; exact k)
set_option maxRecDepth 20000 in
set_option maxHeartbeats 4000000 in
theorem wk_T_isOfDirectory (p0 : Int32) (S : TC) (z : Int32) (Sz : TC) (h : fn_T_isOfDirectory S p0 = some (z, Sz)) : Ok (wC g a) D (tyC g) l rm_T_isOfDirectory R_T b_T_isOfDirectory 1 (some .boolean) S 0 [(0, .int p0)] [] (pI z Sz) := by
  unfold fn_T_isOfDirectory at h
  refine ok_iload_n (q := 1) 0 d_T_isOfDirectory_0 rfl rfl rfl ?_
  refine ok_ldc (q := 3) wm_5 d_T_isOfDirectory_1 rfl ?_
  refine ok_iand (q := 4) d_T_isOfDirectory_3 rfl ?_
  refine ok_if_eq (q := 7) (t := 11) d_T_isOfDirectory_4 (by decide) rfl (fun hc => ?_) (fun hc => ?_)
  · replace h := if_t hc h
    refine ok_iconst (v := (0 : Int32)) (q := 12) d_T_isOfDirectory_11 (by decide) rfl ?_
    obtain ⟨rfl, rfl⟩ := so_e h
    exact ok_zret d_T_isOfDirectory_12 (by decide) ⟨rfl, rfl⟩
  · replace h := if_f hc h
    refine ok_iconst (v := (1 : Int32)) (q := 8) d_T_isOfDirectory_7 (by decide) rfl ?_
    refine ok_goto (q := 12) d_T_isOfDirectory_8 (by decide) ?_
    obtain ⟨rfl, rfl⟩ := so_e h
    exact ok_zret d_T_isOfDirectory_12 (by decide) ⟨rfl, rfl⟩
set_option maxRecDepth 20000 in
set_option maxHeartbeats 4000000 in
theorem ct_T_isOfDirectory (p0 : Int32) (S : TC) (z : Int32) (Sz : TC) (h : fn_T_isOfDirectory S p0 = some (z, Sz)) : Ct (wC g a) D (tyC g) l y_T_isOfDirectory b_T_isOfDirectory 1 (some .boolean) rm_T_isOfDirectory [.int p0] S (pI z Sz) := ct_of (by decide) (Nat.le_of_ble_eq_true rfl) rfl (wk_T_isOfDirectory p0 S z Sz h)
theorem cs_S_167 {l : Launch} {D : va_G} {g : Nat → ClassId} {a : Nat → Nat} {rm : Room} {b : ByteArray} {nL : Nat} {ret : Option FieldType} {pc q : Nat} {Lc : List (Nat × Value)} {St : List Value} {S S2 : TC} {Post : Option Value → TC → Prop} {p0 : Int32} {z : Int32} (hk : fn_T_isOfDirectory S p0 = some (z, S2)) (hd : decode b pc = .ok (.invokestatic 167, 3)) (hq : pc + 3 = q) (hrm : rm_T_isOfDirectory.frames + 1 ≤ rm.frames ∧ 8 + (1 + 11) + rm_T_isOfDirectory.locals ≤ rm.locals) (hroom : (St.map fun v => v.category).sum ≤ 8) (k : Ok (wC g a) D (tyC g) l rm R_S b nL ret S2 q Lc (.int z :: St) Post) : Ok (wC g a) D (tyC g) l rm R_S b nL ret S pc Lc (.int p0 :: St) Post := by
  subst hq
  exact ok_cS (As := [.int p0]) (n := 1) (ct_T_isOfDirectory p0 S z S2 hk) hd wm_331 ⟨wm_332, wm_333, wm_73⟩ (by decide +kernel) ⟨⟨rfl, rfl⟩, hrm⟩ rfl rfl hroom ⟨Nat.zero_le _, Nat.zero_le _⟩ (fun v u h => by obtain ⟨rfl, rfl⟩ := h; exact k)
set_option maxRecDepth 20000 in
set_option maxHeartbeats 4000000 in
theorem wk_S_isDirectory (p1 : Int32) (S : TC) (z : Int32) (Sz : TC) (h : fn_S_isDirectory S p1 = some (z, Sz)) : Ok (wC g a) D (tyC g) l rm_S_isDirectory R_S b_S_isDirectory 2 (some .boolean) S 0 [(0, .ref (a 0)), (1, .int p1)] [] (pI z Sz) := by
  unfold fn_S_isDirectory at h
  refine ok_iload_n (q := 1) 1 d_S_isDirectory_0 rfl rfl rfl ?_
  refine ok_if_eq (q := 4) (t := 15) d_S_isDirectory_1 (by decide) rfl (fun hc => ?_) (fun hc => ?_)
  · replace h := if_t hc h
    refine ok_iconst (v := (1 : Int32)) (q := 16) d_S_isDirectory_15 (by decide) rfl ?_
    refine ok_goto (q := 20) d_S_isDirectory_16 (by decide) ?_
    obtain ⟨rfl, rfl⟩ := so_e h
    exact ok_zret d_S_isDirectory_20 (by decide) ⟨rfl, rfl⟩
  · replace h := if_f hc h
    refine ok_aload_n (q := 5) 0 d_S_isDirectory_4 rfl rfl rfl ?_
    refine ok_iload_n (q := 6) 1 d_S_isDirectory_5 rfl rfl rfl ?_
    obtain ⟨x3, S1, hk, h⟩ := bd_e h
    refine cs_S_55 (q := 9) hk d_S_isDirectory_6 rfl (by decide) (Nat.le_of_ble_eq_true rfl) ?_
    obtain ⟨x6, S4, hk, h⟩ := bd_e h
    refine cs_S_167 (q := 12) hk d_S_isDirectory_9 rfl (by decide) (Nat.le_of_ble_eq_true rfl) ?_
    refine ok_if_eq (q := 15) (t := 19) d_S_isDirectory_12 (by decide) rfl (fun hc => ?_) (fun hc => ?_)
    · replace h := if_t hc h
      refine ok_iconst (v := (0 : Int32)) (q := 20) d_S_isDirectory_19 (by decide) rfl ?_
      obtain ⟨rfl, rfl⟩ := so_e h
      exact ok_zret d_S_isDirectory_20 (by decide) ⟨rfl, rfl⟩
    · replace h := if_f hc h
      refine ok_iconst (v := (1 : Int32)) (q := 16) d_S_isDirectory_15 (by decide) rfl ?_
      refine ok_goto (q := 20) d_S_isDirectory_16 (by decide) ?_
      obtain ⟨rfl, rfl⟩ := so_e h
      exact ok_zret d_S_isDirectory_20 (by decide) ⟨rfl, rfl⟩
set_option maxRecDepth 20000 in
set_option maxHeartbeats 4000000 in
theorem ct_S_isDirectory (p1 : Int32) (S : TC) (z : Int32) (Sz : TC) (h : fn_S_isDirectory S p1 = some (z, Sz)) : Ct (wC g a) D (tyC g) l y_S_isDirectory b_S_isDirectory 2 (some .boolean) rm_S_isDirectory [.ref (a 0), .int p1] S (pI z Sz) := ct_of (by decide) (Nat.le_of_ble_eq_true rfl) rfl (wk_S_isDirectory p1 S z Sz h)
theorem cs_S_98 {l : Launch} {D : va_G} {g : Nat → ClassId} {a : Nat → Nat} {rm : Room} {b : ByteArray} {nL : Nat} {ret : Option FieldType} {pc q : Nat} {Lc : List (Nat × Value)} {St : List Value} {S S2 : TC} {Post : Option Value → TC → Prop} {p1 : Int32} {z : Int32} (hk : fn_S_isDirectory S p1 = some (z, S2)) (hd : decode b pc = .ok (.invokevirtual 98, 3)) (hq : pc + 3 = q) (hrm : rm_S_isDirectory.frames + 1 ≤ rm.frames ∧ 8 + (2 + 11) + rm_S_isDirectory.locals ≤ rm.locals) (hroom : (St.map fun v => v.category).sum ≤ 8) (k : Ok (wC g a) D (tyC g) l rm R_S b nL ret S2 q Lc (.int z :: St) Post) : Ok (wC g a) D (tyC g) l rm R_S b nL ret S pc Lc (.int p1 :: .ref (a 0) :: St) Post := by
  subst hq
  exact ok_cV (As := [.int p1]) (n := 1) (C := R_S) (T := F_S) (N := 3) (ci := 0) (q0 := 0) (ct_S_isDirectory p1 S z S2 hk) hd wm_277 ⟨wm_278, wm_279, wm_280, wm_204⟩ (by decide +kernel) ⟨⟨rfl, rfl⟩, hrm⟩ rfl rfl rfl rfl hroom ⟨Nat.zero_le _, Nat.zero_le _⟩ (fun v u h => by obtain ⟨rfl, rfl⟩ := h; exact k)
set_option maxRecDepth 20000 in
set_option maxHeartbeats 4000000 in
theorem wk_S_refusalOfDirectory (p1 : Int32) (S : TC) (z : Int32) (Sz : TC) (h : fn_S_refusalOfDirectory S p1 = some (z, Sz)) : Ok (wC g a) D (tyC g) l rm_S_refusalOfDirectory R_S b_S_refusalOfDirectory 2 (some .int) S 0 [(0, .ref (a 0)), (1, .int p1)] [] (pI z Sz) := by
  unfold fn_S_refusalOfDirectory at h
  refine ok_aload_n (q := 1) 0 d_S_refusalOfDirectory_0 rfl rfl rfl ?_
  obtain ⟨x1, e_x1, h⟩ := st_e h
  refine gf_S_20 (q := 4) e_x1 d_S_refusalOfDirectory_1 rfl ?_
  refine ok_if_ne (q := 7) (t := 10) d_S_refusalOfDirectory_4 (by decide) rfl (fun hc => ?_) (fun hc => ?_)
  · replace h := if_f hc h
    refine ok_iload_n (q := 11) 1 d_S_refusalOfDirectory_10 rfl rfl rfl ?_
    refine ok_if_eq (q := 14) (t := 24) d_S_refusalOfDirectory_11 (by decide) rfl (fun hc => ?_) (fun hc => ?_)
    · replace h := if_t hc h
      refine ok_aload_n (q := 25) 0 d_S_refusalOfDirectory_24 rfl rfl rfl ?_
      refine ok_iload_n (q := 26) 1 d_S_refusalOfDirectory_25 rfl rfl rfl ?_
      obtain ⟨x4, S2, hk, h⟩ := bd_e h
      refine cs_S_98 (q := 29) hk d_S_refusalOfDirectory_26 rfl (by decide) (Nat.le_of_ble_eq_true rfl) ?_
      refine ok_if_eq (q := 32) (t := 36) d_S_refusalOfDirectory_29 (by decide) rfl (fun hc => ?_) (fun hc => ?_)
      · replace h := if_t hc h
        refine ok_bipush (v := (-2 : Int32)) (q := 38) d_S_refusalOfDirectory_36 (by decide) rfl ?_
        obtain ⟨rfl, rfl⟩ := so_e h
        exact ok_iret d_S_refusalOfDirectory_38 ⟨rfl, rfl⟩
      · replace h := if_f hc h
        refine ok_iconst (v := (0 : Int32)) (q := 33) d_S_refusalOfDirectory_32 (by decide) rfl ?_
        refine ok_goto (q := 38) d_S_refusalOfDirectory_33 (by decide) ?_
        obtain ⟨rfl, rfl⟩ := so_e h
        exact ok_iret d_S_refusalOfDirectory_38 ⟨rfl, rfl⟩
    · replace h := if_f hc h
      refine ok_aload_n (q := 15) 0 d_S_refusalOfDirectory_14 rfl rfl rfl ?_
      refine ok_iload_n (q := 16) 1 d_S_refusalOfDirectory_15 rfl rfl rfl ?_
      obtain ⟨x7, S5, hk, h⟩ := bd_e h
      refine cs_S_94 (q := 19) hk d_S_refusalOfDirectory_16 rfl (by decide) (Nat.le_of_ble_eq_true rfl) ?_
      refine ok_if_ne (q := 22) (t := 24) d_S_refusalOfDirectory_19 (by decide) rfl (fun hc => ?_) (fun hc => ?_)
      · replace h := if_f hc h
        refine ok_aload_n (q := 25) 0 d_S_refusalOfDirectory_24 rfl rfl rfl ?_
        refine ok_iload_n (q := 26) 1 d_S_refusalOfDirectory_25 rfl rfl rfl ?_
        obtain ⟨x10, S8, hk, h⟩ := bd_e h
        refine cs_S_98 (q := 29) hk d_S_refusalOfDirectory_26 rfl (by decide) (Nat.le_of_ble_eq_true rfl) ?_
        refine ok_if_eq (q := 32) (t := 36) d_S_refusalOfDirectory_29 (by decide) rfl (fun hc => ?_) (fun hc => ?_)
        · replace h := if_t hc h
          refine ok_bipush (v := (-2 : Int32)) (q := 38) d_S_refusalOfDirectory_36 (by decide) rfl ?_
          obtain ⟨rfl, rfl⟩ := so_e h
          exact ok_iret d_S_refusalOfDirectory_38 ⟨rfl, rfl⟩
        · replace h := if_f hc h
          refine ok_iconst (v := (0 : Int32)) (q := 33) d_S_refusalOfDirectory_32 (by decide) rfl ?_
          refine ok_goto (q := 38) d_S_refusalOfDirectory_33 (by decide) ?_
          obtain ⟨rfl, rfl⟩ := so_e h
          exact ok_iret d_S_refusalOfDirectory_38 ⟨rfl, rfl⟩
      · replace h := if_t hc h
        refine ok_iconst (v := (-1 : Int32)) (q := 23) d_S_refusalOfDirectory_22 (by decide) rfl ?_
        obtain ⟨rfl, rfl⟩ := so_e h
        exact ok_iret d_S_refusalOfDirectory_23 ⟨rfl, rfl⟩
  · replace h := if_t hc h
    refine ok_bipush (v := (-9 : Int32)) (q := 9) d_S_refusalOfDirectory_7 (by decide) rfl ?_
    obtain ⟨rfl, rfl⟩ := so_e h
    exact ok_iret d_S_refusalOfDirectory_9 ⟨rfl, rfl⟩
set_option maxRecDepth 20000 in
set_option maxHeartbeats 4000000 in
theorem ct_S_refusalOfDirectory (p1 : Int32) (S : TC) (z : Int32) (Sz : TC) (h : fn_S_refusalOfDirectory S p1 = some (z, Sz)) : Ct (wC g a) D (tyC g) l y_S_refusalOfDirectory b_S_refusalOfDirectory 2 (some .int) rm_S_refusalOfDirectory [.ref (a 0), .int p1] S (pI z Sz) := ct_of (by decide) (Nat.le_of_ble_eq_true rfl) rfl (wk_S_refusalOfDirectory p1 S z Sz h)
theorem cs_S_24 {l : Launch} {D : va_G} {g : Nat → ClassId} {a : Nat → Nat} {rm : Room} {b : ByteArray} {nL : Nat} {ret : Option FieldType} {pc q : Nat} {Lc : List (Nat × Value)} {St : List Value} {S S2 : TC} {Post : Option Value → TC → Prop} {p1 : Int32} {z : Int32} (hk : fn_S_refusalOfDirectory S p1 = some (z, S2)) (hd : decode b pc = .ok (.invokevirtual 24, 3)) (hq : pc + 3 = q) (hrm : rm_S_refusalOfDirectory.frames + 1 ≤ rm.frames ∧ 8 + (2 + 11) + rm_S_refusalOfDirectory.locals ≤ rm.locals) (hroom : (St.map fun v => v.category).sum ≤ 8) (k : Ok (wC g a) D (tyC g) l rm R_S b nL ret S2 q Lc (.int z :: St) Post) : Ok (wC g a) D (tyC g) l rm R_S b nL ret S pc Lc (.int p1 :: .ref (a 0) :: St) Post := by
  subst hq
  exact ok_cV (As := [.int p1]) (n := 1) (C := R_S) (T := F_S) (N := 3) (ci := 0) (q0 := 0) (ct_S_refusalOfDirectory p1 S z S2 hk) hd wm_200 ⟨wm_201, wm_202, wm_203, wm_204⟩ (by decide +kernel) ⟨⟨rfl, rfl⟩, hrm⟩ rfl rfl rfl rfl hroom ⟨Nat.zero_le _, Nat.zero_le _⟩ (fun v u h => by obtain ⟨rfl, rfl⟩ := h; exact k)
set_option maxRecDepth 20000 in
set_option maxHeartbeats 4000000 in
theorem wk_T_ofHeader (p0 : Int32) (p1 : Int32) (p2 : Int32) (S : TC) (z : Int32) (Sz : TC) (h : fn_T_ofHeader S p0 p1 p2 = some (z, Sz)) : Ok (wC g a) D (tyC g) l rm_T_ofHeader R_T b_T_ofHeader 3 (some .int) S 0 [(0, .int p0), (1, .int p1), (2, .int p2)] [] (pI z Sz) := by
  unfold fn_T_ofHeader at h
  refine ok_iload_n (q := 1) 0 d_T_ofHeader_0 rfl rfl rfl ?_
  refine ok_iload_n (q := 2) 1 d_T_ofHeader_1 rfl rfl rfl ?_
  refine ok_bipush (v := (9 : Int32)) (q := 4) d_T_ofHeader_2 (by decide) rfl ?_
  refine ok_ishl (q := 5) d_T_ofHeader_4 rfl ?_
  refine ok_iadd (q := 6) d_T_ofHeader_5 rfl ?_
  refine ok_iload_n (q := 7) 2 d_T_ofHeader_6 rfl rfl rfl ?_
  refine ok_if_eq (q := 10) (t := 15) d_T_ofHeader_7 (by decide) rfl (fun hc => ?_) (fun hc => ?_)
  · replace h := if_t hc h
    refine ok_iconst (v := (0 : Int32)) (q := 16) d_T_ofHeader_15 (by decide) rfl ?_
    refine ok_iadd (q := 17) d_T_ofHeader_16 rfl ?_
    obtain ⟨rfl, rfl⟩ := so_e h
    exact ok_iret d_T_ofHeader_17 ⟨rfl, rfl⟩
  · replace h := if_f hc h
    refine ok_ldc (q := 12) wm_5 d_T_ofHeader_10 rfl ?_
    refine ok_goto (q := 16) d_T_ofHeader_12 (by decide) ?_
    refine ok_iadd (q := 17) d_T_ofHeader_16 rfl ?_
    obtain ⟨rfl, rfl⟩ := so_e h
    exact ok_iret d_T_ofHeader_17 ⟨rfl, rfl⟩
set_option maxRecDepth 20000 in
set_option maxHeartbeats 4000000 in
theorem ct_T_ofHeader (p0 : Int32) (p1 : Int32) (p2 : Int32) (S : TC) (z : Int32) (Sz : TC) (h : fn_T_ofHeader S p0 p1 p2 = some (z, Sz)) : Ct (wC g a) D (tyC g) l y_T_ofHeader b_T_ofHeader 3 (some .int) rm_T_ofHeader [.int p0, .int p1, .int p2] S (pI z Sz) := ct_of (by decide) (Nat.le_of_ble_eq_true rfl) rfl (wk_T_ofHeader p0 p1 p2 S z Sz h)
theorem cs_S_39 {l : Launch} {D : va_G} {g : Nat → ClassId} {a : Nat → Nat} {rm : Room} {b : ByteArray} {nL : Nat} {ret : Option FieldType} {pc q : Nat} {Lc : List (Nat × Value)} {St : List Value} {S S2 : TC} {Post : Option Value → TC → Prop} {p0 : Int32} {p1 : Int32} {p2 : Int32} {z : Int32} (hk : fn_T_ofHeader S p0 p1 p2 = some (z, S2)) (hd : decode b pc = .ok (.invokestatic 39, 3)) (hq : pc + 3 = q) (hrm : rm_T_ofHeader.frames + 1 ≤ rm.frames ∧ 8 + (3 + 11) + rm_T_ofHeader.locals ≤ rm.locals) (hroom : (St.map fun v => v.category).sum ≤ 8) (k : Ok (wC g a) D (tyC g) l rm R_S b nL ret S2 q Lc (.int z :: St) Post) : Ok (wC g a) D (tyC g) l rm R_S b nL ret S pc Lc (.int p2 :: .int p1 :: .int p0 :: St) Post := by
  subst hq
  exact ok_cS (As := [.int p0, .int p1, .int p2]) (n := 3) (ct_T_ofHeader p0 p1 p2 S z S2 hk) hd wm_217 ⟨wm_218, wm_219, wm_73⟩ (by decide +kernel) ⟨⟨rfl, rfl⟩, hrm⟩ rfl rfl hroom ⟨Nat.zero_le _, Nat.zero_le _⟩ (fun v u h => by obtain ⟨rfl, rfl⟩ := h; exact k)
set_option maxRecDepth 20000 in
set_option maxHeartbeats 4000000 in
theorem wk_S_create (p1 : Int32) (p2 : Int32) (p3 : Int32) (S : TC) (z : Int32) (Sz : TC) (h : fn_S_create S p1 p2 p3 = some (z, Sz)) : Ok (wC g a) D (tyC g) l rm_S_create R_S b_S_create 7 (some .int) S 0 [(0, .ref (a 0)), (1, .int p1), (2, .int p2), (3, .int p3)] [] (pI z Sz) := by
  unfold fn_S_create at h
  refine ok_aload_n (q := 1) 0 d_S_create_0 rfl rfl rfl ?_
  refine ok_iload_n (q := 2) 1 d_S_create_1 rfl rfl rfl ?_
  obtain ⟨x3, S1, hk, h⟩ := bd_e h
  refine cs_S_24 (q := 5) hk d_S_create_2 rfl (by decide) (Nat.le_of_ble_eq_true rfl) ?_
  refine ok_istore (q := 7) (lv := [(4, .int x3), (0, .ref (a 0)), (1, .int p1), (2, .int p2), (3, .int p3)]) d_S_create_5 (by decide) rfl rfl ?_
  refine ok_iload (q := 9) 0 d_S_create_7 rfl rfl ?_
  refine ok_if_eq (q := 12) (t := 15) d_S_create_9 (by decide) rfl (fun hc => ?_) (fun hc => ?_)
  · replace h := if_t hc h
    refine ok_aload_n (q := 16) 1 d_S_create_15 rfl rfl rfl ?_
    refine ok_iload_n (q := 17) 2 d_S_create_16 rfl rfl rfl ?_
    refine ok_iload_n (q := 18) 3 d_S_create_17 rfl rfl rfl ?_
    obtain ⟨x6, S4, hk, h⟩ := bd_e h
    refine cs_S_28 (q := 21) hk d_S_create_18 rfl (by decide) (Nat.le_of_ble_eq_true rfl) ?_
    refine ok_if_eq (q := 24) (t := 27) d_S_create_21 (by decide) rfl (fun hc => ?_) (fun hc => ?_)
    · replace h := if_t hc h
      refine ok_aload_n (q := 28) 1 d_S_create_27 rfl rfl rfl ?_
      obtain ⟨x9, S7, hk, h⟩ := bd_e h
      refine cs_S_32 (q := 31) hk d_S_create_28 rfl (by decide) (Nat.le_of_ble_eq_true rfl) ?_
      refine ok_istore (q := 33) (lv := [(5, .int x9), (4, .int x3), (0, .ref (a 0)), (1, .int p1), (2, .int p2), (3, .int p3)]) d_S_create_31 (by decide) rfl rfl ?_
      refine ok_iload (q := 35) 0 d_S_create_33 rfl rfl ?_
      refine ok_iconst (v := (-1 : Int32)) (q := 36) d_S_create_35 (by decide) rfl ?_
      refine ok_icmp_ne (q := 39) (t := 42) d_S_create_36 (by decide) rfl (fun hc => ?_) (fun hc => ?_)
      · replace h := if_f hc h
        refine ok_aload_n (q := 43) 2 d_S_create_42 rfl rfl rfl ?_
        refine ok_iconst (v := (1 : Int32)) (q := 44) d_S_create_43 (by decide) rfl ?_
        obtain ⟨x12, S10, hk, h⟩ := bd_e h
        refine cs_S_36 (q := 47) hk d_S_create_44 rfl (by decide) (Nat.le_of_ble_eq_true rfl) ?_
        refine ok_istore (q := 49) (lv := [(4, .int x12), (5, .int x9), (0, .ref (a 0)), (1, .int p1), (2, .int p2), (3, .int p3)]) d_S_create_47 (by decide) rfl rfl ?_
        refine ok_iload (q := 51) 0 d_S_create_49 rfl rfl ?_
        refine ok_if_eq (q := 54) (t := 57) d_S_create_51 (by decide) rfl (fun hc => ?_) (fun hc => ?_)
        · replace h := if_t hc h
          refine ok_aload_n (q := 58) 2 d_S_create_57 rfl rfl rfl ?_
          refine ok_iconst (v := (-1 : Int32)) (q := 59) d_S_create_58 (by decide) rfl ?_
          refine ok_iload (q := 61) 1 d_S_create_59 rfl rfl ?_
          refine ok_iload_n (q := 62) 3 d_S_create_61 rfl rfl rfl ?_
          refine ok_iload_n (q := 63) 5 d_S_create_62 rfl rfl rfl ?_
          obtain ⟨x15, S13, hk, h⟩ := bd_e h
          refine cs_S_39 (q := 66) hk d_S_create_63 rfl (by decide) (Nat.le_of_ble_eq_true rfl) ?_
          refine ok_iload_n (q := 67) 4 d_S_create_66 rfl rfl rfl ?_
          refine ok_lconst (v := (0 : Int64)) (q := 68) d_S_create_67 (by decide) rfl ?_
          obtain ⟨x18, S16, hk, h⟩ := bd_e h
          refine cs_S_45 (q := 71) hk d_S_create_68 rfl (by decide) (Nat.le_of_ble_eq_true rfl) ?_
          refine ok_istore (q := 73) (lv := [(6, .int x18), (4, .int x12), (5, .int x9), (0, .ref (a 0)), (1, .int p1), (2, .int p2), (3, .int p3)]) d_S_create_71 (by decide) rfl rfl ?_
          refine ok_iload (q := 75) 0 d_S_create_73 rfl rfl ?_
          refine ok_if_eq (q := 78) (t := 83) d_S_create_75 (by decide) rfl (fun hc => ?_) (fun hc => ?_)
          · replace h := if_t hc h
            refine ok_aload_n (q := 84) 3 d_S_create_83 rfl rfl rfl ?_
            obtain ⟨x21, S19, hk, h⟩ := bd_e h
            refine cs_S_49 (q := 87) hk d_S_create_84 rfl (by decide) (Nat.le_of_ble_eq_true rfl) ?_
            obtain ⟨rfl, rfl⟩ := so_e h
            exact ok_iret d_S_create_87 ⟨rfl, rfl⟩
          · replace h := if_f hc h
            refine ok_iload (q := 80) 2 d_S_create_78 rfl rfl ?_
            refine ok_goto (q := 87) d_S_create_80 (by decide) ?_
            obtain ⟨rfl, rfl⟩ := so_e h
            exact ok_iret d_S_create_87 ⟨rfl, rfl⟩
        · replace h := if_f hc h
          refine ok_iload (q := 56) 0 d_S_create_54 rfl rfl ?_
          obtain ⟨rfl, rfl⟩ := so_e h
          exact ok_iret d_S_create_56 ⟨rfl, rfl⟩
      · replace h := if_t hc h
        refine ok_bipush (v := (-5 : Int32)) (q := 41) d_S_create_39 (by decide) rfl ?_
        obtain ⟨rfl, rfl⟩ := so_e h
        exact ok_iret d_S_create_41 ⟨rfl, rfl⟩
    · replace h := if_f hc h
      refine ok_bipush (v := (-4 : Int32)) (q := 26) d_S_create_24 (by decide) rfl ?_
      obtain ⟨rfl, rfl⟩ := so_e h
      exact ok_iret d_S_create_26 ⟨rfl, rfl⟩
  · replace h := if_f hc h
    refine ok_iload (q := 14) 0 d_S_create_12 rfl rfl ?_
    obtain ⟨rfl, rfl⟩ := so_e h
    exact ok_iret d_S_create_14 ⟨rfl, rfl⟩
set_option maxRecDepth 20000 in
set_option maxHeartbeats 4000000 in
theorem ct_S_create (p1 : Int32) (p2 : Int32) (p3 : Int32) (S : TC) (z : Int32) (Sz : TC) (h : fn_S_create S p1 p2 p3 = some (z, Sz)) : Ct (wC g a) D (tyC g) l y_S_create b_S_create 7 (some .int) rm_S_create [.ref (a 0), .int p1, .int p2, .int p3] S (pI z Sz) := ct_of (by decide) (Nat.le_of_ble_eq_true rfl) rfl (wk_S_create p1 p2 p3 S z Sz h)

set_option maxRecDepth 20000 in
set_option maxHeartbeats 4000000 in
theorem wk_T_withLength (p0 : Int32) (p1 : Int32) (S : TC) (z : Int32) (Sz : TC) (h : fn_T_withLength S p0 p1 = some (z, Sz)) : Ok (wC g a) D (tyC g) l rm_T_withLength R_T b_T_withLength 2 (some .int) S 0 [(0, .int p0), (1, .int p1)] [] (pI z Sz) := by
  unfold fn_T_withLength at h
  refine ok_iload_n (q := 1) 0 d_T_withLength_0 rfl rfl rfl ?_
  refine ok_sipush (v := (-28673 : Int32)) (q := 4) d_T_withLength_1 (by decide) rfl ?_
  refine ok_iand (q := 5) d_T_withLength_4 rfl ?_
  refine ok_iload_n (q := 6) 1 d_T_withLength_5 rfl rfl rfl ?_
  refine ok_bipush (v := (12 : Int32)) (q := 8) d_T_withLength_6 (by decide) rfl ?_
  refine ok_ishl (q := 9) d_T_withLength_8 rfl ?_
  refine ok_ior (q := 10) d_T_withLength_9 rfl ?_
  obtain ⟨rfl, rfl⟩ := so_e h
  exact ok_iret d_T_withLength_10 ⟨rfl, rfl⟩
set_option maxRecDepth 20000 in
set_option maxHeartbeats 4000000 in
theorem ct_T_withLength (p0 : Int32) (p1 : Int32) (S : TC) (z : Int32) (Sz : TC) (h : fn_T_withLength S p0 p1 = some (z, Sz)) : Ct (wC g a) D (tyC g) l y_T_withLength b_T_withLength 2 (some .int) rm_T_withLength [.int p0, .int p1] S (pI z Sz) := ct_of (by decide) (Nat.le_of_ble_eq_true rfl) rfl (wk_T_withLength p0 p1 S z Sz h)
theorem cs_S_198 {l : Launch} {D : va_G} {g : Nat → ClassId} {a : Nat → Nat} {rm : Room} {b : ByteArray} {nL : Nat} {ret : Option FieldType} {pc q : Nat} {Lc : List (Nat × Value)} {St : List Value} {S S2 : TC} {Post : Option Value → TC → Prop} {p0 : Int32} {p1 : Int32} {z : Int32} (hk : fn_T_withLength S p0 p1 = some (z, S2)) (hd : decode b pc = .ok (.invokestatic 198, 3)) (hq : pc + 3 = q) (hrm : rm_T_withLength.frames + 1 ≤ rm.frames ∧ 8 + (2 + 11) + rm_T_withLength.locals ≤ rm.locals) (hroom : (St.map fun v => v.category).sum ≤ 8) (k : Ok (wC g a) D (tyC g) l rm R_S b nL ret S2 q Lc (.int z :: St) Post) : Ok (wC g a) D (tyC g) l rm R_S b nL ret S pc Lc (.int p1 :: .int p0 :: St) Post := by
  subst hq
  exact ok_cS (As := [.int p0, .int p1]) (n := 2) (ct_T_withLength p0 p1 S z S2 hk) hd wm_353 ⟨wm_354, wm_355, wm_73⟩ (by decide +kernel) ⟨⟨rfl, rfl⟩, hrm⟩ rfl rfl hroom ⟨Nat.zero_le _, Nat.zero_le _⟩ (fun v u h => by obtain ⟨rfl, rfl⟩ := h; exact k)
set_option maxRecDepth 20000 in
set_option maxHeartbeats 4000000 in
theorem wk_S_putLength (p1 : Int32) (p2 : Int32) (S : TC) (z : Int32) (Sz : TC) (h : fn_S_putLength S p1 p2 = some (z, Sz)) : Ok (wC g a) D (tyC g) l rm_S_putLength R_S b_S_putLength 4 (some .boolean) S 0 [(0, .ref (a 0)), (1, .int p1), (2, .int p2)] [] (pI z Sz) := by
  unfold fn_S_putLength at h
  refine ok_aload_n (q := 1) 0 d_S_putLength_0 rfl rfl rfl ?_
  refine gf_S_12 (q := 4) d_S_putLength_1 rfl ?_
  refine ok_iload_n (q := 5) 1 d_S_putLength_4 rfl rfl rfl ?_
  refine ok_iconst (v := (0 : Int32)) (q := 6) d_S_putLength_5 (by decide) rfl ?_
  obtain ⟨x3, S1, hk, h⟩ := bd_e h
  refine cs_S_61 (q := 9) hk d_S_putLength_6 rfl (by decide) (Nat.le_of_ble_eq_true rfl) ?_
  refine ok_istore_n (q := 10) (lv := [(3, .int x3), (0, .ref (a 0)), (1, .int p1), (2, .int p2)]) d_S_putLength_9 rfl (by decide) rfl rfl ?_
  refine ok_iload_n (q := 11) 0 d_S_putLength_10 rfl rfl rfl ?_
  refine ok_iconst (v := (-1 : Int32)) (q := 12) d_S_putLength_11 (by decide) rfl ?_
  refine ok_icmp_eq (q := 15) (t := 36) d_S_putLength_12 (by decide) rfl (fun hc => ?_) (fun hc => ?_)
  · replace h := if_t hc h
    refine ok_iconst (v := (1 : Int32)) (q := 37) d_S_putLength_36 (by decide) rfl ?_
    refine ok_goto (q := 41) d_S_putLength_37 (by decide) ?_
    obtain ⟨rfl, rfl⟩ := so_e h
    exact ok_zret d_S_putLength_41 (by decide) ⟨rfl, rfl⟩
  · replace h := if_f hc h
    refine ok_aload_n (q := 16) 1 d_S_putLength_15 rfl rfl rfl ?_
    refine ok_iload_n (q := 17) 0 d_S_putLength_16 rfl rfl rfl ?_
    refine ok_aload_n (q := 18) 1 d_S_putLength_17 rfl rfl rfl ?_
    refine gf_S_12 (q := 21) d_S_putLength_18 rfl ?_
    refine gf_S_154 (q := 24) d_S_putLength_21 rfl ?_
    refine ok_iload_n (q := 25) 0 d_S_putLength_24 rfl rfl rfl ?_
    obtain ⟨hg, h⟩ := gd_e h
    obtain ⟨x4, e_x4, h⟩ := st_e h
    refine al_C_2 (q := 26) hg e_x4 d_S_putLength_25 rfl ?_
    refine ok_iload_n (q := 27) 3 d_S_putLength_26 rfl rfl rfl ?_
    obtain ⟨x7, S5, hk, h⟩ := bd_e h
    refine cs_S_198 (q := 30) hk d_S_putLength_27 rfl (by decide) (Nat.le_of_ble_eq_true rfl) ?_
    obtain ⟨x10, S8, hk, h⟩ := bd_e h
    refine cs_S_201 (q := 33) hk d_S_putLength_30 rfl (by decide) (Nat.le_of_ble_eq_true rfl) ?_
    refine ok_if_eq (q := 36) (t := 40) d_S_putLength_33 (by decide) rfl (fun hc => ?_) (fun hc => ?_)
    · replace h := if_t hc h
      refine ok_iconst (v := (0 : Int32)) (q := 41) d_S_putLength_40 (by decide) rfl ?_
      obtain ⟨rfl, rfl⟩ := so_e h
      exact ok_zret d_S_putLength_41 (by decide) ⟨rfl, rfl⟩
    · replace h := if_f hc h
      refine ok_iconst (v := (1 : Int32)) (q := 37) d_S_putLength_36 (by decide) rfl ?_
      refine ok_goto (q := 41) d_S_putLength_37 (by decide) ?_
      obtain ⟨rfl, rfl⟩ := so_e h
      exact ok_zret d_S_putLength_41 (by decide) ⟨rfl, rfl⟩
set_option maxRecDepth 20000 in
set_option maxHeartbeats 4000000 in
theorem ct_S_putLength (p1 : Int32) (p2 : Int32) (S : TC) (z : Int32) (Sz : TC) (h : fn_S_putLength S p1 p2 = some (z, Sz)) : Ct (wC g a) D (tyC g) l y_S_putLength b_S_putLength 4 (some .boolean) rm_S_putLength [.ref (a 0), .int p1, .int p2] S (pI z Sz) := ct_of (by decide) (Nat.le_of_ble_eq_true rfl) rfl (wk_S_putLength p1 p2 S z Sz h)
theorem cs_S_67 {l : Launch} {D : va_G} {g : Nat → ClassId} {a : Nat → Nat} {rm : Room} {b : ByteArray} {nL : Nat} {ret : Option FieldType} {pc q : Nat} {Lc : List (Nat × Value)} {St : List Value} {S S2 : TC} {Post : Option Value → TC → Prop} {p1 : Int32} {p2 : Int32} {z : Int32} (hk : fn_S_putLength S p1 p2 = some (z, S2)) (hd : decode b pc = .ok (.invokevirtual 67, 3)) (hq : pc + 3 = q) (hrm : rm_S_putLength.frames + 1 ≤ rm.frames ∧ 8 + (4 + 11) + rm_S_putLength.locals ≤ rm.locals) (hroom : (St.map fun v => v.category).sum ≤ 8) (k : Ok (wC g a) D (tyC g) l rm R_S b nL ret S2 q Lc (.int z :: St) Post) : Ok (wC g a) D (tyC g) l rm R_S b nL ret S pc Lc (.int p2 :: .int p1 :: .ref (a 0) :: St) Post := by
  subst hq
  exact ok_cV (As := [.int p1, .int p2]) (n := 2) (C := R_S) (T := F_S) (N := 3) (ci := 0) (q0 := 0) (ct_S_putLength p1 p2 S z S2 hk) hd wm_246 ⟨wm_247, wm_248, wm_249, wm_204⟩ (by decide +kernel) ⟨⟨rfl, rfl⟩, hrm⟩ rfl rfl rfl rfl hroom ⟨Nat.zero_le _, Nat.zero_le _⟩ (fun v u h => by obtain ⟨rfl, rfl⟩ := h; exact k)
set_option maxRecDepth 20000 in
set_option maxHeartbeats 4000000 in
theorem wk_S_refusalOfObject (p1 : Int32) (S : TC) (z : Int32) (Sz : TC) (h : fn_S_refusalOfObject S p1 = some (z, Sz)) : Ok (wC g a) D (tyC g) l rm_S_refusalOfObject R_S b_S_refusalOfObject 2 (some .int) S 0 [(0, .ref (a 0)), (1, .int p1)] [] (pI z Sz) := by
  unfold fn_S_refusalOfObject at h
  refine ok_aload_n (q := 1) 0 d_S_refusalOfObject_0 rfl rfl rfl ?_
  obtain ⟨x1, e_x1, h⟩ := st_e h
  refine gf_S_20 (q := 4) e_x1 d_S_refusalOfObject_1 rfl ?_
  refine ok_if_ne (q := 7) (t := 10) d_S_refusalOfObject_4 (by decide) rfl (fun hc => ?_) (fun hc => ?_)
  · replace h := if_f hc h
    refine ok_aload_n (q := 11) 0 d_S_refusalOfObject_10 rfl rfl rfl ?_
    refine ok_iload_n (q := 12) 1 d_S_refusalOfObject_11 rfl rfl rfl ?_
    obtain ⟨x4, S2, hk, h⟩ := bd_e h
    refine cs_S_94 (q := 15) hk d_S_refusalOfObject_12 rfl (by decide) (Nat.le_of_ble_eq_true rfl) ?_
    refine ok_if_eq (q := 18) (t := 22) d_S_refusalOfObject_15 (by decide) rfl (fun hc => ?_) (fun hc => ?_)
    · replace h := if_t hc h
      refine ok_iconst (v := (-1 : Int32)) (q := 23) d_S_refusalOfObject_22 (by decide) rfl ?_
      obtain ⟨rfl, rfl⟩ := so_e h
      exact ok_iret d_S_refusalOfObject_23 ⟨rfl, rfl⟩
    · replace h := if_f hc h
      refine ok_iconst (v := (0 : Int32)) (q := 19) d_S_refusalOfObject_18 (by decide) rfl ?_
      refine ok_goto (q := 23) d_S_refusalOfObject_19 (by decide) ?_
      obtain ⟨rfl, rfl⟩ := so_e h
      exact ok_iret d_S_refusalOfObject_23 ⟨rfl, rfl⟩
  · replace h := if_t hc h
    refine ok_bipush (v := (-9 : Int32)) (q := 9) d_S_refusalOfObject_7 (by decide) rfl ?_
    obtain ⟨rfl, rfl⟩ := so_e h
    exact ok_iret d_S_refusalOfObject_9 ⟨rfl, rfl⟩
set_option maxRecDepth 20000 in
set_option maxHeartbeats 4000000 in
theorem ct_S_refusalOfObject (p1 : Int32) (S : TC) (z : Int32) (Sz : TC) (h : fn_S_refusalOfObject S p1 = some (z, Sz)) : Ct (wC g a) D (tyC g) l y_S_refusalOfObject b_S_refusalOfObject 2 (some .int) rm_S_refusalOfObject [.ref (a 0), .int p1] S (pI z Sz) := ct_of (by decide) (Nat.le_of_ble_eq_true rfl) rfl (wk_S_refusalOfObject p1 S z Sz h)
theorem cs_S_82 {l : Launch} {D : va_G} {g : Nat → ClassId} {a : Nat → Nat} {rm : Room} {b : ByteArray} {nL : Nat} {ret : Option FieldType} {pc q : Nat} {Lc : List (Nat × Value)} {St : List Value} {S S2 : TC} {Post : Option Value → TC → Prop} {p1 : Int32} {z : Int32} (hk : fn_S_refusalOfObject S p1 = some (z, S2)) (hd : decode b pc = .ok (.invokevirtual 82, 3)) (hq : pc + 3 = q) (hrm : rm_S_refusalOfObject.frames + 1 ≤ rm.frames ∧ 8 + (2 + 11) + rm_S_refusalOfObject.locals ≤ rm.locals) (hroom : (St.map fun v => v.category).sum ≤ 8) (k : Ok (wC g a) D (tyC g) l rm R_S b nL ret S2 q Lc (.int z :: St) Post) : Ok (wC g a) D (tyC g) l rm R_S b nL ret S pc Lc (.int p1 :: .ref (a 0) :: St) Post := by
  subst hq
  exact ok_cV (As := [.int p1]) (n := 1) (C := R_S) (T := F_S) (N := 3) (ci := 0) (q0 := 0) (ct_S_refusalOfObject p1 S z S2 hk) hd wm_258 ⟨wm_259, wm_260, wm_261, wm_204⟩ (by decide +kernel) ⟨⟨rfl, rfl⟩, hrm⟩ rfl rfl rfl rfl hroom ⟨Nat.zero_le _, Nat.zero_le _⟩ (fun v u h => by obtain ⟨rfl, rfl⟩ := h; exact k)
set_option maxRecDepth 20000 in
set_option maxHeartbeats 4000000 in
theorem wk_S_refusalOfFile (p1 : Int32) (S : TC) (z : Int32) (Sz : TC) (h : fn_S_refusalOfFile S p1 = some (z, Sz)) : Ok (wC g a) D (tyC g) l rm_S_refusalOfFile R_S b_S_refusalOfFile 3 (some .int) S 0 [(0, .ref (a 0)), (1, .int p1)] [] (pI z Sz) := by
  unfold fn_S_refusalOfFile at h
  refine ok_aload_n (q := 1) 0 d_S_refusalOfFile_0 rfl rfl rfl ?_
  refine ok_iload_n (q := 2) 1 d_S_refusalOfFile_1 rfl rfl rfl ?_
  obtain ⟨x3, S1, hk, h⟩ := bd_e h
  refine cs_S_82 (q := 5) hk d_S_refusalOfFile_2 rfl (by decide) (Nat.le_of_ble_eq_true rfl) ?_
  refine ok_istore_n (q := 6) (lv := [(2, .int x3), (0, .ref (a 0)), (1, .int p1)]) d_S_refusalOfFile_5 rfl (by decide) rfl rfl ?_
  refine ok_iload_n (q := 7) 0 d_S_refusalOfFile_6 rfl rfl rfl ?_
  refine ok_if_eq (q := 10) (t := 12) d_S_refusalOfFile_7 (by decide) rfl (fun hc => ?_) (fun hc => ?_)
  · replace h := if_t hc h
    refine ok_aload_n (q := 13) 1 d_S_refusalOfFile_12 rfl rfl rfl ?_
    refine ok_iload_n (q := 14) 2 d_S_refusalOfFile_13 rfl rfl rfl ?_
    obtain ⟨x6, S4, hk, h⟩ := bd_e h
    refine cs_S_98 (q := 17) hk d_S_refusalOfFile_14 rfl (by decide) (Nat.le_of_ble_eq_true rfl) ?_
    refine ok_if_eq (q := 20) (t := 25) d_S_refusalOfFile_17 (by decide) rfl (fun hc => ?_) (fun hc => ?_)
    · replace h := if_t hc h
      refine ok_iconst (v := (0 : Int32)) (q := 26) d_S_refusalOfFile_25 (by decide) rfl ?_
      obtain ⟨rfl, rfl⟩ := so_e h
      exact ok_iret d_S_refusalOfFile_26 ⟨rfl, rfl⟩
    · replace h := if_f hc h
      refine ok_bipush (v := (-3 : Int32)) (q := 22) d_S_refusalOfFile_20 (by decide) rfl ?_
      refine ok_goto (q := 26) d_S_refusalOfFile_22 (by decide) ?_
      obtain ⟨rfl, rfl⟩ := so_e h
      exact ok_iret d_S_refusalOfFile_26 ⟨rfl, rfl⟩
  · replace h := if_f hc h
    refine ok_iload_n (q := 11) 0 d_S_refusalOfFile_10 rfl rfl rfl ?_
    obtain ⟨rfl, rfl⟩ := so_e h
    exact ok_iret d_S_refusalOfFile_11 ⟨rfl, rfl⟩
set_option maxRecDepth 20000 in
set_option maxHeartbeats 4000000 in
theorem ct_S_refusalOfFile (p1 : Int32) (S : TC) (z : Int32) (Sz : TC) (h : fn_S_refusalOfFile S p1 = some (z, Sz)) : Ct (wC g a) D (tyC g) l y_S_refusalOfFile b_S_refusalOfFile 3 (some .int) rm_S_refusalOfFile [.ref (a 0), .int p1] S (pI z Sz) := ct_of (by decide) (Nat.le_of_ble_eq_true rfl) rfl (wk_S_refusalOfFile p1 S z Sz h)
theorem cs_S_52 {l : Launch} {D : va_G} {g : Nat → ClassId} {a : Nat → Nat} {rm : Room} {b : ByteArray} {nL : Nat} {ret : Option FieldType} {pc q : Nat} {Lc : List (Nat × Value)} {St : List Value} {S S2 : TC} {Post : Option Value → TC → Prop} {p1 : Int32} {z : Int32} (hk : fn_S_refusalOfFile S p1 = some (z, S2)) (hd : decode b pc = .ok (.invokevirtual 52, 3)) (hq : pc + 3 = q) (hrm : rm_S_refusalOfFile.frames + 1 ≤ rm.frames ∧ 8 + (3 + 11) + rm_S_refusalOfFile.locals ≤ rm.locals) (hroom : (St.map fun v => v.category).sum ≤ 8) (k : Ok (wC g a) D (tyC g) l rm R_S b nL ret S2 q Lc (.int z :: St) Post) : Ok (wC g a) D (tyC g) l rm R_S b nL ret S pc Lc (.int p1 :: .ref (a 0) :: St) Post := by
  subst hq
  exact ok_cV (As := [.int p1]) (n := 1) (C := R_S) (T := F_S) (N := 3) (ci := 0) (q0 := 0) (ct_S_refusalOfFile p1 S z S2 hk) hd wm_228 ⟨wm_229, wm_230, wm_231, wm_204⟩ (by decide +kernel) ⟨⟨rfl, rfl⟩, hrm⟩ rfl rfl rfl rfl hroom ⟨Nat.zero_le _, Nat.zero_le _⟩ (fun v u h => by obtain ⟨rfl, rfl⟩ := h; exact k)
set_option maxRecDepth 20000 in
set_option maxHeartbeats 4000000 in
theorem wk_T_length (p0 : Int32) (S : TC) (z : Int32) (Sz : TC) (h : fn_T_length S p0 = some (z, Sz)) : Ok (wC g a) D (tyC g) l rm_T_length R_T b_T_length 1 (some .int) S 0 [(0, .int p0)] [] (pI z Sz) := by
  unfold fn_T_length at h
  refine ok_iload_n (q := 1) 0 d_T_length_0 rfl rfl rfl ?_
  refine ok_sipush (v := (28672 : Int32)) (q := 4) d_T_length_1 (by decide) rfl ?_
  refine ok_iand (q := 5) d_T_length_4 rfl ?_
  refine ok_bipush (v := (12 : Int32)) (q := 7) d_T_length_5 (by decide) rfl ?_
  refine ok_ishr (q := 8) d_T_length_7 rfl ?_
  obtain ⟨rfl, rfl⟩ := so_e h
  exact ok_iret d_T_length_8 ⟨rfl, rfl⟩
set_option maxRecDepth 20000 in
set_option maxHeartbeats 4000000 in
theorem ct_T_length (p0 : Int32) (S : TC) (z : Int32) (Sz : TC) (h : fn_T_length S p0 = some (z, Sz)) : Ct (wC g a) D (tyC g) l y_T_length b_T_length 1 (some .int) rm_T_length [.int p0] S (pI z Sz) := ct_of (by decide) (Nat.le_of_ble_eq_true rfl) rfl (wk_T_length p0 S z Sz h)
theorem cs_S_58 {l : Launch} {D : va_G} {g : Nat → ClassId} {a : Nat → Nat} {rm : Room} {b : ByteArray} {nL : Nat} {ret : Option FieldType} {pc q : Nat} {Lc : List (Nat × Value)} {St : List Value} {S S2 : TC} {Post : Option Value → TC → Prop} {p0 : Int32} {z : Int32} (hk : fn_T_length S p0 = some (z, S2)) (hd : decode b pc = .ok (.invokestatic 58, 3)) (hq : pc + 3 = q) (hrm : rm_T_length.frames + 1 ≤ rm.frames ∧ 8 + (1 + 11) + rm_T_length.locals ≤ rm.locals) (hroom : (St.map fun v => v.category).sum ≤ 8) (k : Ok (wC g a) D (tyC g) l rm R_S b nL ret S2 q Lc (.int z :: St) Post) : Ok (wC g a) D (tyC g) l rm R_S b nL ret S pc Lc (.int p0 :: St) Post := by
  subst hq
  exact ok_cS (As := [.int p0]) (n := 1) (ct_T_length p0 S z S2 hk) hd wm_236 ⟨wm_237, wm_238, wm_73⟩ (by decide +kernel) ⟨⟨rfl, rfl⟩, hrm⟩ rfl rfl hroom ⟨Nat.zero_le _, Nat.zero_le _⟩ (fun v u h => by obtain ⟨rfl, rfl⟩ := h; exact k)
set_option maxRecDepth 20000 in
set_option maxHeartbeats 4000000 in
theorem wk_S_write (p1 : Int32) (p2 : Int32) (p3 : Int32) (S : TC) (z : Int32) (Sz : TC) (h : fn_S_write S p1 p2 p3 = some (z, Sz)) : Ok (wC g a) D (tyC g) l rm_S_write R_S b_S_write 8 (some .int) S 0 [(0, .ref (a 0)), (1, .int p1), (2, .int p2), (3, .int p3)] [] (pI z Sz) := by
  unfold fn_S_write at h
  refine ok_aload_n (q := 1) 0 d_S_write_0 rfl rfl rfl ?_
  refine ok_iload_n (q := 2) 1 d_S_write_1 rfl rfl rfl ?_
  obtain ⟨x3, S1, hk, h⟩ := bd_e h
  refine cs_S_52 (q := 5) hk d_S_write_2 rfl (by decide) (Nat.le_of_ble_eq_true rfl) ?_
  refine ok_istore (q := 7) (lv := [(4, .int x3), (0, .ref (a 0)), (1, .int p1), (2, .int p2), (3, .int p3)]) d_S_write_5 (by decide) rfl rfl ?_
  refine ok_iload (q := 9) 0 d_S_write_7 rfl rfl ?_
  refine ok_if_eq (q := 12) (t := 15) d_S_write_9 (by decide) rfl (fun hc => ?_) (fun hc => ?_)
  · replace h := if_t hc h
    refine ok_iload_n (q := 16) 3 d_S_write_15 rfl rfl rfl ?_
    refine ok_iconst (v := (1 : Int32)) (q := 17) d_S_write_16 (by decide) rfl ?_
    refine ok_icmp_lt (q := 20) (t := 26) d_S_write_17 (by decide) rfl (fun hc => ?_) (fun hc => ?_)
    · replace h := if_t hc h
      refine ok_bipush (v := (-7 : Int32)) (q := 28) d_S_write_26 (by decide) rfl ?_
      obtain ⟨rfl, rfl⟩ := so_e h
      exact ok_iret d_S_write_28 ⟨rfl, rfl⟩
    · replace h := if_f hc h
      refine ok_iload_n (q := 21) 3 d_S_write_20 rfl rfl rfl ?_
      refine ok_bipush (v := (6 : Int32)) (q := 23) d_S_write_21 (by decide) rfl ?_
      refine ok_icmp_le (q := 26) (t := 29) d_S_write_23 (by decide) rfl (fun hc => ?_) (fun hc => ?_)
      · replace h := if_t hc h
        refine ok_iload_n (q := 30) 3 d_S_write_29 rfl rfl rfl ?_
        refine ok_aload_n (q := 31) 1 d_S_write_30 rfl rfl rfl ?_
        refine ok_iload_n (q := 32) 2 d_S_write_31 rfl rfl rfl ?_
        obtain ⟨x6, S4, hk, h⟩ := bd_e h
        refine cs_S_55 (q := 35) hk d_S_write_32 rfl (by decide) (Nat.le_of_ble_eq_true rfl) ?_
        obtain ⟨x9, S7, hk, h⟩ := bd_e h
        refine cs_S_58 (q := 38) hk d_S_write_35 rfl (by decide) (Nat.le_of_ble_eq_true rfl) ?_
        refine ok_icmp_le (q := 41) (t := 45) d_S_write_38 (by decide) rfl (fun hc => ?_) (fun hc => ?_)
        · replace h := if_t hc h
          refine ok_iconst (v := (0 : Int32)) (q := 46) d_S_write_45 (by decide) rfl ?_
          refine ok_istore (q := 48) (lv := [(5, .int (0 : Int32)), (4, .int x3), (0, .ref (a 0)), (1, .int p1), (2, .int p2), (3, .int p3)]) d_S_write_46 (by decide) rfl rfl ?_
          refine ok_aload_n (q := 49) 2 d_S_write_48 rfl rfl rfl ?_
          refine ok_iload (q := 51) 0 d_S_write_49 rfl rfl ?_
          refine ok_if_eq (q := 54) (t := 58) d_S_write_51 (by decide) rfl (fun _ => ?_) (fun hn => absurd hn (by decide))
          refine ok_iconst (v := (1 : Int32)) (q := 59) d_S_write_58 (by decide) rfl ?_
          obtain ⟨x12, S10, hk, h⟩ := bd_e h
          refine cs_S_36 (q := 62) hk d_S_write_59 rfl (by decide) (Nat.le_of_ble_eq_true rfl) ?_
          refine ok_istore (q := 64) (lv := [(4, .int x12), (5, .int (0 : Int32)), (0, .ref (a 0)), (1, .int p1), (2, .int p2), (3, .int p3)]) d_S_write_62 (by decide) rfl rfl ?_
          refine ok_iload (q := 66) 0 d_S_write_64 rfl rfl ?_
          refine ok_if_eq (q := 69) (t := 72) d_S_write_66 (by decide) rfl (fun hc => ?_) (fun hc => ?_)
          · replace h := if_t hc h
            refine ok_aload_n (q := 73) 2 d_S_write_72 rfl rfl rfl ?_
            refine gf_S_12 (q := 76) d_S_write_73 rfl ?_
            refine ok_iload_n (q := 77) 3 d_S_write_76 rfl rfl rfl ?_
            refine ok_iload_n (q := 78) 4 d_S_write_77 rfl rfl rfl ?_
            obtain ⟨x15, S13, hk, h⟩ := bd_e h
            refine cs_S_61 (q := 81) hk d_S_write_78 rfl (by decide) (Nat.le_of_ble_eq_true rfl) ?_
            refine ok_istore (q := 83) (lv := [(6, .int x15), (4, .int x12), (5, .int (0 : Int32)), (0, .ref (a 0)), (1, .int p1), (2, .int p2), (3, .int p3)]) d_S_write_81 (by decide) rfl rfl ?_
            refine ok_aload_n (q := 84) 3 d_S_write_83 rfl rfl rfl ?_
            refine ok_iload (q := 86) 0 d_S_write_84 rfl rfl ?_
            refine ok_iload_n (q := 87) 4 d_S_write_86 rfl rfl rfl ?_
            refine ok_iload_n (q := 88) 5 d_S_write_87 rfl rfl rfl ?_
            obtain ⟨x18, S16, hk, h⟩ := bd_e h
            refine cs_S_64 (q := 91) hk d_S_write_88 rfl (by decide) (Nat.le_of_ble_eq_true rfl) ?_
            refine ok_iload_n (q := 92) 6 d_S_write_91 rfl rfl rfl ?_
            refine ok_lconst (v := (0 : Int64)) (q := 93) d_S_write_92 (by decide) rfl ?_
            obtain ⟨x21, S19, hk, h⟩ := bd_e h
            refine cs_S_45 (q := 96) hk d_S_write_93 rfl (by decide) (Nat.le_of_ble_eq_true rfl) ?_
            refine ok_if_eq (q := 99) (t := 117) d_S_write_96 (by decide) rfl (fun hc => ?_) (fun hc => ?_)
            · replace h := if_t hc h
              refine ok_iconst (v := (0 : Int32)) (q := 118) d_S_write_117 (by decide) rfl ?_
              refine ok_istore (q := 120) (lv := [(7, .int (0 : Int32)), (6, .int x15), (4, .int x12), (5, .int (0 : Int32)), (0, .ref (a 0)), (1, .int p1), (2, .int p2), (3, .int p3)]) d_S_write_118 (by decide) rfl rfl ?_
              refine ok_iload (q := 122) 0 d_S_write_120 rfl rfl ?_
              refine ok_if_eq (q := 125) (t := 129) d_S_write_122 (by decide) rfl (fun _ => ?_) (fun hn => absurd hn (by decide))
              refine ok_aload_n (q := 130) 4 d_S_write_129 rfl rfl rfl ?_
              obtain ⟨x24, S22, hk, h⟩ := bd_e h
              refine cs_S_49 (q := 133) hk d_S_write_130 rfl (by decide) (Nat.le_of_ble_eq_true rfl) ?_
              obtain ⟨rfl, rfl⟩ := so_e h
              exact ok_iret d_S_write_133 ⟨rfl, rfl⟩
            · replace h := if_f hc h
              refine ok_iload (q := 101) 2 d_S_write_99 rfl rfl ?_
              refine ok_if_eq (q := 104) (t := 113) d_S_write_101 (by decide) rfl (fun _ => ?_) (fun hn => absurd hn (by decide))
              refine ok_iconst (v := (1 : Int32)) (q := 114) d_S_write_113 (by decide) rfl ?_
              refine ok_goto (q := 118) d_S_write_114 (by decide) ?_
              refine ok_istore (q := 120) (lv := [(7, .int (1 : Int32)), (6, .int x15), (4, .int x12), (5, .int (0 : Int32)), (0, .ref (a 0)), (1, .int p1), (2, .int p2), (3, .int p3)]) d_S_write_118 (by decide) rfl rfl ?_
              refine ok_iload (q := 122) 0 d_S_write_120 rfl rfl ?_
              refine ok_if_eq (q := 125) (t := 129) d_S_write_122 (by decide) rfl (fun hn => absurd hn (by decide)) (fun _ => ?_)
              refine ok_iconst (v := (0 : Int32)) (q := 126) d_S_write_125 (by decide) rfl ?_
              refine ok_goto (q := 133) d_S_write_126 (by decide) ?_
              obtain ⟨rfl, rfl⟩ := so_e h
              exact ok_iret d_S_write_133 ⟨rfl, rfl⟩
          · replace h := if_f hc h
            refine ok_iload (q := 71) 0 d_S_write_69 rfl rfl ?_
            obtain ⟨rfl, rfl⟩ := so_e h
            exact ok_iret d_S_write_71 ⟨rfl, rfl⟩
        · replace h := if_f hc h
          refine ok_iconst (v := (1 : Int32)) (q := 42) d_S_write_41 (by decide) rfl ?_
          refine ok_goto (q := 46) d_S_write_42 (by decide) ?_
          refine ok_istore (q := 48) (lv := [(5, .int (1 : Int32)), (4, .int x3), (0, .ref (a 0)), (1, .int p1), (2, .int p2), (3, .int p3)]) d_S_write_46 (by decide) rfl rfl ?_
          refine ok_aload_n (q := 49) 2 d_S_write_48 rfl rfl rfl ?_
          refine ok_iload (q := 51) 0 d_S_write_49 rfl rfl ?_
          refine ok_if_eq (q := 54) (t := 58) d_S_write_51 (by decide) rfl (fun hn => absurd hn (by decide)) (fun _ => ?_)
          refine ok_iconst (v := (2 : Int32)) (q := 55) d_S_write_54 (by decide) rfl ?_
          refine ok_goto (q := 59) d_S_write_55 (by decide) ?_
          obtain ⟨x27, S25, hk, h⟩ := bd_e h
          refine cs_S_36 (q := 62) hk d_S_write_59 rfl (by decide) (Nat.le_of_ble_eq_true rfl) ?_
          refine ok_istore (q := 64) (lv := [(4, .int x27), (5, .int (1 : Int32)), (0, .ref (a 0)), (1, .int p1), (2, .int p2), (3, .int p3)]) d_S_write_62 (by decide) rfl rfl ?_
          refine ok_iload (q := 66) 0 d_S_write_64 rfl rfl ?_
          refine ok_if_eq (q := 69) (t := 72) d_S_write_66 (by decide) rfl (fun hc => ?_) (fun hc => ?_)
          · replace h := if_t hc h
            refine ok_aload_n (q := 73) 2 d_S_write_72 rfl rfl rfl ?_
            refine gf_S_12 (q := 76) d_S_write_73 rfl ?_
            refine ok_iload_n (q := 77) 3 d_S_write_76 rfl rfl rfl ?_
            refine ok_iload_n (q := 78) 4 d_S_write_77 rfl rfl rfl ?_
            obtain ⟨x30, S28, hk, h⟩ := bd_e h
            refine cs_S_61 (q := 81) hk d_S_write_78 rfl (by decide) (Nat.le_of_ble_eq_true rfl) ?_
            refine ok_istore (q := 83) (lv := [(6, .int x30), (4, .int x27), (5, .int (1 : Int32)), (0, .ref (a 0)), (1, .int p1), (2, .int p2), (3, .int p3)]) d_S_write_81 (by decide) rfl rfl ?_
            refine ok_aload_n (q := 84) 3 d_S_write_83 rfl rfl rfl ?_
            refine ok_iload (q := 86) 0 d_S_write_84 rfl rfl ?_
            refine ok_iload_n (q := 87) 4 d_S_write_86 rfl rfl rfl ?_
            refine ok_iload_n (q := 88) 5 d_S_write_87 rfl rfl rfl ?_
            obtain ⟨x33, S31, hk, h⟩ := bd_e h
            refine cs_S_64 (q := 91) hk d_S_write_88 rfl (by decide) (Nat.le_of_ble_eq_true rfl) ?_
            refine ok_iload_n (q := 92) 6 d_S_write_91 rfl rfl rfl ?_
            refine ok_lconst (v := (0 : Int64)) (q := 93) d_S_write_92 (by decide) rfl ?_
            obtain ⟨x36, S34, hk, h⟩ := bd_e h
            refine cs_S_45 (q := 96) hk d_S_write_93 rfl (by decide) (Nat.le_of_ble_eq_true rfl) ?_
            refine ok_if_eq (q := 99) (t := 117) d_S_write_96 (by decide) rfl (fun hc => ?_) (fun hc => ?_)
            · replace h := if_t hc h
              refine ok_iconst (v := (0 : Int32)) (q := 118) d_S_write_117 (by decide) rfl ?_
              refine ok_istore (q := 120) (lv := [(7, .int (0 : Int32)), (6, .int x30), (4, .int x27), (5, .int (1 : Int32)), (0, .ref (a 0)), (1, .int p1), (2, .int p2), (3, .int p3)]) d_S_write_118 (by decide) rfl rfl ?_
              refine ok_iload (q := 122) 0 d_S_write_120 rfl rfl ?_
              refine ok_if_eq (q := 125) (t := 129) d_S_write_122 (by decide) rfl (fun _ => ?_) (fun hn => absurd hn (by decide))
              refine ok_aload_n (q := 130) 4 d_S_write_129 rfl rfl rfl ?_
              obtain ⟨x39, S37, hk, h⟩ := bd_e h
              refine cs_S_49 (q := 133) hk d_S_write_130 rfl (by decide) (Nat.le_of_ble_eq_true rfl) ?_
              obtain ⟨rfl, rfl⟩ := so_e h
              exact ok_iret d_S_write_133 ⟨rfl, rfl⟩
            · replace h := if_f hc h
              refine ok_iload (q := 101) 2 d_S_write_99 rfl rfl ?_
              refine ok_if_eq (q := 104) (t := 113) d_S_write_101 (by decide) rfl (fun hn => absurd hn (by decide)) (fun _ => ?_)
              refine ok_aload_n (q := 105) 3 d_S_write_104 rfl rfl rfl ?_
              refine ok_iload_n (q := 106) 4 d_S_write_105 rfl rfl rfl ?_
              refine ok_iload_n (q := 107) 5 d_S_write_106 rfl rfl rfl ?_
              obtain ⟨x42, S40, hk, h⟩ := bd_e h
              refine cs_S_67 (q := 110) hk d_S_write_107 rfl (by decide) (Nat.le_of_ble_eq_true rfl) ?_
              refine ok_if_eq (q := 113) (t := 117) d_S_write_110 (by decide) rfl (fun hc => ?_) (fun hc => ?_)
              · replace h := if_t hc h
                refine ok_iconst (v := (0 : Int32)) (q := 118) d_S_write_117 (by decide) rfl ?_
                refine ok_istore (q := 120) (lv := [(7, .int (0 : Int32)), (6, .int x30), (4, .int x27), (5, .int (1 : Int32)), (0, .ref (a 0)), (1, .int p1), (2, .int p2), (3, .int p3)]) d_S_write_118 (by decide) rfl rfl ?_
                refine ok_iload (q := 122) 0 d_S_write_120 rfl rfl ?_
                refine ok_if_eq (q := 125) (t := 129) d_S_write_122 (by decide) rfl (fun _ => ?_) (fun hn => absurd hn (by decide))
                refine ok_aload_n (q := 130) 4 d_S_write_129 rfl rfl rfl ?_
                obtain ⟨x45, S43, hk, h⟩ := bd_e h
                refine cs_S_49 (q := 133) hk d_S_write_130 rfl (by decide) (Nat.le_of_ble_eq_true rfl) ?_
                obtain ⟨rfl, rfl⟩ := so_e h
                exact ok_iret d_S_write_133 ⟨rfl, rfl⟩
              · replace h := if_f hc h
                refine ok_iconst (v := (1 : Int32)) (q := 114) d_S_write_113 (by decide) rfl ?_
                refine ok_goto (q := 118) d_S_write_114 (by decide) ?_
                refine ok_istore (q := 120) (lv := [(7, .int (1 : Int32)), (6, .int x30), (4, .int x27), (5, .int (1 : Int32)), (0, .ref (a 0)), (1, .int p1), (2, .int p2), (3, .int p3)]) d_S_write_118 (by decide) rfl rfl ?_
                refine ok_iload (q := 122) 0 d_S_write_120 rfl rfl ?_
                refine ok_if_eq (q := 125) (t := 129) d_S_write_122 (by decide) rfl (fun hn => absurd hn (by decide)) (fun _ => ?_)
                refine ok_iconst (v := (0 : Int32)) (q := 126) d_S_write_125 (by decide) rfl ?_
                refine ok_goto (q := 133) d_S_write_126 (by decide) ?_
                obtain ⟨rfl, rfl⟩ := so_e h
                exact ok_iret d_S_write_133 ⟨rfl, rfl⟩
          · replace h := if_f hc h
            refine ok_iload (q := 71) 0 d_S_write_69 rfl rfl ?_
            obtain ⟨rfl, rfl⟩ := so_e h
            exact ok_iret d_S_write_71 ⟨rfl, rfl⟩
      · replace h := if_f hc h
        refine ok_bipush (v := (-7 : Int32)) (q := 28) d_S_write_26 (by decide) rfl ?_
        obtain ⟨rfl, rfl⟩ := so_e h
        exact ok_iret d_S_write_28 ⟨rfl, rfl⟩
  · replace h := if_f hc h
    refine ok_iload (q := 14) 0 d_S_write_12 rfl rfl ?_
    obtain ⟨rfl, rfl⟩ := so_e h
    exact ok_iret d_S_write_14 ⟨rfl, rfl⟩
set_option maxRecDepth 20000 in
set_option maxHeartbeats 4000000 in
theorem ct_S_write (p1 : Int32) (p2 : Int32) (p3 : Int32) (S : TC) (z : Int32) (Sz : TC) (h : fn_S_write S p1 p2 p3 = some (z, Sz)) : Ct (wC g a) D (tyC g) l y_S_write b_S_write 8 (some .int) rm_S_write [.ref (a 0), .int p1, .int p2, .int p3] S (pI z Sz) := ct_of (by decide) (Nat.le_of_ble_eq_true rfl) rfl (wk_S_write p1 p2 p3 S z Sz h)

end WALK
