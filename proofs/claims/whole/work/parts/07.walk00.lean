section WALK
variable {l : Launch} {D : va_G} {g : Nat → ClassId} {a r : Nat → Nat}
set_option maxRecDepth 20000 in
set_option maxHeartbeats 4000000 in
theorem wk_C_isProgrammed (p1 : Int32) (S : TC) (z : Int32) (Sz : TC) (h : fn_C_isProgrammed S p1 = some (z, Sz)) : Ok (wC g a) D (tyC g) l rm_C_isProgrammed R_C b_C_isProgrammed 2 (some .boolean) S 0 [(0, .ref (a 1)), (1, .int p1)] [] (pI z Sz) := by
  unfold fn_C_isProgrammed at h
  refine ok_iload_n (q := 1) 1 d_C_isProgrammed_0 rfl rfl rfl ?_
  refine ok_bipush (v := (8 : Int32)) (q := 3) d_C_isProgrammed_1 (by decide) rfl ?_
  refine ok_irem (q := 4) d_C_isProgrammed_3 (by decide) rfl ?_
  refine ok_aload_n (q := 5) 0 d_C_isProgrammed_4 rfl rfl rfl ?_
  refine gf_C_22 (q := 8) d_C_isProgrammed_5 rfl ?_
  refine ok_iload_n (q := 9) 1 d_C_isProgrammed_8 rfl rfl rfl ?_
  refine ok_bipush (v := (8 : Int32)) (q := 11) d_C_isProgrammed_9 (by decide) rfl ?_
  refine ok_idiv (q := 12) d_C_isProgrammed_11 (by decide) rfl ?_
  obtain ⟨hg, h⟩ := gd_e h
  obtain ⟨x1, e_x1, h⟩ := st_e h
  refine al_C_5 (q := 13) hg e_x1 d_C_isProgrammed_12 rfl ?_
  refine ok_icmp_ge (q := 16) (t := 20) d_C_isProgrammed_13 (by decide) rfl (fun hc => ?_) (fun hc => ?_)
  · replace h := if_t hc h
    refine ok_iconst (v := (0 : Int32)) (q := 21) d_C_isProgrammed_20 (by decide) rfl ?_
    obtain ⟨rfl, rfl⟩ := so_e h
    exact ok_zret d_C_isProgrammed_21 (by decide) ⟨rfl, rfl⟩
  · replace h := if_f hc h
    refine ok_iconst (v := (1 : Int32)) (q := 17) d_C_isProgrammed_16 (by decide) rfl ?_
    refine ok_goto (q := 21) d_C_isProgrammed_17 (by decide) ?_
    obtain ⟨rfl, rfl⟩ := so_e h
    exact ok_zret d_C_isProgrammed_21 (by decide) ⟨rfl, rfl⟩
set_option maxRecDepth 20000 in
set_option maxHeartbeats 4000000 in
theorem ct_C_isProgrammed (p1 : Int32) (S : TC) (z : Int32) (Sz : TC) (h : fn_C_isProgrammed S p1 = some (z, Sz)) : Ct (wC g a) D (tyC g) l y_C_isProgrammed b_C_isProgrammed 2 (some .boolean) rm_C_isProgrammed [.ref (a 1), .int p1] S (pI z Sz) := ct_of (by decide) (Nat.le_of_ble_eq_true rfl) rfl (wk_C_isProgrammed p1 S z Sz h)
theorem cs_C_49 {l : Launch} {D : va_G} {g : Nat → ClassId} {a : Nat → Nat} {rm : Room} {b : ByteArray} {nL : Nat} {ret : Option FieldType} {pc q : Nat} {Lc : List (Nat × Value)} {St : List Value} {S S2 : TC} {Post : Option Value → TC → Prop} {p1 : Int32} {z : Int32} (hk : fn_C_isProgrammed S p1 = some (z, S2)) (hd : decode b pc = .ok (.invokevirtual 49, 3)) (hq : pc + 3 = q) (hrm : rm_C_isProgrammed.frames + 1 ≤ rm.frames ∧ 8 + (2 + 11) + rm_C_isProgrammed.locals ≤ rm.locals) (hroom : (St.map fun v => v.category).sum ≤ 8) (k : Ok (wC g a) D (tyC g) l rm R_C b nL ret S2 q Lc (.int z :: St) Post) : Ok (wC g a) D (tyC g) l rm R_C b nL ret S pc Lc (.int p1 :: .ref (a 1) :: St) Post := by
  subst hq
  exact ok_cV (As := [.int p1]) (n := 1) (C := R_C) (T := F_C) (N := 11) (ci := 1) (q0 := 1) (ct_C_isProgrammed p1 S z S2 hk) hd wm_65 ⟨wm_66, wm_67, wm_68, wm_69⟩ (by decide +kernel) ⟨⟨rfl, rfl⟩, hrm⟩ rfl rfl rfl rfl hroom ⟨Nat.zero_le _, Nat.zero_le _⟩ (fun v u h => by obtain ⟨rfl, rfl⟩ := h; exact k)
theorem cs_S_151 {l : Launch} {D : va_G} {g : Nat → ClassId} {a : Nat → Nat} {rm : Room} {b : ByteArray} {nL : Nat} {ret : Option FieldType} {pc q : Nat} {Lc : List (Nat × Value)} {St : List Value} {S S2 : TC} {Post : Option Value → TC → Prop} {p1 : Int32} {z : Int32} (hk : fn_C_isProgrammed S p1 = some (z, S2)) (hd : decode b pc = .ok (.invokevirtual 151, 3)) (hq : pc + 3 = q) (hrm : rm_C_isProgrammed.frames + 1 ≤ rm.frames ∧ 8 + (2 + 11) + rm_C_isProgrammed.locals ≤ rm.locals) (hroom : (St.map fun v => v.category).sum ≤ 8) (k : Ok (wC g a) D (tyC g) l rm R_S b nL ret S2 q Lc (.int z :: St) Post) : Ok (wC g a) D (tyC g) l rm R_S b nL ret S pc Lc (.int p1 :: .ref (a 1) :: St) Post := by
  subst hq
  exact ok_cV (As := [.int p1]) (n := 1) (C := R_C) (T := F_C) (N := 11) (ci := 1) (q0 := 1) (ct_C_isProgrammed p1 S z S2 hk) hd wm_65 ⟨wm_326, wm_67, wm_68, wm_69⟩ (by decide +kernel) ⟨⟨rfl, rfl⟩, hrm⟩ rfl rfl rfl rfl hroom ⟨Nat.zero_le _, Nat.zero_le _⟩ (fun v u h => by obtain ⟨rfl, rfl⟩ := h; exact k)
set_option maxRecDepth 20000 in
set_option maxHeartbeats 4000000 in
theorem wk_T_isMarked (p0 : Int32) (S : TC) (z : Int32) (Sz : TC) (h : fn_T_isMarked S p0 = some (z, Sz)) : Ok (wC g a) D (tyC g) l rm_T_isMarked R_T b_T_isMarked 1 (some .boolean) S 0 [(0, .int p0)] [] (pI z Sz) := by
  unfold fn_T_isMarked at h
  refine ok_iload_n (q := 1) 0 d_T_isMarked_0 rfl rfl rfl ?_
  refine ok_sipush (v := (256 : Int32)) (q := 4) d_T_isMarked_1 (by decide) rfl ?_
  refine ok_iand (q := 5) d_T_isMarked_4 rfl ?_
  refine ok_if_eq (q := 8) (t := 12) d_T_isMarked_5 (by decide) rfl (fun hc => ?_) (fun hc => ?_)
  · replace h := if_t hc h
    refine ok_iconst (v := (0 : Int32)) (q := 13) d_T_isMarked_12 (by decide) rfl ?_
    obtain ⟨rfl, rfl⟩ := so_e h
    exact ok_zret d_T_isMarked_13 (by decide) ⟨rfl, rfl⟩
  · replace h := if_f hc h
    refine ok_iconst (v := (1 : Int32)) (q := 9) d_T_isMarked_8 (by decide) rfl ?_
    refine ok_goto (q := 13) d_T_isMarked_9 (by decide) ?_
    obtain ⟨rfl, rfl⟩ := so_e h
    exact ok_zret d_T_isMarked_13 (by decide) ⟨rfl, rfl⟩
set_option maxRecDepth 20000 in
set_option maxHeartbeats 4000000 in
theorem ct_T_isMarked (p0 : Int32) (S : TC) (z : Int32) (Sz : TC) (h : fn_T_isMarked S p0 = some (z, Sz)) : Ct (wC g a) D (tyC g) l y_T_isMarked b_T_isMarked 1 (some .boolean) rm_T_isMarked [.int p0] S (pI z Sz) := ct_of (by decide) (Nat.le_of_ble_eq_true rfl) rfl (wk_T_isMarked p0 S z Sz h)
theorem cs_C_53 {l : Launch} {D : va_G} {g : Nat → ClassId} {a : Nat → Nat} {rm : Room} {b : ByteArray} {nL : Nat} {ret : Option FieldType} {pc q : Nat} {Lc : List (Nat × Value)} {St : List Value} {S S2 : TC} {Post : Option Value → TC → Prop} {p0 : Int32} {z : Int32} (hk : fn_T_isMarked S p0 = some (z, S2)) (hd : decode b pc = .ok (.invokestatic 53, 3)) (hq : pc + 3 = q) (hrm : rm_T_isMarked.frames + 1 ≤ rm.frames ∧ 8 + (1 + 11) + rm_T_isMarked.locals ≤ rm.locals) (hroom : (St.map fun v => v.category).sum ≤ 8) (k : Ok (wC g a) D (tyC g) l rm R_C b nL ret S2 q Lc (.int z :: St) Post) : Ok (wC g a) D (tyC g) l rm R_C b nL ret S pc Lc (.int p0 :: St) Post := by
  subst hq
  exact ok_cS (As := [.int p0]) (n := 1) (ct_T_isMarked p0 S z S2 hk) hd wm_70 ⟨wm_71, wm_72, wm_73⟩ (by decide +kernel) ⟨⟨rfl, rfl⟩, hrm⟩ rfl rfl hroom ⟨Nat.zero_le _, Nat.zero_le _⟩ (fun v u h => by obtain ⟨rfl, rfl⟩ := h; exact k)
set_option maxRecDepth 20000 in
set_option maxHeartbeats 4000000 in
theorem wk_C_isLive (p1 : Int32) (S : TC) (z : Int32) (Sz : TC) (h : fn_C_isLive S p1 = some (z, Sz)) : Ok (wC g a) D (tyC g) l rm_C_isLive R_C b_C_isLive 2 (some .boolean) S 0 [(0, .ref (a 1)), (1, .int p1)] [] (pI z Sz) := by
  unfold fn_C_isLive at h
  refine ok_aload_n (q := 1) 0 d_C_isLive_0 rfl rfl rfl ?_
  refine ok_iload_n (q := 2) 1 d_C_isLive_1 rfl rfl rfl ?_
  obtain ⟨x3, S1, hk, h⟩ := bd_e h
  refine cs_C_49 (q := 5) hk d_C_isLive_2 rfl (by decide) (Nat.le_of_ble_eq_true rfl) ?_
  refine ok_if_eq (q := 8) (t := 24) d_C_isLive_5 (by decide) rfl (fun hc => ?_) (fun hc => ?_)
  · replace h := if_t hc h
    refine ok_iconst (v := (0 : Int32)) (q := 25) d_C_isLive_24 (by decide) rfl ?_
    obtain ⟨rfl, rfl⟩ := so_e h
    exact ok_zret d_C_isLive_25 (by decide) ⟨rfl, rfl⟩
  · replace h := if_f hc h
    refine ok_aload_n (q := 9) 0 d_C_isLive_8 rfl rfl rfl ?_
    refine gf_C_9 (q := 12) d_C_isLive_9 rfl ?_
    refine ok_iload_n (q := 13) 1 d_C_isLive_12 rfl rfl rfl ?_
    obtain ⟨hg, h⟩ := gd_e h
    obtain ⟨x4, e_x4, h⟩ := st_e h
    refine al_C_2 (q := 14) hg e_x4 d_C_isLive_13 rfl ?_
    obtain ⟨x7, S5, hk, h⟩ := bd_e h
    refine cs_C_53 (q := 17) hk d_C_isLive_14 rfl (by decide) (Nat.le_of_ble_eq_true rfl) ?_
    refine ok_if_ne (q := 20) (t := 24) d_C_isLive_17 (by decide) rfl (fun hc => ?_) (fun hc => ?_)
    · replace h := if_f hc h
      refine ok_iconst (v := (0 : Int32)) (q := 25) d_C_isLive_24 (by decide) rfl ?_
      obtain ⟨rfl, rfl⟩ := so_e h
      exact ok_zret d_C_isLive_25 (by decide) ⟨rfl, rfl⟩
    · replace h := if_t hc h
      refine ok_iconst (v := (1 : Int32)) (q := 21) d_C_isLive_20 (by decide) rfl ?_
      refine ok_goto (q := 25) d_C_isLive_21 (by decide) ?_
      obtain ⟨rfl, rfl⟩ := so_e h
      exact ok_zret d_C_isLive_25 (by decide) ⟨rfl, rfl⟩
set_option maxRecDepth 20000 in
set_option maxHeartbeats 4000000 in
theorem ct_C_isLive (p1 : Int32) (S : TC) (z : Int32) (Sz : TC) (h : fn_C_isLive S p1 = some (z, Sz)) : Ct (wC g a) D (tyC g) l y_C_isLive b_C_isLive 2 (some .boolean) rm_C_isLive [.ref (a 1), .int p1] S (pI z Sz) := ct_of (by decide) (Nat.le_of_ble_eq_true rfl) rfl (wk_C_isLive p1 S z Sz h)
theorem cs_C_69 {l : Launch} {D : va_G} {g : Nat → ClassId} {a : Nat → Nat} {rm : Room} {b : ByteArray} {nL : Nat} {ret : Option FieldType} {pc q : Nat} {Lc : List (Nat × Value)} {St : List Value} {S S2 : TC} {Post : Option Value → TC → Prop} {p1 : Int32} {z : Int32} (hk : fn_C_isLive S p1 = some (z, S2)) (hd : decode b pc = .ok (.invokevirtual 69, 3)) (hq : pc + 3 = q) (hrm : rm_C_isLive.frames + 1 ≤ rm.frames ∧ 8 + (2 + 11) + rm_C_isLive.locals ≤ rm.locals) (hroom : (St.map fun v => v.category).sum ≤ 8) (k : Ok (wC g a) D (tyC g) l rm R_C b nL ret S2 q Lc (.int z :: St) Post) : Ok (wC g a) D (tyC g) l rm R_C b nL ret S pc Lc (.int p1 :: .ref (a 1) :: St) Post := by
  subst hq
  exact ok_cV (As := [.int p1]) (n := 1) (C := R_C) (T := F_C) (N := 11) (ci := 1) (q0 := 1) (ct_C_isLive p1 S z S2 hk) hd wm_82 ⟨wm_83, wm_84, wm_85, wm_69⟩ (by decide +kernel) ⟨⟨rfl, rfl⟩, hrm⟩ rfl rfl rfl rfl hroom ⟨Nat.zero_le _, Nat.zero_le _⟩ (fun v u h => by obtain ⟨rfl, rfl⟩ := h; exact k)
theorem cs_S_216 {l : Launch} {D : va_G} {g : Nat → ClassId} {a : Nat → Nat} {rm : Room} {b : ByteArray} {nL : Nat} {ret : Option FieldType} {pc q : Nat} {Lc : List (Nat × Value)} {St : List Value} {S S2 : TC} {Post : Option Value → TC → Prop} {p1 : Int32} {z : Int32} (hk : fn_C_isLive S p1 = some (z, S2)) (hd : decode b pc = .ok (.invokevirtual 216, 3)) (hq : pc + 3 = q) (hrm : rm_C_isLive.frames + 1 ≤ rm.frames ∧ 8 + (2 + 11) + rm_C_isLive.locals ≤ rm.locals) (hroom : (St.map fun v => v.category).sum ≤ 8) (k : Ok (wC g a) D (tyC g) l rm R_S b nL ret S2 q Lc (.int z :: St) Post) : Ok (wC g a) D (tyC g) l rm R_S b nL ret S pc Lc (.int p1 :: .ref (a 1) :: St) Post := by
  subst hq
  exact ok_cV (As := [.int p1]) (n := 1) (C := R_C) (T := F_C) (N := 11) (ci := 1) (q0 := 1) (ct_C_isLive p1 S z S2 hk) hd wm_82 ⟨wm_369, wm_84, wm_85, wm_69⟩ (by decide +kernel) ⟨⟨rfl, rfl⟩, hrm⟩ rfl rfl rfl rfl hroom ⟨Nat.zero_le _, Nat.zero_le _⟩ (fun v u h => by obtain ⟨rfl, rfl⟩ := h; exact k)
set_option maxRecDepth 20000 in
set_option maxHeartbeats 4000000 in
theorem wk_T_ofChunk (p0 : Int32) (p1 : Int32) (S : TC) (z : Int32) (Sz : TC) (h : fn_T_ofChunk S p0 p1 = some (z, Sz)) : Ok (wC g a) D (tyC g) l rm_T_ofChunk R_T b_T_ofChunk 2 (some .int) S 0 [(0, .int p0), (1, .int p1)] [] (pI z Sz) := by
  unfold fn_T_ofChunk at h
  refine ok_iload_n (q := 1) 0 d_T_ofChunk_0 rfl rfl rfl ?_
  refine ok_bipush (v := (8 : Int32)) (q := 3) d_T_ofChunk_1 (by decide) rfl ?_
  refine ok_iload_n (q := 4) 1 d_T_ofChunk_3 rfl rfl rfl ?_
  refine ok_imul (q := 5) d_T_ofChunk_4 rfl ?_
  refine ok_iadd (q := 6) d_T_ofChunk_5 rfl ?_
  obtain ⟨rfl, rfl⟩ := so_e h
  exact ok_iret d_T_ofChunk_6 ⟨rfl, rfl⟩
set_option maxRecDepth 20000 in
set_option maxHeartbeats 4000000 in
theorem ct_T_ofChunk (p0 : Int32) (p1 : Int32) (S : TC) (z : Int32) (Sz : TC) (h : fn_T_ofChunk S p0 p1 = some (z, Sz)) : Ct (wC g a) D (tyC g) l y_T_ofChunk b_T_ofChunk 2 (some .int) rm_T_ofChunk [.int p0, .int p1] S (pI z Sz) := ct_of (by decide) (Nat.le_of_ble_eq_true rfl) rfl (wk_T_ofChunk p0 p1 S z Sz h)
theorem cs_S_64 {l : Launch} {D : va_G} {g : Nat → ClassId} {a : Nat → Nat} {rm : Room} {b : ByteArray} {nL : Nat} {ret : Option FieldType} {pc q : Nat} {Lc : List (Nat × Value)} {St : List Value} {S S2 : TC} {Post : Option Value → TC → Prop} {p0 : Int32} {p1 : Int32} {z : Int32} (hk : fn_T_ofChunk S p0 p1 = some (z, S2)) (hd : decode b pc = .ok (.invokestatic 64, 3)) (hq : pc + 3 = q) (hrm : rm_T_ofChunk.frames + 1 ≤ rm.frames ∧ 8 + (2 + 11) + rm_T_ofChunk.locals ≤ rm.locals) (hroom : (St.map fun v => v.category).sum ≤ 8) (k : Ok (wC g a) D (tyC g) l rm R_S b nL ret S2 q Lc (.int z :: St) Post) : Ok (wC g a) D (tyC g) l rm R_S b nL ret S pc Lc (.int p1 :: .int p0 :: St) Post := by
  subst hq
  exact ok_cS (As := [.int p0, .int p1]) (n := 2) (ct_T_ofChunk p0 p1 S z S2 hk) hd wm_243 ⟨wm_244, wm_245, wm_73⟩ (by decide +kernel) ⟨⟨rfl, rfl⟩, hrm⟩ rfl rfl hroom ⟨Nat.zero_le _, Nat.zero_le _⟩ (fun v u h => by obtain ⟨rfl, rfl⟩ := h; exact k)
theorem cs_T_10 {l : Launch} {D : va_G} {g : Nat → ClassId} {a : Nat → Nat} {rm : Room} {b : ByteArray} {nL : Nat} {ret : Option FieldType} {pc q : Nat} {Lc : List (Nat × Value)} {St : List Value} {S S2 : TC} {Post : Option Value → TC → Prop} {p0 : Int32} {p1 : Int32} {z : Int32} (hk : fn_T_ofChunk S p0 p1 = some (z, S2)) (hd : decode b pc = .ok (.invokestatic 10, 3)) (hq : pc + 3 = q) (hrm : rm_T_ofChunk.frames + 1 ≤ rm.frames ∧ 8 + (2 + 11) + rm_T_ofChunk.locals ≤ rm.locals) (hroom : (St.map fun v => v.category).sum ≤ 8) (k : Ok (wC g a) D (tyC g) l rm R_T b nL ret S2 q Lc (.int z :: St) Post) : Ok (wC g a) D (tyC g) l rm R_T b nL ret S pc Lc (.int p1 :: .int p0 :: St) Post := by
  subst hq
  exact ok_cS (As := [.int p0, .int p1]) (n := 2) (ct_T_ofChunk p0 p1 S z S2 hk) hd wm_243 ⟨wm_389, wm_245, wm_73⟩ (by decide +kernel) ⟨⟨rfl, rfl⟩, hrm⟩ rfl rfl hroom ⟨Nat.zero_le _, Nat.zero_le _⟩ (fun v u h => by obtain ⟨rfl, rfl⟩ := h; exact k)
set_option maxRecDepth 20000 in
set_option maxHeartbeats 4000000 in
theorem wk_T_areOf (p0 : Int32) (p1 : Int32) (p2 : Int32) (S : TC) (z : Int32) (Sz : TC) (h : fn_T_areOf S p0 p1 p2 = some (z, Sz)) : Ok (wC g a) D (tyC g) l rm_T_areOf R_T b_T_areOf 3 (some .boolean) S 0 [(0, .int p0), (1, .int p1), (2, .int p2)] [] (pI z Sz) := by
  unfold fn_T_areOf at h
  refine ok_iload_n (q := 1) 0 d_T_areOf_0 rfl rfl rfl ?_
  refine ok_bipush (v := (63 : Int32)) (q := 3) d_T_areOf_1 (by decide) rfl ?_
  refine ok_iand (q := 4) d_T_areOf_3 rfl ?_
  refine ok_iload_n (q := 5) 1 d_T_areOf_4 rfl rfl rfl ?_
  refine ok_iload_n (q := 6) 2 d_T_areOf_5 rfl rfl rfl ?_
  obtain ⟨x3, S1, hk, h⟩ := bd_e h
  refine cs_T_10 (q := 9) hk d_T_areOf_6 rfl (by decide) (Nat.le_of_ble_eq_true rfl) ?_
  refine ok_icmp_ne (q := 12) (t := 16) d_T_areOf_9 (by decide) rfl (fun hc => ?_) (fun hc => ?_)
  · replace h := if_f hc h
    refine ok_iconst (v := (0 : Int32)) (q := 17) d_T_areOf_16 (by decide) rfl ?_
    obtain ⟨rfl, rfl⟩ := so_e h
    exact ok_zret d_T_areOf_17 (by decide) ⟨rfl, rfl⟩
  · replace h := if_t hc h
    refine ok_iconst (v := (1 : Int32)) (q := 13) d_T_areOf_12 (by decide) rfl ?_
    refine ok_goto (q := 17) d_T_areOf_13 (by decide) ?_
    obtain ⟨rfl, rfl⟩ := so_e h
    exact ok_zret d_T_areOf_17 (by decide) ⟨rfl, rfl⟩
set_option maxRecDepth 20000 in
set_option maxHeartbeats 4000000 in
theorem ct_T_areOf (p0 : Int32) (p1 : Int32) (p2 : Int32) (S : TC) (z : Int32) (Sz : TC) (h : fn_T_areOf S p0 p1 p2 = some (z, Sz)) : Ct (wC g a) D (tyC g) l y_T_areOf b_T_areOf 3 (some .boolean) rm_T_areOf [.int p0, .int p1, .int p2] S (pI z Sz) := ct_of (by decide) (Nat.le_of_ble_eq_true rfl) rfl (wk_T_areOf p0 p1 p2 S z Sz h)
theorem cs_C_72 {l : Launch} {D : va_G} {g : Nat → ClassId} {a : Nat → Nat} {rm : Room} {b : ByteArray} {nL : Nat} {ret : Option FieldType} {pc q : Nat} {Lc : List (Nat × Value)} {St : List Value} {S S2 : TC} {Post : Option Value → TC → Prop} {p0 : Int32} {p1 : Int32} {p2 : Int32} {z : Int32} (hk : fn_T_areOf S p0 p1 p2 = some (z, S2)) (hd : decode b pc = .ok (.invokestatic 72, 3)) (hq : pc + 3 = q) (hrm : rm_T_areOf.frames + 1 ≤ rm.frames ∧ 8 + (3 + 11) + rm_T_areOf.locals ≤ rm.locals) (hroom : (St.map fun v => v.category).sum ≤ 8) (k : Ok (wC g a) D (tyC g) l rm R_C b nL ret S2 q Lc (.int z :: St) Post) : Ok (wC g a) D (tyC g) l rm R_C b nL ret S pc Lc (.int p2 :: .int p1 :: .int p0 :: St) Post := by
  subst hq
  exact ok_cS (As := [.int p0, .int p1, .int p2]) (n := 3) (ct_T_areOf p0 p1 p2 S z S2 hk) hd wm_86 ⟨wm_87, wm_88, wm_73⟩ (by decide +kernel) ⟨⟨rfl, rfl⟩, hrm⟩ rfl rfl hroom ⟨Nat.zero_le _, Nat.zero_le _⟩ (fun v u h => by obtain ⟨rfl, rfl⟩ := h; exact k)
set_option maxRecDepth 20000 in
set_option maxHeartbeats 4000000 in
theorem wl_C_livePage_2 (n : Nat) : ∀ (p1 : Int32) (p2 : Int32) (p3 : Int32) (S : TC) (z : Int32) (Sz : TC), lp_C_livePage_2 n S p1 p2 p3 = some (z, Sz) → Ok (wC g a) D (tyC g) l rm_C_livePage R_C b_C_livePage 4 (some .int) S 2 [(0, .ref (a 1)), (1, .int p1), (2, .int p2), (3, .int p3)] [] (pI z Sz) := by
  induction n with
  | zero => intro p1 p2 p3 S z Sz h; exact absurd h (fun h => by cases h)
  | succ n ih =>
    intro p1 p2 p3 S z Sz h
    rw [le_C_livePage_2] at h
    refine ok_iload_n (q := 3) 3 d_C_livePage_2 rfl rfl rfl ?_
    refine ok_bipush (v := (48 : Int32)) (q := 5) d_C_livePage_3 (by decide) rfl ?_
    refine ok_icmp_ge (q := 8) (t := 38) d_C_livePage_5 (by decide) rfl (fun hc => ?_) (fun hc => ?_)
    · replace h := if_t hc h
      refine ok_iconst (v := (-1 : Int32)) (q := 39) d_C_livePage_38 (by decide) rfl ?_
      obtain ⟨rfl, rfl⟩ := so_e h
      exact ok_iret d_C_livePage_39 ⟨rfl, rfl⟩
    · replace h := if_f hc h
      refine ok_aload_n (q := 9) 0 d_C_livePage_8 rfl rfl rfl ?_
      refine ok_iload_n (q := 10) 3 d_C_livePage_9 rfl rfl rfl ?_
      obtain ⟨x3, S1, hk, h⟩ := bd_e h
      refine cs_C_69 (q := 13) hk d_C_livePage_10 rfl (by decide) (Nat.le_of_ble_eq_true rfl) ?_
      refine ok_if_eq (q := 16) (t := 32) d_C_livePage_13 (by decide) rfl (fun hc => ?_) (fun hc => ?_)
      · replace h := if_t hc h
        obtain ⟨x4, e_x4, h⟩ := st_e h
        refine ok_iinc (d := (1 : Int32)) (q := 35) (lv := [(3, .int x4), (0, .ref (a 1)), (1, .int p1), (2, .int p2)]) 3 d_C_livePage_32 rfl (by decide) e_x4 (by decide) rfl rfl ?_
        refine ok_goto (q := 2) d_C_livePage_35 (by decide) ?_
        exact ok_sub [1, 2, 3, 0] rfl (ih p1 p2 x4 _ _ _ h)
      · replace h := if_f hc h
        refine ok_aload_n (q := 17) 0 d_C_livePage_16 rfl rfl rfl ?_
        refine gf_C_9 (q := 20) d_C_livePage_17 rfl ?_
        refine ok_iload_n (q := 21) 3 d_C_livePage_20 rfl rfl rfl ?_
        obtain ⟨hg, h⟩ := gd_e h
        obtain ⟨x5, e_x5, h⟩ := st_e h
        refine al_C_2 (q := 22) hg e_x5 d_C_livePage_21 rfl ?_
        refine ok_iload_n (q := 23) 1 d_C_livePage_22 rfl rfl rfl ?_
        refine ok_iload_n (q := 24) 2 d_C_livePage_23 rfl rfl rfl ?_
        obtain ⟨x8, S6, hk, h⟩ := bd_e h
        refine cs_C_72 (q := 27) hk d_C_livePage_24 rfl (by decide) (Nat.le_of_ble_eq_true rfl) ?_
        refine ok_if_eq (q := 30) (t := 32) d_C_livePage_27 (by decide) rfl (fun hc => ?_) (fun hc => ?_)
        · replace h := if_t hc h
          obtain ⟨x9, e_x9, h⟩ := st_e h
          refine ok_iinc (d := (1 : Int32)) (q := 35) (lv := [(3, .int x9), (0, .ref (a 1)), (1, .int p1), (2, .int p2)]) 3 d_C_livePage_32 rfl (by decide) e_x9 (by decide) rfl rfl ?_
          refine ok_goto (q := 2) d_C_livePage_35 (by decide) ?_
          exact ok_sub [1, 2, 3, 0] rfl (ih p1 p2 x9 _ _ _ h)
        · replace h := if_f hc h
          refine ok_iload_n (q := 31) 3 d_C_livePage_30 rfl rfl rfl ?_
          obtain ⟨rfl, rfl⟩ := so_e h
          exact ok_iret d_C_livePage_31 ⟨rfl, rfl⟩
set_option maxRecDepth 20000 in
set_option maxHeartbeats 4000000 in
theorem wk_C_livePage (p1 : Int32) (p2 : Int32) (S : TC) (z : Int32) (Sz : TC) (h : fn_C_livePage S p1 p2 = some (z, Sz)) : Ok (wC g a) D (tyC g) l rm_C_livePage R_C b_C_livePage 4 (some .int) S 0 [(0, .ref (a 1)), (1, .int p1), (2, .int p2)] [] (pI z Sz) := by
  unfold fn_C_livePage at h
  refine ok_iconst (v := (0 : Int32)) (q := 1) d_C_livePage_0 (by decide) rfl ?_
  refine ok_istore_n (q := 2) (lv := [(3, .int (0 : Int32)), (0, .ref (a 1)), (1, .int p1), (2, .int p2)]) d_C_livePage_1 rfl (by decide) rfl rfl ?_
  exact ok_sub [1, 2, 3, 0] rfl (wl_C_livePage_2 64 p1 p2 (0 : Int32) _ _ _ h)
set_option maxRecDepth 20000 in
set_option maxHeartbeats 4000000 in
theorem ct_C_livePage (p1 : Int32) (p2 : Int32) (S : TC) (z : Int32) (Sz : TC) (h : fn_C_livePage S p1 p2 = some (z, Sz)) : Ct (wC g a) D (tyC g) l y_C_livePage b_C_livePage 4 (some .int) rm_C_livePage [.ref (a 1), .int p1, .int p2] S (pI z Sz) := ct_of (by decide) (Nat.le_of_ble_eq_true rfl) rfl (wk_C_livePage p1 p2 S z Sz h)
theorem cs_S_61 {l : Launch} {D : va_G} {g : Nat → ClassId} {a : Nat → Nat} {rm : Room} {b : ByteArray} {nL : Nat} {ret : Option FieldType} {pc q : Nat} {Lc : List (Nat × Value)} {St : List Value} {S S2 : TC} {Post : Option Value → TC → Prop} {p1 : Int32} {p2 : Int32} {z : Int32} (hk : fn_C_livePage S p1 p2 = some (z, S2)) (hd : decode b pc = .ok (.invokevirtual 61, 3)) (hq : pc + 3 = q) (hrm : rm_C_livePage.frames + 1 ≤ rm.frames ∧ 8 + (4 + 11) + rm_C_livePage.locals ≤ rm.locals) (hroom : (St.map fun v => v.category).sum ≤ 8) (k : Ok (wC g a) D (tyC g) l rm R_S b nL ret S2 q Lc (.int z :: St) Post) : Ok (wC g a) D (tyC g) l rm R_S b nL ret S pc Lc (.int p2 :: .int p1 :: .ref (a 1) :: St) Post := by
  subst hq
  exact ok_cV (As := [.int p1, .int p2]) (n := 2) (C := R_C) (T := F_C) (N := 11) (ci := 1) (q0 := 1) (ct_C_livePage p1 p2 S z S2 hk) hd wm_239 ⟨wm_240, wm_241, wm_242, wm_69⟩ (by decide +kernel) ⟨⟨rfl, rfl⟩, hrm⟩ rfl rfl rfl rfl hroom ⟨Nat.zero_le _, Nat.zero_le _⟩ (fun v u h => by obtain ⟨rfl, rfl⟩ := h; exact k)
set_option maxRecDepth 20000 in
set_option maxHeartbeats 4000000 in
theorem wk_S_isThere (p1 : Int32) (S : TC) (z : Int32) (Sz : TC) (h : fn_S_isThere S p1 = some (z, Sz)) : Ok (wC g a) D (tyC g) l rm_S_isThere R_S b_S_isThere 2 (some .boolean) S 0 [(0, .ref (a 0)), (1, .int p1)] [] (pI z Sz) := by
  unfold fn_S_isThere at h
  refine ok_iload_n (q := 1) 1 d_S_isThere_0 rfl rfl rfl ?_
  refine ok_if_le (q := 4) (t := 27) d_S_isThere_1 (by decide) rfl (fun hc => ?_) (fun hc => ?_)
  · replace h := if_t hc h
    refine ok_iconst (v := (0 : Int32)) (q := 28) d_S_isThere_27 (by decide) rfl ?_
    obtain ⟨rfl, rfl⟩ := so_e h
    exact ok_zret d_S_isThere_28 (by decide) ⟨rfl, rfl⟩
  · replace h := if_f hc h
    refine ok_iload_n (q := 5) 1 d_S_isThere_4 rfl rfl rfl ?_
    refine ok_bipush (v := (7 : Int32)) (q := 7) d_S_isThere_5 (by decide) rfl ?_
    refine ok_icmp_gt (q := 10) (t := 27) d_S_isThere_7 (by decide) rfl (fun hc => ?_) (fun hc => ?_)
    · replace h := if_t hc h
      refine ok_iconst (v := (0 : Int32)) (q := 28) d_S_isThere_27 (by decide) rfl ?_
      obtain ⟨rfl, rfl⟩ := so_e h
      exact ok_zret d_S_isThere_28 (by decide) ⟨rfl, rfl⟩
    · replace h := if_f hc h
      refine ok_aload_n (q := 11) 0 d_S_isThere_10 rfl rfl rfl ?_
      refine gf_S_12 (q := 14) d_S_isThere_11 rfl ?_
      refine ok_iload_n (q := 15) 1 d_S_isThere_14 rfl rfl rfl ?_
      refine ok_iconst (v := (0 : Int32)) (q := 16) d_S_isThere_15 (by decide) rfl ?_
      obtain ⟨x3, S1, hk, h⟩ := bd_e h
      refine cs_S_61 (q := 19) hk d_S_isThere_16 rfl (by decide) (Nat.le_of_ble_eq_true rfl) ?_
      refine ok_iconst (v := (-1 : Int32)) (q := 20) d_S_isThere_19 (by decide) rfl ?_
      refine ok_icmp_eq (q := 23) (t := 27) d_S_isThere_20 (by decide) rfl (fun hc => ?_) (fun hc => ?_)
      · replace h := if_t hc h
        refine ok_iconst (v := (0 : Int32)) (q := 28) d_S_isThere_27 (by decide) rfl ?_
        obtain ⟨rfl, rfl⟩ := so_e h
        exact ok_zret d_S_isThere_28 (by decide) ⟨rfl, rfl⟩
      · replace h := if_f hc h
        refine ok_iconst (v := (1 : Int32)) (q := 24) d_S_isThere_23 (by decide) rfl ?_
        refine ok_goto (q := 28) d_S_isThere_24 (by decide) ?_
        obtain ⟨rfl, rfl⟩ := so_e h
        exact ok_zret d_S_isThere_28 (by decide) ⟨rfl, rfl⟩
set_option maxRecDepth 20000 in
set_option maxHeartbeats 4000000 in
theorem ct_S_isThere (p1 : Int32) (S : TC) (z : Int32) (Sz : TC) (h : fn_S_isThere S p1 = some (z, Sz)) : Ct (wC g a) D (tyC g) l y_S_isThere b_S_isThere 2 (some .boolean) rm_S_isThere [.ref (a 0), .int p1] S (pI z Sz) := ct_of (by decide) (Nat.le_of_ble_eq_true rfl) rfl (wk_S_isThere p1 S z Sz h)
theorem cs_S_94 {l : Launch} {D : va_G} {g : Nat → ClassId} {a : Nat → Nat} {rm : Room} {b : ByteArray} {nL : Nat} {ret : Option FieldType} {pc q : Nat} {Lc : List (Nat × Value)} {St : List Value} {S S2 : TC} {Post : Option Value → TC → Prop} {p1 : Int32} {z : Int32} (hk : fn_S_isThere S p1 = some (z, S2)) (hd : decode b pc = .ok (.invokevirtual 94, 3)) (hq : pc + 3 = q) (hrm : rm_S_isThere.frames + 1 ≤ rm.frames ∧ 8 + (2 + 11) + rm_S_isThere.locals ≤ rm.locals) (hroom : (St.map fun v => v.category).sum ≤ 8) (k : Ok (wC g a) D (tyC g) l rm R_S b nL ret S2 q Lc (.int z :: St) Post) : Ok (wC g a) D (tyC g) l rm R_S b nL ret S pc Lc (.int p1 :: .ref (a 0) :: St) Post := by
  subst hq
  exact ok_cV (As := [.int p1]) (n := 1) (C := R_S) (T := F_S) (N := 3) (ci := 0) (q0 := 0) (ct_S_isThere p1 S z S2 hk) hd wm_273 ⟨wm_274, wm_275, wm_276, wm_204⟩ (by decide +kernel) ⟨⟨rfl, rfl⟩, hrm⟩ rfl rfl rfl rfl hroom ⟨Nat.zero_le _, Nat.zero_le _⟩ (fun v u h => by obtain ⟨rfl, rfl⟩ := h; exact k)
set_option maxRecDepth 20000 in
set_option maxHeartbeats 4000000 in
theorem wl_S_lowestAbsentObject_2 (n : Nat) : ∀ (p1 : Int32) (S : TC) (z : Int32) (Sz : TC), lp_S_lowestAbsentObject_2 n S p1 = some (z, Sz) → Ok (wC g a) D (tyC g) l rm_S_lowestAbsentObject R_S b_S_lowestAbsentObject 2 (some .int) S 2 [(0, .ref (a 0)), (1, .int p1)] [] (pI z Sz) := by
  induction n with
  | zero => intro p1 S z Sz h; exact absurd h (fun h => by cases h)
  | succ n ih =>
    intro p1 S z Sz h
    rw [le_S_lowestAbsentObject_2] at h
    refine ok_iload_n (q := 3) 1 d_S_lowestAbsentObject_2 rfl rfl rfl ?_
    refine ok_bipush (v := (7 : Int32)) (q := 5) d_S_lowestAbsentObject_3 (by decide) rfl ?_
    refine ok_icmp_gt (q := 8) (t := 24) d_S_lowestAbsentObject_5 (by decide) rfl (fun hc => ?_) (fun hc => ?_)
    · replace h := if_t hc h
      refine ok_iconst (v := (-1 : Int32)) (q := 25) d_S_lowestAbsentObject_24 (by decide) rfl ?_
      obtain ⟨rfl, rfl⟩ := so_e h
      exact ok_iret d_S_lowestAbsentObject_25 ⟨rfl, rfl⟩
    · replace h := if_f hc h
      refine ok_aload_n (q := 9) 0 d_S_lowestAbsentObject_8 rfl rfl rfl ?_
      refine ok_iload_n (q := 10) 1 d_S_lowestAbsentObject_9 rfl rfl rfl ?_
      obtain ⟨x3, S1, hk, h⟩ := bd_e h
      refine cs_S_94 (q := 13) hk d_S_lowestAbsentObject_10 rfl (by decide) (Nat.le_of_ble_eq_true rfl) ?_
      refine ok_if_ne (q := 16) (t := 18) d_S_lowestAbsentObject_13 (by decide) rfl (fun hc => ?_) (fun hc => ?_)
      · replace h := if_f hc h
        obtain ⟨x4, e_x4, h⟩ := st_e h
        refine ok_iinc (d := (1 : Int32)) (q := 21) (lv := [(1, .int x4), (0, .ref (a 0))]) 1 d_S_lowestAbsentObject_18 rfl (by decide) e_x4 (by decide) rfl rfl ?_
        refine ok_goto (q := 2) d_S_lowestAbsentObject_21 (by decide) ?_
        exact ok_sub [1, 0] rfl (ih x4 _ _ _ h)
      · replace h := if_t hc h
        refine ok_iload_n (q := 17) 1 d_S_lowestAbsentObject_16 rfl rfl rfl ?_
        obtain ⟨rfl, rfl⟩ := so_e h
        exact ok_iret d_S_lowestAbsentObject_17 ⟨rfl, rfl⟩
set_option maxRecDepth 20000 in
set_option maxHeartbeats 4000000 in
theorem wk_S_lowestAbsentObject (S : TC) (z : Int32) (Sz : TC) (h : fn_S_lowestAbsentObject S = some (z, Sz)) : Ok (wC g a) D (tyC g) l rm_S_lowestAbsentObject R_S b_S_lowestAbsentObject 2 (some .int) S 0 [(0, .ref (a 0))] [] (pI z Sz) := by
  unfold fn_S_lowestAbsentObject at h
  refine ok_iconst (v := (1 : Int32)) (q := 1) d_S_lowestAbsentObject_0 (by decide) rfl ?_
  refine ok_istore_n (q := 2) (lv := [(1, .int (1 : Int32)), (0, .ref (a 0))]) d_S_lowestAbsentObject_1 rfl (by decide) rfl rfl ?_
  exact ok_sub [1, 0] rfl (wl_S_lowestAbsentObject_2 64 (1 : Int32) _ _ _ h)
set_option maxRecDepth 20000 in
set_option maxHeartbeats 4000000 in
theorem ct_S_lowestAbsentObject (S : TC) (z : Int32) (Sz : TC) (h : fn_S_lowestAbsentObject S = some (z, Sz)) : Ct (wC g a) D (tyC g) l y_S_lowestAbsentObject b_S_lowestAbsentObject 2 (some .int) rm_S_lowestAbsentObject [.ref (a 0)] S (pI z Sz) := ct_of (by decide) (Nat.le_of_ble_eq_true rfl) rfl (wk_S_lowestAbsentObject S z Sz h)
theorem cs_S_32 {l : Launch} {D : va_G} {g : Nat → ClassId} {a : Nat → Nat} {rm : Room} {b : ByteArray} {nL : Nat} {ret : Option FieldType} {pc q : Nat} {Lc : List (Nat × Value)} {St : List Value} {S S2 : TC} {Post : Option Value → TC → Prop} {z : Int32} (hk : fn_S_lowestAbsentObject S = some (z, S2)) (hd : decode b pc = .ok (.invokevirtual 32, 3)) (hq : pc + 3 = q) (hrm : rm_S_lowestAbsentObject.frames + 1 ≤ rm.frames ∧ 8 + (2 + 11) + rm_S_lowestAbsentObject.locals ≤ rm.locals) (hroom : (St.map fun v => v.category).sum ≤ 8) (k : Ok (wC g a) D (tyC g) l rm R_S b nL ret S2 q Lc (.int z :: St) Post) : Ok (wC g a) D (tyC g) l rm R_S b nL ret S pc Lc (.ref (a 0) :: St) Post := by
  subst hq
  exact ok_cV (As := []) (n := 0) (C := R_S) (T := F_S) (N := 3) (ci := 0) (q0 := 0) (ct_S_lowestAbsentObject S z S2 hk) hd wm_209 ⟨wm_210, wm_211, wm_212, wm_204⟩ (by decide +kernel) ⟨⟨rfl, rfl⟩, hrm⟩ rfl rfl rfl rfl hroom ⟨Nat.zero_le _, Nat.zero_le _⟩ (fun v u h => by obtain ⟨rfl, rfl⟩ := h; exact k)
set_option maxRecDepth 20000 in
set_option maxHeartbeats 4000000 in
theorem wl_C_countFree_4 (n : Nat) : ∀ (p1 : Int32) (p2 : Int32) (S : TC) (z : Int32) (Sz : TC), lp_C_countFree_4 n S p1 p2 = some (z, Sz) → Ok (wC g a) D (tyC g) l rm_C_countFree R_C b_C_countFree 3 (some .int) S 4 [(0, .ref (a 1)), (1, .int p1), (2, .int p2)] [] (pI z Sz) := by
  induction n with
  | zero => intro p1 p2 S z Sz h; exact absurd h (fun h => by cases h)
  | succ n ih =>
    intro p1 p2 S z Sz h
    rw [le_C_countFree_4] at h
    refine ok_iload_n (q := 5) 2 d_C_countFree_4 rfl rfl rfl ?_
    refine ok_bipush (v := (6 : Int32)) (q := 7) d_C_countFree_5 (by decide) rfl ?_
    refine ok_icmp_ge (q := 10) (t := 37) d_C_countFree_7 (by decide) rfl (fun hc => ?_) (fun hc => ?_)
    · replace h := if_t hc h
      refine ok_iload_n (q := 38) 1 d_C_countFree_37 rfl rfl rfl ?_
      obtain ⟨rfl, rfl⟩ := so_e h
      exact ok_iret d_C_countFree_38 ⟨rfl, rfl⟩
    · replace h := if_f hc h
      refine ok_aload_n (q := 11) 0 d_C_countFree_10 rfl rfl rfl ?_
      refine gf_C_32 (q := 14) d_C_countFree_11 rfl ?_
      refine ok_iload_n (q := 15) 2 d_C_countFree_14 rfl rfl rfl ?_
      obtain ⟨hg, h⟩ := gd_e h
      obtain ⟨x1, e_x1, h⟩ := st_e h
      refine al_C_8 (q := 16) hg e_x1 d_C_countFree_15 rfl ?_
      refine ok_if_ne (q := 19) (t := 31) d_C_countFree_16 (by decide) rfl (fun hc => ?_) (fun hc => ?_)
      · replace h := if_f hc h
        obtain ⟨x2, e_x2, h⟩ := st_e h
        refine ok_iinc (d := (1 : Int32)) (q := 34) (lv := [(2, .int x2), (0, .ref (a 1)), (1, .int p1)]) 2 d_C_countFree_31 rfl (by decide) e_x2 (by decide) rfl rfl ?_
        refine ok_goto (q := 4) d_C_countFree_34 (by decide) ?_
        exact ok_sub [1, 2, 0] rfl (ih p1 x2 _ _ _ h)
      · replace h := if_t hc h
        refine ok_iload_n (q := 20) 1 d_C_countFree_19 rfl rfl rfl ?_
        refine ok_bipush (v := (8 : Int32)) (q := 22) d_C_countFree_20 (by decide) rfl ?_
        refine ok_aload_n (q := 23) 0 d_C_countFree_22 rfl rfl rfl ?_
        refine gf_C_22 (q := 26) d_C_countFree_23 rfl ?_
        refine ok_iload_n (q := 27) 2 d_C_countFree_26 rfl rfl rfl ?_
        obtain ⟨hg, h⟩ := gd_e h
        obtain ⟨x3, e_x3, h⟩ := st_e h
        refine al_C_5 (q := 28) hg e_x3 d_C_countFree_27 rfl ?_
        refine ok_isub (q := 29) d_C_countFree_28 rfl ?_
        refine ok_iadd (q := 30) d_C_countFree_29 rfl ?_
        obtain ⟨x4, e_x4, h⟩ := st_e h
        refine ok_topi e_x4 ?_
        refine ok_istore_n (q := 31) (lv := [(1, .int x4), (0, .ref (a 1)), (2, .int p2)]) d_C_countFree_30 rfl (by decide) rfl rfl ?_
        obtain ⟨x5, e_x5, h⟩ := st_e h
        refine ok_iinc (d := (1 : Int32)) (q := 34) (lv := [(2, .int x5), (1, .int x4), (0, .ref (a 1))]) 2 d_C_countFree_31 rfl (by decide) e_x5 (by decide) rfl rfl ?_
        refine ok_goto (q := 4) d_C_countFree_34 (by decide) ?_
        exact ok_sub [2, 1, 0] rfl (ih x4 x5 _ _ _ h)
set_option maxRecDepth 20000 in
set_option maxHeartbeats 4000000 in
theorem wk_C_countFree (S : TC) (z : Int32) (Sz : TC) (h : fn_C_countFree S = some (z, Sz)) : Ok (wC g a) D (tyC g) l rm_C_countFree R_C b_C_countFree 3 (some .int) S 0 [(0, .ref (a 1))] [] (pI z Sz) := by
  unfold fn_C_countFree at h
  refine ok_iconst (v := (0 : Int32)) (q := 1) d_C_countFree_0 (by decide) rfl ?_
  refine ok_istore_n (q := 2) (lv := [(1, .int (0 : Int32)), (0, .ref (a 1))]) d_C_countFree_1 rfl (by decide) rfl rfl ?_
  refine ok_iconst (v := (0 : Int32)) (q := 3) d_C_countFree_2 (by decide) rfl ?_
  refine ok_istore_n (q := 4) (lv := [(2, .int (0 : Int32)), (1, .int (0 : Int32)), (0, .ref (a 1))]) d_C_countFree_3 rfl (by decide) rfl rfl ?_
  exact ok_sub [2, 1, 0] rfl (wl_C_countFree_4 64 (0 : Int32) (0 : Int32) _ _ _ h)
set_option maxRecDepth 20000 in
set_option maxHeartbeats 4000000 in
theorem ct_C_countFree (S : TC) (z : Int32) (Sz : TC) (h : fn_C_countFree S = some (z, Sz)) : Ct (wC g a) D (tyC g) l y_C_countFree b_C_countFree 3 (some .int) rm_C_countFree [.ref (a 1)] S (pI z Sz) := ct_of (by decide) (Nat.le_of_ble_eq_true rfl) rfl (wk_C_countFree S z Sz h)
theorem cs_S_158 {l : Launch} {D : va_G} {g : Nat → ClassId} {a : Nat → Nat} {rm : Room} {b : ByteArray} {nL : Nat} {ret : Option FieldType} {pc q : Nat} {Lc : List (Nat × Value)} {St : List Value} {S S2 : TC} {Post : Option Value → TC → Prop} {z : Int32} (hk : fn_C_countFree S = some (z, S2)) (hd : decode b pc = .ok (.invokevirtual 158, 3)) (hq : pc + 3 = q) (hrm : rm_C_countFree.frames + 1 ≤ rm.frames ∧ 8 + (3 + 11) + rm_C_countFree.locals ≤ rm.locals) (hroom : (St.map fun v => v.category).sum ≤ 8) (k : Ok (wC g a) D (tyC g) l rm R_S b nL ret S2 q Lc (.int z :: St) Post) : Ok (wC g a) D (tyC g) l rm R_S b nL ret S pc Lc (.ref (a 1) :: St) Post := by
  subst hq
  exact ok_cV (As := []) (n := 0) (C := R_C) (T := F_C) (N := 11) (ci := 1) (q0 := 1) (ct_C_countFree S z S2 hk) hd wm_327 ⟨wm_328, wm_329, wm_330, wm_69⟩ (by decide +kernel) ⟨⟨rfl, rfl⟩, hrm⟩ rfl rfl rfl rfl hroom ⟨Nat.zero_le _, Nat.zero_le _⟩ (fun v u h => by obtain ⟨rfl, rfl⟩ := h; exact k)
set_option maxRecDepth 20000 in
set_option maxHeartbeats 4000000 in
theorem wl_C_countLiveIn_10 (n : Nat) : ∀ (p2 : Int32) (p3 : Int32) (p4 : Int32) (S : TC) (z : Int32) (Sz : TC), lp_C_countLiveIn_10 n S p2 p3 p4 = some (z, Sz) → Ok (wC g a) D (tyC g) l rm_C_countLiveIn R_C b_C_countLiveIn 5 (some .int) S 10 [(0, .ref (a 1)), (2, .int p2), (3, .int p3), (4, .int p4)] [] (pI z Sz) := by
  induction n with
  | zero => intro p2 p3 p4 S z Sz h; exact absurd h (fun h => by cases h)
  | succ n ih =>
    intro p2 p3 p4 S z Sz h
    rw [le_C_countLiveIn_10] at h
    refine ok_iload (q := 12) 3 d_C_countLiveIn_10 rfl rfl ?_
    refine ok_iload_n (q := 13) 2 d_C_countLiveIn_12 rfl rfl rfl ?_
    refine ok_bipush (v := (8 : Int32)) (q := 15) d_C_countLiveIn_13 (by decide) rfl ?_
    refine ok_iadd (q := 16) d_C_countLiveIn_15 rfl ?_
    refine ok_icmp_ge (q := 19) (t := 37) d_C_countLiveIn_16 (by decide) rfl (fun hc => ?_) (fun hc => ?_)
    · replace h := if_t hc h
      refine ok_iload_n (q := 38) 1 d_C_countLiveIn_37 rfl rfl rfl ?_
      obtain ⟨rfl, rfl⟩ := so_e h
      exact ok_iret d_C_countLiveIn_38 ⟨rfl, rfl⟩
    · replace h := if_f hc h
      refine ok_aload_n (q := 20) 0 d_C_countLiveIn_19 rfl rfl rfl ?_
      refine ok_iload (q := 22) 3 d_C_countLiveIn_20 rfl rfl ?_
      obtain ⟨x3, S1, hk, h⟩ := bd_e h
      refine cs_C_69 (q := 25) hk d_C_countLiveIn_22 rfl (by decide) (Nat.le_of_ble_eq_true rfl) ?_
      refine ok_if_eq (q := 28) (t := 31) d_C_countLiveIn_25 (by decide) rfl (fun hc => ?_) (fun hc => ?_)
      · replace h := if_t hc h
        obtain ⟨x4, e_x4, h⟩ := st_e h
        refine ok_iinc (d := (1 : Int32)) (q := 34) (lv := [(4, .int x4), (0, .ref (a 1)), (2, .int p2), (3, .int p3)]) 3 d_C_countLiveIn_31 rfl (by decide) e_x4 (by decide) rfl rfl ?_
        refine ok_goto (q := 10) d_C_countLiveIn_34 (by decide) ?_
        exact ok_sub [1, 2, 3, 0] rfl (ih p2 p3 x4 _ _ _ h)
      · replace h := if_f hc h
        obtain ⟨x5, e_x5, h⟩ := st_e h
        refine ok_iinc (d := (1 : Int32)) (q := 31) (lv := [(2, .int x5), (0, .ref (a 1)), (3, .int p3), (4, .int p4)]) 1 d_C_countLiveIn_28 rfl (by decide) e_x5 (by decide) rfl rfl ?_
        obtain ⟨x6, e_x6, h⟩ := st_e h
        refine ok_iinc (d := (1 : Int32)) (q := 34) (lv := [(4, .int x6), (2, .int x5), (0, .ref (a 1)), (3, .int p3)]) 3 d_C_countLiveIn_31 rfl (by decide) e_x6 (by decide) rfl rfl ?_
        refine ok_goto (q := 10) d_C_countLiveIn_34 (by decide) ?_
        exact ok_sub [2, 1, 3, 0] rfl (ih x5 p3 x6 _ _ _ h)
set_option maxRecDepth 20000 in
set_option maxHeartbeats 4000000 in
theorem wk_C_countLiveIn (p1 : Int32) (S : TC) (z : Int32) (Sz : TC) (h : fn_C_countLiveIn S p1 = some (z, Sz)) : Ok (wC g a) D (tyC g) l rm_C_countLiveIn R_C b_C_countLiveIn 5 (some .int) S 0 [(0, .ref (a 1)), (1, .int p1)] [] (pI z Sz) := by
  unfold fn_C_countLiveIn at h
  refine ok_iconst (v := (0 : Int32)) (q := 1) d_C_countLiveIn_0 (by decide) rfl ?_
  refine ok_istore_n (q := 2) (lv := [(2, .int (0 : Int32)), (0, .ref (a 1)), (1, .int p1)]) d_C_countLiveIn_1 rfl (by decide) rfl rfl ?_
  refine ok_iload_n (q := 3) 2 d_C_countLiveIn_2 rfl rfl rfl ?_
  refine ok_bipush (v := (8 : Int32)) (q := 5) d_C_countLiveIn_3 (by decide) rfl ?_
  refine ok_imul (q := 6) d_C_countLiveIn_5 rfl ?_
  obtain ⟨x1, e_x1, h⟩ := st_e h
  refine ok_topi e_x1 ?_
  refine ok_istore_n (q := 7) (lv := [(3, .int x1), (2, .int (0 : Int32)), (0, .ref (a 1)), (1, .int p1)]) d_C_countLiveIn_6 rfl (by decide) rfl rfl ?_
  refine ok_iload_n (q := 8) 0 d_C_countLiveIn_7 rfl rfl rfl ?_
  refine ok_istore (q := 10) (lv := [(4, .int x1), (3, .int x1), (2, .int (0 : Int32)), (0, .ref (a 1)), (1, .int p1)]) d_C_countLiveIn_8 (by decide) rfl rfl ?_
  exact ok_sub [3, 2, 1, 0] rfl (wl_C_countLiveIn_10 64 (0 : Int32) x1 x1 _ _ _ h)
set_option maxRecDepth 20000 in
set_option maxHeartbeats 4000000 in
theorem ct_C_countLiveIn (p1 : Int32) (S : TC) (z : Int32) (Sz : TC) (h : fn_C_countLiveIn S p1 = some (z, Sz)) : Ct (wC g a) D (tyC g) l y_C_countLiveIn b_C_countLiveIn 5 (some .int) rm_C_countLiveIn [.ref (a 1), .int p1] S (pI z Sz) := ct_of (by decide) (Nat.le_of_ble_eq_true rfl) rfl (wk_C_countLiveIn p1 S z Sz h)
theorem cs_C_83 {l : Launch} {D : va_G} {g : Nat → ClassId} {a : Nat → Nat} {rm : Room} {b : ByteArray} {nL : Nat} {ret : Option FieldType} {pc q : Nat} {Lc : List (Nat × Value)} {St : List Value} {S S2 : TC} {Post : Option Value → TC → Prop} {p1 : Int32} {z : Int32} (hk : fn_C_countLiveIn S p1 = some (z, S2)) (hd : decode b pc = .ok (.invokevirtual 83, 3)) (hq : pc + 3 = q) (hrm : rm_C_countLiveIn.frames + 1 ≤ rm.frames ∧ 8 + (5 + 11) + rm_C_countLiveIn.locals ≤ rm.locals) (hroom : (St.map fun v => v.category).sum ≤ 8) (k : Ok (wC g a) D (tyC g) l rm R_C b nL ret S2 q Lc (.int z :: St) Post) : Ok (wC g a) D (tyC g) l rm R_C b nL ret S pc Lc (.int p1 :: .ref (a 1) :: St) Post := by
  subst hq
  exact ok_cV (As := [.int p1]) (n := 1) (C := R_C) (T := F_C) (N := 11) (ci := 1) (q0 := 1) (ct_C_countLiveIn p1 S z S2 hk) hd wm_96 ⟨wm_97, wm_98, wm_99, wm_69⟩ (by decide +kernel) ⟨⟨rfl, rfl⟩, hrm⟩ rfl rfl rfl rfl hroom ⟨Nat.zero_le _, Nat.zero_le _⟩ (fun v u h => by obtain ⟨rfl, rfl⟩ := h; exact k)
theorem cs_S_213 {l : Launch} {D : va_G} {g : Nat → ClassId} {a : Nat → Nat} {rm : Room} {b : ByteArray} {nL : Nat} {ret : Option FieldType} {pc q : Nat} {Lc : List (Nat × Value)} {St : List Value} {S S2 : TC} {Post : Option Value → TC → Prop} {p1 : Int32} {z : Int32} (hk : fn_C_countLiveIn S p1 = some (z, S2)) (hd : decode b pc = .ok (.invokevirtual 213, 3)) (hq : pc + 3 = q) (hrm : rm_C_countLiveIn.frames + 1 ≤ rm.frames ∧ 8 + (5 + 11) + rm_C_countLiveIn.locals ≤ rm.locals) (hroom : (St.map fun v => v.category).sum ≤ 8) (k : Ok (wC g a) D (tyC g) l rm R_S b nL ret S2 q Lc (.int z :: St) Post) : Ok (wC g a) D (tyC g) l rm R_S b nL ret S pc Lc (.int p1 :: .ref (a 1) :: St) Post := by
  subst hq
  exact ok_cV (As := [.int p1]) (n := 1) (C := R_C) (T := F_C) (N := 11) (ci := 1) (q0 := 1) (ct_C_countLiveIn p1 S z S2 hk) hd wm_96 ⟨wm_368, wm_98, wm_99, wm_69⟩ (by decide +kernel) ⟨⟨rfl, rfl⟩, hrm⟩ rfl rfl rfl rfl hroom ⟨Nat.zero_le _, Nat.zero_le _⟩ (fun v u h => by obtain ⟨rfl, rfl⟩ := h; exact k)
set_option maxRecDepth 20000 in
set_option maxHeartbeats 4000000 in
theorem wl_S_blockToCollect_16 (n : Nat) : ∀ (p1 : Int32) (p2 : Int32) (p3 : Int32) (p4 : Int32) (S : TC) (z : Int32) (Sz : TC), lp_S_blockToCollect_16 n S p1 p2 p3 p4 = some (z, Sz) → Ok (wC g a) D (tyC g) l rm_S_blockToCollect R_S b_S_blockToCollect 6 (some .int) S 16 [(0, .ref (a 0)), (1, .int p1), (2, .int p2), (3, .int p3), (4, .int p4)] [] (pI z Sz) := by
  induction n with
  | zero => intro p1 p2 p3 p4 S z Sz h; exact absurd h (fun h => by cases h)
  | succ n ih =>
    intro p1 p2 p3 p4 S z Sz h
    rw [le_S_blockToCollect_16] at h
    refine ok_iload (q := 18) 4 d_S_blockToCollect_16 rfl rfl ?_
    refine ok_bipush (v := (6 : Int32)) (q := 20) d_S_blockToCollect_18 (by decide) rfl ?_
    refine ok_icmp_ge (q := 23) (t := 89) d_S_blockToCollect_20 (by decide) rfl (fun hc => ?_) (fun hc => ?_)
    · replace h := if_t hc h
      refine ok_iload_n (q := 90) 1 d_S_blockToCollect_89 rfl rfl rfl ?_
      obtain ⟨rfl, rfl⟩ := so_e h
      exact ok_iret d_S_blockToCollect_90 ⟨rfl, rfl⟩
    · replace h := if_f hc h
      refine ok_aload_n (q := 24) 0 d_S_blockToCollect_23 rfl rfl rfl ?_
      refine gf_S_12 (q := 27) d_S_blockToCollect_24 rfl ?_
      refine gf_S_145 (q := 30) d_S_blockToCollect_27 rfl ?_
      refine ok_iload (q := 32) 4 d_S_blockToCollect_30 rfl rfl ?_
      obtain ⟨hg, h⟩ := gd_e h
      obtain ⟨x1, e_x1, h⟩ := st_e h
      refine al_C_8 (q := 33) hg e_x1 d_S_blockToCollect_32 rfl ?_
      refine ok_if_ne (q := 36) (t := 83) d_S_blockToCollect_33 (by decide) rfl (fun hc => ?_) (fun hc => ?_)
      · replace h := if_f hc h
        obtain ⟨x2, e_x2, h⟩ := st_e h
        refine ok_iinc (d := (1 : Int32)) (q := 86) (lv := [(4, .int x2), (0, .ref (a 0)), (1, .int p1), (2, .int p2), (3, .int p3)]) 4 d_S_blockToCollect_83 rfl (by decide) e_x2 (by decide) rfl rfl ?_
        refine ok_goto (q := 16) d_S_blockToCollect_86 (by decide) ?_
        exact ok_sub [1, 2, 3, 4, 0] rfl (ih p1 p2 p3 x2 _ _ _ h)
      · replace h := if_t hc h
        refine ok_aload_n (q := 37) 0 d_S_blockToCollect_36 rfl rfl rfl ?_
        refine gf_S_12 (q := 40) d_S_blockToCollect_37 rfl ?_
        refine gf_S_210 (q := 43) d_S_blockToCollect_40 rfl ?_
        refine ok_iload (q := 45) 4 d_S_blockToCollect_43 rfl rfl ?_
        obtain ⟨hg, h⟩ := gd_e h
        obtain ⟨x3, e_x3, h⟩ := st_e h
        refine al_C_5 (q := 46) hg e_x3 d_S_blockToCollect_45 rfl ?_
        refine ok_bipush (v := (8 : Int32)) (q := 48) d_S_blockToCollect_46 (by decide) rfl ?_
        refine ok_icmp_ge (q := 51) (t := 54) d_S_blockToCollect_48 (by decide) rfl (fun hc => ?_) (fun hc => ?_)
        · replace h := if_t hc h
          refine ok_aload_n (q := 55) 0 d_S_blockToCollect_54 rfl rfl rfl ?_
          refine gf_S_12 (q := 58) d_S_blockToCollect_55 rfl ?_
          refine ok_iload (q := 60) 4 d_S_blockToCollect_58 rfl rfl ?_
          obtain ⟨x6, S4, hk, h⟩ := bd_e h
          refine cs_S_213 (q := 63) hk d_S_blockToCollect_60 rfl (by decide) (Nat.le_of_ble_eq_true rfl) ?_
          refine ok_istore (q := 65) (lv := [(5, .int x6), (0, .ref (a 0)), (1, .int p1), (2, .int p2), (3, .int p3), (4, .int p4)]) d_S_blockToCollect_63 (by decide) rfl rfl ?_
          refine ok_iload (q := 67) 0 d_S_blockToCollect_65 rfl rfl ?_
          refine ok_iload_n (q := 68) 3 d_S_blockToCollect_67 rfl rfl rfl ?_
          refine ok_icmp_ge (q := 71) (t := 83) d_S_blockToCollect_68 (by decide) rfl (fun hc => ?_) (fun hc => ?_)
          · replace h := if_t hc h
            obtain ⟨x7, e_x7, h⟩ := st_e h
            refine ok_iinc (d := (1 : Int32)) (q := 86) (lv := [(4, .int x7), (5, .int x6), (0, .ref (a 0)), (1, .int p1), (2, .int p2), (3, .int p3)]) 5 d_S_blockToCollect_83 rfl (by decide) e_x7 (by decide) rfl rfl ?_
            refine ok_goto (q := 16) d_S_blockToCollect_86 (by decide) ?_
            exact ok_sub [2, 3, 4, 5, 0] rfl (ih p1 p2 p3 x7 _ _ _ h)
          · replace h := if_f hc h
            refine ok_iload (q := 73) 0 d_S_blockToCollect_71 rfl rfl ?_
            refine ok_iload_n (q := 74) 4 d_S_blockToCollect_73 rfl rfl rfl ?_
            refine ok_icmp_gt (q := 77) (t := 83) d_S_blockToCollect_74 (by decide) rfl (fun hc => ?_) (fun hc => ?_)
            · replace h := if_t hc h
              obtain ⟨x8, e_x8, h⟩ := st_e h
              refine ok_iinc (d := (1 : Int32)) (q := 86) (lv := [(4, .int x8), (5, .int x6), (0, .ref (a 0)), (1, .int p1), (2, .int p2), (3, .int p3)]) 5 d_S_blockToCollect_83 rfl (by decide) e_x8 (by decide) rfl rfl ?_
              refine ok_goto (q := 16) d_S_blockToCollect_86 (by decide) ?_
              exact ok_sub [2, 3, 4, 5, 0] rfl (ih p1 p2 p3 x8 _ _ _ h)
            · replace h := if_f hc h
              refine ok_iload (q := 79) 5 d_S_blockToCollect_77 rfl rfl ?_
              refine ok_istore_n (q := 80) (lv := [(1, .int p4), (5, .int x6), (0, .ref (a 0)), (2, .int p2), (3, .int p3), (4, .int p4)]) d_S_blockToCollect_79 rfl (by decide) rfl rfl ?_
              refine ok_iload (q := 82) 1 d_S_blockToCollect_80 rfl rfl ?_
              refine ok_istore_n (q := 83) (lv := [(2, .int x6), (1, .int p4), (5, .int x6), (0, .ref (a 0)), (3, .int p3), (4, .int p4)]) d_S_blockToCollect_82 rfl (by decide) rfl rfl ?_
              obtain ⟨x9, e_x9, h⟩ := st_e h
              refine ok_iinc (d := (1 : Int32)) (q := 86) (lv := [(4, .int x9), (2, .int x6), (1, .int p4), (5, .int x6), (0, .ref (a 0)), (3, .int p3)]) 5 d_S_blockToCollect_83 rfl (by decide) e_x9 (by decide) rfl rfl ?_
              refine ok_goto (q := 16) d_S_blockToCollect_86 (by decide) ?_
              exact ok_sub [4, 2, 1, 5, 0] rfl (ih p4 x6 p3 x9 _ _ _ h)
        · replace h := if_f hc h
          refine ok_goto (q := 83) d_S_blockToCollect_51 (by decide) ?_
          obtain ⟨x10, e_x10, h⟩ := st_e h
          refine ok_iinc (d := (1 : Int32)) (q := 86) (lv := [(4, .int x10), (0, .ref (a 0)), (1, .int p1), (2, .int p2), (3, .int p3)]) 4 d_S_blockToCollect_83 rfl (by decide) e_x10 (by decide) rfl rfl ?_
          refine ok_goto (q := 16) d_S_blockToCollect_86 (by decide) ?_
          exact ok_sub [1, 2, 3, 4, 0] rfl (ih p1 p2 p3 x10 _ _ _ h)
set_option maxRecDepth 20000 in
set_option maxHeartbeats 4000000 in
theorem wk_S_blockToCollect (S : TC) (z : Int32) (Sz : TC) (h : fn_S_blockToCollect S = some (z, Sz)) : Ok (wC g a) D (tyC g) l rm_S_blockToCollect R_S b_S_blockToCollect 6 (some .int) S 0 [(0, .ref (a 0))] [] (pI z Sz) := by
  unfold fn_S_blockToCollect at h
  refine ok_iconst (v := (-1 : Int32)) (q := 1) d_S_blockToCollect_0 (by decide) rfl ?_
  refine ok_istore_n (q := 2) (lv := [(1, .int (-1 : Int32)), (0, .ref (a 0))]) d_S_blockToCollect_1 rfl (by decide) rfl rfl ?_
  refine ok_bipush (v := (8 : Int32)) (q := 4) d_S_blockToCollect_2 (by decide) rfl ?_
  refine ok_istore_n (q := 5) (lv := [(2, .int (8 : Int32)), (1, .int (-1 : Int32)), (0, .ref (a 0))]) d_S_blockToCollect_4 rfl (by decide) rfl rfl ?_
  refine ok_aload_n (q := 6) 2 d_S_blockToCollect_5 rfl rfl rfl ?_
  refine gf_S_12 (q := 9) d_S_blockToCollect_6 rfl ?_
  obtain ⟨x3, S1, hk, h⟩ := bd_e h
  refine cs_S_158 (q := 12) hk d_S_blockToCollect_9 rfl (by decide) (Nat.le_of_ble_eq_true rfl) ?_
  refine ok_istore_n (q := 13) (lv := [(3, .int x3), (2, .int (8 : Int32)), (1, .int (-1 : Int32)), (0, .ref (a 0))]) d_S_blockToCollect_12 rfl (by decide) rfl rfl ?_
  refine ok_iconst (v := (0 : Int32)) (q := 14) d_S_blockToCollect_13 (by decide) rfl ?_
  refine ok_istore (q := 16) (lv := [(4, .int (0 : Int32)), (3, .int x3), (2, .int (8 : Int32)), (1, .int (-1 : Int32)), (0, .ref (a 0))]) d_S_blockToCollect_14 (by decide) rfl rfl ?_
  exact ok_sub [4, 3, 2, 1, 0] rfl (wl_S_blockToCollect_16 64 (-1 : Int32) (8 : Int32) x3 (0 : Int32) _ _ _ h)
set_option maxRecDepth 20000 in
set_option maxHeartbeats 4000000 in
theorem ct_S_blockToCollect (S : TC) (z : Int32) (Sz : TC) (h : fn_S_blockToCollect S = some (z, Sz)) : Ct (wC g a) D (tyC g) l y_S_blockToCollect b_S_blockToCollect 6 (some .int) rm_S_blockToCollect [.ref (a 0)] S (pI z Sz) := ct_of (by decide) (Nat.le_of_ble_eq_true rfl) rfl (wk_S_blockToCollect S z Sz h)
theorem cs_S_204 {l : Launch} {D : va_G} {g : Nat → ClassId} {a : Nat → Nat} {rm : Room} {b : ByteArray} {nL : Nat} {ret : Option FieldType} {pc q : Nat} {Lc : List (Nat × Value)} {St : List Value} {S S2 : TC} {Post : Option Value → TC → Prop} {z : Int32} (hk : fn_S_blockToCollect S = some (z, S2)) (hd : decode b pc = .ok (.invokevirtual 204, 3)) (hq : pc + 3 = q) (hrm : rm_S_blockToCollect.frames + 1 ≤ rm.frames ∧ 8 + (6 + 11) + rm_S_blockToCollect.locals ≤ rm.locals) (hroom : (St.map fun v => v.category).sum ≤ 8) (k : Ok (wC g a) D (tyC g) l rm R_S b nL ret S2 q Lc (.int z :: St) Post) : Ok (wC g a) D (tyC g) l rm R_S b nL ret S pc Lc (.ref (a 0) :: St) Post := by
  subst hq
  exact ok_cV (As := []) (n := 0) (C := R_S) (T := F_S) (N := 3) (ci := 0) (q0 := 0) (ct_S_blockToCollect S z S2 hk) hd wm_360 ⟨wm_361, wm_362, wm_363, wm_204⟩ (by decide +kernel) ⟨⟨rfl, rfl⟩, hrm⟩ rfl rfl rfl rfl hroom ⟨Nat.zero_le _, Nat.zero_le _⟩ (fun v u h => by obtain ⟨rfl, rfl⟩ := h; exact k)
set_option maxRecDepth 20000 in
set_option maxHeartbeats 4000000 in
theorem wk_C_takeStep (S : TC) (z : Int32) (Sz : TC) (h : fn_C_takeStep S = some (z, Sz)) : Ok (wC g a) D (tyC g) l rm_C_takeStep R_C b_C_takeStep 1 (some .boolean) S 0 [(0, .ref (a 1))] [] (pI z Sz) := by
  unfold fn_C_takeStep at h
  refine ok_aload_n (q := 1) 0 d_C_takeStep_0 rfl rfl rfl ?_
  obtain ⟨x1, e_x1, h⟩ := st_e h
  refine gf_C_46 (q := 4) e_x1 d_C_takeStep_1 rfl ?_
  refine ok_if_ne (q := 7) (t := 14) d_C_takeStep_4 (by decide) rfl (fun hc => ?_) (fun hc => ?_)
  · replace h := if_f hc h
    refine ok_aload_n (q := 15) 0 d_C_takeStep_14 rfl rfl rfl ?_
    obtain ⟨x2, e_x2, h⟩ := st_e h
    refine gf_C_46 (q := 18) e_x2 d_C_takeStep_15 rfl ?_
    refine ok_if_le (q := 21) (t := 31) d_C_takeStep_18 (by decide) rfl (fun hc => ?_) (fun hc => ?_)
    · replace h := if_t hc h
      refine ok_aload_n (q := 32) 0 d_C_takeStep_31 rfl rfl rfl ?_
      refine ok_dup (q := 33) d_C_takeStep_32 rfl rfl ?_
      obtain ⟨x3, e_x3, h⟩ := st_e h
      refine gf_C_42 (q := 36) e_x3 d_C_takeStep_33 rfl ?_
      refine ok_iconst (v := (1 : Int32)) (q := 37) d_C_takeStep_36 (by decide) rfl ?_
      refine ok_iadd (q := 38) d_C_takeStep_37 rfl ?_
      obtain ⟨S4, e_S4, h⟩ := st_e h
      refine pf_C_42 (q := 41) e_S4 d_C_takeStep_38 rfl ?_
      refine ok_iconst (v := (1 : Int32)) (q := 42) d_C_takeStep_41 (by decide) rfl ?_
      obtain ⟨rfl, rfl⟩ := so_e h
      exact ok_zret d_C_takeStep_42 (by decide) ⟨rfl, rfl⟩
    · replace h := if_f hc h
      refine ok_aload_n (q := 22) 0 d_C_takeStep_21 rfl rfl rfl ?_
      refine ok_dup (q := 23) d_C_takeStep_22 rfl rfl ?_
      obtain ⟨x5, e_x5, h⟩ := st_e h
      refine gf_C_46 (q := 26) e_x5 d_C_takeStep_23 rfl ?_
      refine ok_iconst (v := (1 : Int32)) (q := 27) d_C_takeStep_26 (by decide) rfl ?_
      refine ok_isub (q := 28) d_C_takeStep_27 rfl ?_
      obtain ⟨S6, e_S6, h⟩ := st_e h
      refine pf_C_46 (q := 31) e_S6 d_C_takeStep_28 rfl ?_
      refine ok_aload_n (q := 32) 0 d_C_takeStep_31 rfl rfl rfl ?_
      refine ok_dup (q := 33) d_C_takeStep_32 rfl rfl ?_
      obtain ⟨x7, e_x7, h⟩ := st_e h
      refine gf_C_42 (q := 36) e_x7 d_C_takeStep_33 rfl ?_
      refine ok_iconst (v := (1 : Int32)) (q := 37) d_C_takeStep_36 (by decide) rfl ?_
      refine ok_iadd (q := 38) d_C_takeStep_37 rfl ?_
      obtain ⟨S8, e_S8, h⟩ := st_e h
      refine pf_C_42 (q := 41) e_S8 d_C_takeStep_38 rfl ?_
      refine ok_iconst (v := (1 : Int32)) (q := 42) d_C_takeStep_41 (by decide) rfl ?_
      obtain ⟨rfl, rfl⟩ := so_e h
      exact ok_zret d_C_takeStep_42 (by decide) ⟨rfl, rfl⟩
  · replace h := if_t hc h
    refine ok_aload_n (q := 8) 0 d_C_takeStep_7 rfl rfl rfl ?_
    refine ok_iconst (v := (-1 : Int32)) (q := 9) d_C_takeStep_8 (by decide) rfl ?_
    obtain ⟨S9, e_S9, h⟩ := st_e h
    refine pf_C_46 (q := 12) e_S9 d_C_takeStep_9 rfl ?_
    refine ok_iconst (v := (0 : Int32)) (q := 13) d_C_takeStep_12 (by decide) rfl ?_
    obtain ⟨rfl, rfl⟩ := so_e h
    exact ok_zret d_C_takeStep_13 (by decide) ⟨rfl, rfl⟩
set_option maxRecDepth 20000 in
set_option maxHeartbeats 4000000 in
theorem ct_C_takeStep (S : TC) (z : Int32) (Sz : TC) (h : fn_C_takeStep S = some (z, Sz)) : Ct (wC g a) D (tyC g) l y_C_takeStep b_C_takeStep 1 (some .boolean) rm_C_takeStep [.ref (a 1)] S (pI z Sz) := ct_of (by decide) (Nat.le_of_ble_eq_true rfl) rfl (wk_C_takeStep S z Sz h)
theorem cs_C_91 {l : Launch} {D : va_G} {g : Nat → ClassId} {a : Nat → Nat} {rm : Room} {b : ByteArray} {nL : Nat} {ret : Option FieldType} {pc q : Nat} {Lc : List (Nat × Value)} {St : List Value} {S S2 : TC} {Post : Option Value → TC → Prop} {z : Int32} (hk : fn_C_takeStep S = some (z, S2)) (hd : decode b pc = .ok (.invokevirtual 91, 3)) (hq : pc + 3 = q) (hrm : rm_C_takeStep.frames + 1 ≤ rm.frames ∧ 8 + (1 + 11) + rm_C_takeStep.locals ≤ rm.locals) (hroom : (St.map fun v => v.category).sum ≤ 8) (k : Ok (wC g a) D (tyC g) l rm R_C b nL ret S2 q Lc (.int z :: St) Post) : Ok (wC g a) D (tyC g) l rm R_C b nL ret S pc Lc (.ref (a 1) :: St) Post := by
  subst hq
  exact ok_cV (As := []) (n := 0) (C := R_C) (T := F_C) (N := 11) (ci := 1) (q0 := 1) (ct_C_takeStep S z S2 hk) hd wm_104 ⟨wm_105, wm_106, wm_107, wm_69⟩ (by decide +kernel) ⟨⟨rfl, rfl⟩, hrm⟩ rfl rfl rfl rfl hroom ⟨Nat.zero_le _, Nat.zero_le _⟩ (fun v u h => by obtain ⟨rfl, rfl⟩ := h; exact k)
set_option maxRecDepth 20000 in
set_option maxHeartbeats 4000000 in
theorem wk_C_erase (p1 : Int32) (S : TC) (z : Int32) (Sz : TC) (h : fn_C_erase S p1 = some (z, Sz)) : Ok (wC g a) D (tyC g) l rm_C_erase R_C b_C_erase 2 (some .boolean) S 0 [(0, .ref (a 1)), (1, .int p1)] [] (pI z Sz) := by
  unfold fn_C_erase at h
  refine ok_aload_n (q := 1) 0 d_C_erase_0 rfl rfl rfl ?_
  obtain ⟨x3, S1, hk, h⟩ := bd_e h
  refine cs_C_91 (q := 4) hk d_C_erase_1 rfl (by decide) (Nat.le_of_ble_eq_true rfl) ?_
  refine ok_if_ne (q := 7) (t := 9) d_C_erase_4 (by decide) rfl (fun hc => ?_) (fun hc => ?_)
  · replace h := if_f hc h
    refine ok_aload_n (q := 10) 0 d_C_erase_9 rfl rfl rfl ?_
    refine gf_C_28 (q := 13) d_C_erase_10 rfl ?_
    refine ok_iload_n (q := 14) 1 d_C_erase_13 rfl rfl rfl ?_
    obtain ⟨hg, h⟩ := gd_e h
    obtain ⟨x4, e_x4, h⟩ := st_e h
    refine al_C_7 (q := 15) hg e_x4 d_C_erase_14 rfl ?_
    refine ok_if_eq (q := 18) (t := 28) d_C_erase_15 (by decide) rfl (fun hc => ?_) (fun hc => ?_)
    · replace h := if_t hc h
      refine ok_aload_n (q := 29) 0 d_C_erase_28 rfl rfl rfl ?_
      refine gf_C_22 (q := 32) d_C_erase_29 rfl ?_
      refine ok_iload_n (q := 33) 1 d_C_erase_32 rfl rfl rfl ?_
      refine ok_iconst (v := (0 : Int32)) (q := 34) d_C_erase_33 (by decide) rfl ?_
      obtain ⟨hi, h⟩ := gd_e h
      obtain ⟨S5, e_S5, h⟩ := st_e h
      refine as_C_5 (q := 35) hi e_S5 d_C_erase_34 rfl ?_
      refine ok_aload_n (q := 36) 0 d_C_erase_35 rfl rfl rfl ?_
      refine gf_C_25 (q := 39) d_C_erase_36 rfl ?_
      refine ok_iload_n (q := 40) 1 d_C_erase_39 rfl rfl rfl ?_
      refine ok_dup2 (q := 41) d_C_erase_40 rfl rfl rfl ?_
      obtain ⟨hg, h⟩ := gd_e h
      obtain ⟨x6, e_x6, h⟩ := st_e h
      refine al_C_6 (q := 42) hg e_x6 d_C_erase_41 rfl ?_
      refine ok_iconst (v := (1 : Int32)) (q := 43) d_C_erase_42 (by decide) rfl ?_
      refine ok_iadd (q := 44) d_C_erase_43 rfl ?_
      obtain ⟨hi, h⟩ := gd_e h
      obtain ⟨S7, e_S7, h⟩ := st_e h
      refine as_C_6 (q := 45) hi e_S7 d_C_erase_44 rfl ?_
      refine ok_aload_n (q := 46) 0 d_C_erase_45 rfl rfl rfl ?_
      refine gf_C_35 (q := 49) d_C_erase_46 rfl ?_
      refine ok_iload_n (q := 50) 1 d_C_erase_49 rfl rfl rfl ?_
      refine ok_iconst (v := (1 : Int32)) (q := 51) d_C_erase_50 (by decide) rfl ?_
      obtain ⟨hi, h⟩ := gd_e h
      obtain ⟨S8, e_S8, h⟩ := st_e h
      refine as_C_9 (q := 52) hi e_S8 (by decide) d_C_erase_51 rfl ?_
      refine ok_iconst (v := (1 : Int32)) (q := 53) d_C_erase_52 (by decide) rfl ?_
      obtain ⟨rfl, rfl⟩ := so_e h
      exact ok_zret d_C_erase_53 (by decide) ⟨rfl, rfl⟩
    · replace h := if_f hc h
      refine ok_aload_n (q := 19) 0 d_C_erase_18 rfl rfl rfl ?_
      refine gf_C_32 (q := 22) d_C_erase_19 rfl ?_
      refine ok_iload_n (q := 23) 1 d_C_erase_22 rfl rfl rfl ?_
      refine ok_iconst (v := (1 : Int32)) (q := 24) d_C_erase_23 (by decide) rfl ?_
      obtain ⟨hi, h⟩ := gd_e h
      obtain ⟨S9, e_S9, h⟩ := st_e h
      refine as_C_8 (q := 25) hi e_S9 (by decide) d_C_erase_24 rfl ?_
      refine ok_goto (q := 45) d_C_erase_25 (by decide) ?_
      refine ok_aload_n (q := 46) 0 d_C_erase_45 rfl rfl rfl ?_
      refine gf_C_35 (q := 49) d_C_erase_46 rfl ?_
      refine ok_iload_n (q := 50) 1 d_C_erase_49 rfl rfl rfl ?_
      refine ok_iconst (v := (1 : Int32)) (q := 51) d_C_erase_50 (by decide) rfl ?_
      obtain ⟨hi, h⟩ := gd_e h
      obtain ⟨S10, e_S10, h⟩ := st_e h
      refine as_C_9 (q := 52) hi e_S10 (by decide) d_C_erase_51 rfl ?_
      refine ok_iconst (v := (1 : Int32)) (q := 53) d_C_erase_52 (by decide) rfl ?_
      obtain ⟨rfl, rfl⟩ := so_e h
      exact ok_zret d_C_erase_53 (by decide) ⟨rfl, rfl⟩
  · replace h := if_t hc h
    refine ok_iconst (v := (0 : Int32)) (q := 8) d_C_erase_7 (by decide) rfl ?_
    obtain ⟨rfl, rfl⟩ := so_e h
    exact ok_zret d_C_erase_8 (by decide) ⟨rfl, rfl⟩
set_option maxRecDepth 20000 in
set_option maxHeartbeats 4000000 in
theorem ct_C_erase (p1 : Int32) (S : TC) (z : Int32) (Sz : TC) (h : fn_C_erase S p1 = some (z, Sz)) : Ct (wC g a) D (tyC g) l y_C_erase b_C_erase 2 (some .boolean) rm_C_erase [.ref (a 1), .int p1] S (pI z Sz) := ct_of (by decide) (Nat.le_of_ble_eq_true rfl) rfl (wk_C_erase p1 S z Sz h)
theorem cs_S_219 {l : Launch} {D : va_G} {g : Nat → ClassId} {a : Nat → Nat} {rm : Room} {b : ByteArray} {nL : Nat} {ret : Option FieldType} {pc q : Nat} {Lc : List (Nat × Value)} {St : List Value} {S S2 : TC} {Post : Option Value → TC → Prop} {p1 : Int32} {z : Int32} (hk : fn_C_erase S p1 = some (z, S2)) (hd : decode b pc = .ok (.invokevirtual 219, 3)) (hq : pc + 3 = q) (hrm : rm_C_erase.frames + 1 ≤ rm.frames ∧ 8 + (2 + 11) + rm_C_erase.locals ≤ rm.locals) (hroom : (St.map fun v => v.category).sum ≤ 8) (k : Ok (wC g a) D (tyC g) l rm R_S b nL ret S2 q Lc (.int z :: St) Post) : Ok (wC g a) D (tyC g) l rm R_S b nL ret S pc Lc (.int p1 :: .ref (a 1) :: St) Post := by
  subst hq
  exact ok_cV (As := [.int p1]) (n := 1) (C := R_C) (T := F_C) (N := 11) (ci := 1) (q0 := 1) (ct_C_erase p1 S z S2 hk) hd wm_370 ⟨wm_371, wm_372, wm_373, wm_69⟩ (by decide +kernel) ⟨⟨rfl, rfl⟩, hrm⟩ rfl rfl rfl rfl hroom ⟨Nat.zero_le _, Nat.zero_le _⟩ (fun v u h => by obtain ⟨rfl, rfl⟩ := h; exact k)
set_option maxRecDepth 20000 in
set_option maxHeartbeats 4000000 in
theorem wk_J_bitCount (p0 : Int64) (S : TC) (z : Int32) (Sz : TC) (h : fn_J_bitCount S p0 = some (z, Sz)) : Ok (wC g a) D (tyC g) l rm_J_bitCount R_J b_J_bitCount 2 (some .int) S 0 [(0, .long p0)] [] (pI z Sz) := by
  unfold fn_J_bitCount at h
  refine ok_lload_n (q := 1) 0 d_J_bitCount_0 rfl rfl rfl ?_
  refine ok_lload_n (q := 2) 0 d_J_bitCount_1 rfl rfl rfl ?_
  refine ok_iconst (v := (1 : Int32)) (q := 3) d_J_bitCount_2 (by decide) rfl ?_
  refine ok_lushr (q := 4) d_J_bitCount_3 rfl ?_
  refine ok_ldc2 (q := 7) wm_0 d_J_bitCount_4 rfl ?_
  refine ok_land (q := 8) d_J_bitCount_7 rfl ?_
  refine ok_lsub (q := 9) d_J_bitCount_8 rfl ?_
  obtain ⟨y1, e_y1, h⟩ := st_e h
  refine ok_topl e_y1 ?_
  refine ok_lstore_n (q := 10) (lv := [(0, .long y1)]) d_J_bitCount_9 rfl (by decide) rfl rfl ?_
  refine ok_lload_n (q := 11) 0 d_J_bitCount_10 rfl rfl rfl ?_
  refine ok_ldc2 (q := 14) wm_1 d_J_bitCount_11 rfl ?_
  refine ok_land (q := 15) d_J_bitCount_14 rfl ?_
  refine ok_lload_n (q := 16) 0 d_J_bitCount_15 rfl rfl rfl ?_
  refine ok_iconst (v := (2 : Int32)) (q := 17) d_J_bitCount_16 (by decide) rfl ?_
  refine ok_lushr (q := 18) d_J_bitCount_17 rfl ?_
  refine ok_ldc2 (q := 21) wm_1 d_J_bitCount_18 rfl ?_
  refine ok_land (q := 22) d_J_bitCount_21 rfl ?_
  refine ok_ladd (q := 23) d_J_bitCount_22 rfl ?_
  obtain ⟨y2, e_y2, h⟩ := st_e h
  refine ok_topl e_y2 ?_
  refine ok_lstore_n (q := 24) (lv := [(0, .long y2)]) d_J_bitCount_23 rfl (by decide) rfl rfl ?_
  refine ok_lload_n (q := 25) 0 d_J_bitCount_24 rfl rfl rfl ?_
  refine ok_lload_n (q := 26) 0 d_J_bitCount_25 rfl rfl rfl ?_
  refine ok_iconst (v := (4 : Int32)) (q := 27) d_J_bitCount_26 (by decide) rfl ?_
  refine ok_lushr (q := 28) d_J_bitCount_27 rfl ?_
  refine ok_ladd (q := 29) d_J_bitCount_28 rfl ?_
  refine ok_ldc2 (q := 32) wm_2 d_J_bitCount_29 rfl ?_
  refine ok_land (q := 33) d_J_bitCount_32 rfl ?_
  obtain ⟨y3, e_y3, h⟩ := st_e h
  refine ok_topl e_y3 ?_
  refine ok_lstore_n (q := 34) (lv := [(0, .long y3)]) d_J_bitCount_33 rfl (by decide) rfl rfl ?_
  refine ok_lload_n (q := 35) 0 d_J_bitCount_34 rfl rfl rfl ?_
  refine ok_lload_n (q := 36) 0 d_J_bitCount_35 rfl rfl rfl ?_
  refine ok_bipush (v := (8 : Int32)) (q := 38) d_J_bitCount_36 (by decide) rfl ?_
  refine ok_lushr (q := 39) d_J_bitCount_38 rfl ?_
  refine ok_ladd (q := 40) d_J_bitCount_39 rfl ?_
  obtain ⟨y4, e_y4, h⟩ := st_e h
  refine ok_topl e_y4 ?_
  refine ok_lstore_n (q := 41) (lv := [(0, .long y4)]) d_J_bitCount_40 rfl (by decide) rfl rfl ?_
  refine ok_lload_n (q := 42) 0 d_J_bitCount_41 rfl rfl rfl ?_
  refine ok_lload_n (q := 43) 0 d_J_bitCount_42 rfl rfl rfl ?_
  refine ok_bipush (v := (16 : Int32)) (q := 45) d_J_bitCount_43 (by decide) rfl ?_
  refine ok_lushr (q := 46) d_J_bitCount_45 rfl ?_
  refine ok_ladd (q := 47) d_J_bitCount_46 rfl ?_
  obtain ⟨y5, e_y5, h⟩ := st_e h
  refine ok_topl e_y5 ?_
  refine ok_lstore_n (q := 48) (lv := [(0, .long y5)]) d_J_bitCount_47 rfl (by decide) rfl rfl ?_
  refine ok_lload_n (q := 49) 0 d_J_bitCount_48 rfl rfl rfl ?_
  refine ok_lload_n (q := 50) 0 d_J_bitCount_49 rfl rfl rfl ?_
  refine ok_bipush (v := (32 : Int32)) (q := 52) d_J_bitCount_50 (by decide) rfl ?_
  refine ok_lushr (q := 53) d_J_bitCount_52 rfl ?_
  refine ok_ladd (q := 54) d_J_bitCount_53 rfl ?_
  obtain ⟨y6, e_y6, h⟩ := st_e h
  refine ok_topl e_y6 ?_
  refine ok_lstore_n (q := 55) (lv := [(0, .long y6)]) d_J_bitCount_54 rfl (by decide) rfl rfl ?_
  refine ok_lload_n (q := 56) 0 d_J_bitCount_55 rfl rfl rfl ?_
  refine ok_l2i (q := 57) d_J_bitCount_56 rfl ?_
  refine ok_bipush (v := (127 : Int32)) (q := 59) d_J_bitCount_57 (by decide) rfl ?_
  refine ok_iand (q := 60) d_J_bitCount_59 rfl ?_
  obtain ⟨rfl, rfl⟩ := so_e h
  exact ok_iret d_J_bitCount_60 ⟨rfl, rfl⟩
set_option maxRecDepth 20000 in
set_option maxHeartbeats 4000000 in
theorem ct_J_bitCount (p0 : Int64) (S : TC) (z : Int32) (Sz : TC) (h : fn_J_bitCount S p0 = some (z, Sz)) : Ct (wC g a) D (tyC g) l y_J_bitCount b_J_bitCount 2 (some .int) rm_J_bitCount [.long p0] S (pI z Sz) := ct_of (by decide) (Nat.le_of_ble_eq_true rfl) rfl (wk_J_bitCount p0 S z Sz h)
theorem cs_C_58 {l : Launch} {D : va_G} {g : Nat → ClassId} {a : Nat → Nat} {rm : Room} {b : ByteArray} {nL : Nat} {ret : Option FieldType} {pc q : Nat} {Lc : List (Nat × Value)} {St : List Value} {S S2 : TC} {Post : Option Value → TC → Prop} {p0 : Int64} {z : Int32} (hk : fn_J_bitCount S p0 = some (z, S2)) (hd : decode b pc = .ok (.invokestatic 58, 3)) (hq : pc + 3 = q) (hrm : rm_J_bitCount.frames + 1 ≤ rm.frames ∧ 8 + (2 + 11) + rm_J_bitCount.locals ≤ rm.locals) (hroom : (St.map fun v => v.category).sum ≤ 8) (k : Ok (wC g a) D (tyC g) l rm R_C b nL ret S2 q Lc (.int z :: St) Post) : Ok (wC g a) D (tyC g) l rm R_C b nL ret S pc Lc (.long p0 :: St) Post := by
  subst hq
  exact ok_cS (As := [.long p0]) (n := 1) (ct_J_bitCount p0 S z S2 hk) hd wm_74 ⟨wm_75, wm_76, wm_77⟩ (by decide +kernel) ⟨⟨rfl, rfl⟩, hrm⟩ rfl rfl hroom ⟨Nat.zero_le _, Nat.zero_le _⟩ (fun v u h => by obtain ⟨rfl, rfl⟩ := h; exact k)
set_option maxRecDepth 20000 in
set_option maxHeartbeats 4000000 in
theorem wk_C_isUnreadable (p1 : Int32) (S : TC) (z : Int32) (Sz : TC) (h : fn_C_isUnreadable S p1 = some (z, Sz)) : Ok (wC g a) D (tyC g) l rm_C_isUnreadable R_C b_C_isUnreadable 2 (some .boolean) S 0 [(0, .ref (a 1)), (1, .int p1)] [] (pI z Sz) := by
  unfold fn_C_isUnreadable at h
  refine ok_aload_n (q := 1) 0 d_C_isUnreadable_0 rfl rfl rfl ?_
  refine gf_C_18 (q := 4) d_C_isUnreadable_1 rfl ?_
  refine ok_iload_n (q := 5) 1 d_C_isUnreadable_4 rfl rfl rfl ?_
  obtain ⟨hg, h⟩ := gd_e h
  obtain ⟨y1, e_y1, h⟩ := st_e h
  refine al_C_4 (q := 6) hg e_y1 d_C_isUnreadable_5 rfl ?_
  obtain ⟨x4, S2, hk, h⟩ := bd_e h
  refine cs_C_58 (q := 9) hk d_C_isUnreadable_6 rfl (by decide) (Nat.le_of_ble_eq_true rfl) ?_
  refine ok_iconst (v := (2 : Int32)) (q := 10) d_C_isUnreadable_9 (by decide) rfl ?_
  refine ok_icmp_lt (q := 13) (t := 17) d_C_isUnreadable_10 (by decide) rfl (fun hc => ?_) (fun hc => ?_)
  · replace h := if_t hc h
    refine ok_iconst (v := (0 : Int32)) (q := 18) d_C_isUnreadable_17 (by decide) rfl ?_
    obtain ⟨rfl, rfl⟩ := so_e h
    exact ok_zret d_C_isUnreadable_18 (by decide) ⟨rfl, rfl⟩
  · replace h := if_f hc h
    refine ok_iconst (v := (1 : Int32)) (q := 14) d_C_isUnreadable_13 (by decide) rfl ?_
    refine ok_goto (q := 18) d_C_isUnreadable_14 (by decide) ?_
    obtain ⟨rfl, rfl⟩ := so_e h
    exact ok_zret d_C_isUnreadable_18 (by decide) ⟨rfl, rfl⟩
set_option maxRecDepth 20000 in
set_option maxHeartbeats 4000000 in
theorem ct_C_isUnreadable (p1 : Int32) (S : TC) (z : Int32) (Sz : TC) (h : fn_C_isUnreadable S p1 = some (z, Sz)) : Ct (wC g a) D (tyC g) l y_C_isUnreadable b_C_isUnreadable 2 (some .boolean) rm_C_isUnreadable [.ref (a 1), .int p1] S (pI z Sz) := ct_of (by decide) (Nat.le_of_ble_eq_true rfl) rfl (wk_C_isUnreadable p1 S z Sz h)
theorem cs_C_64 {l : Launch} {D : va_G} {g : Nat → ClassId} {a : Nat → Nat} {rm : Room} {b : ByteArray} {nL : Nat} {ret : Option FieldType} {pc q : Nat} {Lc : List (Nat × Value)} {St : List Value} {S S2 : TC} {Post : Option Value → TC → Prop} {p1 : Int32} {z : Int32} (hk : fn_C_isUnreadable S p1 = some (z, S2)) (hd : decode b pc = .ok (.invokevirtual 64, 3)) (hq : pc + 3 = q) (hrm : rm_C_isUnreadable.frames + 1 ≤ rm.frames ∧ 8 + (2 + 11) + rm_C_isUnreadable.locals ≤ rm.locals) (hroom : (St.map fun v => v.category).sum ≤ 8) (k : Ok (wC g a) D (tyC g) l rm R_C b nL ret S2 q Lc (.int z :: St) Post) : Ok (wC g a) D (tyC g) l rm R_C b nL ret S pc Lc (.int p1 :: .ref (a 1) :: St) Post := by
  subst hq
  exact ok_cV (As := [.int p1]) (n := 1) (C := R_C) (T := F_C) (N := 11) (ci := 1) (q0 := 1) (ct_C_isUnreadable p1 S z S2 hk) hd wm_78 ⟨wm_79, wm_80, wm_81, wm_69⟩ (by decide +kernel) ⟨⟨rfl, rfl⟩, hrm⟩ rfl rfl rfl rfl hroom ⟨Nat.zero_le _, Nat.zero_le _⟩ (fun v u h => by obtain ⟨rfl, rfl⟩ := h; exact k)
theorem cs_S_188 {l : Launch} {D : va_G} {g : Nat → ClassId} {a : Nat → Nat} {rm : Room} {b : ByteArray} {nL : Nat} {ret : Option FieldType} {pc q : Nat} {Lc : List (Nat × Value)} {St : List Value} {S S2 : TC} {Post : Option Value → TC → Prop} {p1 : Int32} {z : Int32} (hk : fn_C_isUnreadable S p1 = some (z, S2)) (hd : decode b pc = .ok (.invokevirtual 188, 3)) (hq : pc + 3 = q) (hrm : rm_C_isUnreadable.frames + 1 ≤ rm.frames ∧ 8 + (2 + 11) + rm_C_isUnreadable.locals ≤ rm.locals) (hroom : (St.map fun v => v.category).sum ≤ 8) (k : Ok (wC g a) D (tyC g) l rm R_S b nL ret S2 q Lc (.int z :: St) Post) : Ok (wC g a) D (tyC g) l rm R_S b nL ret S pc Lc (.int p1 :: .ref (a 1) :: St) Post := by
  subst hq
  exact ok_cV (As := [.int p1]) (n := 1) (C := R_C) (T := F_C) (N := 11) (ci := 1) (q0 := 1) (ct_C_isUnreadable p1 S z S2 hk) hd wm_78 ⟨wm_352, wm_80, wm_81, wm_69⟩ (by decide +kernel) ⟨⟨rfl, rfl⟩, hrm⟩ rfl rfl rfl rfl hroom ⟨Nat.zero_le _, Nat.zero_le _⟩ (fun v u h => by obtain ⟨rfl, rfl⟩ := h; exact k)
set_option maxRecDepth 20000 in
set_option maxHeartbeats 4000000 in
theorem wk_C_mark (p1 : Int32) (S : TC) (z : Int32) (Sz : TC) (h : fn_C_mark S p1 = some (z, Sz)) : Ok (wC g a) D (tyC g) l rm_C_mark R_C b_C_mark 2 (some .boolean) S 0 [(0, .ref (a 1)), (1, .int p1)] [] (pI z Sz) := by
  unfold fn_C_mark at h
  refine ok_aload_n (q := 1) 0 d_C_mark_0 rfl rfl rfl ?_
  obtain ⟨x3, S1, hk, h⟩ := bd_e h
  refine cs_C_91 (q := 4) hk d_C_mark_1 rfl (by decide) (Nat.le_of_ble_eq_true rfl) ?_
  refine ok_if_ne (q := 7) (t := 9) d_C_mark_4 (by decide) rfl (fun hc => ?_) (fun hc => ?_)
  · replace h := if_f hc h
    refine ok_aload_n (q := 10) 0 d_C_mark_9 rfl rfl rfl ?_
    refine gf_C_9 (q := 13) d_C_mark_10 rfl ?_
    refine ok_iload_n (q := 14) 1 d_C_mark_13 rfl rfl rfl ?_
    refine ok_dup2 (q := 15) d_C_mark_14 rfl rfl rfl ?_
    obtain ⟨hg, h⟩ := gd_e h
    obtain ⟨x4, e_x4, h⟩ := st_e h
    refine al_C_2 (q := 16) hg e_x4 d_C_mark_15 rfl ?_
    refine ok_sipush (v := (256 : Int32)) (q := 19) d_C_mark_16 (by decide) rfl ?_
    refine ok_ior (q := 20) d_C_mark_19 rfl ?_
    obtain ⟨hi, h⟩ := gd_e h
    obtain ⟨S5, e_S5, h⟩ := st_e h
    refine as_C_2 (q := 21) hi e_S5 d_C_mark_20 rfl ?_
    refine ok_aload_n (q := 22) 0 d_C_mark_21 rfl rfl rfl ?_
    refine gf_C_35 (q := 25) d_C_mark_22 rfl ?_
    refine ok_iload_n (q := 26) 1 d_C_mark_25 rfl rfl rfl ?_
    refine ok_bipush (v := (8 : Int32)) (q := 28) d_C_mark_26 (by decide) rfl ?_
    refine ok_idiv (q := 29) d_C_mark_28 (by decide) rfl ?_
    refine ok_iconst (v := (1 : Int32)) (q := 30) d_C_mark_29 (by decide) rfl ?_
    obtain ⟨hi, h⟩ := gd_e h
    obtain ⟨S6, e_S6, h⟩ := st_e h
    refine as_C_9 (q := 31) hi e_S6 (by decide) d_C_mark_30 rfl ?_
    refine ok_iconst (v := (1 : Int32)) (q := 32) d_C_mark_31 (by decide) rfl ?_
    obtain ⟨rfl, rfl⟩ := so_e h
    exact ok_zret d_C_mark_32 (by decide) ⟨rfl, rfl⟩
  · replace h := if_t hc h
    refine ok_iconst (v := (0 : Int32)) (q := 8) d_C_mark_7 (by decide) rfl ?_
    obtain ⟨rfl, rfl⟩ := so_e h
    exact ok_zret d_C_mark_8 (by decide) ⟨rfl, rfl⟩
set_option maxRecDepth 20000 in
set_option maxHeartbeats 4000000 in
theorem ct_C_mark (p1 : Int32) (S : TC) (z : Int32) (Sz : TC) (h : fn_C_mark S p1 = some (z, Sz)) : Ct (wC g a) D (tyC g) l y_C_mark b_C_mark 2 (some .boolean) rm_C_mark [.ref (a 1), .int p1] S (pI z Sz) := ct_of (by decide) (Nat.le_of_ble_eq_true rfl) rfl (wk_C_mark p1 S z Sz h)
theorem cs_S_185 {l : Launch} {D : va_G} {g : Nat → ClassId} {a : Nat → Nat} {rm : Room} {b : ByteArray} {nL : Nat} {ret : Option FieldType} {pc q : Nat} {Lc : List (Nat × Value)} {St : List Value} {S S2 : TC} {Post : Option Value → TC → Prop} {p1 : Int32} {z : Int32} (hk : fn_C_mark S p1 = some (z, S2)) (hd : decode b pc = .ok (.invokevirtual 185, 3)) (hq : pc + 3 = q) (hrm : rm_C_mark.frames + 1 ≤ rm.frames ∧ 8 + (2 + 11) + rm_C_mark.locals ≤ rm.locals) (hroom : (St.map fun v => v.category).sum ≤ 8) (k : Ok (wC g a) D (tyC g) l rm R_S b nL ret S2 q Lc (.int z :: St) Post) : Ok (wC g a) D (tyC g) l rm R_S b nL ret S pc Lc (.int p1 :: .ref (a 1) :: St) Post := by
  subst hq
  exact ok_cV (As := [.int p1]) (n := 1) (C := R_C) (T := F_C) (N := 11) (ci := 1) (q0 := 1) (ct_C_mark p1 S z S2 hk) hd wm_348 ⟨wm_349, wm_350, wm_351, wm_69⟩ (by decide +kernel) ⟨⟨rfl, rfl⟩, hrm⟩ rfl rfl rfl rfl hroom ⟨Nat.zero_le _, Nat.zero_le _⟩ (fun v u h => by obtain ⟨rfl, rfl⟩ := h; exact k)
set_option maxRecDepth 20000 in
set_option maxHeartbeats 4000000 in
theorem wl_C_blockOfNextPage_4 (n : Nat) : ∀ (p1 : Int32) (p2 : Int32) (S : TC) (z : Int32) (Sz : TC), lp_C_blockOfNextPage_4 n S p1 p2 = some (z, Sz) → Ok (wC g a) D (tyC g) l rm_C_blockOfNextPage R_C b_C_blockOfNextPage 3 (some .int) S 4 [(0, .ref (a 1)), (1, .int p1), (2, .int p2)] [] (pI z Sz) := by
  induction n with
  | zero => intro p1 p2 S z Sz h; exact absurd h (fun h => by cases h)
  | succ n ih =>
    intro p1 p2 S z Sz h
    rw [le_C_blockOfNextPage_4] at h
    refine ok_iload_n (q := 5) 2 d_C_blockOfNextPage_4 rfl rfl rfl ?_
    refine ok_bipush (v := (6 : Int32)) (q := 7) d_C_blockOfNextPage_5 (by decide) rfl ?_
    refine ok_icmp_ge (q := 10) (t := 57) d_C_blockOfNextPage_7 (by decide) rfl (fun hc => ?_) (fun hc => ?_)
    · replace h := if_t hc h
      refine ok_iload_n (q := 58) 1 d_C_blockOfNextPage_57 rfl rfl rfl ?_
      obtain ⟨rfl, rfl⟩ := so_e h
      exact ok_iret d_C_blockOfNextPage_58 ⟨rfl, rfl⟩
    · replace h := if_f hc h
      refine ok_aload_n (q := 11) 0 d_C_blockOfNextPage_10 rfl rfl rfl ?_
      refine gf_C_32 (q := 14) d_C_blockOfNextPage_11 rfl ?_
      refine ok_iload_n (q := 15) 2 d_C_blockOfNextPage_14 rfl rfl rfl ?_
      obtain ⟨hg, h⟩ := gd_e h
      obtain ⟨x1, e_x1, h⟩ := st_e h
      refine al_C_8 (q := 16) hg e_x1 d_C_blockOfNextPage_15 rfl ?_
      refine ok_if_ne (q := 19) (t := 51) d_C_blockOfNextPage_16 (by decide) rfl (fun hc => ?_) (fun hc => ?_)
      · replace h := if_f hc h
        obtain ⟨x2, e_x2, h⟩ := st_e h
        refine ok_iinc (d := (1 : Int32)) (q := 54) (lv := [(2, .int x2), (0, .ref (a 1)), (1, .int p1)]) 2 d_C_blockOfNextPage_51 rfl (by decide) e_x2 (by decide) rfl rfl ?_
        refine ok_goto (q := 4) d_C_blockOfNextPage_54 (by decide) ?_
        exact ok_sub [1, 2, 0] rfl (ih p1 x2 _ _ _ h)
      · replace h := if_t hc h
        refine ok_aload_n (q := 20) 0 d_C_blockOfNextPage_19 rfl rfl rfl ?_
        refine gf_C_22 (q := 23) d_C_blockOfNextPage_20 rfl ?_
        refine ok_iload_n (q := 24) 2 d_C_blockOfNextPage_23 rfl rfl rfl ?_
        obtain ⟨hg, h⟩ := gd_e h
        obtain ⟨x3, e_x3, h⟩ := st_e h
        refine al_C_5 (q := 25) hg e_x3 d_C_blockOfNextPage_24 rfl ?_
        refine ok_bipush (v := (8 : Int32)) (q := 27) d_C_blockOfNextPage_25 (by decide) rfl ?_
        refine ok_icmp_ne (q := 30) (t := 33) d_C_blockOfNextPage_27 (by decide) rfl (fun hc => ?_) (fun hc => ?_)
        · replace h := if_f hc h
          refine ok_aload_n (q := 34) 0 d_C_blockOfNextPage_33 rfl rfl rfl ?_
          refine gf_C_22 (q := 37) d_C_blockOfNextPage_34 rfl ?_
          refine ok_iload_n (q := 38) 2 d_C_blockOfNextPage_37 rfl rfl rfl ?_
          obtain ⟨hg, h⟩ := gd_e h
          obtain ⟨x4, e_x4, h⟩ := st_e h
          refine al_C_5 (q := 39) hg e_x4 d_C_blockOfNextPage_38 rfl ?_
          refine ok_if_le (q := 42) (t := 44) d_C_blockOfNextPage_39 (by decide) rfl (fun hc => ?_) (fun hc => ?_)
          · replace h := if_t hc h
            refine ok_iload_n (q := 45) 1 d_C_blockOfNextPage_44 rfl rfl rfl ?_
            refine ok_iconst (v := (-1 : Int32)) (q := 46) d_C_blockOfNextPage_45 (by decide) rfl ?_
            refine ok_icmp_ne (q := 49) (t := 51) d_C_blockOfNextPage_46 (by decide) rfl (fun hc => ?_) (fun hc => ?_)
            · replace h := if_f hc h
              obtain ⟨x5, e_x5, h⟩ := st_e h
              refine ok_iinc (d := (1 : Int32)) (q := 54) (lv := [(2, .int x5), (0, .ref (a 1)), (1, .int p1)]) 2 d_C_blockOfNextPage_51 rfl (by decide) e_x5 (by decide) rfl rfl ?_
              refine ok_goto (q := 4) d_C_blockOfNextPage_54 (by decide) ?_
              exact ok_sub [1, 2, 0] rfl (ih p1 x5 _ _ _ h)
            · replace h := if_t hc h
              refine ok_iload_n (q := 50) 2 d_C_blockOfNextPage_49 rfl rfl rfl ?_
              refine ok_istore_n (q := 51) (lv := [(1, .int p2), (0, .ref (a 1)), (2, .int p2)]) d_C_blockOfNextPage_50 rfl (by decide) rfl rfl ?_
              obtain ⟨x6, e_x6, h⟩ := st_e h
              refine ok_iinc (d := (1 : Int32)) (q := 54) (lv := [(2, .int x6), (1, .int p2), (0, .ref (a 1))]) 2 d_C_blockOfNextPage_51 rfl (by decide) e_x6 (by decide) rfl rfl ?_
              refine ok_goto (q := 4) d_C_blockOfNextPage_54 (by decide) ?_
              exact ok_sub [2, 1, 0] rfl (ih p2 x6 _ _ _ h)
          · replace h := if_f hc h
            refine ok_iload_n (q := 43) 2 d_C_blockOfNextPage_42 rfl rfl rfl ?_
            obtain ⟨rfl, rfl⟩ := so_e h
            exact ok_iret d_C_blockOfNextPage_43 ⟨rfl, rfl⟩
        · replace h := if_t hc h
          refine ok_goto (q := 51) d_C_blockOfNextPage_30 (by decide) ?_
          obtain ⟨x7, e_x7, h⟩ := st_e h
          refine ok_iinc (d := (1 : Int32)) (q := 54) (lv := [(2, .int x7), (0, .ref (a 1)), (1, .int p1)]) 2 d_C_blockOfNextPage_51 rfl (by decide) e_x7 (by decide) rfl rfl ?_
          refine ok_goto (q := 4) d_C_blockOfNextPage_54 (by decide) ?_
          exact ok_sub [1, 2, 0] rfl (ih p1 x7 _ _ _ h)
set_option maxRecDepth 20000 in
set_option maxHeartbeats 4000000 in
theorem wk_C_blockOfNextPage (S : TC) (z : Int32) (Sz : TC) (h : fn_C_blockOfNextPage S = some (z, Sz)) : Ok (wC g a) D (tyC g) l rm_C_blockOfNextPage R_C b_C_blockOfNextPage 3 (some .int) S 0 [(0, .ref (a 1))] [] (pI z Sz) := by
  unfold fn_C_blockOfNextPage at h
  refine ok_iconst (v := (-1 : Int32)) (q := 1) d_C_blockOfNextPage_0 (by decide) rfl ?_
  refine ok_istore_n (q := 2) (lv := [(1, .int (-1 : Int32)), (0, .ref (a 1))]) d_C_blockOfNextPage_1 rfl (by decide) rfl rfl ?_
  refine ok_iconst (v := (0 : Int32)) (q := 3) d_C_blockOfNextPage_2 (by decide) rfl ?_
  refine ok_istore_n (q := 4) (lv := [(2, .int (0 : Int32)), (1, .int (-1 : Int32)), (0, .ref (a 1))]) d_C_blockOfNextPage_3 rfl (by decide) rfl rfl ?_
  exact ok_sub [2, 1, 0] rfl (wl_C_blockOfNextPage_4 64 (-1 : Int32) (0 : Int32) _ _ _ h)
set_option maxRecDepth 20000 in
set_option maxHeartbeats 4000000 in
theorem ct_C_blockOfNextPage (S : TC) (z : Int32) (Sz : TC) (h : fn_C_blockOfNextPage S = some (z, Sz)) : Ct (wC g a) D (tyC g) l y_C_blockOfNextPage b_C_blockOfNextPage 3 (some .int) rm_C_blockOfNextPage [.ref (a 1)] S (pI z Sz) := ct_of (by decide) (Nat.le_of_ble_eq_true rfl) rfl (wk_C_blockOfNextPage S z Sz h)
theorem cs_C_87 {l : Launch} {D : va_G} {g : Nat → ClassId} {a : Nat → Nat} {rm : Room} {b : ByteArray} {nL : Nat} {ret : Option FieldType} {pc q : Nat} {Lc : List (Nat × Value)} {St : List Value} {S S2 : TC} {Post : Option Value → TC → Prop} {z : Int32} (hk : fn_C_blockOfNextPage S = some (z, S2)) (hd : decode b pc = .ok (.invokevirtual 87, 3)) (hq : pc + 3 = q) (hrm : rm_C_blockOfNextPage.frames + 1 ≤ rm.frames ∧ 8 + (3 + 11) + rm_C_blockOfNextPage.locals ≤ rm.locals) (hroom : (St.map fun v => v.category).sum ≤ 8) (k : Ok (wC g a) D (tyC g) l rm R_C b nL ret S2 q Lc (.int z :: St) Post) : Ok (wC g a) D (tyC g) l rm R_C b nL ret S pc Lc (.ref (a 1) :: St) Post := by
  subst hq
  exact ok_cV (As := []) (n := 0) (C := R_C) (T := F_C) (N := 11) (ci := 1) (q0 := 1) (ct_C_blockOfNextPage S z S2 hk) hd wm_100 ⟨wm_101, wm_102, wm_103, wm_69⟩ (by decide +kernel) ⟨⟨rfl, rfl⟩, hrm⟩ rfl rfl rfl rfl hroom ⟨Nat.zero_le _, Nat.zero_le _⟩ (fun v u h => by obtain ⟨rfl, rfl⟩ := h; exact k)
set_option maxRecDepth 20000 in
set_option maxHeartbeats 4000000 in
theorem wk_C_program (p1 : Int32) (p2 : Int32) (p3 : Int64) (S : TC) (z : Int32) (Sz : TC) (h : fn_C_program S p1 p2 p3 = some (z, Sz)) : Ok (wC g a) D (tyC g) l rm_C_program R_C b_C_program 7 (some .boolean) S 0 [(0, .ref (a 1)), (1, .int p1), (2, .int p2), (3, .long p3)] [] (pI z Sz) := by
  unfold fn_C_program at h
  refine ok_aload_n (q := 1) 0 d_C_program_0 rfl rfl rfl ?_
  obtain ⟨x3, S1, hk, h⟩ := bd_e h
  refine cs_C_87 (q := 4) hk d_C_program_1 rfl (by decide) (Nat.le_of_ble_eq_true rfl) ?_
  refine ok_istore (q := 6) (lv := [(5, .int x3), (0, .ref (a 1)), (1, .int p1), (2, .int p2), (3, .long p3)]) d_C_program_4 (by decide) rfl rfl ?_
  refine ok_iload (q := 8) 0 d_C_program_6 rfl rfl ?_
  refine ok_iconst (v := (-1 : Int32)) (q := 9) d_C_program_8 (by decide) rfl ?_
  refine ok_icmp_eq (q := 12) (t := 19) d_C_program_9 (by decide) rfl (fun hc => ?_) (fun hc => ?_)
  · replace h := if_t hc h
    refine ok_iconst (v := (0 : Int32)) (q := 20) d_C_program_19 (by decide) rfl ?_
    obtain ⟨rfl, rfl⟩ := so_e h
    exact ok_zret d_C_program_20 (by decide) ⟨rfl, rfl⟩
  · replace h := if_f hc h
    refine ok_aload_n (q := 13) 1 d_C_program_12 rfl rfl rfl ?_
    obtain ⟨x6, S4, hk, h⟩ := bd_e h
    refine cs_C_91 (q := 16) hk d_C_program_13 rfl (by decide) (Nat.le_of_ble_eq_true rfl) ?_
    refine ok_if_ne (q := 19) (t := 21) d_C_program_16 (by decide) rfl (fun hc => ?_) (fun hc => ?_)
    · replace h := if_f hc h
      refine ok_iload (q := 23) 0 d_C_program_21 rfl rfl ?_
      refine ok_bipush (v := (8 : Int32)) (q := 25) d_C_program_23 (by decide) rfl ?_
      refine ok_imul (q := 26) d_C_program_25 rfl ?_
      refine ok_aload_n (q := 27) 1 d_C_program_26 rfl rfl rfl ?_
      refine gf_C_22 (q := 30) d_C_program_27 rfl ?_
      refine ok_iload (q := 32) 0 d_C_program_30 rfl rfl ?_
      obtain ⟨hg, h⟩ := gd_e h
      obtain ⟨x7, e_x7, h⟩ := st_e h
      refine al_C_5 (q := 33) hg e_x7 d_C_program_32 rfl ?_
      refine ok_iadd (q := 34) d_C_program_33 rfl ?_
      obtain ⟨x8, e_x8, h⟩ := st_e h
      refine ok_topi e_x8 ?_
      refine ok_istore (q := 36) (lv := [(6, .int x8), (5, .int x3), (0, .ref (a 1)), (1, .int p1), (2, .int p2), (3, .long p3)]) d_C_program_34 (by decide) rfl rfl ?_
      refine ok_aload_n (q := 37) 2 d_C_program_36 rfl rfl rfl ?_
      refine gf_C_9 (q := 40) d_C_program_37 rfl ?_
      refine ok_iload (q := 42) 0 d_C_program_40 rfl rfl ?_
      refine ok_iload_n (q := 43) 3 d_C_program_42 rfl rfl rfl ?_
      obtain ⟨hi, h⟩ := gd_e h
      obtain ⟨S9, e_S9, h⟩ := st_e h
      refine as_C_2 (q := 44) hi e_S9 d_C_program_43 rfl ?_
      refine ok_aload_n (q := 45) 2 d_C_program_44 rfl rfl rfl ?_
      refine gf_C_15 (q := 48) d_C_program_45 rfl ?_
      refine ok_iload (q := 50) 0 d_C_program_48 rfl rfl ?_
      refine ok_iload_n (q := 51) 4 d_C_program_50 rfl rfl rfl ?_
      obtain ⟨hi, h⟩ := gd_e h
      obtain ⟨S10, e_S10, h⟩ := st_e h
      refine as_C_3 (q := 52) hi e_S10 d_C_program_51 rfl ?_
      refine ok_aload_n (q := 53) 2 d_C_program_52 rfl rfl rfl ?_
      refine gf_C_18 (q := 56) d_C_program_53 rfl ?_
      refine ok_iload (q := 58) 0 d_C_program_56 rfl rfl ?_
      refine ok_lload_n (q := 59) 5 d_C_program_58 rfl rfl rfl ?_
      obtain ⟨hi, h⟩ := gd_e h
      obtain ⟨S11, e_S11, h⟩ := st_e h
      refine as_C_4 (q := 60) hi e_S11 d_C_program_59 rfl ?_
      refine ok_aload_n (q := 61) 2 d_C_program_60 rfl rfl rfl ?_
      refine gf_C_22 (q := 64) d_C_program_61 rfl ?_
      refine ok_iload (q := 66) 1 d_C_program_64 rfl rfl ?_
      refine ok_dup2 (q := 67) d_C_program_66 rfl rfl rfl ?_
      obtain ⟨hg, h⟩ := gd_e h
      obtain ⟨x12, e_x12, h⟩ := st_e h
      refine al_C_5 (q := 68) hg e_x12 d_C_program_67 rfl ?_
      refine ok_iconst (v := (1 : Int32)) (q := 69) d_C_program_68 (by decide) rfl ?_
      refine ok_iadd (q := 70) d_C_program_69 rfl ?_
      obtain ⟨hi, h⟩ := gd_e h
      obtain ⟨S13, e_S13, h⟩ := st_e h
      refine as_C_5 (q := 71) hi e_S13 d_C_program_70 rfl ?_
      refine ok_aload_n (q := 72) 2 d_C_program_71 rfl rfl rfl ?_
      refine gf_C_35 (q := 75) d_C_program_72 rfl ?_
      refine ok_iload (q := 77) 1 d_C_program_75 rfl rfl ?_
      refine ok_iconst (v := (1 : Int32)) (q := 78) d_C_program_77 (by decide) rfl ?_
      obtain ⟨hi, h⟩ := gd_e h
      obtain ⟨S14, e_S14, h⟩ := st_e h
      refine as_C_9 (q := 79) hi e_S14 (by decide) d_C_program_78 rfl ?_
      refine ok_iconst (v := (1 : Int32)) (q := 80) d_C_program_79 (by decide) rfl ?_
      obtain ⟨rfl, rfl⟩ := so_e h
      exact ok_zret d_C_program_80 (by decide) ⟨rfl, rfl⟩
    · replace h := if_t hc h
      refine ok_iconst (v := (0 : Int32)) (q := 20) d_C_program_19 (by decide) rfl ?_
      obtain ⟨rfl, rfl⟩ := so_e h
      exact ok_zret d_C_program_20 (by decide) ⟨rfl, rfl⟩
set_option maxRecDepth 20000 in
set_option maxHeartbeats 4000000 in
theorem ct_C_program (p1 : Int32) (p2 : Int32) (p3 : Int64) (S : TC) (z : Int32) (Sz : TC) (h : fn_C_program S p1 p2 p3 = some (z, Sz)) : Ct (wC g a) D (tyC g) l y_C_program b_C_program 7 (some .boolean) rm_C_program [.ref (a 1), .int p1, .int p2, .long p3] S (pI z Sz) := ct_of (by decide) (Nat.le_of_ble_eq_true rfl) rfl (wk_C_program p1 p2 p3 S z Sz h)
theorem cs_S_178 {l : Launch} {D : va_G} {g : Nat → ClassId} {a : Nat → Nat} {rm : Room} {b : ByteArray} {nL : Nat} {ret : Option FieldType} {pc q : Nat} {Lc : List (Nat × Value)} {St : List Value} {S S2 : TC} {Post : Option Value → TC → Prop} {p1 : Int32} {p2 : Int32} {p3 : Int64} {z : Int32} (hk : fn_C_program S p1 p2 p3 = some (z, S2)) (hd : decode b pc = .ok (.invokevirtual 178, 3)) (hq : pc + 3 = q) (hrm : rm_C_program.frames + 1 ≤ rm.frames ∧ 8 + (7 + 11) + rm_C_program.locals ≤ rm.locals) (hroom : (St.map fun v => v.category).sum ≤ 8) (k : Ok (wC g a) D (tyC g) l rm R_S b nL ret S2 q Lc (.int z :: St) Post) : Ok (wC g a) D (tyC g) l rm R_S b nL ret S pc Lc (.long p3 :: .int p2 :: .int p1 :: .ref (a 1) :: St) Post := by
  subst hq
  exact ok_cV (As := [.int p1, .int p2, .long p3]) (n := 3) (C := R_C) (T := F_C) (N := 11) (ci := 1) (q0 := 1) (ct_C_program p1 p2 p3 S z S2 hk) hd wm_341 ⟨wm_342, wm_343, wm_344, wm_69⟩ (by decide +kernel) ⟨⟨rfl, rfl⟩, hrm⟩ rfl rfl rfl rfl hroom ⟨Nat.zero_le _, Nat.zero_le _⟩ (fun v u h => by obtain ⟨rfl, rfl⟩ := h; exact k)
set_option maxRecDepth 20000 in
set_option maxHeartbeats 4000000 in
theorem wk_T_serialAfter (p0 : Int32) (S : TC) (z : Int32) (Sz : TC) (h : fn_T_serialAfter S p0 = some (z, Sz)) : Ok (wC g a) D (tyC g) l rm_T_serialAfter R_T b_T_serialAfter 1 (some .int) S 0 [(0, .int p0)] [] (pI z Sz) := by
  unfold fn_T_serialAfter at h
  refine ok_iload_n (q := 1) 0 d_T_serialAfter_0 rfl rfl rfl ?_
  refine ok_bipush (v := (6 : Int32)) (q := 3) d_T_serialAfter_1 (by decide) rfl ?_
  refine ok_ishr (q := 4) d_T_serialAfter_3 rfl ?_
  refine ok_iconst (v := (1 : Int32)) (q := 5) d_T_serialAfter_4 (by decide) rfl ?_
  refine ok_iadd (q := 6) d_T_serialAfter_5 rfl ?_
  refine ok_iconst (v := (3 : Int32)) (q := 7) d_T_serialAfter_6 (by decide) rfl ?_
  refine ok_iand (q := 8) d_T_serialAfter_7 rfl ?_
  obtain ⟨rfl, rfl⟩ := so_e h
  exact ok_iret d_T_serialAfter_8 ⟨rfl, rfl⟩
set_option maxRecDepth 20000 in
set_option maxHeartbeats 4000000 in
theorem ct_T_serialAfter (p0 : Int32) (S : TC) (z : Int32) (Sz : TC) (h : fn_T_serialAfter S p0 = some (z, Sz)) : Ct (wC g a) D (tyC g) l y_T_serialAfter b_T_serialAfter 1 (some .int) rm_T_serialAfter [.int p0] S (pI z Sz) := ct_of (by decide) (Nat.le_of_ble_eq_true rfl) rfl (wk_T_serialAfter p0 S z Sz h)
theorem cs_S_182 {l : Launch} {D : va_G} {g : Nat → ClassId} {a : Nat → Nat} {rm : Room} {b : ByteArray} {nL : Nat} {ret : Option FieldType} {pc q : Nat} {Lc : List (Nat × Value)} {St : List Value} {S S2 : TC} {Post : Option Value → TC → Prop} {p0 : Int32} {z : Int32} (hk : fn_T_serialAfter S p0 = some (z, S2)) (hd : decode b pc = .ok (.invokestatic 182, 3)) (hq : pc + 3 = q) (hrm : rm_T_serialAfter.frames + 1 ≤ rm.frames ∧ 8 + (1 + 11) + rm_T_serialAfter.locals ≤ rm.locals) (hroom : (St.map fun v => v.category).sum ≤ 8) (k : Ok (wC g a) D (tyC g) l rm R_S b nL ret S2 q Lc (.int z :: St) Post) : Ok (wC g a) D (tyC g) l rm R_S b nL ret S pc Lc (.int p0 :: St) Post := by
  subst hq
  exact ok_cS (As := [.int p0]) (n := 1) (ct_T_serialAfter p0 S z S2 hk) hd wm_345 ⟨wm_346, wm_347, wm_73⟩ (by decide +kernel) ⟨⟨rfl, rfl⟩, hrm⟩ rfl rfl hroom ⟨Nat.zero_le _, Nat.zero_le _⟩ (fun v u h => by obtain ⟨rfl, rfl⟩ := h; exact k)
theorem cs_T_14 {l : Launch} {D : va_G} {g : Nat → ClassId} {a : Nat → Nat} {rm : Room} {b : ByteArray} {nL : Nat} {ret : Option FieldType} {pc q : Nat} {Lc : List (Nat × Value)} {St : List Value} {S S2 : TC} {Post : Option Value → TC → Prop} {p0 : Int32} {z : Int32} (hk : fn_T_serialAfter S p0 = some (z, S2)) (hd : decode b pc = .ok (.invokestatic 14, 3)) (hq : pc + 3 = q) (hrm : rm_T_serialAfter.frames + 1 ≤ rm.frames ∧ 8 + (1 + 11) + rm_T_serialAfter.locals ≤ rm.locals) (hroom : (St.map fun v => v.category).sum ≤ 8) (k : Ok (wC g a) D (tyC g) l rm R_T b nL ret S2 q Lc (.int z :: St) Post) : Ok (wC g a) D (tyC g) l rm R_T b nL ret S pc Lc (.int p0 :: St) Post := by
  subst hq
  exact ok_cS (As := [.int p0]) (n := 1) (ct_T_serialAfter p0 S z S2 hk) hd wm_345 ⟨wm_390, wm_347, wm_73⟩ (by decide +kernel) ⟨⟨rfl, rfl⟩, hrm⟩ rfl rfl hroom ⟨Nat.zero_le _, Nat.zero_le _⟩ (fun v u h => by obtain ⟨rfl, rfl⟩ := h; exact k)
end WALK
