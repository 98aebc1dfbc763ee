section WALK
variable {l : Launch} {D : va_G} {g : Nat → ClassId} {a r : Nat → Nat}
set_option maxRecDepth 20000 in
set_option maxHeartbeats 4000000 in
theorem wk_S_read (p1 : Int32) (p2 : Int32) (S : TC) (z : Int64) (Sz : TC) (h : fn_S_read S p1 p2 = some (z, Sz)) : Ok (wC g a) D (tyC g) l rm_S_read R_S b_S_read 5 (some .long) S 0 [(0, .ref (a 0)), (1, .int p1), (2, .int p2)] [] (pL z Sz) := by
  unfold fn_S_read at h
  refine ok_aload_n (q := 1) 0 d_S_read_0 rfl rfl rfl ?_
  refine ok_iload_n (q := 2) 1 d_S_read_1 rfl rfl rfl ?_
  obtain ⟨x3, S1, hk, h⟩ := bd_e h
  refine cs_S_52 (q := 5) hk d_S_read_2 rfl (by decide) (Nat.le_of_ble_eq_true rfl) ?_
  refine ok_istore_n (q := 6) (lv := [(3, .int x3), (0, .ref (a 0)), (1, .int p1), (2, .int p2)]) d_S_read_5 rfl (by decide) rfl rfl ?_
  refine ok_iload_n (q := 7) 0 d_S_read_6 rfl rfl rfl ?_
  refine ok_if_eq (q := 10) (t := 17) d_S_read_7 (by decide) rfl (fun hc => ?_) (fun hc => ?_)
  · replace h := if_t hc h
    refine ok_iload_n (q := 18) 3 d_S_read_17 rfl rfl rfl ?_
    refine ok_iconst (v := (1 : Int32)) (q := 19) d_S_read_18 (by decide) rfl ?_
    refine ok_icmp_lt (q := 22) (t := 34) d_S_read_19 (by decide) rfl (fun hc => ?_) (fun hc => ?_)
    · replace h := if_t hc h
      refine ok_ldc2 (q := 37) wm_6 d_S_read_34 rfl ?_
      obtain ⟨rfl, rfl⟩ := so_e h
      exact ok_lret d_S_read_37 ⟨rfl, rfl⟩
    · replace h := if_f hc h
      refine ok_iload_n (q := 23) 3 d_S_read_22 rfl rfl rfl ?_
      refine ok_aload_n (q := 24) 1 d_S_read_23 rfl rfl rfl ?_
      refine ok_iload_n (q := 25) 2 d_S_read_24 rfl rfl rfl ?_
      obtain ⟨x6, S4, hk, h⟩ := bd_e h
      refine cs_S_55 (q := 28) hk d_S_read_25 rfl (by decide) (Nat.le_of_ble_eq_true rfl) ?_
      obtain ⟨x9, S7, hk, h⟩ := bd_e h
      refine cs_S_58 (q := 31) hk d_S_read_28 rfl (by decide) (Nat.le_of_ble_eq_true rfl) ?_
      refine ok_icmp_le (q := 34) (t := 38) d_S_read_31 (by decide) rfl (fun hc => ?_) (fun hc => ?_)
      · replace h := if_t hc h
        refine ok_aload_n (q := 39) 1 d_S_read_38 rfl rfl rfl ?_
        refine gf_S_12 (q := 42) d_S_read_39 rfl ?_
        refine ok_iload_n (q := 43) 2 d_S_read_42 rfl rfl rfl ?_
        refine ok_iload_n (q := 44) 3 d_S_read_43 rfl rfl rfl ?_
        obtain ⟨x12, S10, hk, h⟩ := bd_e h
        refine cs_S_61 (q := 47) hk d_S_read_44 rfl (by decide) (Nat.le_of_ble_eq_true rfl) ?_
        refine ok_istore (q := 49) (lv := [(4, .int x12), (3, .int x3), (0, .ref (a 0)), (1, .int p1), (2, .int p2)]) d_S_read_47 (by decide) rfl rfl ?_
        refine ok_iload (q := 51) 0 d_S_read_49 rfl rfl ?_
        refine ok_iconst (v := (-1 : Int32)) (q := 52) d_S_read_51 (by decide) rfl ?_
        refine ok_icmp_ne (q := 55) (t := 59) d_S_read_52 (by decide) rfl (fun hc => ?_) (fun hc => ?_)
        · replace h := if_f hc h
          refine ok_aload_n (q := 60) 2 d_S_read_59 rfl rfl rfl ?_
          refine gf_S_12 (q := 63) d_S_read_60 rfl ?_
          refine ok_iload (q := 65) 0 d_S_read_63 rfl rfl ?_
          obtain ⟨y14, S13, hk, h⟩ := bd_e h
          refine cs_S_75 (q := 68) hk d_S_read_65 rfl (by decide) (Nat.le_of_ble_eq_true rfl) ?_
          obtain ⟨rfl, rfl⟩ := so_e h
          exact ok_lret d_S_read_68 ⟨rfl, rfl⟩
        · replace h := if_t hc h
          refine ok_lconst (v := (0 : Int64)) (q := 56) d_S_read_55 (by decide) rfl ?_
          refine ok_goto (q := 68) d_S_read_56 (by decide) ?_
          obtain ⟨rfl, rfl⟩ := so_e h
          exact ok_lret d_S_read_68 ⟨rfl, rfl⟩
      · replace h := if_f hc h
        refine ok_ldc2 (q := 37) wm_6 d_S_read_34 rfl ?_
        obtain ⟨rfl, rfl⟩ := so_e h
        exact ok_lret d_S_read_37 ⟨rfl, rfl⟩
  · replace h := if_f hc h
    refine ok_ldc2 (q := 13) wm_7 d_S_read_10 rfl ?_
    refine ok_iload_n (q := 14) 0 d_S_read_13 rfl rfl rfl ?_
    refine ok_i2l (q := 15) d_S_read_14 rfl ?_
    refine ok_ladd (q := 16) d_S_read_15 rfl ?_
    obtain ⟨rfl, rfl⟩ := so_e h
    exact ok_lret d_S_read_16 ⟨rfl, rfl⟩
set_option maxRecDepth 20000 in
set_option maxHeartbeats 4000000 in
theorem ct_S_read (p1 : Int32) (p2 : Int32) (S : TC) (z : Int64) (Sz : TC) (h : fn_S_read S p1 p2 = some (z, Sz)) : Ct (wC g a) D (tyC g) l y_S_read b_S_read 5 (some .long) rm_S_read [.ref (a 0), .int p1, .int p2] S (pL z Sz) := ct_of (by decide) (Nat.le_of_ble_eq_true rfl) rfl (wk_S_read p1 p2 S z Sz h)

set_option maxRecDepth 20000 in
set_option maxHeartbeats 4000000 in
theorem wl_S_markChunks_2 (n : Nat) : ∀ (p1 : Int32) (p3 : Int32) (S : TC) (z : Int32) (Sz : TC), lp_S_markChunks_2 n S p1 p3 = some (z, Sz) → Ok (wC g a) D (tyC g) l rm_S_markChunks R_S b_S_markChunks 5 (some .boolean) S 2 [(0, .ref (a 0)), (1, .int p1), (3, .int p3)] [] (pI z Sz) := by
  induction n with
  | zero => intro p1 p3 S z Sz h; exact absurd h (fun h => by cases h)
  | succ n ih =>
    intro p1 p3 S z Sz h
    rw [le_S_markChunks_2] at h
    refine ok_iload_n (q := 3) 2 d_S_markChunks_2 rfl rfl rfl ?_
    refine ok_bipush (v := (6 : Int32)) (q := 5) d_S_markChunks_3 (by decide) rfl ?_
    refine ok_icmp_gt (q := 8) (t := 45) d_S_markChunks_5 (by decide) rfl (fun hc => ?_) (fun hc => ?_)
    · replace h := if_t hc h
      refine ok_iconst (v := (1 : Int32)) (q := 46) d_S_markChunks_45 (by decide) rfl ?_
      obtain ⟨rfl, rfl⟩ := so_e h
      exact ok_zret d_S_markChunks_46 (by decide) ⟨rfl, rfl⟩
    · replace h := if_f hc h
      refine ok_aload_n (q := 9) 0 d_S_markChunks_8 rfl rfl rfl ?_
      refine gf_S_12 (q := 12) d_S_markChunks_9 rfl ?_
      refine ok_iload_n (q := 13) 1 d_S_markChunks_12 rfl rfl rfl ?_
      refine ok_iload_n (q := 14) 2 d_S_markChunks_13 rfl rfl rfl ?_
      obtain ⟨x3, S1, hk, h⟩ := bd_e h
      refine cs_S_61 (q := 17) hk d_S_markChunks_14 rfl (by decide) (Nat.le_of_ble_eq_true rfl) ?_
      refine ok_istore (q := 19) (lv := [(4, .int x3), (0, .ref (a 0)), (1, .int p1), (3, .int p3)]) d_S_markChunks_17 (by decide) rfl rfl ?_
      refine ok_iload (q := 21) 0 d_S_markChunks_19 rfl rfl ?_
      refine ok_iconst (v := (-1 : Int32)) (q := 22) d_S_markChunks_21 (by decide) rfl ?_
      refine ok_icmp_eq (q := 25) (t := 39) d_S_markChunks_22 (by decide) rfl (fun hc => ?_) (fun hc => ?_)
      · replace h := if_t hc h
        obtain ⟨x4, e_x4, h⟩ := st_e h
        refine ok_iinc (d := (1 : Int32)) (q := 42) (lv := [(3, .int x4), (4, .int x3), (0, .ref (a 0)), (1, .int p1)]) 3 d_S_markChunks_39 rfl (by decide) e_x4 (by decide) rfl rfl ?_
        refine ok_goto (q := 2) d_S_markChunks_42 (by decide) ?_
        exact ok_sub [2, 3, 0] rfl (ih p1 x4 _ _ _ h)
      · replace h := if_f hc h
        refine ok_aload_n (q := 26) 1 d_S_markChunks_25 rfl rfl rfl ?_
        refine gf_S_12 (q := 29) d_S_markChunks_26 rfl ?_
        refine ok_iload (q := 31) 0 d_S_markChunks_29 rfl rfl ?_
        obtain ⟨x7, S5, hk, h⟩ := bd_e h
        refine cs_S_185 (q := 34) hk d_S_markChunks_31 rfl (by decide) (Nat.le_of_ble_eq_true rfl) ?_
        refine ok_if_ne (q := 37) (t := 39) d_S_markChunks_34 (by decide) rfl (fun hc => ?_) (fun hc => ?_)
        · replace h := if_f hc h
          obtain ⟨x8, e_x8, h⟩ := st_e h
          refine ok_iinc (d := (1 : Int32)) (q := 42) (lv := [(3, .int x8), (4, .int x3), (0, .ref (a 0)), (1, .int p1)]) 3 d_S_markChunks_39 rfl (by decide) e_x8 (by decide) rfl rfl ?_
          refine ok_goto (q := 2) d_S_markChunks_42 (by decide) ?_
          exact ok_sub [2, 3, 0] rfl (ih p1 x8 _ _ _ h)
        · replace h := if_t hc h
          refine ok_iconst (v := (0 : Int32)) (q := 38) d_S_markChunks_37 (by decide) rfl ?_
          obtain ⟨rfl, rfl⟩ := so_e h
          exact ok_zret d_S_markChunks_38 (by decide) ⟨rfl, rfl⟩
set_option maxRecDepth 20000 in
set_option maxHeartbeats 4000000 in
theorem wk_S_markChunks (p1 : Int32) (p2 : Int32) (S : TC) (z : Int32) (Sz : TC) (h : fn_S_markChunks S p1 p2 = some (z, Sz)) : Ok (wC g a) D (tyC g) l rm_S_markChunks R_S b_S_markChunks 5 (some .boolean) S 0 [(0, .ref (a 0)), (1, .int p1), (2, .int p2)] [] (pI z Sz) := by
  unfold fn_S_markChunks at h
  refine ok_iload_n (q := 1) 2 d_S_markChunks_0 rfl rfl rfl ?_
  refine ok_istore_n (q := 2) (lv := [(3, .int p2), (0, .ref (a 0)), (1, .int p1), (2, .int p2)]) d_S_markChunks_1 rfl (by decide) rfl rfl ?_
  exact ok_sub [1, 2, 0] rfl (wl_S_markChunks_2 64 p1 p2 _ _ _ h)
set_option maxRecDepth 20000 in
set_option maxHeartbeats 4000000 in
theorem ct_S_markChunks (p1 : Int32) (p2 : Int32) (S : TC) (z : Int32) (Sz : TC) (h : fn_S_markChunks S p1 p2 = some (z, Sz)) : Ct (wC g a) D (tyC g) l y_S_markChunks b_S_markChunks 5 (some .boolean) rm_S_markChunks [.ref (a 0), .int p1, .int p2] S (pI z Sz) := ct_of (by decide) (Nat.le_of_ble_eq_true rfl) rfl (wk_S_markChunks p1 p2 S z Sz h)
theorem cs_S_79 {l : Launch} {D : va_G} {g : Nat → ClassId} {a : Nat → Nat} {rm : Room} {b : ByteArray} {nL : Nat} {ret : Option FieldType} {pc q : Nat} {Lc : List (Nat × Value)} {St : List Value} {S S2 : TC} {Post : Option Value → TC → Prop} {p1 : Int32} {p2 : Int32} {z : Int32} (hk : fn_S_markChunks S p1 p2 = some (z, S2)) (hd : decode b pc = .ok (.invokevirtual 79, 3)) (hq : pc + 3 = q) (hrm : rm_S_markChunks.frames + 1 ≤ rm.frames ∧ 8 + (5 + 11) + rm_S_markChunks.locals ≤ rm.locals) (hroom : (St.map fun v => v.category).sum ≤ 8) (k : Ok (wC g a) D (tyC g) l rm R_S b nL ret S2 q Lc (.int z :: St) Post) : Ok (wC g a) D (tyC g) l rm R_S b nL ret S pc Lc (.int p2 :: .int p1 :: .ref (a 0) :: St) Post := by
  subst hq
  exact ok_cV (As := [.int p1, .int p2]) (n := 2) (C := R_S) (T := F_S) (N := 3) (ci := 0) (q0 := 0) (ct_S_markChunks p1 p2 S z S2 hk) hd wm_254 ⟨wm_255, wm_256, wm_257, wm_204⟩ (by decide +kernel) ⟨⟨rfl, rfl⟩, hrm⟩ rfl rfl rfl rfl hroom ⟨Nat.zero_le _, Nat.zero_le _⟩ (fun v u h => by obtain ⟨rfl, rfl⟩ := h; exact k)
set_option maxRecDepth 20000 in
set_option maxHeartbeats 4000000 in
theorem wk_S_truncate (p1 : Int32) (p2 : Int32) (S : TC) (z : Int32) (Sz : TC) (h : fn_S_truncate S p1 p2 = some (z, Sz)) : Ok (wC g a) D (tyC g) l rm_S_truncate R_S b_S_truncate 6 (some .int) S 0 [(0, .ref (a 0)), (1, .int p1), (2, .int p2)] [] (pI z Sz) := by
  unfold fn_S_truncate at h
  refine ok_aload_n (q := 1) 0 d_S_truncate_0 rfl rfl rfl ?_
  refine ok_iload_n (q := 2) 1 d_S_truncate_1 rfl rfl rfl ?_
  obtain ⟨x3, S1, hk, h⟩ := bd_e h
  refine cs_S_52 (q := 5) hk d_S_truncate_2 rfl (by decide) (Nat.le_of_ble_eq_true rfl) ?_
  refine ok_istore_n (q := 6) (lv := [(3, .int x3), (0, .ref (a 0)), (1, .int p1), (2, .int p2)]) d_S_truncate_5 rfl (by decide) rfl rfl ?_
  refine ok_iload_n (q := 7) 0 d_S_truncate_6 rfl rfl rfl ?_
  refine ok_if_eq (q := 10) (t := 12) d_S_truncate_7 (by decide) rfl (fun hc => ?_) (fun hc => ?_)
  · replace h := if_t hc h
    refine ok_aload_n (q := 13) 1 d_S_truncate_12 rfl rfl rfl ?_
    refine ok_iload_n (q := 14) 2 d_S_truncate_13 rfl rfl rfl ?_
    obtain ⟨x6, S4, hk, h⟩ := bd_e h
    refine cs_S_55 (q := 17) hk d_S_truncate_14 rfl (by decide) (Nat.le_of_ble_eq_true rfl) ?_
    obtain ⟨x9, S7, hk, h⟩ := bd_e h
    refine cs_S_58 (q := 20) hk d_S_truncate_17 rfl (by decide) (Nat.le_of_ble_eq_true rfl) ?_
    refine ok_istore (q := 22) (lv := [(4, .int x9), (3, .int x3), (0, .ref (a 0)), (1, .int p1), (2, .int p2)]) d_S_truncate_20 (by decide) rfl rfl ?_
    refine ok_iload_n (q := 23) 4 d_S_truncate_22 rfl rfl rfl ?_
    refine ok_if_lt (q := 26) (t := 32) d_S_truncate_23 (by decide) rfl (fun hc => ?_) (fun hc => ?_)
    · replace h := if_t hc h
      refine ok_bipush (v := (-7 : Int32)) (q := 34) d_S_truncate_32 (by decide) rfl ?_
      obtain ⟨rfl, rfl⟩ := so_e h
      exact ok_iret d_S_truncate_34 ⟨rfl, rfl⟩
    · replace h := if_f hc h
      refine ok_iload_n (q := 27) 4 d_S_truncate_26 rfl rfl rfl ?_
      refine ok_iload (q := 29) 0 d_S_truncate_27 rfl rfl ?_
      refine ok_icmp_le (q := 32) (t := 35) d_S_truncate_29 (by decide) rfl (fun hc => ?_) (fun hc => ?_)
      · replace h := if_t hc h
        refine ok_iload_n (q := 36) 4 d_S_truncate_35 rfl rfl rfl ?_
        refine ok_iload (q := 38) 0 d_S_truncate_36 rfl rfl ?_
        refine ok_icmp_ne (q := 41) (t := 43) d_S_truncate_38 (by decide) rfl (fun hc => ?_) (fun hc => ?_)
        · replace h := if_f hc h
          refine ok_aload_n (q := 44) 2 d_S_truncate_43 rfl rfl rfl ?_
          refine ok_iconst (v := (1 : Int32)) (q := 45) d_S_truncate_44 (by decide) rfl ?_
          obtain ⟨x12, S10, hk, h⟩ := bd_e h
          refine cs_S_36 (q := 48) hk d_S_truncate_45 rfl (by decide) (Nat.le_of_ble_eq_true rfl) ?_
          refine ok_istore_n (q := 49) (lv := [(3, .int x12), (4, .int x9), (0, .ref (a 0)), (1, .int p1), (2, .int p2)]) d_S_truncate_48 rfl (by decide) rfl rfl ?_
          refine ok_iload_n (q := 50) 0 d_S_truncate_49 rfl rfl rfl ?_
          refine ok_if_eq (q := 53) (t := 55) d_S_truncate_50 (by decide) rfl (fun hc => ?_) (fun hc => ?_)
          · replace h := if_t hc h
            refine ok_aload_n (q := 56) 2 d_S_truncate_55 rfl rfl rfl ?_
            refine ok_iload_n (q := 57) 3 d_S_truncate_56 rfl rfl rfl ?_
            refine ok_iload_n (q := 58) 4 d_S_truncate_57 rfl rfl rfl ?_
            obtain ⟨x15, S13, hk, h⟩ := bd_e h
            refine cs_S_67 (q := 61) hk d_S_truncate_58 rfl (by decide) (Nat.le_of_ble_eq_true rfl) ?_
            refine ok_if_eq (q := 64) (t := 79) d_S_truncate_61 (by decide) rfl (fun hc => ?_) (fun hc => ?_)
            · replace h := if_t hc h
              refine ok_iconst (v := (0 : Int32)) (q := 80) d_S_truncate_79 (by decide) rfl ?_
              refine ok_istore (q := 82) (lv := [(5, .int (0 : Int32)), (3, .int x12), (4, .int x9), (0, .ref (a 0)), (1, .int p1), (2, .int p2)]) d_S_truncate_80 (by decide) rfl rfl ?_
              refine ok_iload (q := 84) 0 d_S_truncate_82 rfl rfl ?_
              refine ok_if_eq (q := 87) (t := 91) d_S_truncate_84 (by decide) rfl (fun _ => ?_) (fun hn => absurd hn (by decide))
              refine ok_aload_n (q := 92) 3 d_S_truncate_91 rfl rfl rfl ?_
              obtain ⟨x18, S16, hk, h⟩ := bd_e h
              refine cs_S_49 (q := 95) hk d_S_truncate_92 rfl (by decide) (Nat.le_of_ble_eq_true rfl) ?_
              obtain ⟨rfl, rfl⟩ := so_e h
              exact ok_iret d_S_truncate_95 ⟨rfl, rfl⟩
            · replace h := if_f hc h
              refine ok_aload_n (q := 65) 2 d_S_truncate_64 rfl rfl rfl ?_
              refine ok_iload_n (q := 66) 3 d_S_truncate_65 rfl rfl rfl ?_
              refine ok_iload_n (q := 67) 4 d_S_truncate_66 rfl rfl rfl ?_
              refine ok_iconst (v := (1 : Int32)) (q := 68) d_S_truncate_67 (by decide) rfl ?_
              refine ok_iadd (q := 69) d_S_truncate_68 rfl ?_
              obtain ⟨x21, S19, hk, h⟩ := bd_e h
              refine cs_S_79 (q := 72) hk d_S_truncate_69 rfl (by decide) (Nat.le_of_ble_eq_true rfl) ?_
              refine ok_if_eq (q := 75) (t := 79) d_S_truncate_72 (by decide) rfl (fun hc => ?_) (fun hc => ?_)
              · replace h := if_t hc h
                refine ok_iconst (v := (0 : Int32)) (q := 80) d_S_truncate_79 (by decide) rfl ?_
                refine ok_istore (q := 82) (lv := [(5, .int (0 : Int32)), (3, .int x12), (4, .int x9), (0, .ref (a 0)), (1, .int p1), (2, .int p2)]) d_S_truncate_80 (by decide) rfl rfl ?_
                refine ok_iload (q := 84) 0 d_S_truncate_82 rfl rfl ?_
                refine ok_if_eq (q := 87) (t := 91) d_S_truncate_84 (by decide) rfl (fun _ => ?_) (fun hn => absurd hn (by decide))
                refine ok_aload_n (q := 92) 3 d_S_truncate_91 rfl rfl rfl ?_
                obtain ⟨x24, S22, hk, h⟩ := bd_e h
                refine cs_S_49 (q := 95) hk d_S_truncate_92 rfl (by decide) (Nat.le_of_ble_eq_true rfl) ?_
                obtain ⟨rfl, rfl⟩ := so_e h
                exact ok_iret d_S_truncate_95 ⟨rfl, rfl⟩
              · replace h := if_f hc h
                refine ok_iconst (v := (1 : Int32)) (q := 76) d_S_truncate_75 (by decide) rfl ?_
                refine ok_goto (q := 80) d_S_truncate_76 (by decide) ?_
                refine ok_istore (q := 82) (lv := [(5, .int (1 : Int32)), (3, .int x12), (4, .int x9), (0, .ref (a 0)), (1, .int p1), (2, .int p2)]) d_S_truncate_80 (by decide) rfl rfl ?_
                refine ok_iload (q := 84) 0 d_S_truncate_82 rfl rfl ?_
                refine ok_if_eq (q := 87) (t := 91) d_S_truncate_84 (by decide) rfl (fun hn => absurd hn (by decide)) (fun _ => ?_)
                refine ok_iconst (v := (0 : Int32)) (q := 88) d_S_truncate_87 (by decide) rfl ?_
                refine ok_goto (q := 95) d_S_truncate_88 (by decide) ?_
                obtain ⟨rfl, rfl⟩ := so_e h
                exact ok_iret d_S_truncate_95 ⟨rfl, rfl⟩
          · replace h := if_f hc h
            refine ok_iload_n (q := 54) 0 d_S_truncate_53 rfl rfl rfl ?_
            obtain ⟨rfl, rfl⟩ := so_e h
            exact ok_iret d_S_truncate_54 ⟨rfl, rfl⟩
        · replace h := if_t hc h
          refine ok_iconst (v := (0 : Int32)) (q := 42) d_S_truncate_41 (by decide) rfl ?_
          obtain ⟨rfl, rfl⟩ := so_e h
          exact ok_iret d_S_truncate_42 ⟨rfl, rfl⟩
      · replace h := if_f hc h
        refine ok_bipush (v := (-7 : Int32)) (q := 34) d_S_truncate_32 (by decide) rfl ?_
        obtain ⟨rfl, rfl⟩ := so_e h
        exact ok_iret d_S_truncate_34 ⟨rfl, rfl⟩
  · replace h := if_f hc h
    refine ok_iload_n (q := 11) 0 d_S_truncate_10 rfl rfl rfl ?_
    obtain ⟨rfl, rfl⟩ := so_e h
    exact ok_iret d_S_truncate_11 ⟨rfl, rfl⟩
set_option maxRecDepth 20000 in
set_option maxHeartbeats 4000000 in
theorem ct_S_truncate (p1 : Int32) (p2 : Int32) (S : TC) (z : Int32) (Sz : TC) (h : fn_S_truncate S p1 p2 = some (z, Sz)) : Ct (wC g a) D (tyC g) l y_S_truncate b_S_truncate 6 (some .int) rm_S_truncate [.ref (a 0), .int p1, .int p2] S (pI z Sz) := ct_of (by decide) (Nat.le_of_ble_eq_true rfl) rfl (wk_S_truncate p1 p2 S z Sz h)

set_option maxRecDepth 20000 in
set_option maxHeartbeats 4000000 in
theorem wl_S_liesIn_5 (n : Nat) : ∀ (p2 : Int32) (p3 : Int32) (p4 : Int32) (S : TC) (z : Int32) (Sz : TC), lp_S_liesIn_5 n S p2 p3 p4 = some (z, Sz) → Ok (wC g a) D (tyC g) l rm_S_liesIn R_S b_S_liesIn 5 (some .boolean) S 5 [(0, .ref (a 0)), (2, .int p2), (3, .int p3), (4, .int p4)] [] (pI z Sz) := by
  induction n with
  | zero => intro p2 p3 p4 S z Sz h; exact absurd h (fun h => by cases h)
  | succ n ih =>
    intro p2 p3 p4 S z Sz h
    rw [le_S_liesIn_5] at h
    refine ok_iload (q := 7) 3 d_S_liesIn_5 rfl rfl ?_
    refine ok_bipush (v := (7 : Int32)) (q := 9) d_S_liesIn_7 (by decide) rfl ?_
    refine ok_icmp_gt (q := 12) (t := 38) d_S_liesIn_9 (by decide) rfl (fun hc => ?_) (fun hc => ?_)
    · replace h := if_t hc h
      refine ok_iconst (v := (0 : Int32)) (q := 39) d_S_liesIn_38 (by decide) rfl ?_
      obtain ⟨rfl, rfl⟩ := so_e h
      exact ok_zret d_S_liesIn_39 (by decide) ⟨rfl, rfl⟩
    · replace h := if_f hc h
      refine ok_iload_n (q := 13) 2 d_S_liesIn_12 rfl rfl rfl ?_
      refine ok_if_eq (q := 16) (t := 38) d_S_liesIn_13 (by decide) rfl (fun hc => ?_) (fun hc => ?_)
      · replace h := if_t hc h
        refine ok_iconst (v := (0 : Int32)) (q := 39) d_S_liesIn_38 (by decide) rfl ?_
        obtain ⟨rfl, rfl⟩ := so_e h
        exact ok_zret d_S_liesIn_39 (by decide) ⟨rfl, rfl⟩
      · replace h := if_f hc h
        refine ok_iload_n (q := 17) 2 d_S_liesIn_16 rfl rfl rfl ?_
        refine ok_iload_n (q := 18) 1 d_S_liesIn_17 rfl rfl rfl ?_
        refine ok_icmp_ne (q := 21) (t := 23) d_S_liesIn_18 (by decide) rfl (fun hc => ?_) (fun hc => ?_)
        · replace h := if_f hc h
          refine ok_aload_n (q := 24) 0 d_S_liesIn_23 rfl rfl rfl ?_
          refine ok_iload_n (q := 25) 2 d_S_liesIn_24 rfl rfl rfl ?_
          obtain ⟨x3, S1, hk, h⟩ := bd_e h
          refine cs_S_55 (q := 28) hk d_S_liesIn_25 rfl (by decide) (Nat.le_of_ble_eq_true rfl) ?_
          obtain ⟨x6, S4, hk, h⟩ := bd_e h
          refine cs_S_101 (q := 31) hk d_S_liesIn_28 rfl (by decide) (Nat.le_of_ble_eq_true rfl) ?_
          refine ok_istore_n (q := 32) (lv := [(3, .int x6), (0, .ref (a 0)), (2, .int p2), (4, .int p4)]) d_S_liesIn_31 rfl (by decide) rfl rfl ?_
          obtain ⟨x7, e_x7, h⟩ := st_e h
          refine ok_iinc (d := (1 : Int32)) (q := 35) (lv := [(4, .int x7), (3, .int x6), (0, .ref (a 0)), (2, .int p2)]) 3 d_S_liesIn_32 rfl (by decide) e_x7 (by decide) rfl rfl ?_
          refine ok_goto (q := 5) d_S_liesIn_35 (by decide) ?_
          exact ok_sub [2, 3, 1, 0] rfl (ih p2 x6 x7 _ _ _ h)
        · replace h := if_t hc h
          refine ok_iconst (v := (1 : Int32)) (q := 22) d_S_liesIn_21 (by decide) rfl ?_
          obtain ⟨rfl, rfl⟩ := so_e h
          exact ok_zret d_S_liesIn_22 (by decide) ⟨rfl, rfl⟩
set_option maxRecDepth 20000 in
set_option maxHeartbeats 4000000 in
theorem wk_S_liesIn (p1 : Int32) (p2 : Int32) (S : TC) (z : Int32) (Sz : TC) (h : fn_S_liesIn S p1 p2 = some (z, Sz)) : Ok (wC g a) D (tyC g) l rm_S_liesIn R_S b_S_liesIn 5 (some .boolean) S 0 [(0, .ref (a 0)), (1, .int p1), (2, .int p2)] [] (pI z Sz) := by
  unfold fn_S_liesIn at h
  refine ok_iload_n (q := 1) 1 d_S_liesIn_0 rfl rfl rfl ?_
  refine ok_istore_n (q := 2) (lv := [(3, .int p1), (0, .ref (a 0)), (1, .int p1), (2, .int p2)]) d_S_liesIn_1 rfl (by decide) rfl rfl ?_
  refine ok_iconst (v := (0 : Int32)) (q := 3) d_S_liesIn_2 (by decide) rfl ?_
  refine ok_istore (q := 5) (lv := [(4, .int (0 : Int32)), (3, .int p1), (0, .ref (a 0)), (1, .int p1), (2, .int p2)]) d_S_liesIn_3 (by decide) rfl rfl ?_
  exact ok_sub [2, 4, 1, 0] rfl (wl_S_liesIn_5 64 p2 p1 (0 : Int32) _ _ _ h)
set_option maxRecDepth 20000 in
set_option maxHeartbeats 4000000 in
theorem ct_S_liesIn (p1 : Int32) (p2 : Int32) (S : TC) (z : Int32) (Sz : TC) (h : fn_S_liesIn S p1 p2 = some (z, Sz)) : Ct (wC g a) D (tyC g) l y_S_liesIn b_S_liesIn 5 (some .boolean) rm_S_liesIn [.ref (a 0), .int p1, .int p2] S (pI z Sz) := ct_of (by decide) (Nat.le_of_ble_eq_true rfl) rfl (wk_S_liesIn p1 p2 S z Sz h)
theorem cs_S_85 {l : Launch} {D : va_G} {g : Nat → ClassId} {a : Nat → Nat} {rm : Room} {b : ByteArray} {nL : Nat} {ret : Option FieldType} {pc q : Nat} {Lc : List (Nat × Value)} {St : List Value} {S S2 : TC} {Post : Option Value → TC → Prop} {p1 : Int32} {p2 : Int32} {z : Int32} (hk : fn_S_liesIn S p1 p2 = some (z, S2)) (hd : decode b pc = .ok (.invokevirtual 85, 3)) (hq : pc + 3 = q) (hrm : rm_S_liesIn.frames + 1 ≤ rm.frames ∧ 8 + (5 + 11) + rm_S_liesIn.locals ≤ rm.locals) (hroom : (St.map fun v => v.category).sum ≤ 8) (k : Ok (wC g a) D (tyC g) l rm R_S b nL ret S2 q Lc (.int z :: St) Post) : Ok (wC g a) D (tyC g) l rm R_S b nL ret S pc Lc (.int p2 :: .int p1 :: .ref (a 0) :: St) Post := by
  subst hq
  exact ok_cV (As := [.int p1, .int p2]) (n := 2) (C := R_S) (T := F_S) (N := 3) (ci := 0) (q0 := 0) (ct_S_liesIn p1 p2 S z S2 hk) hd wm_262 ⟨wm_263, wm_264, wm_265, wm_204⟩ (by decide +kernel) ⟨⟨rfl, rfl⟩, hrm⟩ rfl rfl rfl rfl hroom ⟨Nat.zero_le _, Nat.zero_le _⟩ (fun v u h => by obtain ⟨rfl, rfl⟩ := h; exact k)
set_option maxRecDepth 20000 in
set_option maxHeartbeats 4000000 in
theorem wk_T_withParent (p0 : Int32) (p1 : Int32) (S : TC) (z : Int32) (Sz : TC) (h : fn_T_withParent S p0 p1 = some (z, Sz)) : Ok (wC g a) D (tyC g) l rm_T_withParent R_T b_T_withParent 2 (some .int) S 0 [(0, .int p0), (1, .int p1)] [] (pI z Sz) := by
  unfold fn_T_withParent at h
  refine ok_iload_n (q := 1) 0 d_T_withParent_0 rfl rfl rfl ?_
  refine ok_sipush (v := (-3585 : Int32)) (q := 4) d_T_withParent_1 (by decide) rfl ?_
  refine ok_iand (q := 5) d_T_withParent_4 rfl ?_
  refine ok_iload_n (q := 6) 1 d_T_withParent_5 rfl rfl rfl ?_
  refine ok_bipush (v := (9 : Int32)) (q := 8) d_T_withParent_6 (by decide) rfl ?_
  refine ok_ishl (q := 9) d_T_withParent_8 rfl ?_
  refine ok_ior (q := 10) d_T_withParent_9 rfl ?_
  obtain ⟨rfl, rfl⟩ := so_e h
  exact ok_iret d_T_withParent_10 ⟨rfl, rfl⟩
set_option maxRecDepth 20000 in
set_option maxHeartbeats 4000000 in
theorem ct_T_withParent (p0 : Int32) (p1 : Int32) (S : TC) (z : Int32) (Sz : TC) (h : fn_T_withParent S p0 p1 = some (z, Sz)) : Ct (wC g a) D (tyC g) l y_T_withParent b_T_withParent 2 (some .int) rm_T_withParent [.int p0, .int p1] S (pI z Sz) := ct_of (by decide) (Nat.le_of_ble_eq_true rfl) rfl (wk_T_withParent p0 p1 S z Sz h)
theorem cs_S_88 {l : Launch} {D : va_G} {g : Nat → ClassId} {a : Nat → Nat} {rm : Room} {b : ByteArray} {nL : Nat} {ret : Option FieldType} {pc q : Nat} {Lc : List (Nat × Value)} {St : List Value} {S S2 : TC} {Post : Option Value → TC → Prop} {p0 : Int32} {p1 : Int32} {z : Int32} (hk : fn_T_withParent S p0 p1 = some (z, S2)) (hd : decode b pc = .ok (.invokestatic 88, 3)) (hq : pc + 3 = q) (hrm : rm_T_withParent.frames + 1 ≤ rm.frames ∧ 8 + (2 + 11) + rm_T_withParent.locals ≤ rm.locals) (hroom : (St.map fun v => v.category).sum ≤ 8) (k : Ok (wC g a) D (tyC g) l rm R_S b nL ret S2 q Lc (.int z :: St) Post) : Ok (wC g a) D (tyC g) l rm R_S b nL ret S pc Lc (.int p1 :: .int p0 :: St) Post := by
  subst hq
  exact ok_cS (As := [.int p0, .int p1]) (n := 2) (ct_T_withParent p0 p1 S z S2 hk) hd wm_266 ⟨wm_267, wm_268, wm_73⟩ (by decide +kernel) ⟨⟨rfl, rfl⟩, hrm⟩ rfl rfl hroom ⟨Nat.zero_le _, Nat.zero_le _⟩ (fun v u h => by obtain ⟨rfl, rfl⟩ := h; exact k)
set_option maxRecDepth 20000 in
set_option maxHeartbeats 4000000 in
theorem wk_S_move (p1 : Int32) (p2 : Int32) (p3 : Int32) (S : TC) (z : Int32) (Sz : TC) (h : fn_S_move S p1 p2 p3 = some (z, Sz)) : Ok (wC g a) D (tyC g) l rm_S_move R_S b_S_move 8 (some .int) S 0 [(0, .ref (a 0)), (1, .int p1), (2, .int p2), (3, .int p3)] [] (pI z Sz) := by
  unfold fn_S_move at h
  refine ok_aload_n (q := 1) 0 d_S_move_0 rfl rfl rfl ?_
  refine ok_iload_n (q := 2) 1 d_S_move_1 rfl rfl rfl ?_
  obtain ⟨x3, S1, hk, h⟩ := bd_e h
  refine cs_S_82 (q := 5) hk d_S_move_2 rfl (by decide) (Nat.le_of_ble_eq_true rfl) ?_
  refine ok_istore (q := 7) (lv := [(4, .int x3), (0, .ref (a 0)), (1, .int p1), (2, .int p2), (3, .int p3)]) d_S_move_5 (by decide) rfl rfl ?_
  refine ok_iload (q := 9) 0 d_S_move_7 rfl rfl ?_
  refine ok_if_ne (q := 12) (t := 19) d_S_move_9 (by decide) rfl (fun hc => ?_) (fun hc => ?_)
  · replace h := if_f hc h
    refine ok_iload (q := 21) 0 d_S_move_19 rfl rfl ?_
    refine ok_if_eq (q := 24) (t := 27) d_S_move_21 (by decide) rfl (fun hc => ?_) (fun hc => ?_)
    · replace h := if_t hc h
      refine ok_aload_n (q := 28) 1 d_S_move_27 rfl rfl rfl ?_
      refine ok_iload_n (q := 29) 3 d_S_move_28 rfl rfl rfl ?_
      refine ok_iload_n (q := 30) 2 d_S_move_29 rfl rfl rfl ?_
      obtain ⟨x6, S4, hk, h⟩ := bd_e h
      refine cs_S_85 (q := 33) hk d_S_move_30 rfl (by decide) (Nat.le_of_ble_eq_true rfl) ?_
      refine ok_if_eq (q := 36) (t := 39) d_S_move_33 (by decide) rfl (fun hc => ?_) (fun hc => ?_)
      · replace h := if_t hc h
        refine ok_aload_n (q := 40) 1 d_S_move_39 rfl rfl rfl ?_
        refine ok_iload_n (q := 41) 3 d_S_move_40 rfl rfl rfl ?_
        refine ok_iload_n (q := 42) 4 d_S_move_41 rfl rfl rfl ?_
        obtain ⟨x9, S7, hk, h⟩ := bd_e h
        refine cs_S_28 (q := 45) hk d_S_move_42 rfl (by decide) (Nat.le_of_ble_eq_true rfl) ?_
        refine ok_istore (q := 47) (lv := [(5, .int x9), (4, .int x3), (0, .ref (a 0)), (1, .int p1), (2, .int p2), (3, .int p3)]) d_S_move_45 (by decide) rfl rfl ?_
        refine ok_iload (q := 49) 0 d_S_move_47 rfl rfl ?_
        refine ok_if_eq (q := 52) (t := 61) d_S_move_49 (by decide) rfl (fun hc => ?_) (fun hc => ?_)
        · replace h := if_t hc h
          refine ok_aload_n (q := 62) 2 d_S_move_61 rfl rfl rfl ?_
          refine ok_iconst (v := (1 : Int32)) (q := 63) d_S_move_62 (by decide) rfl ?_
          obtain ⟨x12, S10, hk, h⟩ := bd_e h
          refine cs_S_36 (q := 66) hk d_S_move_63 rfl (by decide) (Nat.le_of_ble_eq_true rfl) ?_
          refine ok_istore (q := 68) (lv := [(4, .int x12), (5, .int x9), (0, .ref (a 0)), (1, .int p1), (2, .int p2), (3, .int p3)]) d_S_move_66 (by decide) rfl rfl ?_
          refine ok_iload (q := 70) 0 d_S_move_68 rfl rfl ?_
          refine ok_if_eq (q := 73) (t := 76) d_S_move_70 (by decide) rfl (fun hc => ?_) (fun hc => ?_)
          · replace h := if_t hc h
            refine ok_aload_n (q := 77) 2 d_S_move_76 rfl rfl rfl ?_
            refine gf_S_12 (q := 80) d_S_move_77 rfl ?_
            refine ok_iload_n (q := 81) 3 d_S_move_80 rfl rfl rfl ?_
            refine ok_iconst (v := (0 : Int32)) (q := 82) d_S_move_81 (by decide) rfl ?_
            obtain ⟨x15, S13, hk, h⟩ := bd_e h
            refine cs_S_61 (q := 85) hk d_S_move_82 rfl (by decide) (Nat.le_of_ble_eq_true rfl) ?_
            refine ok_istore (q := 87) (lv := [(6, .int x15), (4, .int x12), (5, .int x9), (0, .ref (a 0)), (1, .int p1), (2, .int p2), (3, .int p3)]) d_S_move_85 (by decide) rfl rfl ?_
            refine ok_aload_n (q := 88) 3 d_S_move_87 rfl rfl rfl ?_
            refine ok_iload (q := 90) 0 d_S_move_88 rfl rfl ?_
            refine ok_aload_n (q := 91) 3 d_S_move_90 rfl rfl rfl ?_
            refine ok_iload_n (q := 92) 4 d_S_move_91 rfl rfl rfl ?_
            obtain ⟨x18, S16, hk, h⟩ := bd_e h
            refine cs_S_55 (q := 95) hk d_S_move_92 rfl (by decide) (Nat.le_of_ble_eq_true rfl) ?_
            refine ok_iload_n (q := 96) 5 d_S_move_95 rfl rfl rfl ?_
            obtain ⟨x21, S19, hk, h⟩ := bd_e h
            refine cs_S_88 (q := 99) hk d_S_move_96 rfl (by decide) (Nat.le_of_ble_eq_true rfl) ?_
            refine ok_iload_n (q := 100) 6 d_S_move_99 rfl rfl rfl ?_
            refine ok_lconst (v := (0 : Int64)) (q := 101) d_S_move_100 (by decide) rfl ?_
            obtain ⟨x24, S22, hk, h⟩ := bd_e h
            refine cs_S_45 (q := 104) hk d_S_move_101 rfl (by decide) (Nat.le_of_ble_eq_true rfl) ?_
            refine ok_istore (q := 106) (lv := [(7, .int x24), (6, .int x15), (4, .int x12), (5, .int x9), (0, .ref (a 0)), (1, .int p1), (2, .int p2), (3, .int p3)]) d_S_move_104 (by decide) rfl rfl ?_
            refine ok_iload (q := 108) 0 d_S_move_106 rfl rfl ?_
            refine ok_if_eq (q := 111) (t := 115) d_S_move_108 (by decide) rfl (fun hc => ?_) (fun hc => ?_)
            · replace h := if_t hc h
              refine ok_aload_n (q := 116) 4 d_S_move_115 rfl rfl rfl ?_
              obtain ⟨x27, S25, hk, h⟩ := bd_e h
              refine cs_S_49 (q := 119) hk d_S_move_116 rfl (by decide) (Nat.le_of_ble_eq_true rfl) ?_
              obtain ⟨rfl, rfl⟩ := so_e h
              exact ok_iret d_S_move_119 ⟨rfl, rfl⟩
            · replace h := if_f hc h
              refine ok_iconst (v := (0 : Int32)) (q := 112) d_S_move_111 (by decide) rfl ?_
              refine ok_goto (q := 119) d_S_move_112 (by decide) ?_
              obtain ⟨rfl, rfl⟩ := so_e h
              exact ok_iret d_S_move_119 ⟨rfl, rfl⟩
          · replace h := if_f hc h
            refine ok_iload (q := 75) 0 d_S_move_73 rfl rfl ?_
            obtain ⟨rfl, rfl⟩ := so_e h
            exact ok_iret d_S_move_75 ⟨rfl, rfl⟩
        · replace h := if_f hc h
          refine ok_iload (q := 54) 0 d_S_move_52 rfl rfl ?_
          refine ok_iload_n (q := 55) 3 d_S_move_54 rfl rfl rfl ?_
          refine ok_icmp_eq (q := 58) (t := 61) d_S_move_55 (by decide) rfl (fun hc => ?_) (fun hc => ?_)
          · replace h := if_t hc h
            refine ok_aload_n (q := 62) 2 d_S_move_61 rfl rfl rfl ?_
            refine ok_iconst (v := (1 : Int32)) (q := 63) d_S_move_62 (by decide) rfl ?_
            obtain ⟨x30, S28, hk, h⟩ := bd_e h
            refine cs_S_36 (q := 66) hk d_S_move_63 rfl (by decide) (Nat.le_of_ble_eq_true rfl) ?_
            refine ok_istore (q := 68) (lv := [(4, .int x30), (5, .int x9), (0, .ref (a 0)), (1, .int p1), (2, .int p2), (3, .int p3)]) d_S_move_66 (by decide) rfl rfl ?_
            refine ok_iload (q := 70) 0 d_S_move_68 rfl rfl ?_
            refine ok_if_eq (q := 73) (t := 76) d_S_move_70 (by decide) rfl (fun hc => ?_) (fun hc => ?_)
            · replace h := if_t hc h
              refine ok_aload_n (q := 77) 2 d_S_move_76 rfl rfl rfl ?_
              refine gf_S_12 (q := 80) d_S_move_77 rfl ?_
              refine ok_iload_n (q := 81) 3 d_S_move_80 rfl rfl rfl ?_
              refine ok_iconst (v := (0 : Int32)) (q := 82) d_S_move_81 (by decide) rfl ?_
              obtain ⟨x33, S31, hk, h⟩ := bd_e h
              refine cs_S_61 (q := 85) hk d_S_move_82 rfl (by decide) (Nat.le_of_ble_eq_true rfl) ?_
              refine ok_istore (q := 87) (lv := [(6, .int x33), (4, .int x30), (5, .int x9), (0, .ref (a 0)), (1, .int p1), (2, .int p2), (3, .int p3)]) d_S_move_85 (by decide) rfl rfl ?_
              refine ok_aload_n (q := 88) 3 d_S_move_87 rfl rfl rfl ?_
              refine ok_iload (q := 90) 0 d_S_move_88 rfl rfl ?_
              refine ok_aload_n (q := 91) 3 d_S_move_90 rfl rfl rfl ?_
              refine ok_iload_n (q := 92) 4 d_S_move_91 rfl rfl rfl ?_
              obtain ⟨x36, S34, hk, h⟩ := bd_e h
              refine cs_S_55 (q := 95) hk d_S_move_92 rfl (by decide) (Nat.le_of_ble_eq_true rfl) ?_
              refine ok_iload_n (q := 96) 5 d_S_move_95 rfl rfl rfl ?_
              obtain ⟨x39, S37, hk, h⟩ := bd_e h
              refine cs_S_88 (q := 99) hk d_S_move_96 rfl (by decide) (Nat.le_of_ble_eq_true rfl) ?_
              refine ok_iload_n (q := 100) 6 d_S_move_99 rfl rfl rfl ?_
              refine ok_lconst (v := (0 : Int64)) (q := 101) d_S_move_100 (by decide) rfl ?_
              obtain ⟨x42, S40, hk, h⟩ := bd_e h
              refine cs_S_45 (q := 104) hk d_S_move_101 rfl (by decide) (Nat.le_of_ble_eq_true rfl) ?_
              refine ok_istore (q := 106) (lv := [(7, .int x42), (6, .int x33), (4, .int x30), (5, .int x9), (0, .ref (a 0)), (1, .int p1), (2, .int p2), (3, .int p3)]) d_S_move_104 (by decide) rfl rfl ?_
              refine ok_iload (q := 108) 0 d_S_move_106 rfl rfl ?_
              refine ok_if_eq (q := 111) (t := 115) d_S_move_108 (by decide) rfl (fun hc => ?_) (fun hc => ?_)
              · replace h := if_t hc h
                refine ok_aload_n (q := 116) 4 d_S_move_115 rfl rfl rfl ?_
                obtain ⟨x45, S43, hk, h⟩ := bd_e h
                refine cs_S_49 (q := 119) hk d_S_move_116 rfl (by decide) (Nat.le_of_ble_eq_true rfl) ?_
                obtain ⟨rfl, rfl⟩ := so_e h
                exact ok_iret d_S_move_119 ⟨rfl, rfl⟩
              · replace h := if_f hc h
                refine ok_iconst (v := (0 : Int32)) (q := 112) d_S_move_111 (by decide) rfl ?_
                refine ok_goto (q := 119) d_S_move_112 (by decide) ?_
                obtain ⟨rfl, rfl⟩ := so_e h
                exact ok_iret d_S_move_119 ⟨rfl, rfl⟩
            · replace h := if_f hc h
              refine ok_iload (q := 75) 0 d_S_move_73 rfl rfl ?_
              obtain ⟨rfl, rfl⟩ := so_e h
              exact ok_iret d_S_move_75 ⟨rfl, rfl⟩
          · replace h := if_f hc h
            refine ok_bipush (v := (-4 : Int32)) (q := 60) d_S_move_58 (by decide) rfl ?_
            obtain ⟨rfl, rfl⟩ := so_e h
            exact ok_iret d_S_move_60 ⟨rfl, rfl⟩
      · replace h := if_f hc h
        refine ok_bipush (v := (-10 : Int32)) (q := 38) d_S_move_36 (by decide) rfl ?_
        obtain ⟨rfl, rfl⟩ := so_e h
        exact ok_iret d_S_move_38 ⟨rfl, rfl⟩
    · replace h := if_f hc h
      refine ok_iload (q := 26) 0 d_S_move_24 rfl rfl ?_
      obtain ⟨rfl, rfl⟩ := so_e h
      exact ok_iret d_S_move_26 ⟨rfl, rfl⟩
  · replace h := if_t hc h
    refine ok_aload_n (q := 13) 1 d_S_move_12 rfl rfl rfl ?_
    refine ok_iload_n (q := 14) 3 d_S_move_13 rfl rfl rfl ?_
    obtain ⟨x48, S46, hk, h⟩ := bd_e h
    refine cs_S_24 (q := 17) hk d_S_move_14 rfl (by decide) (Nat.le_of_ble_eq_true rfl) ?_
    refine ok_istore (q := 19) (lv := [(4, .int x48), (0, .ref (a 0)), (1, .int p1), (2, .int p2), (3, .int p3)]) d_S_move_17 (by decide) rfl rfl ?_
    refine ok_iload (q := 21) 0 d_S_move_19 rfl rfl ?_
    refine ok_if_eq (q := 24) (t := 27) d_S_move_21 (by decide) rfl (fun hc => ?_) (fun hc => ?_)
    · replace h := if_t hc h
      refine ok_aload_n (q := 28) 1 d_S_move_27 rfl rfl rfl ?_
      refine ok_iload_n (q := 29) 3 d_S_move_28 rfl rfl rfl ?_
      refine ok_iload_n (q := 30) 2 d_S_move_29 rfl rfl rfl ?_
      obtain ⟨x51, S49, hk, h⟩ := bd_e h
      refine cs_S_85 (q := 33) hk d_S_move_30 rfl (by decide) (Nat.le_of_ble_eq_true rfl) ?_
      refine ok_if_eq (q := 36) (t := 39) d_S_move_33 (by decide) rfl (fun hc => ?_) (fun hc => ?_)
      · replace h := if_t hc h
        refine ok_aload_n (q := 40) 1 d_S_move_39 rfl rfl rfl ?_
        refine ok_iload_n (q := 41) 3 d_S_move_40 rfl rfl rfl ?_
        refine ok_iload_n (q := 42) 4 d_S_move_41 rfl rfl rfl ?_
        obtain ⟨x54, S52, hk, h⟩ := bd_e h
        refine cs_S_28 (q := 45) hk d_S_move_42 rfl (by decide) (Nat.le_of_ble_eq_true rfl) ?_
        refine ok_istore (q := 47) (lv := [(5, .int x54), (4, .int x48), (0, .ref (a 0)), (1, .int p1), (2, .int p2), (3, .int p3)]) d_S_move_45 (by decide) rfl rfl ?_
        refine ok_iload (q := 49) 0 d_S_move_47 rfl rfl ?_
        refine ok_if_eq (q := 52) (t := 61) d_S_move_49 (by decide) rfl (fun hc => ?_) (fun hc => ?_)
        · replace h := if_t hc h
          refine ok_aload_n (q := 62) 2 d_S_move_61 rfl rfl rfl ?_
          refine ok_iconst (v := (1 : Int32)) (q := 63) d_S_move_62 (by decide) rfl ?_
          obtain ⟨x57, S55, hk, h⟩ := bd_e h
          refine cs_S_36 (q := 66) hk d_S_move_63 rfl (by decide) (Nat.le_of_ble_eq_true rfl) ?_
          refine ok_istore (q := 68) (lv := [(4, .int x57), (5, .int x54), (0, .ref (a 0)), (1, .int p1), (2, .int p2), (3, .int p3)]) d_S_move_66 (by decide) rfl rfl ?_
          refine ok_iload (q := 70) 0 d_S_move_68 rfl rfl ?_
          refine ok_if_eq (q := 73) (t := 76) d_S_move_70 (by decide) rfl (fun hc => ?_) (fun hc => ?_)
          · replace h := if_t hc h
            refine ok_aload_n (q := 77) 2 d_S_move_76 rfl rfl rfl ?_
            refine gf_S_12 (q := 80) d_S_move_77 rfl ?_
            refine ok_iload_n (q := 81) 3 d_S_move_80 rfl rfl rfl ?_
            refine ok_iconst (v := (0 : Int32)) (q := 82) d_S_move_81 (by decide) rfl ?_
            obtain ⟨x60, S58, hk, h⟩ := bd_e h
            refine cs_S_61 (q := 85) hk d_S_move_82 rfl (by decide) (Nat.le_of_ble_eq_true rfl) ?_
            refine ok_istore (q := 87) (lv := [(6, .int x60), (4, .int x57), (5, .int x54), (0, .ref (a 0)), (1, .int p1), (2, .int p2), (3, .int p3)]) d_S_move_85 (by decide) rfl rfl ?_
            refine ok_aload_n (q := 88) 3 d_S_move_87 rfl rfl rfl ?_
            refine ok_iload (q := 90) 0 d_S_move_88 rfl rfl ?_
            refine ok_aload_n (q := 91) 3 d_S_move_90 rfl rfl rfl ?_
            refine ok_iload_n (q := 92) 4 d_S_move_91 rfl rfl rfl ?_
            obtain ⟨x63, S61, hk, h⟩ := bd_e h
            refine cs_S_55 (q := 95) hk d_S_move_92 rfl (by decide) (Nat.le_of_ble_eq_true rfl) ?_
            refine ok_iload_n (q := 96) 5 d_S_move_95 rfl rfl rfl ?_
            obtain ⟨x66, S64, hk, h⟩ := bd_e h
            refine cs_S_88 (q := 99) hk d_S_move_96 rfl (by decide) (Nat.le_of_ble_eq_true rfl) ?_
            refine ok_iload_n (q := 100) 6 d_S_move_99 rfl rfl rfl ?_
            refine ok_lconst (v := (0 : Int64)) (q := 101) d_S_move_100 (by decide) rfl ?_
            obtain ⟨x69, S67, hk, h⟩ := bd_e h
            refine cs_S_45 (q := 104) hk d_S_move_101 rfl (by decide) (Nat.le_of_ble_eq_true rfl) ?_
            refine ok_istore (q := 106) (lv := [(7, .int x69), (6, .int x60), (4, .int x57), (5, .int x54), (0, .ref (a 0)), (1, .int p1), (2, .int p2), (3, .int p3)]) d_S_move_104 (by decide) rfl rfl ?_
            refine ok_iload (q := 108) 0 d_S_move_106 rfl rfl ?_
            refine ok_if_eq (q := 111) (t := 115) d_S_move_108 (by decide) rfl (fun hc => ?_) (fun hc => ?_)
            · replace h := if_t hc h
              refine ok_aload_n (q := 116) 4 d_S_move_115 rfl rfl rfl ?_
              obtain ⟨x72, S70, hk, h⟩ := bd_e h
              refine cs_S_49 (q := 119) hk d_S_move_116 rfl (by decide) (Nat.le_of_ble_eq_true rfl) ?_
              obtain ⟨rfl, rfl⟩ := so_e h
              exact ok_iret d_S_move_119 ⟨rfl, rfl⟩
            · replace h := if_f hc h
              refine ok_iconst (v := (0 : Int32)) (q := 112) d_S_move_111 (by decide) rfl ?_
              refine ok_goto (q := 119) d_S_move_112 (by decide) ?_
              obtain ⟨rfl, rfl⟩ := so_e h
              exact ok_iret d_S_move_119 ⟨rfl, rfl⟩
          · replace h := if_f hc h
            refine ok_iload (q := 75) 0 d_S_move_73 rfl rfl ?_
            obtain ⟨rfl, rfl⟩ := so_e h
            exact ok_iret d_S_move_75 ⟨rfl, rfl⟩
        · replace h := if_f hc h
          refine ok_iload (q := 54) 0 d_S_move_52 rfl rfl ?_
          refine ok_iload_n (q := 55) 3 d_S_move_54 rfl rfl rfl ?_
          refine ok_icmp_eq (q := 58) (t := 61) d_S_move_55 (by decide) rfl (fun hc => ?_) (fun hc => ?_)
          · replace h := if_t hc h
            refine ok_aload_n (q := 62) 2 d_S_move_61 rfl rfl rfl ?_
            refine ok_iconst (v := (1 : Int32)) (q := 63) d_S_move_62 (by decide) rfl ?_
            obtain ⟨x75, S73, hk, h⟩ := bd_e h
            refine cs_S_36 (q := 66) hk d_S_move_63 rfl (by decide) (Nat.le_of_ble_eq_true rfl) ?_
            refine ok_istore (q := 68) (lv := [(4, .int x75), (5, .int x54), (0, .ref (a 0)), (1, .int p1), (2, .int p2), (3, .int p3)]) d_S_move_66 (by decide) rfl rfl ?_
            refine ok_iload (q := 70) 0 d_S_move_68 rfl rfl ?_
            refine ok_if_eq (q := 73) (t := 76) d_S_move_70 (by decide) rfl (fun hc => ?_) (fun hc => ?_)
            · replace h := if_t hc h
              refine ok_aload_n (q := 77) 2 d_S_move_76 rfl rfl rfl ?_
              refine gf_S_12 (q := 80) d_S_move_77 rfl ?_
              refine ok_iload_n (q := 81) 3 d_S_move_80 rfl rfl rfl ?_
              refine ok_iconst (v := (0 : Int32)) (q := 82) d_S_move_81 (by decide) rfl ?_
              obtain ⟨x78, S76, hk, h⟩ := bd_e h
              refine cs_S_61 (q := 85) hk d_S_move_82 rfl (by decide) (Nat.le_of_ble_eq_true rfl) ?_
              refine ok_istore (q := 87) (lv := [(6, .int x78), (4, .int x75), (5, .int x54), (0, .ref (a 0)), (1, .int p1), (2, .int p2), (3, .int p3)]) d_S_move_85 (by decide) rfl rfl ?_
              refine ok_aload_n (q := 88) 3 d_S_move_87 rfl rfl rfl ?_
              refine ok_iload (q := 90) 0 d_S_move_88 rfl rfl ?_
              refine ok_aload_n (q := 91) 3 d_S_move_90 rfl rfl rfl ?_
              refine ok_iload_n (q := 92) 4 d_S_move_91 rfl rfl rfl ?_
              obtain ⟨x81, S79, hk, h⟩ := bd_e h
              refine cs_S_55 (q := 95) hk d_S_move_92 rfl (by decide) (Nat.le_of_ble_eq_true rfl) ?_
              refine ok_iload_n (q := 96) 5 d_S_move_95 rfl rfl rfl ?_
              obtain ⟨x84, S82, hk, h⟩ := bd_e h
              refine cs_S_88 (q := 99) hk d_S_move_96 rfl (by decide) (Nat.le_of_ble_eq_true rfl) ?_
              refine ok_iload_n (q := 100) 6 d_S_move_99 rfl rfl rfl ?_
              refine ok_lconst (v := (0 : Int64)) (q := 101) d_S_move_100 (by decide) rfl ?_
              obtain ⟨x87, S85, hk, h⟩ := bd_e h
              refine cs_S_45 (q := 104) hk d_S_move_101 rfl (by decide) (Nat.le_of_ble_eq_true rfl) ?_
              refine ok_istore (q := 106) (lv := [(7, .int x87), (6, .int x78), (4, .int x75), (5, .int x54), (0, .ref (a 0)), (1, .int p1), (2, .int p2), (3, .int p3)]) d_S_move_104 (by decide) rfl rfl ?_
              refine ok_iload (q := 108) 0 d_S_move_106 rfl rfl ?_
              refine ok_if_eq (q := 111) (t := 115) d_S_move_108 (by decide) rfl (fun hc => ?_) (fun hc => ?_)
              · replace h := if_t hc h
                refine ok_aload_n (q := 116) 4 d_S_move_115 rfl rfl rfl ?_
                obtain ⟨x90, S88, hk, h⟩ := bd_e h
                refine cs_S_49 (q := 119) hk d_S_move_116 rfl (by decide) (Nat.le_of_ble_eq_true rfl) ?_
                obtain ⟨rfl, rfl⟩ := so_e h
                exact ok_iret d_S_move_119 ⟨rfl, rfl⟩
              · replace h := if_f hc h
                refine ok_iconst (v := (0 : Int32)) (q := 112) d_S_move_111 (by decide) rfl ?_
                refine ok_goto (q := 119) d_S_move_112 (by decide) ?_
                obtain ⟨rfl, rfl⟩ := so_e h
                exact ok_iret d_S_move_119 ⟨rfl, rfl⟩
            · replace h := if_f hc h
              refine ok_iload (q := 75) 0 d_S_move_73 rfl rfl ?_
              obtain ⟨rfl, rfl⟩ := so_e h
              exact ok_iret d_S_move_75 ⟨rfl, rfl⟩
          · replace h := if_f hc h
            refine ok_bipush (v := (-4 : Int32)) (q := 60) d_S_move_58 (by decide) rfl ?_
            obtain ⟨rfl, rfl⟩ := so_e h
            exact ok_iret d_S_move_60 ⟨rfl, rfl⟩
      · replace h := if_f hc h
        refine ok_bipush (v := (-10 : Int32)) (q := 38) d_S_move_36 (by decide) rfl ?_
        obtain ⟨rfl, rfl⟩ := so_e h
        exact ok_iret d_S_move_38 ⟨rfl, rfl⟩
    · replace h := if_f hc h
      refine ok_iload (q := 26) 0 d_S_move_24 rfl rfl ?_
      obtain ⟨rfl, rfl⟩ := so_e h
      exact ok_iret d_S_move_26 ⟨rfl, rfl⟩
set_option maxRecDepth 20000 in
set_option maxHeartbeats 4000000 in
theorem ct_S_move (p1 : Int32) (p2 : Int32) (p3 : Int32) (S : TC) (z : Int32) (Sz : TC) (h : fn_S_move S p1 p2 p3 = some (z, Sz)) : Ct (wC g a) D (tyC g) l y_S_move b_S_move 8 (some .int) rm_S_move [.ref (a 0), .int p1, .int p2, .int p3] S (pI z Sz) := ct_of (by decide) (Nat.le_of_ble_eq_true rfl) rfl (wk_S_move p1 p2 p3 S z Sz h)

set_option maxRecDepth 20000 in
set_option maxHeartbeats 4000000 in
theorem wl_S_objectsIn_4 (n : Nat) : ∀ (p1 : Int32) (p2 : Int32) (p3 : Int32) (S : TC) (z : Int32) (Sz : TC), lp_S_objectsIn_4 n S p1 p2 p3 = some (z, Sz) → Ok (wC g a) D (tyC g) l rm_S_objectsIn R_S b_S_objectsIn 4 (some .int) S 4 [(0, .ref (a 0)), (1, .int p1), (2, .int p2), (3, .int p3)] [] (pI z Sz) := by
  induction n with
  | zero => intro p1 p2 p3 S z Sz h; exact absurd h (fun h => by cases h)
  | succ n ih =>
    intro p1 p2 p3 S z Sz h
    rw [le_S_objectsIn_4] at h
    refine ok_iload_n (q := 5) 3 d_S_objectsIn_4 rfl rfl rfl ?_
    refine ok_bipush (v := (7 : Int32)) (q := 7) d_S_objectsIn_5 (by decide) rfl ?_
    refine ok_icmp_gt (q := 10) (t := 28) d_S_objectsIn_7 (by decide) rfl (fun hc => ?_) (fun hc => ?_)
    · replace h := if_t hc h
      refine ok_iload_n (q := 29) 2 d_S_objectsIn_28 rfl rfl rfl ?_
      obtain ⟨rfl, rfl⟩ := so_e h
      exact ok_iret d_S_objectsIn_29 ⟨rfl, rfl⟩
    · replace h := if_f hc h
      refine ok_aload_n (q := 11) 0 d_S_objectsIn_10 rfl rfl rfl ?_
      refine ok_iload_n (q := 12) 3 d_S_objectsIn_11 rfl rfl rfl ?_
      refine ok_iload_n (q := 13) 1 d_S_objectsIn_12 rfl rfl rfl ?_
      obtain ⟨x3, S1, hk, h⟩ := bd_e h
      refine cs_S_172 (q := 16) hk d_S_objectsIn_13 rfl (by decide) (Nat.le_of_ble_eq_true rfl) ?_
      refine ok_if_eq (q := 19) (t := 22) d_S_objectsIn_16 (by decide) rfl (fun hc => ?_) (fun hc => ?_)
      · replace h := if_t hc h
        obtain ⟨x4, e_x4, h⟩ := st_e h
        refine ok_iinc (d := (1 : Int32)) (q := 25) (lv := [(3, .int x4), (0, .ref (a 0)), (1, .int p1), (2, .int p2)]) 3 d_S_objectsIn_22 rfl (by decide) e_x4 (by decide) rfl rfl ?_
        refine ok_goto (q := 4) d_S_objectsIn_25 (by decide) ?_
        exact ok_sub [1, 2, 3, 0] rfl (ih p1 p2 x4 _ _ _ h)
      · replace h := if_f hc h
        obtain ⟨x5, e_x5, h⟩ := st_e h
        refine ok_iinc (d := (1 : Int32)) (q := 22) (lv := [(2, .int x5), (0, .ref (a 0)), (1, .int p1), (3, .int p3)]) 2 d_S_objectsIn_19 rfl (by decide) e_x5 (by decide) rfl rfl ?_
        obtain ⟨x6, e_x6, h⟩ := st_e h
        refine ok_iinc (d := (1 : Int32)) (q := 25) (lv := [(3, .int x6), (2, .int x5), (0, .ref (a 0)), (1, .int p1)]) 3 d_S_objectsIn_22 rfl (by decide) e_x6 (by decide) rfl rfl ?_
        refine ok_goto (q := 4) d_S_objectsIn_25 (by decide) ?_
        exact ok_sub [2, 3, 1, 0] rfl (ih p1 x5 x6 _ _ _ h)
set_option maxRecDepth 20000 in
set_option maxHeartbeats 4000000 in
theorem wk_S_objectsIn (p1 : Int32) (S : TC) (z : Int32) (Sz : TC) (h : fn_S_objectsIn S p1 = some (z, Sz)) : Ok (wC g a) D (tyC g) l rm_S_objectsIn R_S b_S_objectsIn 4 (some .int) S 0 [(0, .ref (a 0)), (1, .int p1)] [] (pI z Sz) := by
  unfold fn_S_objectsIn at h
  refine ok_iconst (v := (0 : Int32)) (q := 1) d_S_objectsIn_0 (by decide) rfl ?_
  refine ok_istore_n (q := 2) (lv := [(2, .int (0 : Int32)), (0, .ref (a 0)), (1, .int p1)]) d_S_objectsIn_1 rfl (by decide) rfl rfl ?_
  refine ok_iconst (v := (1 : Int32)) (q := 3) d_S_objectsIn_2 (by decide) rfl ?_
  refine ok_istore_n (q := 4) (lv := [(3, .int (1 : Int32)), (2, .int (0 : Int32)), (0, .ref (a 0)), (1, .int p1)]) d_S_objectsIn_3 rfl (by decide) rfl rfl ?_
  exact ok_sub [2, 3, 1, 0] rfl (wl_S_objectsIn_4 64 p1 (0 : Int32) (1 : Int32) _ _ _ h)
set_option maxRecDepth 20000 in
set_option maxHeartbeats 4000000 in
theorem ct_S_objectsIn (p1 : Int32) (S : TC) (z : Int32) (Sz : TC) (h : fn_S_objectsIn S p1 = some (z, Sz)) : Ct (wC g a) D (tyC g) l y_S_objectsIn b_S_objectsIn 4 (some .int) rm_S_objectsIn [.ref (a 0), .int p1] S (pI z Sz) := ct_of (by decide) (Nat.le_of_ble_eq_true rfl) rfl (wk_S_objectsIn p1 S z Sz h)
theorem cs_S_91 {l : Launch} {D : va_G} {g : Nat → ClassId} {a : Nat → Nat} {rm : Room} {b : ByteArray} {nL : Nat} {ret : Option FieldType} {pc q : Nat} {Lc : List (Nat × Value)} {St : List Value} {S S2 : TC} {Post : Option Value → TC → Prop} {p1 : Int32} {z : Int32} (hk : fn_S_objectsIn S p1 = some (z, S2)) (hd : decode b pc = .ok (.invokevirtual 91, 3)) (hq : pc + 3 = q) (hrm : rm_S_objectsIn.frames + 1 ≤ rm.frames ∧ 8 + (4 + 11) + rm_S_objectsIn.locals ≤ rm.locals) (hroom : (St.map fun v => v.category).sum ≤ 8) (k : Ok (wC g a) D (tyC g) l rm R_S b nL ret S2 q Lc (.int z :: St) Post) : Ok (wC g a) D (tyC g) l rm R_S b nL ret S pc Lc (.int p1 :: .ref (a 0) :: St) Post := by
  subst hq
  exact ok_cV (As := [.int p1]) (n := 1) (C := R_S) (T := F_S) (N := 3) (ci := 0) (q0 := 0) (ct_S_objectsIn p1 S z S2 hk) hd wm_269 ⟨wm_270, wm_271, wm_272, wm_204⟩ (by decide +kernel) ⟨⟨rfl, rfl⟩, hrm⟩ rfl rfl rfl rfl hroom ⟨Nat.zero_le _, Nat.zero_le _⟩ (fun v u h => by obtain ⟨rfl, rfl⟩ := h; exact k)
set_option maxRecDepth 20000 in
set_option maxHeartbeats 4000000 in
theorem wk_S_remove (p1 : Int32) (S : TC) (z : Int32) (Sz : TC) (h : fn_S_remove S p1 = some (z, Sz)) : Ok (wC g a) D (tyC g) l rm_S_remove R_S b_S_remove 3 (some .int) S 0 [(0, .ref (a 0)), (1, .int p1)] [] (pI z Sz) := by
  unfold fn_S_remove at h
  refine ok_aload_n (q := 1) 0 d_S_remove_0 rfl rfl rfl ?_
  refine ok_iload_n (q := 2) 1 d_S_remove_1 rfl rfl rfl ?_
  obtain ⟨x3, S1, hk, h⟩ := bd_e h
  refine cs_S_82 (q := 5) hk d_S_remove_2 rfl (by decide) (Nat.le_of_ble_eq_true rfl) ?_
  refine ok_istore_n (q := 6) (lv := [(2, .int x3), (0, .ref (a 0)), (1, .int p1)]) d_S_remove_5 rfl (by decide) rfl rfl ?_
  refine ok_iload_n (q := 7) 0 d_S_remove_6 rfl rfl rfl ?_
  refine ok_if_eq (q := 10) (t := 12) d_S_remove_7 (by decide) rfl (fun hc => ?_) (fun hc => ?_)
  · replace h := if_t hc h
    refine ok_aload_n (q := 13) 1 d_S_remove_12 rfl rfl rfl ?_
    refine ok_iload_n (q := 14) 2 d_S_remove_13 rfl rfl rfl ?_
    obtain ⟨x6, S4, hk, h⟩ := bd_e h
    refine cs_S_91 (q := 17) hk d_S_remove_14 rfl (by decide) (Nat.le_of_ble_eq_true rfl) ?_
    refine ok_if_le (q := 20) (t := 23) d_S_remove_17 (by decide) rfl (fun hc => ?_) (fun hc => ?_)
    · replace h := if_t hc h
      refine ok_aload_n (q := 24) 1 d_S_remove_23 rfl rfl rfl ?_
      refine ok_iload_n (q := 25) 2 d_S_remove_24 rfl rfl rfl ?_
      refine ok_iconst (v := (0 : Int32)) (q := 26) d_S_remove_25 (by decide) rfl ?_
      obtain ⟨x9, S7, hk, h⟩ := bd_e h
      refine cs_S_79 (q := 29) hk d_S_remove_26 rfl (by decide) (Nat.le_of_ble_eq_true rfl) ?_
      refine ok_if_eq (q := 32) (t := 36) d_S_remove_29 (by decide) rfl (fun hc => ?_) (fun hc => ?_)
      · replace h := if_t hc h
        refine ok_aload_n (q := 37) 1 d_S_remove_36 rfl rfl rfl ?_
        obtain ⟨x12, S10, hk, h⟩ := bd_e h
        refine cs_S_49 (q := 40) hk d_S_remove_37 rfl (by decide) (Nat.le_of_ble_eq_true rfl) ?_
        obtain ⟨rfl, rfl⟩ := so_e h
        exact ok_iret d_S_remove_40 ⟨rfl, rfl⟩
      · replace h := if_f hc h
        refine ok_iconst (v := (0 : Int32)) (q := 33) d_S_remove_32 (by decide) rfl ?_
        refine ok_goto (q := 40) d_S_remove_33 (by decide) ?_
        obtain ⟨rfl, rfl⟩ := so_e h
        exact ok_iret d_S_remove_40 ⟨rfl, rfl⟩
    · replace h := if_f hc h
      refine ok_bipush (v := (-8 : Int32)) (q := 22) d_S_remove_20 (by decide) rfl ?_
      obtain ⟨rfl, rfl⟩ := so_e h
      exact ok_iret d_S_remove_22 ⟨rfl, rfl⟩
  · replace h := if_f hc h
    refine ok_iload_n (q := 11) 0 d_S_remove_10 rfl rfl rfl ?_
    obtain ⟨rfl, rfl⟩ := so_e h
    exact ok_iret d_S_remove_11 ⟨rfl, rfl⟩
set_option maxRecDepth 20000 in
set_option maxHeartbeats 4000000 in
theorem ct_S_remove (p1 : Int32) (S : TC) (z : Int32) (Sz : TC) (h : fn_S_remove S p1 = some (z, Sz)) : Ct (wC g a) D (tyC g) l y_S_remove b_S_remove 3 (some .int) rm_S_remove [.ref (a 0), .int p1] S (pI z Sz) := ct_of (by decide) (Nat.le_of_ble_eq_true rfl) rfl (wk_S_remove p1 S z Sz h)

set_option maxRecDepth 20000 in
set_option maxHeartbeats 4000000 in
theorem wk_S_find (p1 : Int32) (p2 : Int32) (S : TC) (z : Int32) (Sz : TC) (h : fn_S_find S p1 p2 = some (z, Sz)) : Ok (wC g a) D (tyC g) l rm_S_find R_S b_S_find 4 (some .int) S 0 [(0, .ref (a 0)), (1, .int p1), (2, .int p2)] [] (pI z Sz) := by
  unfold fn_S_find at h
  refine ok_aload_n (q := 1) 0 d_S_find_0 rfl rfl rfl ?_
  refine ok_iload_n (q := 2) 1 d_S_find_1 rfl rfl rfl ?_
  obtain ⟨x3, S1, hk, h⟩ := bd_e h
  refine cs_S_24 (q := 5) hk d_S_find_2 rfl (by decide) (Nat.le_of_ble_eq_true rfl) ?_
  refine ok_istore_n (q := 6) (lv := [(3, .int x3), (0, .ref (a 0)), (1, .int p1), (2, .int p2)]) d_S_find_5 rfl (by decide) rfl rfl ?_
  refine ok_iload_n (q := 7) 0 d_S_find_6 rfl rfl rfl ?_
  refine ok_if_eq (q := 10) (t := 14) d_S_find_7 (by decide) rfl (fun hc => ?_) (fun hc => ?_)
  · replace h := if_t hc h
    refine ok_aload_n (q := 15) 1 d_S_find_14 rfl rfl rfl ?_
    refine ok_iload_n (q := 16) 2 d_S_find_15 rfl rfl rfl ?_
    refine ok_iload_n (q := 17) 3 d_S_find_16 rfl rfl rfl ?_
    obtain ⟨x6, S4, hk, h⟩ := bd_e h
    refine cs_S_28 (q := 20) hk d_S_find_17 rfl (by decide) (Nat.le_of_ble_eq_true rfl) ?_
    obtain ⟨rfl, rfl⟩ := so_e h
    exact ok_iret d_S_find_20 ⟨rfl, rfl⟩
  · replace h := if_f hc h
    refine ok_iload_n (q := 11) 0 d_S_find_10 rfl rfl rfl ?_
    refine ok_goto (q := 20) d_S_find_11 (by decide) ?_
    obtain ⟨rfl, rfl⟩ := so_e h
    exact ok_iret d_S_find_20 ⟨rfl, rfl⟩
set_option maxRecDepth 20000 in
set_option maxHeartbeats 4000000 in
theorem ct_S_find (p1 : Int32) (p2 : Int32) (S : TC) (z : Int32) (Sz : TC) (h : fn_S_find S p1 p2 = some (z, Sz)) : Ct (wC g a) D (tyC g) l y_S_find b_S_find 4 (some .int) rm_S_find [.ref (a 0), .int p1, .int p2] S (pI z Sz) := ct_of (by decide) (Nat.le_of_ble_eq_true rfl) rfl (wk_S_find p1 p2 S z Sz h)

set_option maxRecDepth 20000 in
set_option maxHeartbeats 4000000 in
theorem wk_S_size (p1 : Int32) (S : TC) (z : Int32) (Sz : TC) (h : fn_S_size S p1 = some (z, Sz)) : Ok (wC g a) D (tyC g) l rm_S_size R_S b_S_size 2 (some .int) S 0 [(0, .ref (a 0)), (1, .int p1)] [] (pI z Sz) := by
  unfold fn_S_size at h
  refine ok_aload_n (q := 1) 0 d_S_size_0 rfl rfl rfl ?_
  obtain ⟨x1, e_x1, h⟩ := st_e h
  refine gf_S_20 (q := 4) e_x1 d_S_size_1 rfl ?_
  refine ok_if_ne (q := 7) (t := 10) d_S_size_4 (by decide) rfl (fun hc => ?_) (fun hc => ?_)
  · replace h := if_f hc h
    refine ok_iload_n (q := 11) 1 d_S_size_10 rfl rfl rfl ?_
    refine ok_if_eq (q := 14) (t := 24) d_S_size_11 (by decide) rfl (fun hc => ?_) (fun hc => ?_)
    · replace h := if_t hc h
      refine ok_aload_n (q := 25) 0 d_S_size_24 rfl rfl rfl ?_
      refine ok_iload_n (q := 26) 1 d_S_size_25 rfl rfl rfl ?_
      obtain ⟨x4, S2, hk, h⟩ := bd_e h
      refine cs_S_98 (q := 29) hk d_S_size_26 rfl (by decide) (Nat.le_of_ble_eq_true rfl) ?_
      refine ok_if_eq (q := 32) (t := 40) d_S_size_29 (by decide) rfl (fun hc => ?_) (fun hc => ?_)
      · replace h := if_t hc h
        refine ok_aload_n (q := 41) 0 d_S_size_40 rfl rfl rfl ?_
        refine ok_iload_n (q := 42) 1 d_S_size_41 rfl rfl rfl ?_
        obtain ⟨x7, S5, hk, h⟩ := bd_e h
        refine cs_S_55 (q := 45) hk d_S_size_42 rfl (by decide) (Nat.le_of_ble_eq_true rfl) ?_
        obtain ⟨x10, S8, hk, h⟩ := bd_e h
        refine cs_S_58 (q := 48) hk d_S_size_45 rfl (by decide) (Nat.le_of_ble_eq_true rfl) ?_
        obtain ⟨rfl, rfl⟩ := so_e h
        exact ok_iret d_S_size_48 ⟨rfl, rfl⟩
      · replace h := if_f hc h
        refine ok_aload_n (q := 33) 0 d_S_size_32 rfl rfl rfl ?_
        refine ok_iload_n (q := 34) 1 d_S_size_33 rfl rfl rfl ?_
        obtain ⟨x13, S11, hk, h⟩ := bd_e h
        refine cs_S_91 (q := 37) hk d_S_size_34 rfl (by decide) (Nat.le_of_ble_eq_true rfl) ?_
        refine ok_goto (q := 48) d_S_size_37 (by decide) ?_
        obtain ⟨rfl, rfl⟩ := so_e h
        exact ok_iret d_S_size_48 ⟨rfl, rfl⟩
    · replace h := if_f hc h
      refine ok_aload_n (q := 15) 0 d_S_size_14 rfl rfl rfl ?_
      refine ok_iload_n (q := 16) 1 d_S_size_15 rfl rfl rfl ?_
      obtain ⟨x16, S14, hk, h⟩ := bd_e h
      refine cs_S_94 (q := 19) hk d_S_size_16 rfl (by decide) (Nat.le_of_ble_eq_true rfl) ?_
      refine ok_if_ne (q := 22) (t := 24) d_S_size_19 (by decide) rfl (fun hc => ?_) (fun hc => ?_)
      · replace h := if_f hc h
        refine ok_aload_n (q := 25) 0 d_S_size_24 rfl rfl rfl ?_
        refine ok_iload_n (q := 26) 1 d_S_size_25 rfl rfl rfl ?_
        obtain ⟨x19, S17, hk, h⟩ := bd_e h
        refine cs_S_98 (q := 29) hk d_S_size_26 rfl (by decide) (Nat.le_of_ble_eq_true rfl) ?_
        refine ok_if_eq (q := 32) (t := 40) d_S_size_29 (by decide) rfl (fun hc => ?_) (fun hc => ?_)
        · replace h := if_t hc h
          refine ok_aload_n (q := 41) 0 d_S_size_40 rfl rfl rfl ?_
          refine ok_iload_n (q := 42) 1 d_S_size_41 rfl rfl rfl ?_
          obtain ⟨x22, S20, hk, h⟩ := bd_e h
          refine cs_S_55 (q := 45) hk d_S_size_42 rfl (by decide) (Nat.le_of_ble_eq_true rfl) ?_
          obtain ⟨x25, S23, hk, h⟩ := bd_e h
          refine cs_S_58 (q := 48) hk d_S_size_45 rfl (by decide) (Nat.le_of_ble_eq_true rfl) ?_
          obtain ⟨rfl, rfl⟩ := so_e h
          exact ok_iret d_S_size_48 ⟨rfl, rfl⟩
        · replace h := if_f hc h
          refine ok_aload_n (q := 33) 0 d_S_size_32 rfl rfl rfl ?_
          refine ok_iload_n (q := 34) 1 d_S_size_33 rfl rfl rfl ?_
          obtain ⟨x28, S26, hk, h⟩ := bd_e h
          refine cs_S_91 (q := 37) hk d_S_size_34 rfl (by decide) (Nat.le_of_ble_eq_true rfl) ?_
          refine ok_goto (q := 48) d_S_size_37 (by decide) ?_
          obtain ⟨rfl, rfl⟩ := so_e h
          exact ok_iret d_S_size_48 ⟨rfl, rfl⟩
      · replace h := if_t hc h
        refine ok_iconst (v := (-1 : Int32)) (q := 23) d_S_size_22 (by decide) rfl ?_
        obtain ⟨rfl, rfl⟩ := so_e h
        exact ok_iret d_S_size_23 ⟨rfl, rfl⟩
  · replace h := if_t hc h
    refine ok_bipush (v := (-9 : Int32)) (q := 9) d_S_size_7 (by decide) rfl ?_
    obtain ⟨rfl, rfl⟩ := so_e h
    exact ok_iret d_S_size_9 ⟨rfl, rfl⟩
set_option maxRecDepth 20000 in
set_option maxHeartbeats 4000000 in
theorem ct_S_size (p1 : Int32) (S : TC) (z : Int32) (Sz : TC) (h : fn_S_size S p1 = some (z, Sz)) : Ct (wC g a) D (tyC g) l y_S_size b_S_size 2 (some .int) rm_S_size [.ref (a 0), .int p1] S (pI z Sz) := ct_of (by decide) (Nat.le_of_ble_eq_true rfl) rfl (wk_S_size p1 S z Sz h)

set_option maxRecDepth 20000 in
set_option maxHeartbeats 4000000 in
theorem wk_S_parentOf (p1 : Int32) (S : TC) (z : Int32) (Sz : TC) (h : fn_S_parentOf S p1 = some (z, Sz)) : Ok (wC g a) D (tyC g) l rm_S_parentOf R_S b_S_parentOf 3 (some .int) S 0 [(0, .ref (a 0)), (1, .int p1)] [] (pI z Sz) := by
  unfold fn_S_parentOf at h
  refine ok_aload_n (q := 1) 0 d_S_parentOf_0 rfl rfl rfl ?_
  refine ok_iload_n (q := 2) 1 d_S_parentOf_1 rfl rfl rfl ?_
  obtain ⟨x3, S1, hk, h⟩ := bd_e h
  refine cs_S_82 (q := 5) hk d_S_parentOf_2 rfl (by decide) (Nat.le_of_ble_eq_true rfl) ?_
  refine ok_istore_n (q := 6) (lv := [(2, .int x3), (0, .ref (a 0)), (1, .int p1)]) d_S_parentOf_5 rfl (by decide) rfl rfl ?_
  refine ok_iload_n (q := 7) 0 d_S_parentOf_6 rfl rfl rfl ?_
  refine ok_if_eq (q := 10) (t := 14) d_S_parentOf_7 (by decide) rfl (fun hc => ?_) (fun hc => ?_)
  · replace h := if_t hc h
    refine ok_aload_n (q := 15) 1 d_S_parentOf_14 rfl rfl rfl ?_
    refine ok_iload_n (q := 16) 2 d_S_parentOf_15 rfl rfl rfl ?_
    obtain ⟨x6, S4, hk, h⟩ := bd_e h
    refine cs_S_55 (q := 19) hk d_S_parentOf_16 rfl (by decide) (Nat.le_of_ble_eq_true rfl) ?_
    obtain ⟨x9, S7, hk, h⟩ := bd_e h
    refine cs_S_101 (q := 22) hk d_S_parentOf_19 rfl (by decide) (Nat.le_of_ble_eq_true rfl) ?_
    obtain ⟨rfl, rfl⟩ := so_e h
    exact ok_iret d_S_parentOf_22 ⟨rfl, rfl⟩
  · replace h := if_f hc h
    refine ok_iload_n (q := 11) 0 d_S_parentOf_10 rfl rfl rfl ?_
    refine ok_goto (q := 22) d_S_parentOf_11 (by decide) ?_
    obtain ⟨rfl, rfl⟩ := so_e h
    exact ok_iret d_S_parentOf_22 ⟨rfl, rfl⟩
set_option maxRecDepth 20000 in
set_option maxHeartbeats 4000000 in
theorem ct_S_parentOf (p1 : Int32) (S : TC) (z : Int32) (Sz : TC) (h : fn_S_parentOf S p1 = some (z, Sz)) : Ct (wC g a) D (tyC g) l y_S_parentOf b_S_parentOf 3 (some .int) rm_S_parentOf [.ref (a 0), .int p1] S (pI z Sz) := ct_of (by decide) (Nat.le_of_ble_eq_true rfl) rfl (wk_S_parentOf p1 S z Sz h)

set_option maxRecDepth 20000 in
set_option maxHeartbeats 4000000 in
theorem wk_S_nameOf (p1 : Int32) (S : TC) (z : Int64) (Sz : TC) (h : fn_S_nameOf S p1 = some (z, Sz)) : Ok (wC g a) D (tyC g) l rm_S_nameOf R_S b_S_nameOf 3 (some .long) S 0 [(0, .ref (a 0)), (1, .int p1)] [] (pL z Sz) := by
  unfold fn_S_nameOf at h
  refine ok_aload_n (q := 1) 0 d_S_nameOf_0 rfl rfl rfl ?_
  refine ok_iload_n (q := 2) 1 d_S_nameOf_1 rfl rfl rfl ?_
  obtain ⟨x3, S1, hk, h⟩ := bd_e h
  refine cs_S_82 (q := 5) hk d_S_nameOf_2 rfl (by decide) (Nat.le_of_ble_eq_true rfl) ?_
  refine ok_istore_n (q := 6) (lv := [(2, .int x3), (0, .ref (a 0)), (1, .int p1)]) d_S_nameOf_5 rfl (by decide) rfl rfl ?_
  refine ok_iload_n (q := 7) 0 d_S_nameOf_6 rfl rfl rfl ?_
  refine ok_if_eq (q := 10) (t := 19) d_S_nameOf_7 (by decide) rfl (fun hc => ?_) (fun hc => ?_)
  · replace h := if_t hc h
    refine ok_aload_n (q := 20) 1 d_S_nameOf_19 rfl rfl rfl ?_
    refine ok_iload_n (q := 21) 2 d_S_nameOf_20 rfl rfl rfl ?_
    obtain ⟨y5, S4, hk, h⟩ := bd_e h
    refine cs_S_104 (q := 24) hk d_S_nameOf_21 rfl (by decide) (Nat.le_of_ble_eq_true rfl) ?_
    obtain ⟨rfl, rfl⟩ := so_e h
    exact ok_lret d_S_nameOf_24 ⟨rfl, rfl⟩
  · replace h := if_f hc h
    refine ok_ldc2 (q := 13) wm_7 d_S_nameOf_10 rfl ?_
    refine ok_iload_n (q := 14) 0 d_S_nameOf_13 rfl rfl rfl ?_
    refine ok_i2l (q := 15) d_S_nameOf_14 rfl ?_
    refine ok_ladd (q := 16) d_S_nameOf_15 rfl ?_
    refine ok_goto (q := 24) d_S_nameOf_16 (by decide) ?_
    obtain ⟨rfl, rfl⟩ := so_e h
    exact ok_lret d_S_nameOf_24 ⟨rfl, rfl⟩
set_option maxRecDepth 20000 in
set_option maxHeartbeats 4000000 in
theorem ct_S_nameOf (p1 : Int32) (S : TC) (z : Int64) (Sz : TC) (h : fn_S_nameOf S p1 = some (z, Sz)) : Ct (wC g a) D (tyC g) l y_S_nameOf b_S_nameOf 3 (some .long) rm_S_nameOf [.ref (a 0), .int p1] S (pL z Sz) := ct_of (by decide) (Nat.le_of_ble_eq_true rfl) rfl (wk_S_nameOf p1 S z Sz h)

set_option maxRecDepth 20000 in
set_option maxHeartbeats 4000000 in
theorem wl_C_countLive_4 (n : Nat) : ∀ (p1 : Int32) (p2 : Int32) (S : TC) (z : Int32) (Sz : TC), lp_C_countLive_4 n S p1 p2 = some (z, Sz) → Ok (wC g a) D (tyC g) l rm_C_countLive R_C b_C_countLive 3 (some .int) S 4 [(0, .ref (a 1)), (1, .int p1), (2, .int p2)] [] (pI z Sz) := by
  induction n with
  | zero => intro p1 p2 S z Sz h; exact absurd h (fun h => by cases h)
  | succ n ih =>
    intro p1 p2 S z Sz h
    rw [le_C_countLive_4] at h
    refine ok_iload_n (q := 5) 2 d_C_countLive_4 rfl rfl rfl ?_
    refine ok_bipush (v := (6 : Int32)) (q := 7) d_C_countLive_5 (by decide) rfl ?_
    refine ok_icmp_ge (q := 10) (t := 24) d_C_countLive_7 (by decide) rfl (fun hc => ?_) (fun hc => ?_)
    · replace h := if_t hc h
      refine ok_iload_n (q := 25) 1 d_C_countLive_24 rfl rfl rfl ?_
      obtain ⟨rfl, rfl⟩ := so_e h
      exact ok_iret d_C_countLive_25 ⟨rfl, rfl⟩
    · replace h := if_f hc h
      refine ok_iload_n (q := 11) 1 d_C_countLive_10 rfl rfl rfl ?_
      refine ok_aload_n (q := 12) 0 d_C_countLive_11 rfl rfl rfl ?_
      refine ok_iload_n (q := 13) 2 d_C_countLive_12 rfl rfl rfl ?_
      obtain ⟨x3, S1, hk, h⟩ := bd_e h
      refine cs_C_83 (q := 16) hk d_C_countLive_13 rfl (by decide) (Nat.le_of_ble_eq_true rfl) ?_
      refine ok_iadd (q := 17) d_C_countLive_16 rfl ?_
      obtain ⟨x4, e_x4, h⟩ := st_e h
      refine ok_topi e_x4 ?_
      refine ok_istore_n (q := 18) (lv := [(1, .int x4), (0, .ref (a 1)), (2, .int p2)]) d_C_countLive_17 rfl (by decide) rfl rfl ?_
      obtain ⟨x5, e_x5, h⟩ := st_e h
      refine ok_iinc (d := (1 : Int32)) (q := 21) (lv := [(2, .int x5), (1, .int x4), (0, .ref (a 1))]) 2 d_C_countLive_18 rfl (by decide) e_x5 (by decide) rfl rfl ?_
      refine ok_goto (q := 4) d_C_countLive_21 (by decide) ?_
      exact ok_sub [2, 1, 0] rfl (ih x4 x5 _ _ _ h)
set_option maxRecDepth 20000 in
set_option maxHeartbeats 4000000 in
theorem wk_C_countLive (S : TC) (z : Int32) (Sz : TC) (h : fn_C_countLive S = some (z, Sz)) : Ok (wC g a) D (tyC g) l rm_C_countLive R_C b_C_countLive 3 (some .int) S 0 [(0, .ref (a 1))] [] (pI z Sz) := by
  unfold fn_C_countLive at h
  refine ok_iconst (v := (0 : Int32)) (q := 1) d_C_countLive_0 (by decide) rfl ?_
  refine ok_istore_n (q := 2) (lv := [(1, .int (0 : Int32)), (0, .ref (a 1))]) d_C_countLive_1 rfl (by decide) rfl rfl ?_
  refine ok_iconst (v := (0 : Int32)) (q := 3) d_C_countLive_2 (by decide) rfl ?_
  refine ok_istore_n (q := 4) (lv := [(2, .int (0 : Int32)), (1, .int (0 : Int32)), (0, .ref (a 1))]) d_C_countLive_3 rfl (by decide) rfl rfl ?_
  exact ok_sub [2, 1, 0] rfl (wl_C_countLive_4 64 (0 : Int32) (0 : Int32) _ _ _ h)
set_option maxRecDepth 20000 in
set_option maxHeartbeats 4000000 in
theorem ct_C_countLive (S : TC) (z : Int32) (Sz : TC) (h : fn_C_countLive S = some (z, Sz)) : Ct (wC g a) D (tyC g) l y_C_countLive b_C_countLive 3 (some .int) rm_C_countLive [.ref (a 1)] S (pI z Sz) := ct_of (by decide) (Nat.le_of_ble_eq_true rfl) rfl (wk_C_countLive S z Sz h)
theorem cs_S_114 {l : Launch} {D : va_G} {g : Nat → ClassId} {a : Nat → Nat} {rm : Room} {b : ByteArray} {nL : Nat} {ret : Option FieldType} {pc q : Nat} {Lc : List (Nat × Value)} {St : List Value} {S S2 : TC} {Post : Option Value → TC → Prop} {z : Int32} (hk : fn_C_countLive S = some (z, S2)) (hd : decode b pc = .ok (.invokevirtual 114, 3)) (hq : pc + 3 = q) (hrm : rm_C_countLive.frames + 1 ≤ rm.frames ∧ 8 + (3 + 11) + rm_C_countLive.locals ≤ rm.locals) (hroom : (St.map fun v => v.category).sum ≤ 8) (k : Ok (wC g a) D (tyC g) l rm R_S b nL ret S2 q Lc (.int z :: St) Post) : Ok (wC g a) D (tyC g) l rm R_S b nL ret S pc Lc (.ref (a 1) :: St) Post := by
  subst hq
  exact ok_cV (As := []) (n := 0) (C := R_C) (T := F_C) (N := 11) (ci := 1) (q0 := 1) (ct_C_countLive S z S2 hk) hd wm_296 ⟨wm_297, wm_298, wm_299, wm_69⟩ (by decide +kernel) ⟨⟨rfl, rfl⟩, hrm⟩ rfl rfl rfl rfl hroom ⟨Nat.zero_le _, Nat.zero_le _⟩ (fun v u h => by obtain ⟨rfl, rfl⟩ := h; exact k)
set_option maxRecDepth 20000 in
set_option maxHeartbeats 4000000 in
theorem wk_C_dropRegion (S : TC) (z : Int32) (Sz : TC) (h : fn_C_dropRegion S = some (z, Sz)) : Ok (wC g a) D (tyC g) l rm_C_dropRegion R_C b_C_dropRegion 1 (some .boolean) S 0 [(0, .ref (a 1))] [] (pI z Sz) := by
  unfold fn_C_dropRegion at h
  refine ok_aload_n (q := 1) 0 d_C_dropRegion_0 rfl rfl rfl ?_
  obtain ⟨x3, S1, hk, h⟩ := bd_e h
  refine cs_C_91 (q := 4) hk d_C_dropRegion_1 rfl (by decide) (Nat.le_of_ble_eq_true rfl) ?_
  refine ok_if_ne (q := 7) (t := 9) d_C_dropRegion_4 (by decide) rfl (fun hc => ?_) (fun hc => ?_)
  · replace h := if_f hc h
    refine ok_aload_n (q := 10) 0 d_C_dropRegion_9 rfl rfl rfl ?_
    refine ok_iconst (v := (0 : Int32)) (q := 11) d_C_dropRegion_10 (by decide) rfl ?_
    obtain ⟨S4, e_S4, h⟩ := st_e h
    refine pf_C_38 (q := 14) e_S4 (by decide) d_C_dropRegion_11 rfl ?_
    refine ok_iconst (v := (1 : Int32)) (q := 15) d_C_dropRegion_14 (by decide) rfl ?_
    obtain ⟨rfl, rfl⟩ := so_e h
    exact ok_zret d_C_dropRegion_15 (by decide) ⟨rfl, rfl⟩
  · replace h := if_t hc h
    refine ok_iconst (v := (0 : Int32)) (q := 8) d_C_dropRegion_7 (by decide) rfl ?_
    obtain ⟨rfl, rfl⟩ := so_e h
    exact ok_zret d_C_dropRegion_8 (by decide) ⟨rfl, rfl⟩
set_option maxRecDepth 20000 in
set_option maxHeartbeats 4000000 in
theorem ct_C_dropRegion (S : TC) (z : Int32) (Sz : TC) (h : fn_C_dropRegion S = some (z, Sz)) : Ct (wC g a) D (tyC g) l y_C_dropRegion b_C_dropRegion 1 (some .boolean) rm_C_dropRegion [.ref (a 1)] S (pI z Sz) := ct_of (by decide) (Nat.le_of_ble_eq_true rfl) rfl (wk_C_dropRegion S z Sz h)
theorem cs_S_107 {l : Launch} {D : va_G} {g : Nat → ClassId} {a : Nat → Nat} {rm : Room} {b : ByteArray} {nL : Nat} {ret : Option FieldType} {pc q : Nat} {Lc : List (Nat × Value)} {St : List Value} {S S2 : TC} {Post : Option Value → TC → Prop} {z : Int32} (hk : fn_C_dropRegion S = some (z, S2)) (hd : decode b pc = .ok (.invokevirtual 107, 3)) (hq : pc + 3 = q) (hrm : rm_C_dropRegion.frames + 1 ≤ rm.frames ∧ 8 + (1 + 11) + rm_C_dropRegion.locals ≤ rm.locals) (hroom : (St.map fun v => v.category).sum ≤ 8) (k : Ok (wC g a) D (tyC g) l rm R_S b nL ret S2 q Lc (.int z :: St) Post) : Ok (wC g a) D (tyC g) l rm R_S b nL ret S pc Lc (.ref (a 1) :: St) Post := by
  subst hq
  exact ok_cV (As := []) (n := 0) (C := R_C) (T := F_C) (N := 11) (ci := 1) (q0 := 1) (ct_C_dropRegion S z S2 hk) hd wm_288 ⟨wm_289, wm_290, wm_291, wm_69⟩ (by decide +kernel) ⟨⟨rfl, rfl⟩, hrm⟩ rfl rfl rfl rfl hroom ⟨Nat.zero_le _, Nat.zero_le _⟩ (fun v u h => by obtain ⟨rfl, rfl⟩ := h; exact k)
end WALK
