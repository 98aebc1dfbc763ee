section WALK
variable {l : Launch} {D : va_G} {g : Nat → ClassId} {a r : Nat → Nat}
set_option maxRecDepth 20000 in
set_option maxHeartbeats 4000000 in
theorem wk_M_read (p1 : Int32) (p2 : Int32) (S : TR) (z : Int64) (Sz : TR) (h : fn_M_read S p1 p2 = some (z, Sz)) : Ok (wR g r) D (tyR g) l rm_M_read R_M b_M_read 5 (some .long) S 0 [(0, .ref (r 0)), (1, .int p1), (2, .int p2)] [] (pL z Sz) := by
  unfold fn_M_read at h
  refine ok_aload_n (q := 1) 0 d_M_read_0 rfl rfl rfl ?_
  obtain ⟨x1, e_x1, h⟩ := st_e h
  refine gf_M_56 (q := 4) e_x1 d_M_read_1 rfl ?_
  refine ok_if_ne (q := 7) (t := 11) d_M_read_4 (by decide) rfl (fun hc => ?_) (fun hc => ?_)
  · replace h := if_f hc h
    refine ok_aload_n (q := 12) 0 d_M_read_11 rfl rfl rfl ?_
    refine ok_iload_n (q := 13) 1 d_M_read_12 rfl rfl rfl ?_
    obtain ⟨x4, S2, hk, h⟩ := bd_e h
    refine cs_M_134 (q := 16) hk d_M_read_13 rfl (by decide) (Nat.le_of_ble_eq_true rfl) ?_
    refine ok_istore_n (q := 17) (lv := [(3, .int x4), (0, .ref (r 0)), (1, .int p1), (2, .int p2)]) d_M_read_16 rfl (by decide) rfl rfl ?_
    refine ok_iload_n (q := 18) 0 d_M_read_17 rfl rfl rfl ?_
    refine ok_if_ge (q := 21) (t := 25) d_M_read_18 (by decide) rfl (fun hc => ?_) (fun hc => ?_)
    · replace h := if_t hc h
      refine ok_aload_n (q := 26) 1 d_M_read_25 rfl rfl rfl ?_
      refine gf_M_31 (q := 29) d_M_read_26 rfl ?_
      refine ok_iload_n (q := 30) 0 d_M_read_29 rfl rfl rfl ?_
      obtain ⟨hg, h⟩ := gd_e h
      obtain ⟨x5, e_x5, h⟩ := st_e h
      refine al_M_8 (q := 31) hg e_x5 d_M_read_30 rfl ?_
      refine ok_if_eq (q := 34) (t := 38) d_M_read_31 (by decide) rfl (fun hc => ?_) (fun hc => ?_)
      · replace h := if_t hc h
        refine ok_iload_n (q := 39) 3 d_M_read_38 rfl rfl rfl ?_
        refine ok_iconst (v := (1 : Int32)) (q := 40) d_M_read_39 (by decide) rfl ?_
        refine ok_icmp_lt (q := 43) (t := 53) d_M_read_40 (by decide) rfl (fun hc => ?_) (fun hc => ?_)
        · replace h := if_t hc h
          refine ok_ldc2 (q := 56) wm_8 d_M_read_53 rfl ?_
          obtain ⟨rfl, rfl⟩ := so_e h
          exact ok_lret d_M_read_56 ⟨rfl, rfl⟩
        · replace h := if_f hc h
          refine ok_iload_n (q := 44) 3 d_M_read_43 rfl rfl rfl ?_
          refine ok_aload_n (q := 45) 1 d_M_read_44 rfl rfl rfl ?_
          refine gf_M_28 (q := 48) d_M_read_45 rfl ?_
          refine ok_iload_n (q := 49) 0 d_M_read_48 rfl rfl rfl ?_
          obtain ⟨hg, h⟩ := gd_e h
          obtain ⟨x6, e_x6, h⟩ := st_e h
          refine al_M_7 (q := 50) hg e_x6 d_M_read_49 rfl ?_
          refine ok_icmp_le (q := 53) (t := 57) d_M_read_50 (by decide) rfl (fun hc => ?_) (fun hc => ?_)
          · replace h := if_t hc h
            refine ok_aload_n (q := 58) 1 d_M_read_57 rfl rfl rfl ?_
            refine ok_iload_n (q := 59) 2 d_M_read_58 rfl rfl rfl ?_
            refine ok_iload_n (q := 60) 3 d_M_read_59 rfl rfl rfl ?_
            obtain ⟨x9, S7, hk, h⟩ := bd_e h
            refine cs_M_81 (q := 63) hk d_M_read_60 rfl (by decide) (Nat.le_of_ble_eq_true rfl) ?_
            refine ok_istore (q := 65) (lv := [(4, .int x9), (3, .int x4), (0, .ref (r 0)), (1, .int p1), (2, .int p2)]) d_M_read_63 (by decide) rfl rfl ?_
            refine ok_iload (q := 67) 0 d_M_read_65 rfl rfl ?_
            refine ok_if_ge (q := 70) (t := 74) d_M_read_67 (by decide) rfl (fun hc => ?_) (fun hc => ?_)
            · replace h := if_t hc h
              refine ok_aload_n (q := 75) 2 d_M_read_74 rfl rfl rfl ?_
              refine gf_M_38 (q := 78) d_M_read_75 rfl ?_
              refine ok_iload (q := 80) 0 d_M_read_78 rfl rfl ?_
              obtain ⟨hg, h⟩ := gd_e h
              obtain ⟨x10, e_x10, h⟩ := st_e h
              refine al_M_10 (q := 81) hg e_x10 d_M_read_80 rfl ?_
              refine ok_if_lt (q := 84) (t := 90) d_M_read_81 (by decide) rfl (fun hc => ?_) (fun hc => ?_)
              · replace h := if_t hc h
                refine ok_aload_n (q := 91) 2 d_M_read_90 rfl rfl rfl ?_
                refine gf_M_22 (q := 94) d_M_read_91 rfl ?_
                refine ok_iload (q := 96) 0 d_M_read_94 rfl rfl ?_
                obtain ⟨hg, h⟩ := gd_e h
                obtain ⟨x11, e_x11, h⟩ := st_e h
                refine al_M_5 (q := 97) hg e_x11 d_M_read_96 rfl ?_
                refine ok_i2l (q := 98) d_M_read_97 rfl ?_
                obtain ⟨rfl, rfl⟩ := so_e h
                exact ok_lret d_M_read_98 ⟨rfl, rfl⟩
              · replace h := if_f hc h
                refine ok_ldc2 (q := 87) wm_9 d_M_read_84 rfl ?_
                refine ok_goto (q := 98) d_M_read_87 (by decide) ?_
                obtain ⟨rfl, rfl⟩ := so_e h
                exact ok_lret d_M_read_98 ⟨rfl, rfl⟩
            · replace h := if_f hc h
              refine ok_lconst (v := (0 : Int64)) (q := 71) d_M_read_70 (by decide) rfl ?_
              refine ok_goto (q := 98) d_M_read_71 (by decide) ?_
              obtain ⟨rfl, rfl⟩ := so_e h
              exact ok_lret d_M_read_98 ⟨rfl, rfl⟩
          · replace h := if_f hc h
            refine ok_ldc2 (q := 56) wm_8 d_M_read_53 rfl ?_
            obtain ⟨rfl, rfl⟩ := so_e h
            exact ok_lret d_M_read_56 ⟨rfl, rfl⟩
      · replace h := if_f hc h
        refine ok_ldc2 (q := 37) wm_10 d_M_read_34 rfl ?_
        obtain ⟨rfl, rfl⟩ := so_e h
        exact ok_lret d_M_read_37 ⟨rfl, rfl⟩
    · replace h := if_f hc h
      refine ok_ldc2 (q := 24) wm_11 d_M_read_21 rfl ?_
      obtain ⟨rfl, rfl⟩ := so_e h
      exact ok_lret d_M_read_24 ⟨rfl, rfl⟩
  · replace h := if_t hc h
    refine ok_ldc2 (q := 10) wm_12 d_M_read_7 rfl ?_
    obtain ⟨rfl, rfl⟩ := so_e h
    exact ok_lret d_M_read_10 ⟨rfl, rfl⟩
set_option maxRecDepth 20000 in
set_option maxHeartbeats 4000000 in
theorem ct_M_read (p1 : Int32) (p2 : Int32) (S : TR) (z : Int64) (Sz : TR) (h : fn_M_read S p1 p2 = some (z, Sz)) : Ct (wR g r) D (tyR g) l y_M_read b_M_read 5 (some .long) rm_M_read [.ref (r 0), .int p1, .int p2] S (pL z Sz) := ct_of (by decide) (Nat.le_of_ble_eq_true rfl) rfl (wk_M_read p1 p2 S z Sz h)

set_option maxRecDepth 20000 in
set_option maxHeartbeats 4000000 in
theorem wl_M_drop_4 (n : Nat) : ∀ (p1 : Int32) (p3 : Int32) (S : TR) (z : Int32) (Sz : TR), lp_M_drop_4 n S p1 p3 = some (z, Sz) → Ok (wR g r) D (tyR g) l rm_M_drop R_M b_M_drop 5 (some .boolean) S 4 [(0, .ref (r 0)), (1, .int p1), (3, .int p3)] [] (pI z Sz) := by
  induction n with
  | zero => intro p1 p3 S z Sz h; exact absurd h (fun h => by cases h)
  | succ n ih =>
    intro p1 p3 S z Sz h
    rw [le_M_drop_4] at h
    refine ok_iload_n (q := 5) 2 d_M_drop_4 rfl rfl rfl ?_
    refine ok_bipush (v := (6 : Int32)) (q := 7) d_M_drop_5 (by decide) rfl ?_
    refine ok_icmp_gt (q := 10) (t := 40) d_M_drop_7 (by decide) rfl (fun hc => ?_) (fun hc => ?_)
    · replace h := if_t hc h
      refine ok_iconst (v := (1 : Int32)) (q := 41) d_M_drop_40 (by decide) rfl ?_
      obtain ⟨rfl, rfl⟩ := so_e h
      exact ok_zret d_M_drop_41 (by decide) ⟨rfl, rfl⟩
    · replace h := if_f hc h
      refine ok_aload_n (q := 11) 0 d_M_drop_10 rfl rfl rfl ?_
      refine ok_iload_n (q := 12) 1 d_M_drop_11 rfl rfl rfl ?_
      refine ok_iload_n (q := 13) 2 d_M_drop_12 rfl rfl rfl ?_
      obtain ⟨x3, S1, hk, h⟩ := bd_e h
      refine cs_M_81 (q := 16) hk d_M_drop_13 rfl (by decide) (Nat.le_of_ble_eq_true rfl) ?_
      refine ok_istore (q := 18) (lv := [(4, .int x3), (0, .ref (r 0)), (1, .int p1), (3, .int p3)]) d_M_drop_16 (by decide) rfl rfl ?_
      refine ok_iload (q := 20) 0 d_M_drop_18 rfl rfl ?_
      refine ok_if_lt (q := 23) (t := 34) d_M_drop_20 (by decide) rfl (fun hc => ?_) (fun hc => ?_)
      · replace h := if_t hc h
        obtain ⟨x4, e_x4, h⟩ := st_e h
        refine ok_iinc (d := (1 : Int32)) (q := 37) (lv := [(3, .int x4), (4, .int x3), (0, .ref (r 0)), (1, .int p1)]) 3 d_M_drop_34 rfl (by decide) e_x4 (by decide) rfl rfl ?_
        refine ok_goto (q := 4) d_M_drop_37 (by decide) ?_
        exact ok_sub [2, 3, 0] rfl (ih p1 x4 _ _ _ h)
      · replace h := if_f hc h
        refine ok_aload_n (q := 24) 1 d_M_drop_23 rfl rfl rfl ?_
        refine ok_iload (q := 26) 0 d_M_drop_24 rfl rfl ?_
        obtain ⟨x7, S5, hk, h⟩ := bd_e h
        refine cs_M_107 (q := 29) hk d_M_drop_26 rfl (by decide) (Nat.le_of_ble_eq_true rfl) ?_
        refine ok_if_ne (q := 32) (t := 34) d_M_drop_29 (by decide) rfl (fun hc => ?_) (fun hc => ?_)
        · replace h := if_f hc h
          obtain ⟨x8, e_x8, h⟩ := st_e h
          refine ok_iinc (d := (1 : Int32)) (q := 37) (lv := [(3, .int x8), (4, .int x3), (0, .ref (r 0)), (1, .int p1)]) 3 d_M_drop_34 rfl (by decide) e_x8 (by decide) rfl rfl ?_
          refine ok_goto (q := 4) d_M_drop_37 (by decide) ?_
          exact ok_sub [2, 3, 0] rfl (ih p1 x8 _ _ _ h)
        · replace h := if_t hc h
          refine ok_iconst (v := (0 : Int32)) (q := 33) d_M_drop_32 (by decide) rfl ?_
          obtain ⟨rfl, rfl⟩ := so_e h
          exact ok_zret d_M_drop_33 (by decide) ⟨rfl, rfl⟩
set_option maxRecDepth 20000 in
set_option maxHeartbeats 4000000 in
theorem wk_M_drop (p1 : Int32) (p2 : Int32) (S : TR) (z : Int32) (Sz : TR) (h : fn_M_drop S p1 p2 = some (z, Sz)) : Ok (wR g r) D (tyR g) l rm_M_drop R_M b_M_drop 5 (some .boolean) S 0 [(0, .ref (r 0)), (1, .int p1), (2, .int p2)] [] (pI z Sz) := by
  unfold fn_M_drop at h
  refine ok_iload_n (q := 1) 2 d_M_drop_0 rfl rfl rfl ?_
  refine ok_iconst (v := (1 : Int32)) (q := 2) d_M_drop_1 (by decide) rfl ?_
  refine ok_iadd (q := 3) d_M_drop_2 rfl ?_
  obtain ⟨x1, e_x1, h⟩ := st_e h
  refine ok_topi e_x1 ?_
  refine ok_istore_n (q := 4) (lv := [(3, .int x1), (0, .ref (r 0)), (1, .int p1), (2, .int p2)]) d_M_drop_3 rfl (by decide) rfl rfl ?_
  exact ok_sub [1, 2, 0] rfl (wl_M_drop_4 64 p1 x1 _ _ _ h)
set_option maxRecDepth 20000 in
set_option maxHeartbeats 4000000 in
theorem ct_M_drop (p1 : Int32) (p2 : Int32) (S : TR) (z : Int32) (Sz : TR) (h : fn_M_drop S p1 p2 = some (z, Sz)) : Ct (wR g r) D (tyR g) l y_M_drop b_M_drop 5 (some .boolean) rm_M_drop [.ref (r 0), .int p1, .int p2] S (pI z Sz) := ct_of (by decide) (Nat.le_of_ble_eq_true rfl) rfl (wk_M_drop p1 p2 S z Sz h)
theorem cs_M_160 {l : Launch} {D : va_G} {g : Nat → ClassId} {r : Nat → Nat} {rm : Room} {b : ByteArray} {nL : Nat} {ret : Option FieldType} {pc q : Nat} {Lc : List (Nat × Value)} {St : List Value} {S S2 : TR} {Post : Option Value → TR → Prop} {p1 : Int32} {p2 : Int32} {z : Int32} (hk : fn_M_drop S p1 p2 = some (z, S2)) (hd : decode b pc = .ok (.invokevirtual 160, 3)) (hq : pc + 3 = q) (hrm : rm_M_drop.frames + 1 ≤ rm.frames ∧ 8 + (5 + 11) + rm_M_drop.locals ≤ rm.locals) (hroom : (St.map fun v => v.category).sum ≤ 8) (k : Ok (wR g r) D (tyR g) l rm R_M b nL ret S2 q Lc (.int z :: St) Post) : Ok (wR g r) D (tyR g) l rm R_M b nL ret S pc Lc (.int p2 :: .int p1 :: .ref (r 0) :: St) Post := by
  subst hq
  exact ok_cV (As := [.int p1, .int p2]) (n := 2) (C := R_M) (T := F_M) (N := 27) (ci := 2) (q0 := 0) (ct_M_drop p1 p2 S z S2 hk) hd wm_177 ⟨wm_178, wm_179, wm_180, wm_112⟩ (by decide +kernel) ⟨⟨rfl, rfl⟩, hrm⟩ rfl rfl rfl rfl hroom ⟨Nat.zero_le _, Nat.zero_le _⟩ (fun v u h => by obtain ⟨rfl, rfl⟩ := h; exact k)
set_option maxRecDepth 20000 in
set_option maxHeartbeats 4000000 in
theorem wk_M_truncate (p1 : Int32) (p2 : Int32) (S : TR) (z : Int32) (Sz : TR) (h : fn_M_truncate S p1 p2 = some (z, Sz)) : Ok (wR g r) D (tyR g) l rm_M_truncate R_M b_M_truncate 6 (some .int) S 0 [(0, .ref (r 0)), (1, .int p1), (2, .int p2)] [] (pI z Sz) := by
  unfold fn_M_truncate at h
  refine ok_aload_n (q := 1) 0 d_M_truncate_0 rfl rfl rfl ?_
  obtain ⟨x1, e_x1, h⟩ := st_e h
  refine gf_M_56 (q := 4) e_x1 d_M_truncate_1 rfl ?_
  refine ok_if_ne (q := 7) (t := 10) d_M_truncate_4 (by decide) rfl (fun hc => ?_) (fun hc => ?_)
  · replace h := if_f hc h
    refine ok_aload_n (q := 11) 0 d_M_truncate_10 rfl rfl rfl ?_
    refine ok_iload_n (q := 12) 1 d_M_truncate_11 rfl rfl rfl ?_
    obtain ⟨x4, S2, hk, h⟩ := bd_e h
    refine cs_M_134 (q := 15) hk d_M_truncate_12 rfl (by decide) (Nat.le_of_ble_eq_true rfl) ?_
    refine ok_istore_n (q := 16) (lv := [(3, .int x4), (0, .ref (r 0)), (1, .int p1), (2, .int p2)]) d_M_truncate_15 rfl (by decide) rfl rfl ?_
    refine ok_iload_n (q := 17) 0 d_M_truncate_16 rfl rfl rfl ?_
    refine ok_if_ge (q := 20) (t := 22) d_M_truncate_17 (by decide) rfl (fun hc => ?_) (fun hc => ?_)
    · replace h := if_t hc h
      refine ok_aload_n (q := 23) 1 d_M_truncate_22 rfl rfl rfl ?_
      refine gf_M_31 (q := 26) d_M_truncate_23 rfl ?_
      refine ok_iload_n (q := 27) 0 d_M_truncate_26 rfl rfl rfl ?_
      obtain ⟨hg, h⟩ := gd_e h
      obtain ⟨x5, e_x5, h⟩ := st_e h
      refine al_M_8 (q := 28) hg e_x5 d_M_truncate_27 rfl ?_
      refine ok_if_eq (q := 31) (t := 34) d_M_truncate_28 (by decide) rfl (fun hc => ?_) (fun hc => ?_)
      · replace h := if_t hc h
        refine ok_iload_n (q := 35) 3 d_M_truncate_34 rfl rfl rfl ?_
        refine ok_if_lt (q := 38) (t := 48) d_M_truncate_35 (by decide) rfl (fun hc => ?_) (fun hc => ?_)
        · replace h := if_t hc h
          refine ok_bipush (v := (-7 : Int32)) (q := 50) d_M_truncate_48 (by decide) rfl ?_
          obtain ⟨rfl, rfl⟩ := so_e h
          exact ok_iret d_M_truncate_50 ⟨rfl, rfl⟩
        · replace h := if_f hc h
          refine ok_iload_n (q := 39) 3 d_M_truncate_38 rfl rfl rfl ?_
          refine ok_aload_n (q := 40) 1 d_M_truncate_39 rfl rfl rfl ?_
          refine gf_M_28 (q := 43) d_M_truncate_40 rfl ?_
          refine ok_iload_n (q := 44) 0 d_M_truncate_43 rfl rfl rfl ?_
          obtain ⟨hg, h⟩ := gd_e h
          obtain ⟨x6, e_x6, h⟩ := st_e h
          refine al_M_7 (q := 45) hg e_x6 d_M_truncate_44 rfl ?_
          refine ok_icmp_le (q := 48) (t := 51) d_M_truncate_45 (by decide) rfl (fun hc => ?_) (fun hc => ?_)
          · replace h := if_t hc h
            refine ok_iload_n (q := 52) 3 d_M_truncate_51 rfl rfl rfl ?_
            refine ok_aload_n (q := 53) 1 d_M_truncate_52 rfl rfl rfl ?_
            refine gf_M_28 (q := 56) d_M_truncate_53 rfl ?_
            refine ok_iload_n (q := 57) 0 d_M_truncate_56 rfl rfl rfl ?_
            obtain ⟨hg, h⟩ := gd_e h
            obtain ⟨x7, e_x7, h⟩ := st_e h
            refine al_M_7 (q := 58) hg e_x7 d_M_truncate_57 rfl ?_
            refine ok_icmp_ne (q := 61) (t := 63) d_M_truncate_58 (by decide) rfl (fun hc => ?_) (fun hc => ?_)
            · replace h := if_f hc h
              refine ok_aload_n (q := 64) 1 d_M_truncate_63 rfl rfl rfl ?_
              refine ok_iconst (v := (1 : Int32)) (q := 65) d_M_truncate_64 (by decide) rfl ?_
              obtain ⟨x10, S8, hk, h⟩ := bd_e h
              refine cs_M_147 (q := 68) hk d_M_truncate_65 rfl (by decide) (Nat.le_of_ble_eq_true rfl) ?_
              refine ok_istore (q := 70) (lv := [(4, .int x10), (3, .int x4), (0, .ref (r 0)), (1, .int p1), (2, .int p2)]) d_M_truncate_68 (by decide) rfl rfl ?_
              refine ok_iload (q := 72) 0 d_M_truncate_70 rfl rfl ?_
              refine ok_if_ge (q := 75) (t := 78) d_M_truncate_72 (by decide) rfl (fun hc => ?_) (fun hc => ?_)
              · replace h := if_t hc h
                refine ok_aload_n (q := 79) 2 d_M_truncate_78 rfl rfl rfl ?_
                refine ok_iload_n (q := 80) 3 d_M_truncate_79 rfl rfl rfl ?_
                obtain ⟨x13, S11, hk, h⟩ := bd_e h
                refine cs_M_134 (q := 83) hk d_M_truncate_80 rfl (by decide) (Nat.le_of_ble_eq_true rfl) ?_
                refine ok_istore (q := 85) (lv := [(5, .int x13), (4, .int x10), (3, .int x4), (0, .ref (r 0)), (1, .int p1), (2, .int p2)]) d_M_truncate_83 (by decide) rfl rfl ?_
                refine ok_aload_n (q := 86) 3 d_M_truncate_85 rfl rfl rfl ?_
                refine ok_iload (q := 88) 0 d_M_truncate_86 rfl rfl ?_
                obtain ⟨_, S14, hk, h⟩ := bd_e h
                refine cs_M_115 (q := 91) hk d_M_truncate_88 rfl (by decide) (Nat.le_of_ble_eq_true rfl) ?_
                refine ok_aload_n (q := 92) 3 d_M_truncate_91 rfl rfl rfl ?_
                refine ok_iload_n (q := 93) 5 d_M_truncate_92 rfl rfl rfl ?_
                obtain ⟨S16, e_S16, h⟩ := st_e h
                refine pf_M_95 (q := 96) e_S16 d_M_truncate_93 rfl ?_
                refine ok_aload_n (q := 97) 3 d_M_truncate_96 rfl rfl rfl ?_
                obtain ⟨x19, S17, hk, h⟩ := bd_e h
                refine cs_M_119 (q := 100) hk d_M_truncate_97 rfl (by decide) (Nat.le_of_ble_eq_true rfl) ?_
                refine ok_if_eq (q := 103) (t := 116) d_M_truncate_100 (by decide) rfl (fun hc => ?_) (fun hc => ?_)
                · replace h := if_t hc h
                  refine ok_bipush (v := (-9 : Int32)) (q := 118) d_M_truncate_116 (by decide) rfl ?_
                  obtain ⟨rfl, rfl⟩ := so_e h
                  exact ok_iret d_M_truncate_118 ⟨rfl, rfl⟩
                · replace h := if_f hc h
                  refine ok_aload_n (q := 104) 3 d_M_truncate_103 rfl rfl rfl ?_
                  refine ok_iload_n (q := 105) 4 d_M_truncate_104 rfl rfl rfl ?_
                  refine ok_iload_n (q := 106) 5 d_M_truncate_105 rfl rfl rfl ?_
                  obtain ⟨x22, S20, hk, h⟩ := bd_e h
                  refine cs_M_160 (q := 109) hk d_M_truncate_106 rfl (by decide) (Nat.le_of_ble_eq_true rfl) ?_
                  refine ok_if_eq (q := 112) (t := 116) d_M_truncate_109 (by decide) rfl (fun hc => ?_) (fun hc => ?_)
                  · replace h := if_t hc h
                    refine ok_bipush (v := (-9 : Int32)) (q := 118) d_M_truncate_116 (by decide) rfl ?_
                    obtain ⟨rfl, rfl⟩ := so_e h
                    exact ok_iret d_M_truncate_118 ⟨rfl, rfl⟩
                  · replace h := if_f hc h
                    refine ok_iconst (v := (0 : Int32)) (q := 113) d_M_truncate_112 (by decide) rfl ?_
                    refine ok_goto (q := 118) d_M_truncate_113 (by decide) ?_
                    obtain ⟨rfl, rfl⟩ := so_e h
                    exact ok_iret d_M_truncate_118 ⟨rfl, rfl⟩
              · replace h := if_f hc h
                refine ok_iload (q := 77) 0 d_M_truncate_75 rfl rfl ?_
                obtain ⟨rfl, rfl⟩ := so_e h
                exact ok_iret d_M_truncate_77 ⟨rfl, rfl⟩
            · replace h := if_t hc h
              refine ok_iconst (v := (0 : Int32)) (q := 62) d_M_truncate_61 (by decide) rfl ?_
              obtain ⟨rfl, rfl⟩ := so_e h
              exact ok_iret d_M_truncate_62 ⟨rfl, rfl⟩
          · replace h := if_f hc h
            refine ok_bipush (v := (-7 : Int32)) (q := 50) d_M_truncate_48 (by decide) rfl ?_
            obtain ⟨rfl, rfl⟩ := so_e h
            exact ok_iret d_M_truncate_50 ⟨rfl, rfl⟩
      · replace h := if_f hc h
        refine ok_bipush (v := (-3 : Int32)) (q := 33) d_M_truncate_31 (by decide) rfl ?_
        obtain ⟨rfl, rfl⟩ := so_e h
        exact ok_iret d_M_truncate_33 ⟨rfl, rfl⟩
    · replace h := if_f hc h
      refine ok_iconst (v := (-1 : Int32)) (q := 21) d_M_truncate_20 (by decide) rfl ?_
      obtain ⟨rfl, rfl⟩ := so_e h
      exact ok_iret d_M_truncate_21 ⟨rfl, rfl⟩
  · replace h := if_t hc h
    refine ok_bipush (v := (-9 : Int32)) (q := 9) d_M_truncate_7 (by decide) rfl ?_
    obtain ⟨rfl, rfl⟩ := so_e h
    exact ok_iret d_M_truncate_9 ⟨rfl, rfl⟩
set_option maxRecDepth 20000 in
set_option maxHeartbeats 4000000 in
theorem ct_M_truncate (p1 : Int32) (p2 : Int32) (S : TR) (z : Int32) (Sz : TR) (h : fn_M_truncate S p1 p2 = some (z, Sz)) : Ct (wR g r) D (tyR g) l y_M_truncate b_M_truncate 6 (some .int) rm_M_truncate [.ref (r 0), .int p1, .int p2] S (pI z Sz) := ct_of (by decide) (Nat.le_of_ble_eq_true rfl) rfl (wk_M_truncate p1 p2 S z Sz h)

set_option maxRecDepth 20000 in
set_option maxHeartbeats 4000000 in
theorem wl_M_lies_5 (n : Nat) : ∀ (p2 : Int32) (p3 : Int32) (p4 : Int32) (S : TR) (z : Int32) (Sz : TR), lp_M_lies_5 n S p2 p3 p4 = some (z, Sz) → Ok (wR g r) D (tyR g) l rm_M_lies R_M b_M_lies 6 (some .boolean) S 5 [(0, .ref (r 0)), (2, .int p2), (3, .int p3), (4, .int p4)] [] (pI z Sz) := by
  induction n with
  | zero => intro p2 p3 p4 S z Sz h; exact absurd h (fun h => by cases h)
  | succ n ih =>
    intro p2 p3 p4 S z Sz h
    rw [le_M_lies_5] at h
    refine ok_iload (q := 7) 3 d_M_lies_5 rfl rfl ?_
    refine ok_bipush (v := (8 : Int32)) (q := 9) d_M_lies_7 (by decide) rfl ?_
    refine ok_icmp_ge (q := 12) (t := 53) d_M_lies_9 (by decide) rfl (fun hc => ?_) (fun hc => ?_)
    · replace h := if_t hc h
      refine ok_iconst (v := (0 : Int32)) (q := 54) d_M_lies_53 (by decide) rfl ?_
      obtain ⟨rfl, rfl⟩ := so_e h
      exact ok_zret d_M_lies_54 (by decide) ⟨rfl, rfl⟩
    · replace h := if_f hc h
      refine ok_iload_n (q := 13) 2 d_M_lies_12 rfl rfl rfl ?_
      refine ok_if_eq (q := 16) (t := 53) d_M_lies_13 (by decide) rfl (fun hc => ?_) (fun hc => ?_)
      · replace h := if_t hc h
        refine ok_iconst (v := (0 : Int32)) (q := 54) d_M_lies_53 (by decide) rfl ?_
        obtain ⟨rfl, rfl⟩ := so_e h
        exact ok_zret d_M_lies_54 (by decide) ⟨rfl, rfl⟩
      · replace h := if_f hc h
        refine ok_iload_n (q := 17) 2 d_M_lies_16 rfl rfl rfl ?_
        refine ok_iload_n (q := 18) 1 d_M_lies_17 rfl rfl rfl ?_
        refine ok_icmp_ne (q := 21) (t := 23) d_M_lies_18 (by decide) rfl (fun hc => ?_) (fun hc => ?_)
        · replace h := if_f hc h
          refine ok_aload_n (q := 24) 0 d_M_lies_23 rfl rfl rfl ?_
          refine ok_iload_n (q := 25) 2 d_M_lies_24 rfl rfl rfl ?_
          obtain ⟨x3, S1, hk, h⟩ := bd_e h
          refine cs_M_134 (q := 28) hk d_M_lies_25 rfl (by decide) (Nat.le_of_ble_eq_true rfl) ?_
          refine ok_istore (q := 30) (lv := [(5, .int x3), (0, .ref (r 0)), (2, .int p2), (3, .int p3), (4, .int p4)]) d_M_lies_28 (by decide) rfl rfl ?_
          refine ok_iload (q := 32) 0 d_M_lies_30 rfl rfl ?_
          refine ok_if_ge (q := 35) (t := 39) d_M_lies_32 (by decide) rfl (fun hc => ?_) (fun hc => ?_)
          · replace h := if_t hc h
            refine ok_aload_n (q := 40) 1 d_M_lies_39 rfl rfl rfl ?_
            refine gf_M_25 (q := 43) d_M_lies_40 rfl ?_
            refine ok_iload (q := 45) 0 d_M_lies_43 rfl rfl ?_
            obtain ⟨hg, h⟩ := gd_e h
            obtain ⟨x4, e_x4, h⟩ := st_e h
            refine al_M_6 (q := 46) hg e_x4 d_M_lies_45 rfl ?_
            refine ok_istore_n (q := 47) (lv := [(3, .int x4), (5, .int x3), (0, .ref (r 0)), (2, .int p2), (4, .int p4)]) d_M_lies_46 rfl (by decide) rfl rfl ?_
            obtain ⟨x5, e_x5, h⟩ := st_e h
            refine ok_iinc (d := (1 : Int32)) (q := 50) (lv := [(4, .int x5), (3, .int x4), (5, .int x3), (0, .ref (r 0)), (2, .int p2)]) 4 d_M_lies_47 rfl (by decide) e_x5 (by decide) rfl rfl ?_
            refine ok_goto (q := 5) d_M_lies_50 (by decide) ?_
            exact ok_sub [3, 4, 1, 0] rfl (ih p2 x4 x5 _ _ _ h)
          · replace h := if_f hc h
            refine ok_iconst (v := (0 : Int32)) (q := 36) d_M_lies_35 (by decide) rfl ?_
            refine ok_goto (q := 46) d_M_lies_36 (by decide) ?_
            refine ok_istore_n (q := 47) (lv := [(3, .int (0 : Int32)), (5, .int x3), (0, .ref (r 0)), (2, .int p2), (4, .int p4)]) d_M_lies_46 rfl (by decide) rfl rfl ?_
            obtain ⟨x6, e_x6, h⟩ := st_e h
            refine ok_iinc (d := (1 : Int32)) (q := 50) (lv := [(4, .int x6), (3, .int (0 : Int32)), (5, .int x3), (0, .ref (r 0)), (2, .int p2)]) 4 d_M_lies_47 rfl (by decide) e_x6 (by decide) rfl rfl ?_
            refine ok_goto (q := 5) d_M_lies_50 (by decide) ?_
            exact ok_sub [3, 4, 1, 0] rfl (ih p2 (0 : Int32) x6 _ _ _ h)
        · replace h := if_t hc h
          refine ok_iconst (v := (1 : Int32)) (q := 22) d_M_lies_21 (by decide) rfl ?_
          obtain ⟨rfl, rfl⟩ := so_e h
          exact ok_zret d_M_lies_22 (by decide) ⟨rfl, rfl⟩
set_option maxRecDepth 20000 in
set_option maxHeartbeats 4000000 in
theorem wk_M_lies (p1 : Int32) (p2 : Int32) (S : TR) (z : Int32) (Sz : TR) (h : fn_M_lies S p1 p2 = some (z, Sz)) : Ok (wR g r) D (tyR g) l rm_M_lies R_M b_M_lies 6 (some .boolean) S 0 [(0, .ref (r 0)), (1, .int p1), (2, .int p2)] [] (pI z Sz) := by
  unfold fn_M_lies at h
  refine ok_iload_n (q := 1) 1 d_M_lies_0 rfl rfl rfl ?_
  refine ok_istore_n (q := 2) (lv := [(3, .int p1), (0, .ref (r 0)), (1, .int p1), (2, .int p2)]) d_M_lies_1 rfl (by decide) rfl rfl ?_
  refine ok_iconst (v := (0 : Int32)) (q := 3) d_M_lies_2 (by decide) rfl ?_
  refine ok_istore (q := 5) (lv := [(4, .int (0 : Int32)), (3, .int p1), (0, .ref (r 0)), (1, .int p1), (2, .int p2)]) d_M_lies_3 (by decide) rfl rfl ?_
  exact ok_sub [2, 4, 1, 0] rfl (wl_M_lies_5 64 p2 p1 (0 : Int32) _ _ _ h)
set_option maxRecDepth 20000 in
set_option maxHeartbeats 4000000 in
theorem ct_M_lies (p1 : Int32) (p2 : Int32) (S : TR) (z : Int32) (Sz : TR) (h : fn_M_lies S p1 p2 = some (z, Sz)) : Ct (wR g r) D (tyR g) l y_M_lies b_M_lies 6 (some .boolean) rm_M_lies [.ref (r 0), .int p1, .int p2] S (pI z Sz) := ct_of (by decide) (Nat.le_of_ble_eq_true rfl) rfl (wk_M_lies p1 p2 S z Sz h)
theorem cs_M_164 {l : Launch} {D : va_G} {g : Nat → ClassId} {r : Nat → Nat} {rm : Room} {b : ByteArray} {nL : Nat} {ret : Option FieldType} {pc q : Nat} {Lc : List (Nat × Value)} {St : List Value} {S S2 : TR} {Post : Option Value → TR → Prop} {p1 : Int32} {p2 : Int32} {z : Int32} (hk : fn_M_lies S p1 p2 = some (z, S2)) (hd : decode b pc = .ok (.invokevirtual 164, 3)) (hq : pc + 3 = q) (hrm : rm_M_lies.frames + 1 ≤ rm.frames ∧ 8 + (6 + 11) + rm_M_lies.locals ≤ rm.locals) (hroom : (St.map fun v => v.category).sum ≤ 8) (k : Ok (wR g r) D (tyR g) l rm R_M b nL ret S2 q Lc (.int z :: St) Post) : Ok (wR g r) D (tyR g) l rm R_M b nL ret S pc Lc (.int p2 :: .int p1 :: .ref (r 0) :: St) Post := by
  subst hq
  exact ok_cV (As := [.int p1, .int p2]) (n := 2) (C := R_M) (T := F_M) (N := 27) (ci := 2) (q0 := 0) (ct_M_lies p1 p2 S z S2 hk) hd wm_181 ⟨wm_182, wm_183, wm_184, wm_112⟩ (by decide +kernel) ⟨⟨rfl, rfl⟩, hrm⟩ rfl rfl rfl rfl hroom ⟨Nat.zero_le _, Nat.zero_le _⟩ (fun v u h => by obtain ⟨rfl, rfl⟩ := h; exact k)
set_option maxRecDepth 20000 in
set_option maxHeartbeats 4000000 in
theorem wk_M_move (p1 : Int32) (p2 : Int32) (p3 : Int32) (S : TR) (z : Int32) (Sz : TR) (h : fn_M_move S p1 p2 p3 = some (z, Sz)) : Ok (wR g r) D (tyR g) l rm_M_move R_M b_M_move 6 (some .int) S 0 [(0, .ref (r 0)), (1, .int p1), (2, .int p2), (3, .int p3)] [] (pI z Sz) := by
  unfold fn_M_move at h
  refine ok_aload_n (q := 1) 0 d_M_move_0 rfl rfl rfl ?_
  obtain ⟨x1, e_x1, h⟩ := st_e h
  refine gf_M_56 (q := 4) e_x1 d_M_move_1 rfl ?_
  refine ok_if_ne (q := 7) (t := 10) d_M_move_4 (by decide) rfl (fun hc => ?_) (fun hc => ?_)
  · replace h := if_f hc h
    refine ok_aload_n (q := 11) 0 d_M_move_10 rfl rfl rfl ?_
    refine ok_iload_n (q := 12) 1 d_M_move_11 rfl rfl rfl ?_
    obtain ⟨x4, S2, hk, h⟩ := bd_e h
    refine cs_M_134 (q := 15) hk d_M_move_12 rfl (by decide) (Nat.le_of_ble_eq_true rfl) ?_
    refine ok_if_lt (q := 18) (t := 26) d_M_move_15 (by decide) rfl (fun hc => ?_) (fun hc => ?_)
    · replace h := if_t hc h
      refine ok_iconst (v := (-1 : Int32)) (q := 27) d_M_move_26 (by decide) rfl ?_
      obtain ⟨rfl, rfl⟩ := so_e h
      exact ok_iret d_M_move_27 ⟨rfl, rfl⟩
    · replace h := if_f hc h
      refine ok_aload_n (q := 19) 0 d_M_move_18 rfl rfl rfl ?_
      refine ok_iload_n (q := 20) 2 d_M_move_19 rfl rfl rfl ?_
      obtain ⟨x7, S5, hk, h⟩ := bd_e h
      refine cs_M_137 (q := 23) hk d_M_move_20 rfl (by decide) (Nat.le_of_ble_eq_true rfl) ?_
      refine ok_if_ne (q := 26) (t := 28) d_M_move_23 (by decide) rfl (fun hc => ?_) (fun hc => ?_)
      · replace h := if_f hc h
        refine ok_aload_n (q := 29) 0 d_M_move_28 rfl rfl rfl ?_
        refine ok_iload_n (q := 30) 2 d_M_move_29 rfl rfl rfl ?_
        obtain ⟨x10, S8, hk, h⟩ := bd_e h
        refine cs_M_140 (q := 33) hk d_M_move_30 rfl (by decide) (Nat.le_of_ble_eq_true rfl) ?_
        refine ok_if_ne (q := 36) (t := 39) d_M_move_33 (by decide) rfl (fun hc => ?_) (fun hc => ?_)
        · replace h := if_f hc h
          refine ok_aload_n (q := 40) 0 d_M_move_39 rfl rfl rfl ?_
          refine ok_iload_n (q := 41) 2 d_M_move_40 rfl rfl rfl ?_
          refine ok_iload_n (q := 42) 1 d_M_move_41 rfl rfl rfl ?_
          obtain ⟨x13, S11, hk, h⟩ := bd_e h
          refine cs_M_164 (q := 45) hk d_M_move_42 rfl (by decide) (Nat.le_of_ble_eq_true rfl) ?_
          refine ok_if_eq (q := 48) (t := 51) d_M_move_45 (by decide) rfl (fun hc => ?_) (fun hc => ?_)
          · replace h := if_t hc h
            refine ok_aload_n (q := 52) 0 d_M_move_51 rfl rfl rfl ?_
            refine ok_iload_n (q := 53) 2 d_M_move_52 rfl rfl rfl ?_
            refine ok_iload_n (q := 54) 3 d_M_move_53 rfl rfl rfl ?_
            refine ok_iload_n (q := 55) 1 d_M_move_54 rfl rfl rfl ?_
            obtain ⟨x16, S14, hk, h⟩ := bd_e h
            refine cs_M_143 (q := 58) hk d_M_move_55 rfl (by decide) (Nat.le_of_ble_eq_true rfl) ?_
            refine ok_if_le (q := 61) (t := 64) d_M_move_58 (by decide) rfl (fun hc => ?_) (fun hc => ?_)
            · replace h := if_t hc h
              refine ok_aload_n (q := 65) 0 d_M_move_64 rfl rfl rfl ?_
              refine ok_iconst (v := (1 : Int32)) (q := 66) d_M_move_65 (by decide) rfl ?_
              obtain ⟨x19, S17, hk, h⟩ := bd_e h
              refine cs_M_147 (q := 69) hk d_M_move_66 rfl (by decide) (Nat.le_of_ble_eq_true rfl) ?_
              refine ok_istore (q := 71) (lv := [(4, .int x19), (0, .ref (r 0)), (1, .int p1), (2, .int p2), (3, .int p3)]) d_M_move_69 (by decide) rfl rfl ?_
              refine ok_iload (q := 73) 0 d_M_move_71 rfl rfl ?_
              refine ok_if_ge (q := 76) (t := 79) d_M_move_73 (by decide) rfl (fun hc => ?_) (fun hc => ?_)
              · replace h := if_t hc h
                refine ok_aload_n (q := 80) 1 d_M_move_79 rfl rfl rfl ?_
                refine ok_iload_n (q := 81) 2 d_M_move_80 rfl rfl rfl ?_
                obtain ⟨x22, S20, hk, h⟩ := bd_e h
                refine cs_M_134 (q := 84) hk d_M_move_81 rfl (by decide) (Nat.le_of_ble_eq_true rfl) ?_
                refine ok_istore (q := 86) (lv := [(5, .int x22), (4, .int x19), (0, .ref (r 0)), (1, .int p1), (2, .int p2), (3, .int p3)]) d_M_move_84 (by decide) rfl rfl ?_
                refine ok_aload_n (q := 87) 2 d_M_move_86 rfl rfl rfl ?_
                refine ok_iload (q := 89) 0 d_M_move_87 rfl rfl ?_
                obtain ⟨_, S23, hk, h⟩ := bd_e h
                refine cs_M_115 (q := 92) hk d_M_move_89 rfl (by decide) (Nat.le_of_ble_eq_true rfl) ?_
                refine ok_aload_n (q := 93) 2 d_M_move_92 rfl rfl rfl ?_
                refine ok_iload_n (q := 94) 4 d_M_move_93 rfl rfl rfl ?_
                obtain ⟨S25, e_S25, h⟩ := st_e h
                refine pf_M_92 (q := 97) e_S25 d_M_move_94 rfl ?_
                refine ok_aload_n (q := 98) 2 d_M_move_97 rfl rfl rfl ?_
                refine ok_iload_n (q := 99) 5 d_M_move_98 rfl rfl rfl ?_
                obtain ⟨S26, e_S26, h⟩ := st_e h
                refine pf_M_89 (q := 102) e_S26 d_M_move_99 rfl ?_
                refine ok_aload_n (q := 103) 2 d_M_move_102 rfl rfl rfl ?_
                refine ok_iconst (v := (-1 : Int32)) (q := 104) d_M_move_103 (by decide) rfl ?_
                obtain ⟨S27, e_S27, h⟩ := st_e h
                refine pf_M_101 (q := 107) e_S27 d_M_move_104 rfl ?_
                refine ok_aload_n (q := 108) 2 d_M_move_107 rfl rfl rfl ?_
                refine ok_iconst (v := (-1 : Int32)) (q := 109) d_M_move_108 (by decide) rfl ?_
                obtain ⟨S28, e_S28, h⟩ := st_e h
                refine pf_M_104 (q := 112) e_S28 d_M_move_109 rfl ?_
                refine ok_aload_n (q := 113) 2 d_M_move_112 rfl rfl rfl ?_
                obtain ⟨x31, S29, hk, h⟩ := bd_e h
                refine cs_M_119 (q := 116) hk d_M_move_113 rfl (by decide) (Nat.le_of_ble_eq_true rfl) ?_
                refine ok_if_eq (q := 119) (t := 123) d_M_move_116 (by decide) rfl (fun hc => ?_) (fun hc => ?_)
                · replace h := if_t hc h
                  refine ok_bipush (v := (-9 : Int32)) (q := 125) d_M_move_123 (by decide) rfl ?_
                  obtain ⟨rfl, rfl⟩ := so_e h
                  exact ok_iret d_M_move_125 ⟨rfl, rfl⟩
                · replace h := if_f hc h
                  refine ok_iconst (v := (0 : Int32)) (q := 120) d_M_move_119 (by decide) rfl ?_
                  refine ok_goto (q := 125) d_M_move_120 (by decide) ?_
                  obtain ⟨rfl, rfl⟩ := so_e h
                  exact ok_iret d_M_move_125 ⟨rfl, rfl⟩
              · replace h := if_f hc h
                refine ok_iload (q := 78) 0 d_M_move_76 rfl rfl ?_
                obtain ⟨rfl, rfl⟩ := so_e h
                exact ok_iret d_M_move_78 ⟨rfl, rfl⟩
            · replace h := if_f hc h
              refine ok_bipush (v := (-4 : Int32)) (q := 63) d_M_move_61 (by decide) rfl ?_
              obtain ⟨rfl, rfl⟩ := so_e h
              exact ok_iret d_M_move_63 ⟨rfl, rfl⟩
          · replace h := if_f hc h
            refine ok_bipush (v := (-10 : Int32)) (q := 50) d_M_move_48 (by decide) rfl ?_
            obtain ⟨rfl, rfl⟩ := so_e h
            exact ok_iret d_M_move_50 ⟨rfl, rfl⟩
        · replace h := if_t hc h
          refine ok_bipush (v := (-2 : Int32)) (q := 38) d_M_move_36 (by decide) rfl ?_
          obtain ⟨rfl, rfl⟩ := so_e h
          exact ok_iret d_M_move_38 ⟨rfl, rfl⟩
      · replace h := if_t hc h
        refine ok_iconst (v := (-1 : Int32)) (q := 27) d_M_move_26 (by decide) rfl ?_
        obtain ⟨rfl, rfl⟩ := so_e h
        exact ok_iret d_M_move_27 ⟨rfl, rfl⟩
  · replace h := if_t hc h
    refine ok_bipush (v := (-9 : Int32)) (q := 9) d_M_move_7 (by decide) rfl ?_
    obtain ⟨rfl, rfl⟩ := so_e h
    exact ok_iret d_M_move_9 ⟨rfl, rfl⟩
set_option maxRecDepth 20000 in
set_option maxHeartbeats 4000000 in
theorem ct_M_move (p1 : Int32) (p2 : Int32) (p3 : Int32) (S : TR) (z : Int32) (Sz : TR) (h : fn_M_move S p1 p2 p3 = some (z, Sz)) : Ct (wR g r) D (tyR g) l y_M_move b_M_move 6 (some .int) rm_M_move [.ref (r 0), .int p1, .int p2, .int p3] S (pI z Sz) := ct_of (by decide) (Nat.le_of_ble_eq_true rfl) rfl (wk_M_move p1 p2 p3 S z Sz h)

set_option maxRecDepth 20000 in
set_option maxHeartbeats 4000000 in
theorem wk_M_remove (p1 : Int32) (S : TR) (z : Int32) (Sz : TR) (h : fn_M_remove S p1 = some (z, Sz)) : Ok (wR g r) D (tyR g) l rm_M_remove R_M b_M_remove 3 (some .int) S 0 [(0, .ref (r 0)), (1, .int p1)] [] (pI z Sz) := by
  unfold fn_M_remove at h
  refine ok_aload_n (q := 1) 0 d_M_remove_0 rfl rfl rfl ?_
  obtain ⟨x1, e_x1, h⟩ := st_e h
  refine gf_M_56 (q := 4) e_x1 d_M_remove_1 rfl ?_
  refine ok_if_ne (q := 7) (t := 10) d_M_remove_4 (by decide) rfl (fun hc => ?_) (fun hc => ?_)
  · replace h := if_f hc h
    refine ok_aload_n (q := 11) 0 d_M_remove_10 rfl rfl rfl ?_
    refine ok_iload_n (q := 12) 1 d_M_remove_11 rfl rfl rfl ?_
    obtain ⟨x4, S2, hk, h⟩ := bd_e h
    refine cs_M_134 (q := 15) hk d_M_remove_12 rfl (by decide) (Nat.le_of_ble_eq_true rfl) ?_
    refine ok_istore_n (q := 16) (lv := [(2, .int x4), (0, .ref (r 0)), (1, .int p1)]) d_M_remove_15 rfl (by decide) rfl rfl ?_
    refine ok_iload_n (q := 17) 0 d_M_remove_16 rfl rfl rfl ?_
    refine ok_if_ge (q := 20) (t := 22) d_M_remove_17 (by decide) rfl (fun hc => ?_) (fun hc => ?_)
    · replace h := if_t hc h
      refine ok_aload_n (q := 23) 1 d_M_remove_22 rfl rfl rfl ?_
      refine ok_iload_n (q := 24) 2 d_M_remove_23 rfl rfl rfl ?_
      obtain ⟨x7, S5, hk, h⟩ := bd_e h
      refine cs_M_167 (q := 27) hk d_M_remove_24 rfl (by decide) (Nat.le_of_ble_eq_true rfl) ?_
      refine ok_if_le (q := 30) (t := 33) d_M_remove_27 (by decide) rfl (fun hc => ?_) (fun hc => ?_)
      · replace h := if_t hc h
        refine ok_aload_n (q := 34) 1 d_M_remove_33 rfl rfl rfl ?_
        refine ok_iload_n (q := 35) 0 d_M_remove_34 rfl rfl rfl ?_
        obtain ⟨x10, S8, hk, h⟩ := bd_e h
        refine cs_M_107 (q := 38) hk d_M_remove_35 rfl (by decide) (Nat.le_of_ble_eq_true rfl) ?_
        refine ok_if_eq (q := 41) (t := 54) d_M_remove_38 (by decide) rfl (fun hc => ?_) (fun hc => ?_)
        · replace h := if_t hc h
          refine ok_bipush (v := (-9 : Int32)) (q := 56) d_M_remove_54 (by decide) rfl ?_
          obtain ⟨rfl, rfl⟩ := so_e h
          exact ok_iret d_M_remove_56 ⟨rfl, rfl⟩
        · replace h := if_f hc h
          refine ok_aload_n (q := 42) 1 d_M_remove_41 rfl rfl rfl ?_
          refine ok_iload_n (q := 43) 2 d_M_remove_42 rfl rfl rfl ?_
          refine ok_iconst (v := (0 : Int32)) (q := 44) d_M_remove_43 (by decide) rfl ?_
          obtain ⟨x13, S11, hk, h⟩ := bd_e h
          refine cs_M_160 (q := 47) hk d_M_remove_44 rfl (by decide) (Nat.le_of_ble_eq_true rfl) ?_
          refine ok_if_eq (q := 50) (t := 54) d_M_remove_47 (by decide) rfl (fun hc => ?_) (fun hc => ?_)
          · replace h := if_t hc h
            refine ok_bipush (v := (-9 : Int32)) (q := 56) d_M_remove_54 (by decide) rfl ?_
            obtain ⟨rfl, rfl⟩ := so_e h
            exact ok_iret d_M_remove_56 ⟨rfl, rfl⟩
          · replace h := if_f hc h
            refine ok_iconst (v := (0 : Int32)) (q := 51) d_M_remove_50 (by decide) rfl ?_
            refine ok_goto (q := 56) d_M_remove_51 (by decide) ?_
            obtain ⟨rfl, rfl⟩ := so_e h
            exact ok_iret d_M_remove_56 ⟨rfl, rfl⟩
      · replace h := if_f hc h
        refine ok_bipush (v := (-8 : Int32)) (q := 32) d_M_remove_30 (by decide) rfl ?_
        obtain ⟨rfl, rfl⟩ := so_e h
        exact ok_iret d_M_remove_32 ⟨rfl, rfl⟩
    · replace h := if_f hc h
      refine ok_iconst (v := (-1 : Int32)) (q := 21) d_M_remove_20 (by decide) rfl ?_
      obtain ⟨rfl, rfl⟩ := so_e h
      exact ok_iret d_M_remove_21 ⟨rfl, rfl⟩
  · replace h := if_t hc h
    refine ok_bipush (v := (-9 : Int32)) (q := 9) d_M_remove_7 (by decide) rfl ?_
    obtain ⟨rfl, rfl⟩ := so_e h
    exact ok_iret d_M_remove_9 ⟨rfl, rfl⟩
set_option maxRecDepth 20000 in
set_option maxHeartbeats 4000000 in
theorem ct_M_remove (p1 : Int32) (S : TR) (z : Int32) (Sz : TR) (h : fn_M_remove S p1 = some (z, Sz)) : Ct (wR g r) D (tyR g) l y_M_remove b_M_remove 3 (some .int) rm_M_remove [.ref (r 0), .int p1] S (pI z Sz) := ct_of (by decide) (Nat.le_of_ble_eq_true rfl) rfl (wk_M_remove p1 S z Sz h)

set_option maxRecDepth 20000 in
set_option maxHeartbeats 4000000 in
theorem wk_M_find (p1 : Int32) (p2 : Int32) (S : TR) (z : Int32) (Sz : TR) (h : fn_M_find S p1 p2 = some (z, Sz)) : Ok (wR g r) D (tyR g) l rm_M_find R_M b_M_find 3 (some .int) S 0 [(0, .ref (r 0)), (1, .int p1), (2, .int p2)] [] (pI z Sz) := by
  unfold fn_M_find at h
  refine ok_aload_n (q := 1) 0 d_M_find_0 rfl rfl rfl ?_
  obtain ⟨x1, e_x1, h⟩ := st_e h
  refine gf_M_56 (q := 4) e_x1 d_M_find_1 rfl ?_
  refine ok_if_ne (q := 7) (t := 10) d_M_find_4 (by decide) rfl (fun hc => ?_) (fun hc => ?_)
  · replace h := if_f hc h
    refine ok_aload_n (q := 11) 0 d_M_find_10 rfl rfl rfl ?_
    refine ok_iload_n (q := 12) 1 d_M_find_11 rfl rfl rfl ?_
    obtain ⟨x4, S2, hk, h⟩ := bd_e h
    refine cs_M_137 (q := 15) hk d_M_find_12 rfl (by decide) (Nat.le_of_ble_eq_true rfl) ?_
    refine ok_if_ne (q := 18) (t := 20) d_M_find_15 (by decide) rfl (fun hc => ?_) (fun hc => ?_)
    · replace h := if_f hc h
      refine ok_aload_n (q := 21) 0 d_M_find_20 rfl rfl rfl ?_
      refine ok_iload_n (q := 22) 1 d_M_find_21 rfl rfl rfl ?_
      obtain ⟨x7, S5, hk, h⟩ := bd_e h
      refine cs_M_140 (q := 25) hk d_M_find_22 rfl (by decide) (Nat.le_of_ble_eq_true rfl) ?_
      refine ok_if_eq (q := 28) (t := 38) d_M_find_25 (by decide) rfl (fun hc => ?_) (fun hc => ?_)
      · replace h := if_t hc h
        refine ok_bipush (v := (-2 : Int32)) (q := 40) d_M_find_38 (by decide) rfl ?_
        obtain ⟨rfl, rfl⟩ := so_e h
        exact ok_iret d_M_find_40 ⟨rfl, rfl⟩
      · replace h := if_f hc h
        refine ok_aload_n (q := 29) 0 d_M_find_28 rfl rfl rfl ?_
        refine ok_iload_n (q := 30) 1 d_M_find_29 rfl rfl rfl ?_
        refine ok_iload_n (q := 31) 2 d_M_find_30 rfl rfl rfl ?_
        refine ok_iconst (v := (0 : Int32)) (q := 32) d_M_find_31 (by decide) rfl ?_
        obtain ⟨x10, S8, hk, h⟩ := bd_e h
        refine cs_M_143 (q := 35) hk d_M_find_32 rfl (by decide) (Nat.le_of_ble_eq_true rfl) ?_
        refine ok_goto (q := 40) d_M_find_35 (by decide) ?_
        obtain ⟨rfl, rfl⟩ := so_e h
        exact ok_iret d_M_find_40 ⟨rfl, rfl⟩
    · replace h := if_t hc h
      refine ok_iconst (v := (-1 : Int32)) (q := 19) d_M_find_18 (by decide) rfl ?_
      obtain ⟨rfl, rfl⟩ := so_e h
      exact ok_iret d_M_find_19 ⟨rfl, rfl⟩
  · replace h := if_t hc h
    refine ok_bipush (v := (-9 : Int32)) (q := 9) d_M_find_7 (by decide) rfl ?_
    obtain ⟨rfl, rfl⟩ := so_e h
    exact ok_iret d_M_find_9 ⟨rfl, rfl⟩
set_option maxRecDepth 20000 in
set_option maxHeartbeats 4000000 in
theorem ct_M_find (p1 : Int32) (p2 : Int32) (S : TR) (z : Int32) (Sz : TR) (h : fn_M_find S p1 p2 = some (z, Sz)) : Ct (wR g r) D (tyR g) l y_M_find b_M_find 3 (some .int) rm_M_find [.ref (r 0), .int p1, .int p2] S (pI z Sz) := ct_of (by decide) (Nat.le_of_ble_eq_true rfl) rfl (wk_M_find p1 p2 S z Sz h)

set_option maxRecDepth 20000 in
set_option maxHeartbeats 4000000 in
theorem wk_M_size (p1 : Int32) (S : TR) (z : Int32) (Sz : TR) (h : fn_M_size S p1 = some (z, Sz)) : Ok (wR g r) D (tyR g) l rm_M_size R_M b_M_size 2 (some .int) S 0 [(0, .ref (r 0)), (1, .int p1)] [] (pI z Sz) := by
  unfold fn_M_size at h
  refine ok_aload_n (q := 1) 0 d_M_size_0 rfl rfl rfl ?_
  obtain ⟨x1, e_x1, h⟩ := st_e h
  refine gf_M_56 (q := 4) e_x1 d_M_size_1 rfl ?_
  refine ok_if_ne (q := 7) (t := 10) d_M_size_4 (by decide) rfl (fun hc => ?_) (fun hc => ?_)
  · replace h := if_f hc h
    refine ok_aload_n (q := 11) 0 d_M_size_10 rfl rfl rfl ?_
    refine ok_iload_n (q := 12) 1 d_M_size_11 rfl rfl rfl ?_
    obtain ⟨x4, S2, hk, h⟩ := bd_e h
    refine cs_M_137 (q := 15) hk d_M_size_12 rfl (by decide) (Nat.le_of_ble_eq_true rfl) ?_
    refine ok_if_ne (q := 18) (t := 20) d_M_size_15 (by decide) rfl (fun hc => ?_) (fun hc => ?_)
    · replace h := if_f hc h
      refine ok_aload_n (q := 21) 0 d_M_size_20 rfl rfl rfl ?_
      refine ok_iload_n (q := 22) 1 d_M_size_21 rfl rfl rfl ?_
      obtain ⟨x7, S5, hk, h⟩ := bd_e h
      refine cs_M_140 (q := 25) hk d_M_size_22 rfl (by decide) (Nat.le_of_ble_eq_true rfl) ?_
      refine ok_if_eq (q := 28) (t := 36) d_M_size_25 (by decide) rfl (fun hc => ?_) (fun hc => ?_)
      · replace h := if_t hc h
        refine ok_aload_n (q := 37) 0 d_M_size_36 rfl rfl rfl ?_
        refine gf_M_28 (q := 40) d_M_size_37 rfl ?_
        refine ok_aload_n (q := 41) 0 d_M_size_40 rfl rfl rfl ?_
        refine ok_iload_n (q := 42) 1 d_M_size_41 rfl rfl rfl ?_
        obtain ⟨x10, S8, hk, h⟩ := bd_e h
        refine cs_M_134 (q := 45) hk d_M_size_42 rfl (by decide) (Nat.le_of_ble_eq_true rfl) ?_
        obtain ⟨hg, h⟩ := gd_e h
        obtain ⟨x11, e_x11, h⟩ := st_e h
        refine al_M_7 (q := 46) hg e_x11 d_M_size_45 rfl ?_
        obtain ⟨rfl, rfl⟩ := so_e h
        exact ok_iret d_M_size_46 ⟨rfl, rfl⟩
      · replace h := if_f hc h
        refine ok_aload_n (q := 29) 0 d_M_size_28 rfl rfl rfl ?_
        refine ok_iload_n (q := 30) 1 d_M_size_29 rfl rfl rfl ?_
        obtain ⟨x14, S12, hk, h⟩ := bd_e h
        refine cs_M_167 (q := 33) hk d_M_size_30 rfl (by decide) (Nat.le_of_ble_eq_true rfl) ?_
        refine ok_goto (q := 46) d_M_size_33 (by decide) ?_
        obtain ⟨rfl, rfl⟩ := so_e h
        exact ok_iret d_M_size_46 ⟨rfl, rfl⟩
    · replace h := if_t hc h
      refine ok_iconst (v := (-1 : Int32)) (q := 19) d_M_size_18 (by decide) rfl ?_
      obtain ⟨rfl, rfl⟩ := so_e h
      exact ok_iret d_M_size_19 ⟨rfl, rfl⟩
  · replace h := if_t hc h
    refine ok_bipush (v := (-9 : Int32)) (q := 9) d_M_size_7 (by decide) rfl ?_
    obtain ⟨rfl, rfl⟩ := so_e h
    exact ok_iret d_M_size_9 ⟨rfl, rfl⟩
set_option maxRecDepth 20000 in
set_option maxHeartbeats 4000000 in
theorem ct_M_size (p1 : Int32) (S : TR) (z : Int32) (Sz : TR) (h : fn_M_size S p1 = some (z, Sz)) : Ct (wR g r) D (tyR g) l y_M_size b_M_size 2 (some .int) rm_M_size [.ref (r 0), .int p1] S (pI z Sz) := ct_of (by decide) (Nat.le_of_ble_eq_true rfl) rfl (wk_M_size p1 S z Sz h)

set_option maxRecDepth 20000 in
set_option maxHeartbeats 4000000 in
theorem wk_M_parentOf (p1 : Int32) (S : TR) (z : Int32) (Sz : TR) (h : fn_M_parentOf S p1 = some (z, Sz)) : Ok (wR g r) D (tyR g) l rm_M_parentOf R_M b_M_parentOf 3 (some .int) S 0 [(0, .ref (r 0)), (1, .int p1)] [] (pI z Sz) := by
  unfold fn_M_parentOf at h
  refine ok_aload_n (q := 1) 0 d_M_parentOf_0 rfl rfl rfl ?_
  obtain ⟨x1, e_x1, h⟩ := st_e h
  refine gf_M_56 (q := 4) e_x1 d_M_parentOf_1 rfl ?_
  refine ok_if_ne (q := 7) (t := 10) d_M_parentOf_4 (by decide) rfl (fun hc => ?_) (fun hc => ?_)
  · replace h := if_f hc h
    refine ok_aload_n (q := 11) 0 d_M_parentOf_10 rfl rfl rfl ?_
    refine ok_iload_n (q := 12) 1 d_M_parentOf_11 rfl rfl rfl ?_
    obtain ⟨x4, S2, hk, h⟩ := bd_e h
    refine cs_M_134 (q := 15) hk d_M_parentOf_12 rfl (by decide) (Nat.le_of_ble_eq_true rfl) ?_
    refine ok_istore_n (q := 16) (lv := [(2, .int x4), (0, .ref (r 0)), (1, .int p1)]) d_M_parentOf_15 rfl (by decide) rfl rfl ?_
    refine ok_iload_n (q := 17) 0 d_M_parentOf_16 rfl rfl rfl ?_
    refine ok_if_ge (q := 20) (t := 24) d_M_parentOf_17 (by decide) rfl (fun hc => ?_) (fun hc => ?_)
    · replace h := if_t hc h
      refine ok_aload_n (q := 25) 1 d_M_parentOf_24 rfl rfl rfl ?_
      refine gf_M_25 (q := 28) d_M_parentOf_25 rfl ?_
      refine ok_iload_n (q := 29) 0 d_M_parentOf_28 rfl rfl rfl ?_
      obtain ⟨hg, h⟩ := gd_e h
      obtain ⟨x5, e_x5, h⟩ := st_e h
      refine al_M_6 (q := 30) hg e_x5 d_M_parentOf_29 rfl ?_
      obtain ⟨rfl, rfl⟩ := so_e h
      exact ok_iret d_M_parentOf_30 ⟨rfl, rfl⟩
    · replace h := if_f hc h
      refine ok_iconst (v := (-1 : Int32)) (q := 21) d_M_parentOf_20 (by decide) rfl ?_
      refine ok_goto (q := 30) d_M_parentOf_21 (by decide) ?_
      obtain ⟨rfl, rfl⟩ := so_e h
      exact ok_iret d_M_parentOf_30 ⟨rfl, rfl⟩
  · replace h := if_t hc h
    refine ok_bipush (v := (-9 : Int32)) (q := 9) d_M_parentOf_7 (by decide) rfl ?_
    obtain ⟨rfl, rfl⟩ := so_e h
    exact ok_iret d_M_parentOf_9 ⟨rfl, rfl⟩
set_option maxRecDepth 20000 in
set_option maxHeartbeats 4000000 in
theorem ct_M_parentOf (p1 : Int32) (S : TR) (z : Int32) (Sz : TR) (h : fn_M_parentOf S p1 = some (z, Sz)) : Ct (wR g r) D (tyR g) l y_M_parentOf b_M_parentOf 3 (some .int) rm_M_parentOf [.ref (r 0), .int p1] S (pI z Sz) := ct_of (by decide) (Nat.le_of_ble_eq_true rfl) rfl (wk_M_parentOf p1 S z Sz h)

set_option maxRecDepth 20000 in
set_option maxHeartbeats 4000000 in
theorem wk_M_nameOf (p1 : Int32) (S : TR) (z : Int64) (Sz : TR) (h : fn_M_nameOf S p1 = some (z, Sz)) : Ok (wR g r) D (tyR g) l rm_M_nameOf R_M b_M_nameOf 3 (some .long) S 0 [(0, .ref (r 0)), (1, .int p1)] [] (pL z Sz) := by
  unfold fn_M_nameOf at h
  refine ok_aload_n (q := 1) 0 d_M_nameOf_0 rfl rfl rfl ?_
  obtain ⟨x1, e_x1, h⟩ := st_e h
  refine gf_M_56 (q := 4) e_x1 d_M_nameOf_1 rfl ?_
  refine ok_if_ne (q := 7) (t := 11) d_M_nameOf_4 (by decide) rfl (fun hc => ?_) (fun hc => ?_)
  · replace h := if_f hc h
    refine ok_aload_n (q := 12) 0 d_M_nameOf_11 rfl rfl rfl ?_
    refine ok_iload_n (q := 13) 1 d_M_nameOf_12 rfl rfl rfl ?_
    obtain ⟨x4, S2, hk, h⟩ := bd_e h
    refine cs_M_134 (q := 16) hk d_M_nameOf_13 rfl (by decide) (Nat.le_of_ble_eq_true rfl) ?_
    refine ok_istore_n (q := 17) (lv := [(2, .int x4), (0, .ref (r 0)), (1, .int p1)]) d_M_nameOf_16 rfl (by decide) rfl rfl ?_
    refine ok_iload_n (q := 18) 0 d_M_nameOf_17 rfl rfl rfl ?_
    refine ok_if_ge (q := 21) (t := 25) d_M_nameOf_18 (by decide) rfl (fun hc => ?_) (fun hc => ?_)
    · replace h := if_t hc h
      refine ok_aload_n (q := 26) 1 d_M_nameOf_25 rfl rfl rfl ?_
      refine gf_M_38 (q := 29) d_M_nameOf_26 rfl ?_
      refine ok_iload_n (q := 30) 0 d_M_nameOf_29 rfl rfl rfl ?_
      obtain ⟨hg, h⟩ := gd_e h
      obtain ⟨x5, e_x5, h⟩ := st_e h
      refine al_M_10 (q := 31) hg e_x5 d_M_nameOf_30 rfl ?_
      refine ok_if_lt (q := 34) (t := 40) d_M_nameOf_31 (by decide) rfl (fun hc => ?_) (fun hc => ?_)
      · replace h := if_t hc h
        refine ok_aload_n (q := 41) 1 d_M_nameOf_40 rfl rfl rfl ?_
        refine gf_M_22 (q := 44) d_M_nameOf_41 rfl ?_
        refine ok_iload_n (q := 45) 0 d_M_nameOf_44 rfl rfl rfl ?_
        obtain ⟨hg, h⟩ := gd_e h
        obtain ⟨x6, e_x6, h⟩ := st_e h
        refine al_M_5 (q := 46) hg e_x6 d_M_nameOf_45 rfl ?_
        refine ok_i2l (q := 47) d_M_nameOf_46 rfl ?_
        obtain ⟨rfl, rfl⟩ := so_e h
        exact ok_lret d_M_nameOf_47 ⟨rfl, rfl⟩
      · replace h := if_f hc h
        refine ok_ldc2 (q := 37) wm_9 d_M_nameOf_34 rfl ?_
        refine ok_goto (q := 47) d_M_nameOf_37 (by decide) ?_
        obtain ⟨rfl, rfl⟩ := so_e h
        exact ok_lret d_M_nameOf_47 ⟨rfl, rfl⟩
    · replace h := if_f hc h
      refine ok_ldc2 (q := 24) wm_11 d_M_nameOf_21 rfl ?_
      obtain ⟨rfl, rfl⟩ := so_e h
      exact ok_lret d_M_nameOf_24 ⟨rfl, rfl⟩
  · replace h := if_t hc h
    refine ok_ldc2 (q := 10) wm_12 d_M_nameOf_7 rfl ?_
    obtain ⟨rfl, rfl⟩ := so_e h
    exact ok_lret d_M_nameOf_10 ⟨rfl, rfl⟩
set_option maxRecDepth 20000 in
set_option maxHeartbeats 4000000 in
theorem ct_M_nameOf (p1 : Int32) (S : TR) (z : Int64) (Sz : TR) (h : fn_M_nameOf S p1 = some (z, Sz)) : Ct (wR g r) D (tyR g) l y_M_nameOf b_M_nameOf 3 (some .long) rm_M_nameOf [.ref (r 0), .int p1] S (pL z Sz) := ct_of (by decide) (Nat.le_of_ble_eq_true rfl) rfl (wk_M_nameOf p1 S z Sz h)

set_option maxRecDepth 20000 in
set_option maxHeartbeats 4000000 in
theorem wl_M_checkpoint_41 (n : Nat) : ∀ (p1 : Int32) (p2 : Int32) (S : TR) (z : Int32) (Sz : TR), lp_M_checkpoint_41 n S p1 p2 = some (z, Sz) → Ok (wR g r) D (tyR g) l rm_M_checkpoint R_M b_M_checkpoint 3 (some .int) S 41 [(0, .ref (r 0)), (1, .int p1), (2, .int p2)] [] (pI z Sz) := by
  induction n with
  | zero => intro p1 p2 S z Sz h; exact absurd h (fun h => by cases h)
  | succ n ih =>
    intro p1 p2 S z Sz h
    rw [le_M_checkpoint_41] at h
    refine ok_iload_n (q := 42) 2 d_M_checkpoint_41 rfl rfl rfl ?_
    refine ok_bipush (v := (6 : Int32)) (q := 44) d_M_checkpoint_42 (by decide) rfl ?_
    refine ok_icmp_ge (q := 47) (t := 68) d_M_checkpoint_44 (by decide) rfl (fun hc => ?_) (fun hc => ?_)
    · replace h := if_t hc h
      refine ok_iload_n (q := 69) 1 d_M_checkpoint_68 rfl rfl rfl ?_
      obtain ⟨rfl, rfl⟩ := so_e h
      exact ok_iret d_M_checkpoint_69 ⟨rfl, rfl⟩
    · replace h := if_f hc h
      refine ok_aload_n (q := 48) 0 d_M_checkpoint_47 rfl rfl rfl ?_
      refine gf_M_50 (q := 51) d_M_checkpoint_48 rfl ?_
      refine ok_iload_n (q := 52) 2 d_M_checkpoint_51 rfl rfl rfl ?_
      refine ok_iconst (v := (0 : Int32)) (q := 53) d_M_checkpoint_52 (by decide) rfl ?_
      obtain ⟨hi, h⟩ := gd_e h
      obtain ⟨S1, e_S1, h⟩ := st_e h
      refine as_M_14 (q := 54) hi e_S1 (by decide) d_M_checkpoint_53 rfl ?_
      refine ok_iload_n (q := 55) 1 d_M_checkpoint_54 rfl rfl rfl ?_
      refine ok_aload_n (q := 56) 0 d_M_checkpoint_55 rfl rfl rfl ?_
      refine ok_iload_n (q := 57) 2 d_M_checkpoint_56 rfl rfl rfl ?_
      obtain ⟨x4, S2, hk, h⟩ := bd_e h
      refine cs_M_125 (q := 60) hk d_M_checkpoint_57 rfl (by decide) (Nat.le_of_ble_eq_true rfl) ?_
      refine ok_iadd (q := 61) d_M_checkpoint_60 rfl ?_
      obtain ⟨x5, e_x5, h⟩ := st_e h
      refine ok_topi e_x5 ?_
      refine ok_istore_n (q := 62) (lv := [(1, .int x5), (0, .ref (r 0)), (2, .int p2)]) d_M_checkpoint_61 rfl (by decide) rfl rfl ?_
      obtain ⟨x6, e_x6, h⟩ := st_e h
      refine ok_iinc (d := (1 : Int32)) (q := 65) (lv := [(2, .int x6), (1, .int x5), (0, .ref (r 0))]) 2 d_M_checkpoint_62 rfl (by decide) e_x6 (by decide) rfl rfl ?_
      refine ok_goto (q := 41) d_M_checkpoint_65 (by decide) ?_
      exact ok_sub [2, 1, 0] rfl (ih x5 x6 _ _ _ h)
set_option maxRecDepth 20000 in
set_option maxHeartbeats 4000000 in
theorem wk_M_checkpoint (S : TR) (z : Int32) (Sz : TR) (h : fn_M_checkpoint S = some (z, Sz)) : Ok (wR g r) D (tyR g) l rm_M_checkpoint R_M b_M_checkpoint 3 (some .int) S 0 [(0, .ref (r 0))] [] (pI z Sz) := by
  unfold fn_M_checkpoint at h
  refine ok_aload_n (q := 1) 0 d_M_checkpoint_0 rfl rfl rfl ?_
  obtain ⟨x1, e_x1, h⟩ := st_e h
  refine gf_M_56 (q := 4) e_x1 d_M_checkpoint_1 rfl ?_
  refine ok_if_eq (q := 7) (t := 14) d_M_checkpoint_4 (by decide) rfl (fun hc => ?_) (fun hc => ?_)
  · replace h := if_t hc h
    refine ok_bipush (v := (-9 : Int32)) (q := 16) d_M_checkpoint_14 (by decide) rfl ?_
    obtain ⟨rfl, rfl⟩ := so_e h
    exact ok_iret d_M_checkpoint_16 ⟨rfl, rfl⟩
  · replace h := if_f hc h
    refine ok_aload_n (q := 8) 0 d_M_checkpoint_7 rfl rfl rfl ?_
    obtain ⟨x4, S2, hk, h⟩ := bd_e h
    refine cs_M_71 (q := 11) hk d_M_checkpoint_8 rfl (by decide) (Nat.le_of_ble_eq_true rfl) ?_
    refine ok_if_ne (q := 14) (t := 17) d_M_checkpoint_11 (by decide) rfl (fun hc => ?_) (fun hc => ?_)
    · replace h := if_f hc h
      refine ok_aload_n (q := 18) 0 d_M_checkpoint_17 rfl rfl rfl ?_
      refine ok_iconst (v := (0 : Int32)) (q := 19) d_M_checkpoint_18 (by decide) rfl ?_
      obtain ⟨S5, e_S5, h⟩ := st_e h
      refine pf_M_170 (q := 22) e_S5 (by decide) d_M_checkpoint_19 rfl ?_
      refine ok_aload_n (q := 23) 0 d_M_checkpoint_22 rfl rfl rfl ?_
      obtain ⟨x8, S6, hk, h⟩ := bd_e h
      refine cs_M_71 (q := 26) hk d_M_checkpoint_23 rfl (by decide) (Nat.le_of_ble_eq_true rfl) ?_
      refine ok_if_ne (q := 29) (t := 32) d_M_checkpoint_26 (by decide) rfl (fun hc => ?_) (fun hc => ?_)
      · replace h := if_f hc h
        refine ok_aload_n (q := 33) 0 d_M_checkpoint_32 rfl rfl rfl ?_
        refine ok_iconst (v := (1 : Int32)) (q := 34) d_M_checkpoint_33 (by decide) rfl ?_
        obtain ⟨S9, e_S9, h⟩ := st_e h
        refine pf_M_170 (q := 37) e_S9 (by decide) d_M_checkpoint_34 rfl ?_
        refine ok_iconst (v := (0 : Int32)) (q := 38) d_M_checkpoint_37 (by decide) rfl ?_
        refine ok_istore_n (q := 39) (lv := [(1, .int (0 : Int32)), (0, .ref (r 0))]) d_M_checkpoint_38 rfl (by decide) rfl rfl ?_
        refine ok_iconst (v := (0 : Int32)) (q := 40) d_M_checkpoint_39 (by decide) rfl ?_
        refine ok_istore_n (q := 41) (lv := [(2, .int (0 : Int32)), (1, .int (0 : Int32)), (0, .ref (r 0))]) d_M_checkpoint_40 rfl (by decide) rfl rfl ?_
        exact ok_sub [2, 1, 0] rfl (wl_M_checkpoint_41 64 (0 : Int32) (0 : Int32) _ _ _ h)
      · replace h := if_t hc h
        refine ok_bipush (v := (-9 : Int32)) (q := 31) d_M_checkpoint_29 (by decide) rfl ?_
        obtain ⟨rfl, rfl⟩ := so_e h
        exact ok_iret d_M_checkpoint_31 ⟨rfl, rfl⟩
    · replace h := if_t hc h
      refine ok_bipush (v := (-9 : Int32)) (q := 16) d_M_checkpoint_14 (by decide) rfl ?_
      obtain ⟨rfl, rfl⟩ := so_e h
      exact ok_iret d_M_checkpoint_16 ⟨rfl, rfl⟩
set_option maxRecDepth 20000 in
set_option maxHeartbeats 4000000 in
theorem ct_M_checkpoint (S : TR) (z : Int32) (Sz : TR) (h : fn_M_checkpoint S = some (z, Sz)) : Ct (wR g r) D (tyR g) l y_M_checkpoint b_M_checkpoint 3 (some .int) rm_M_checkpoint [.ref (r 0)] S (pI z Sz) := ct_of (by decide) (Nat.le_of_ble_eq_true rfl) rfl (wk_M_checkpoint S z Sz h)

set_option maxRecDepth 20000 in
set_option maxHeartbeats 4000000 in
theorem wl_M_followed_2 (n : Nat) : ∀ (p1 : Int32) (p2 : Int32) (S : TR) (z : Int32) (Sz : TR), lp_M_followed_2 n S p1 p2 = some (z, Sz) → Ok (wR g r) D (tyR g) l rm_M_followed R_M b_M_followed 3 (some .boolean) S 2 [(0, .ref (r 0)), (1, .int p1), (2, .int p2)] [] (pI z Sz) := by
  induction n with
  | zero => intro p1 p2 S z Sz h; exact absurd h (fun h => by cases h)
  | succ n ih =>
    intro p1 p2 S z Sz h
    rw [le_M_followed_2] at h
    refine ok_iload_n (q := 3) 2 d_M_followed_2 rfl rfl rfl ?_
    refine ok_bipush (v := (48 : Int32)) (q := 5) d_M_followed_3 (by decide) rfl ?_
    refine ok_icmp_ge (q := 8) (t := 75) d_M_followed_5 (by decide) rfl (fun hc => ?_) (fun hc => ?_)
    · replace h := if_t hc h
      refine ok_iconst (v := (0 : Int32)) (q := 76) d_M_followed_75 (by decide) rfl ?_
      obtain ⟨rfl, rfl⟩ := so_e h
      exact ok_zret d_M_followed_76 (by decide) ⟨rfl, rfl⟩
    · replace h := if_f hc h
      refine ok_aload_n (q := 9) 0 d_M_followed_8 rfl rfl rfl ?_
      refine gf_M_7 (q := 12) d_M_followed_9 rfl ?_
      refine ok_iload_n (q := 13) 2 d_M_followed_12 rfl rfl rfl ?_
      obtain ⟨hg, h⟩ := gd_e h
      obtain ⟨x1, e_x1, h⟩ := st_e h
      refine al_M_1 (q := 14) hg e_x1 d_M_followed_13 rfl ?_
      refine ok_iconst (v := (1 : Int32)) (q := 15) d_M_followed_14 (by decide) rfl ?_
      refine ok_icmp_ne (q := 18) (t := 69) d_M_followed_15 (by decide) rfl (fun hc => ?_) (fun hc => ?_)
      · replace h := if_f hc h
        obtain ⟨x2, e_x2, h⟩ := st_e h
        refine ok_iinc (d := (1 : Int32)) (q := 72) (lv := [(2, .int x2), (0, .ref (r 0)), (1, .int p1)]) 2 d_M_followed_69 rfl (by decide) e_x2 (by decide) rfl rfl ?_
        refine ok_goto (q := 2) d_M_followed_72 (by decide) ?_
        exact ok_sub [1, 2, 0] rfl (ih p1 x2 _ _ _ h)
      · replace h := if_t hc h
        refine ok_aload_n (q := 19) 0 d_M_followed_18 rfl rfl rfl ?_
        refine gf_M_13 (q := 22) d_M_followed_19 rfl ?_
        refine ok_iload_n (q := 23) 2 d_M_followed_22 rfl rfl rfl ?_
        obtain ⟨hg, h⟩ := gd_e h
        obtain ⟨x3, e_x3, h⟩ := st_e h
        refine al_M_2 (q := 24) hg e_x3 d_M_followed_23 rfl ?_
        refine ok_aload_n (q := 25) 0 d_M_followed_24 rfl rfl rfl ?_
        refine gf_M_13 (q := 28) d_M_followed_25 rfl ?_
        refine ok_iload_n (q := 29) 1 d_M_followed_28 rfl rfl rfl ?_
        obtain ⟨hg, h⟩ := gd_e h
        obtain ⟨x4, e_x4, h⟩ := st_e h
        refine al_M_2 (q := 30) hg e_x4 d_M_followed_29 rfl ?_
        refine ok_icmp_ne (q := 33) (t := 69) d_M_followed_30 (by decide) rfl (fun hc => ?_) (fun hc => ?_)
        · replace h := if_f hc h
          obtain ⟨x5, e_x5, h⟩ := st_e h
          refine ok_iinc (d := (1 : Int32)) (q := 72) (lv := [(2, .int x5), (0, .ref (r 0)), (1, .int p1)]) 2 d_M_followed_69 rfl (by decide) e_x5 (by decide) rfl rfl ?_
          refine ok_goto (q := 2) d_M_followed_72 (by decide) ?_
          exact ok_sub [1, 2, 0] rfl (ih p1 x5 _ _ _ h)
        · replace h := if_t hc h
          refine ok_aload_n (q := 34) 0 d_M_followed_33 rfl rfl rfl ?_
          refine gf_M_16 (q := 37) d_M_followed_34 rfl ?_
          refine ok_iload_n (q := 38) 2 d_M_followed_37 rfl rfl rfl ?_
          obtain ⟨hg, h⟩ := gd_e h
          obtain ⟨x6, e_x6, h⟩ := st_e h
          refine al_M_3 (q := 39) hg e_x6 d_M_followed_38 rfl ?_
          refine ok_aload_n (q := 40) 0 d_M_followed_39 rfl rfl rfl ?_
          refine gf_M_16 (q := 43) d_M_followed_40 rfl ?_
          refine ok_iload_n (q := 44) 1 d_M_followed_43 rfl rfl rfl ?_
          obtain ⟨hg, h⟩ := gd_e h
          obtain ⟨x7, e_x7, h⟩ := st_e h
          refine al_M_3 (q := 45) hg e_x7 d_M_followed_44 rfl ?_
          refine ok_icmp_ne (q := 48) (t := 69) d_M_followed_45 (by decide) rfl (fun hc => ?_) (fun hc => ?_)
          · replace h := if_f hc h
            obtain ⟨x8, e_x8, h⟩ := st_e h
            refine ok_iinc (d := (1 : Int32)) (q := 72) (lv := [(2, .int x8), (0, .ref (r 0)), (1, .int p1)]) 2 d_M_followed_69 rfl (by decide) e_x8 (by decide) rfl rfl ?_
            refine ok_goto (q := 2) d_M_followed_72 (by decide) ?_
            exact ok_sub [1, 2, 0] rfl (ih p1 x8 _ _ _ h)
          · replace h := if_t hc h
            refine ok_aload_n (q := 49) 0 d_M_followed_48 rfl rfl rfl ?_
            refine gf_M_19 (q := 52) d_M_followed_49 rfl ?_
            refine ok_iload_n (q := 53) 2 d_M_followed_52 rfl rfl rfl ?_
            obtain ⟨hg, h⟩ := gd_e h
            obtain ⟨x9, e_x9, h⟩ := st_e h
            refine al_M_4 (q := 54) hg e_x9 d_M_followed_53 rfl ?_
            refine ok_aload_n (q := 55) 0 d_M_followed_54 rfl rfl rfl ?_
            refine gf_M_19 (q := 58) d_M_followed_55 rfl ?_
            refine ok_iload_n (q := 59) 1 d_M_followed_58 rfl rfl rfl ?_
            obtain ⟨hg, h⟩ := gd_e h
            obtain ⟨x10, e_x10, h⟩ := st_e h
            refine al_M_4 (q := 60) hg e_x10 d_M_followed_59 rfl ?_
            refine ok_iconst (v := (1 : Int32)) (q := 61) d_M_followed_60 (by decide) rfl ?_
            refine ok_iadd (q := 62) d_M_followed_61 rfl ?_
            refine ok_iconst (v := (4 : Int32)) (q := 63) d_M_followed_62 (by decide) rfl ?_
            refine ok_irem (q := 64) d_M_followed_63 (by decide) rfl ?_
            refine ok_icmp_ne (q := 67) (t := 69) d_M_followed_64 (by decide) rfl (fun hc => ?_) (fun hc => ?_)
            · replace h := if_f hc h
              obtain ⟨x11, e_x11, h⟩ := st_e h
              refine ok_iinc (d := (1 : Int32)) (q := 72) (lv := [(2, .int x11), (0, .ref (r 0)), (1, .int p1)]) 2 d_M_followed_69 rfl (by decide) e_x11 (by decide) rfl rfl ?_
              refine ok_goto (q := 2) d_M_followed_72 (by decide) ?_
              exact ok_sub [1, 2, 0] rfl (ih p1 x11 _ _ _ h)
            · replace h := if_t hc h
              refine ok_iconst (v := (1 : Int32)) (q := 68) d_M_followed_67 (by decide) rfl ?_
              obtain ⟨rfl, rfl⟩ := so_e h
              exact ok_zret d_M_followed_68 (by decide) ⟨rfl, rfl⟩
set_option maxRecDepth 20000 in
set_option maxHeartbeats 4000000 in
theorem wk_M_followed (p1 : Int32) (S : TR) (z : Int32) (Sz : TR) (h : fn_M_followed S p1 = some (z, Sz)) : Ok (wR g r) D (tyR g) l rm_M_followed R_M b_M_followed 3 (some .boolean) S 0 [(0, .ref (r 0)), (1, .int p1)] [] (pI z Sz) := by
  unfold fn_M_followed at h
  refine ok_iconst (v := (0 : Int32)) (q := 1) d_M_followed_0 (by decide) rfl ?_
  refine ok_istore_n (q := 2) (lv := [(2, .int (0 : Int32)), (0, .ref (r 0)), (1, .int p1)]) d_M_followed_1 rfl (by decide) rfl rfl ?_
  exact ok_sub [1, 2, 0] rfl (wl_M_followed_2 64 p1 (0 : Int32) _ _ _ h)
set_option maxRecDepth 20000 in
set_option maxHeartbeats 4000000 in
theorem ct_M_followed (p1 : Int32) (S : TR) (z : Int32) (Sz : TR) (h : fn_M_followed S p1 = some (z, Sz)) : Ct (wR g r) D (tyR g) l y_M_followed b_M_followed 3 (some .boolean) rm_M_followed [.ref (r 0), .int p1] S (pI z Sz) := ct_of (by decide) (Nat.le_of_ble_eq_true rfl) rfl (wk_M_followed p1 S z Sz h)
theorem cs_M_173 {l : Launch} {D : va_G} {g : Nat → ClassId} {r : Nat → Nat} {rm : Room} {b : ByteArray} {nL : Nat} {ret : Option FieldType} {pc q : Nat} {Lc : List (Nat × Value)} {St : List Value} {S S2 : TR} {Post : Option Value → TR → Prop} {p1 : Int32} {z : Int32} (hk : fn_M_followed S p1 = some (z, S2)) (hd : decode b pc = .ok (.invokevirtual 173, 3)) (hq : pc + 3 = q) (hrm : rm_M_followed.frames + 1 ≤ rm.frames ∧ 8 + (3 + 11) + rm_M_followed.locals ≤ rm.locals) (hroom : (St.map fun v => v.category).sum ≤ 8) (k : Ok (wR g r) D (tyR g) l rm R_M b nL ret S2 q Lc (.int z :: St) Post) : Ok (wR g r) D (tyR g) l rm R_M b nL ret S pc Lc (.int p1 :: .ref (r 0) :: St) Post := by
  subst hq
  exact ok_cV (As := [.int p1]) (n := 1) (C := R_M) (T := F_M) (N := 27) (ci := 2) (q0 := 0) (ct_M_followed p1 S z S2 hk) hd wm_189 ⟨wm_190, wm_191, wm_192, wm_112⟩ (by decide +kernel) ⟨⟨rfl, rfl⟩, hrm⟩ rfl rfl rfl rfl hroom ⟨Nat.zero_le _, Nat.zero_le _⟩ (fun v u h => by obtain ⟨rfl, rfl⟩ := h; exact k)
set_option maxRecDepth 20000 in
set_option maxHeartbeats 4000000 in
theorem wl_M_sizeOf_4 (n : Nat) : ∀ (p1 : Int32) (p2 : Int32) (p3 : Int32) (S : TR) (z : Int32) (Sz : TR), lp_M_sizeOf_4 n S p1 p2 p3 = some (z, Sz) → Ok (wR g r) D (tyR g) l rm_M_sizeOf R_M b_M_sizeOf 4 (some .int) S 4 [(0, .ref (r 0)), (1, .int p1), (2, .int p2), (3, .int p3)] [] (pI z Sz) := by
  induction n with
  | zero => intro p1 p2 p3 S z Sz h; exact absurd h (fun h => by cases h)
  | succ n ih =>
    intro p1 p2 p3 S z Sz h
    rw [le_M_sizeOf_4] at h
    refine ok_iload_n (q := 5) 3 d_M_sizeOf_4 rfl rfl rfl ?_
    refine ok_bipush (v := (48 : Int32)) (q := 7) d_M_sizeOf_5 (by decide) rfl ?_
    refine ok_icmp_ge (q := 10) (t := 60) d_M_sizeOf_7 (by decide) rfl (fun hc => ?_) (fun hc => ?_)
    · replace h := if_t hc h
      refine ok_iload_n (q := 61) 2 d_M_sizeOf_60 rfl rfl rfl ?_
      obtain ⟨rfl, rfl⟩ := so_e h
      exact ok_iret d_M_sizeOf_61 ⟨rfl, rfl⟩
    · replace h := if_f hc h
      refine ok_aload_n (q := 11) 0 d_M_sizeOf_10 rfl rfl rfl ?_
      refine gf_M_7 (q := 14) d_M_sizeOf_11 rfl ?_
      refine ok_iload_n (q := 15) 3 d_M_sizeOf_14 rfl rfl rfl ?_
      obtain ⟨hg, h⟩ := gd_e h
      obtain ⟨x1, e_x1, h⟩ := st_e h
      refine al_M_1 (q := 16) hg e_x1 d_M_sizeOf_15 rfl ?_
      refine ok_iconst (v := (1 : Int32)) (q := 17) d_M_sizeOf_16 (by decide) rfl ?_
      refine ok_icmp_ne (q := 20) (t := 54) d_M_sizeOf_17 (by decide) rfl (fun hc => ?_) (fun hc => ?_)
      · replace h := if_f hc h
        obtain ⟨x2, e_x2, h⟩ := st_e h
        refine ok_iinc (d := (1 : Int32)) (q := 57) (lv := [(3, .int x2), (0, .ref (r 0)), (1, .int p1), (2, .int p2)]) 3 d_M_sizeOf_54 rfl (by decide) e_x2 (by decide) rfl rfl ?_
        refine ok_goto (q := 4) d_M_sizeOf_57 (by decide) ?_
        exact ok_sub [1, 2, 3, 0] rfl (ih p1 p2 x2 _ _ _ h)
      · replace h := if_t hc h
        refine ok_aload_n (q := 21) 0 d_M_sizeOf_20 rfl rfl rfl ?_
        refine gf_M_13 (q := 24) d_M_sizeOf_21 rfl ?_
        refine ok_iload_n (q := 25) 3 d_M_sizeOf_24 rfl rfl rfl ?_
        obtain ⟨hg, h⟩ := gd_e h
        obtain ⟨x3, e_x3, h⟩ := st_e h
        refine al_M_2 (q := 26) hg e_x3 d_M_sizeOf_25 rfl ?_
        refine ok_iload_n (q := 27) 1 d_M_sizeOf_26 rfl rfl rfl ?_
        refine ok_icmp_ne (q := 30) (t := 54) d_M_sizeOf_27 (by decide) rfl (fun hc => ?_) (fun hc => ?_)
        · replace h := if_f hc h
          obtain ⟨x4, e_x4, h⟩ := st_e h
          refine ok_iinc (d := (1 : Int32)) (q := 57) (lv := [(3, .int x4), (0, .ref (r 0)), (1, .int p1), (2, .int p2)]) 3 d_M_sizeOf_54 rfl (by decide) e_x4 (by decide) rfl rfl ?_
          refine ok_goto (q := 4) d_M_sizeOf_57 (by decide) ?_
          exact ok_sub [1, 2, 3, 0] rfl (ih p1 p2 x4 _ _ _ h)
        · replace h := if_t hc h
          refine ok_aload_n (q := 31) 0 d_M_sizeOf_30 rfl rfl rfl ?_
          refine gf_M_16 (q := 34) d_M_sizeOf_31 rfl ?_
          refine ok_iload_n (q := 35) 3 d_M_sizeOf_34 rfl rfl rfl ?_
          obtain ⟨hg, h⟩ := gd_e h
          obtain ⟨x5, e_x5, h⟩ := st_e h
          refine al_M_3 (q := 36) hg e_x5 d_M_sizeOf_35 rfl ?_
          refine ok_if_ne (q := 39) (t := 54) d_M_sizeOf_36 (by decide) rfl (fun hc => ?_) (fun hc => ?_)
          · replace h := if_f hc h
            obtain ⟨x6, e_x6, h⟩ := st_e h
            refine ok_iinc (d := (1 : Int32)) (q := 57) (lv := [(3, .int x6), (0, .ref (r 0)), (1, .int p1), (2, .int p2)]) 3 d_M_sizeOf_54 rfl (by decide) e_x6 (by decide) rfl rfl ?_
            refine ok_goto (q := 4) d_M_sizeOf_57 (by decide) ?_
            exact ok_sub [1, 2, 3, 0] rfl (ih p1 p2 x6 _ _ _ h)
          · replace h := if_t hc h
            refine ok_aload_n (q := 40) 0 d_M_sizeOf_39 rfl rfl rfl ?_
            refine ok_iload_n (q := 41) 3 d_M_sizeOf_40 rfl rfl rfl ?_
            obtain ⟨x9, S7, hk, h⟩ := bd_e h
            refine cs_M_173 (q := 44) hk d_M_sizeOf_41 rfl (by decide) (Nat.le_of_ble_eq_true rfl) ?_
            refine ok_if_ne (q := 47) (t := 54) d_M_sizeOf_44 (by decide) rfl (fun hc => ?_) (fun hc => ?_)
            · replace h := if_f hc h
              obtain ⟨x10, e_x10, h⟩ := st_e h
              refine ok_iinc (d := (1 : Int32)) (q := 57) (lv := [(3, .int x10), (0, .ref (r 0)), (1, .int p1), (2, .int p2)]) 3 d_M_sizeOf_54 rfl (by decide) e_x10 (by decide) rfl rfl ?_
              refine ok_goto (q := 4) d_M_sizeOf_57 (by decide) ?_
              exact ok_sub [1, 2, 3, 0] rfl (ih p1 p2 x10 _ _ _ h)
            · replace h := if_t hc h
              refine ok_aload_n (q := 48) 0 d_M_sizeOf_47 rfl rfl rfl ?_
              refine gf_M_28 (q := 51) d_M_sizeOf_48 rfl ?_
              refine ok_iload_n (q := 52) 3 d_M_sizeOf_51 rfl rfl rfl ?_
              obtain ⟨hg, h⟩ := gd_e h
              obtain ⟨x11, e_x11, h⟩ := st_e h
              refine al_M_7 (q := 53) hg e_x11 d_M_sizeOf_52 rfl ?_
              refine ok_istore_n (q := 54) (lv := [(2, .int x11), (0, .ref (r 0)), (1, .int p1), (3, .int p3)]) d_M_sizeOf_53 rfl (by decide) rfl rfl ?_
              obtain ⟨x12, e_x12, h⟩ := st_e h
              refine ok_iinc (d := (1 : Int32)) (q := 57) (lv := [(3, .int x12), (2, .int x11), (0, .ref (r 0)), (1, .int p1)]) 3 d_M_sizeOf_54 rfl (by decide) e_x12 (by decide) rfl rfl ?_
              refine ok_goto (q := 4) d_M_sizeOf_57 (by decide) ?_
              exact ok_sub [2, 3, 1, 0] rfl (ih p1 x11 x12 _ _ _ h)
set_option maxRecDepth 20000 in
set_option maxHeartbeats 4000000 in
theorem wk_M_sizeOf (p1 : Int32) (S : TR) (z : Int32) (Sz : TR) (h : fn_M_sizeOf S p1 = some (z, Sz)) : Ok (wR g r) D (tyR g) l rm_M_sizeOf R_M b_M_sizeOf 4 (some .int) S 0 [(0, .ref (r 0)), (1, .int p1)] [] (pI z Sz) := by
  unfold fn_M_sizeOf at h
  refine ok_iconst (v := (-1 : Int32)) (q := 1) d_M_sizeOf_0 (by decide) rfl ?_
  refine ok_istore_n (q := 2) (lv := [(2, .int (-1 : Int32)), (0, .ref (r 0)), (1, .int p1)]) d_M_sizeOf_1 rfl (by decide) rfl rfl ?_
  refine ok_iconst (v := (0 : Int32)) (q := 3) d_M_sizeOf_2 (by decide) rfl ?_
  refine ok_istore_n (q := 4) (lv := [(3, .int (0 : Int32)), (2, .int (-1 : Int32)), (0, .ref (r 0)), (1, .int p1)]) d_M_sizeOf_3 rfl (by decide) rfl rfl ?_
  exact ok_sub [2, 3, 1, 0] rfl (wl_M_sizeOf_4 64 p1 (-1 : Int32) (0 : Int32) _ _ _ h)
set_option maxRecDepth 20000 in
set_option maxHeartbeats 4000000 in
theorem ct_M_sizeOf (p1 : Int32) (S : TR) (z : Int32) (Sz : TR) (h : fn_M_sizeOf S p1 = some (z, Sz)) : Ct (wR g r) D (tyR g) l y_M_sizeOf b_M_sizeOf 4 (some .int) rm_M_sizeOf [.ref (r 0), .int p1] S (pI z Sz) := ct_of (by decide) (Nat.le_of_ble_eq_true rfl) rfl (wk_M_sizeOf p1 S z Sz h)
theorem cs_M_176 {l : Launch} {D : va_G} {g : Nat → ClassId} {r : Nat → Nat} {rm : Room} {b : ByteArray} {nL : Nat} {ret : Option FieldType} {pc q : Nat} {Lc : List (Nat × Value)} {St : List Value} {S S2 : TR} {Post : Option Value → TR → Prop} {p1 : Int32} {z : Int32} (hk : fn_M_sizeOf S p1 = some (z, S2)) (hd : decode b pc = .ok (.invokevirtual 176, 3)) (hq : pc + 3 = q) (hrm : rm_M_sizeOf.frames + 1 ≤ rm.frames ∧ 8 + (4 + 11) + rm_M_sizeOf.locals ≤ rm.locals) (hroom : (St.map fun v => v.category).sum ≤ 8) (k : Ok (wR g r) D (tyR g) l rm R_M b nL ret S2 q Lc (.int z :: St) Post) : Ok (wR g r) D (tyR g) l rm R_M b nL ret S pc Lc (.int p1 :: .ref (r 0) :: St) Post := by
  subst hq
  exact ok_cV (As := [.int p1]) (n := 1) (C := R_M) (T := F_M) (N := 27) (ci := 2) (q0 := 0) (ct_M_sizeOf p1 S z S2 hk) hd wm_193 ⟨wm_194, wm_195, wm_196, wm_112⟩ (by decide +kernel) ⟨⟨rfl, rfl⟩, hrm⟩ rfl rfl rfl rfl hroom ⟨Nat.zero_le _, Nat.zero_le _⟩ (fun v u h => by obtain ⟨rfl, rfl⟩ := h; exact k)
end WALK
