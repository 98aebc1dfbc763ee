section WALK
variable {l : Launch} {D : va_G} {g : Nat → ClassId} {a r : Nat → Nat}
set_option maxRecDepth 20000 in
set_option maxHeartbeats 4000000 in
theorem wl_M_collect_95 (n : Nat) : ∀ (p1 : Int32) (p2 : Int32) (S : TR) (z : Int32) (Sz : TR), lp_M_collect_95 n S p1 p2 = some (z, Sz) → Ok (wR g r) D (tyR g) l rm_M_collect R_M b_M_collect 3 (some .boolean) S 95 [(0, .ref (r 0)), (1, .int p1), (2, .int p2)] [] (pI z Sz) := by
  induction n with
  | zero => intro p1 p2 S z Sz h; exact absurd h (fun h => by cases h)
  | succ n ih =>
    intro p1 p2 S z Sz h
    rw [le_M_collect_95] at h
    refine ok_iload_n (q := 96) 2 d_M_collect_95 rfl rfl rfl ?_
    refine ok_bipush (v := (8 : Int32)) (q := 98) d_M_collect_96 (by decide) rfl ?_
    refine ok_iload_n (q := 99) 1 d_M_collect_98 rfl rfl rfl ?_
    refine ok_imul (q := 100) d_M_collect_99 rfl ?_
    refine ok_bipush (v := (8 : Int32)) (q := 102) d_M_collect_100 (by decide) rfl ?_
    refine ok_iadd (q := 103) d_M_collect_102 rfl ?_
    refine ok_icmp_ge (q := 106) (t := 119) d_M_collect_103 (by decide) rfl (fun hc => ?_) (fun hc => ?_)
    · replace h := if_t hc h
      refine ok_iconst (v := (1 : Int32)) (q := 120) d_M_collect_119 (by decide) rfl ?_
      obtain ⟨rfl, rfl⟩ := so_e h
      exact ok_zret d_M_collect_120 (by decide) ⟨rfl, rfl⟩
    · replace h := if_f hc h
      refine ok_aload_n (q := 107) 0 d_M_collect_106 rfl rfl rfl ?_
      refine gf_M_7 (q := 110) d_M_collect_107 rfl ?_
      refine ok_iload_n (q := 111) 2 d_M_collect_110 rfl rfl rfl ?_
      refine ok_iconst (v := (0 : Int32)) (q := 112) d_M_collect_111 (by decide) rfl ?_
      obtain ⟨hi, h⟩ := gd_e h
      obtain ⟨S1, e_S1, h⟩ := st_e h
      refine as_M_1 (q := 113) hi e_S1 d_M_collect_112 rfl ?_
      obtain ⟨x2, e_x2, h⟩ := st_e h
      refine ok_iinc (d := (1 : Int32)) (q := 116) (lv := [(2, .int x2), (0, .ref (r 0)), (1, .int p1)]) 2 d_M_collect_113 rfl (by decide) e_x2 (by decide) rfl rfl ?_
      refine ok_goto (q := 95) d_M_collect_116 (by decide) ?_
      exact ok_sub [1, 2, 0] rfl (ih p1 x2 _ _ _ h)
set_option maxRecDepth 20000 in
set_option maxHeartbeats 4000000 in
theorem wl_M_collect_5 (n : Nat) : ∀ (p1 : Int32) (p2 : Int32) (S : TR) (z : Int32) (Sz : TR), lp_M_collect_5 n S p1 p2 = some (z, Sz) → Ok (wR g r) D (tyR g) l rm_M_collect R_M b_M_collect 3 (some .boolean) S 5 [(0, .ref (r 0)), (1, .int p1), (2, .int p2)] [] (pI z Sz) := by
  induction n with
  | zero => intro p1 p2 S z Sz h; exact absurd h (fun h => by cases h)
  | succ n ih =>
    intro p1 p2 S z Sz h
    rw [le_M_collect_5] at h
    refine ok_iload_n (q := 6) 2 d_M_collect_5 rfl rfl rfl ?_
    refine ok_bipush (v := (8 : Int32)) (q := 8) d_M_collect_6 (by decide) rfl ?_
    refine ok_iload_n (q := 9) 1 d_M_collect_8 rfl rfl rfl ?_
    refine ok_imul (q := 10) d_M_collect_9 rfl ?_
    refine ok_bipush (v := (8 : Int32)) (q := 12) d_M_collect_10 (by decide) rfl ?_
    refine ok_iadd (q := 13) d_M_collect_12 rfl ?_
    refine ok_icmp_ge (q := 16) (t := 46) d_M_collect_13 (by decide) rfl (fun hc => ?_) (fun hc => ?_)
    · replace h := if_t hc h
      refine ok_aload_n (q := 47) 0 d_M_collect_46 rfl rfl rfl ?_
      obtain ⟨x3, S1, hk, h⟩ := bd_e h
      refine cs_M_71 (q := 50) hk d_M_collect_47 rfl (by decide) (Nat.le_of_ble_eq_true rfl) ?_
      refine ok_if_ne (q := 53) (t := 55) d_M_collect_50 (by decide) rfl (fun hc => ?_) (fun hc => ?_)
      · replace h := if_f hc h
        refine ok_aload_n (q := 56) 0 d_M_collect_55 rfl rfl rfl ?_
        refine gf_M_50 (q := 59) d_M_collect_56 rfl ?_
        refine ok_iload_n (q := 60) 1 d_M_collect_59 rfl rfl rfl ?_
        refine ok_iconst (v := (1 : Int32)) (q := 61) d_M_collect_60 (by decide) rfl ?_
        obtain ⟨hi, h⟩ := gd_e h
        obtain ⟨S4, e_S4, h⟩ := st_e h
        refine as_M_14 (q := 62) hi e_S4 (by decide) d_M_collect_61 rfl ?_
        refine ok_aload_n (q := 63) 0 d_M_collect_62 rfl rfl rfl ?_
        refine gf_M_47 (q := 66) d_M_collect_63 rfl ?_
        refine ok_iload_n (q := 67) 1 d_M_collect_66 rfl rfl rfl ?_
        obtain ⟨hg, h⟩ := gd_e h
        obtain ⟨x5, e_x5, h⟩ := st_e h
        refine al_M_13 (q := 68) hg e_x5 d_M_collect_67 rfl ?_
        refine ok_if_eq (q := 71) (t := 80) d_M_collect_68 (by decide) rfl (fun hc => ?_) (fun hc => ?_)
        · replace h := if_t hc h
          refine ok_aload_n (q := 81) 0 d_M_collect_80 rfl rfl rfl ?_
          refine gf_M_53 (q := 84) d_M_collect_81 rfl ?_
          refine ok_iload_n (q := 85) 1 d_M_collect_84 rfl rfl rfl ?_
          refine ok_dup2 (q := 86) d_M_collect_85 rfl rfl rfl ?_
          obtain ⟨hg, h⟩ := gd_e h
          obtain ⟨x6, e_x6, h⟩ := st_e h
          refine al_M_15 (q := 87) hg e_x6 d_M_collect_86 rfl ?_
          refine ok_iconst (v := (1 : Int32)) (q := 88) d_M_collect_87 (by decide) rfl ?_
          refine ok_iadd (q := 89) d_M_collect_88 rfl ?_
          obtain ⟨hi, h⟩ := gd_e h
          obtain ⟨S7, e_S7, h⟩ := st_e h
          refine as_M_15 (q := 90) hi e_S7 d_M_collect_89 rfl ?_
          refine ok_bipush (v := (8 : Int32)) (q := 92) d_M_collect_90 (by decide) rfl ?_
          refine ok_iload_n (q := 93) 1 d_M_collect_92 rfl rfl rfl ?_
          refine ok_imul (q := 94) d_M_collect_93 rfl ?_
          obtain ⟨x8, e_x8, h⟩ := st_e h
          refine ok_topi e_x8 ?_
          refine ok_istore_n (q := 95) (lv := [(2, .int x8), (0, .ref (r 0)), (1, .int p1)]) d_M_collect_94 rfl (by decide) rfl rfl ?_
          exact ok_sub [1, 2, 0] rfl (wl_M_collect_95 64 p1 x8 _ _ _ h)
        · replace h := if_f hc h
          refine ok_aload_n (q := 72) 0 d_M_collect_71 rfl rfl rfl ?_
          refine gf_M_44 (q := 75) d_M_collect_72 rfl ?_
          refine ok_iload_n (q := 76) 1 d_M_collect_75 rfl rfl rfl ?_
          refine ok_iconst (v := (1 : Int32)) (q := 77) d_M_collect_76 (by decide) rfl ?_
          obtain ⟨hi, h⟩ := gd_e h
          obtain ⟨S9, e_S9, h⟩ := st_e h
          refine as_M_12 (q := 78) hi e_S9 (by decide) d_M_collect_77 rfl ?_
          refine ok_iconst (v := (1 : Int32)) (q := 79) d_M_collect_78 (by decide) rfl ?_
          obtain ⟨rfl, rfl⟩ := so_e h
          exact ok_zret d_M_collect_79 (by decide) ⟨rfl, rfl⟩
      · replace h := if_t hc h
        refine ok_iconst (v := (0 : Int32)) (q := 54) d_M_collect_53 (by decide) rfl ?_
        obtain ⟨rfl, rfl⟩ := so_e h
        exact ok_zret d_M_collect_54 (by decide) ⟨rfl, rfl⟩
    · replace h := if_f hc h
      refine ok_aload_n (q := 17) 0 d_M_collect_16 rfl rfl rfl ?_
      refine gf_M_7 (q := 20) d_M_collect_17 rfl ?_
      refine ok_iload_n (q := 21) 2 d_M_collect_20 rfl rfl rfl ?_
      obtain ⟨hg, h⟩ := gd_e h
      obtain ⟨x10, e_x10, h⟩ := st_e h
      refine al_M_1 (q := 22) hg e_x10 d_M_collect_21 rfl ?_
      refine ok_iconst (v := (1 : Int32)) (q := 23) d_M_collect_22 (by decide) rfl ?_
      refine ok_icmp_ne (q := 26) (t := 40) d_M_collect_23 (by decide) rfl (fun hc => ?_) (fun hc => ?_)
      · replace h := if_f hc h
        obtain ⟨x11, e_x11, h⟩ := st_e h
        refine ok_iinc (d := (1 : Int32)) (q := 43) (lv := [(2, .int x11), (0, .ref (r 0)), (1, .int p1)]) 2 d_M_collect_40 rfl (by decide) e_x11 (by decide) rfl rfl ?_
        refine ok_goto (q := 5) d_M_collect_43 (by decide) ?_
        exact ok_sub [1, 2, 0] rfl (ih p1 x11 _ _ _ h)
      · replace h := if_t hc h
        refine ok_aload_n (q := 27) 0 d_M_collect_26 rfl rfl rfl ?_
        refine ok_iload_n (q := 28) 2 d_M_collect_27 rfl rfl rfl ?_
        obtain ⟨_, S12, hk, h⟩ := bd_e h
        refine cs_M_115 (q := 31) hk d_M_collect_28 rfl (by decide) (Nat.le_of_ble_eq_true rfl) ?_
        refine ok_aload_n (q := 32) 0 d_M_collect_31 rfl rfl rfl ?_
        obtain ⟨x16, S14, hk, h⟩ := bd_e h
        refine cs_M_119 (q := 35) hk d_M_collect_32 rfl (by decide) (Nat.le_of_ble_eq_true rfl) ?_
        refine ok_if_ne (q := 38) (t := 40) d_M_collect_35 (by decide) rfl (fun hc => ?_) (fun hc => ?_)
        · replace h := if_f hc h
          obtain ⟨x17, e_x17, h⟩ := st_e h
          refine ok_iinc (d := (1 : Int32)) (q := 43) (lv := [(2, .int x17), (0, .ref (r 0)), (1, .int p1)]) 2 d_M_collect_40 rfl (by decide) e_x17 (by decide) rfl rfl ?_
          refine ok_goto (q := 5) d_M_collect_43 (by decide) ?_
          exact ok_sub [1, 2, 0] rfl (ih p1 x17 _ _ _ h)
        · replace h := if_t hc h
          refine ok_iconst (v := (0 : Int32)) (q := 39) d_M_collect_38 (by decide) rfl ?_
          obtain ⟨rfl, rfl⟩ := so_e h
          exact ok_zret d_M_collect_39 (by decide) ⟨rfl, rfl⟩
set_option maxRecDepth 20000 in
set_option maxHeartbeats 4000000 in
theorem wk_M_collect (p1 : Int32) (S : TR) (z : Int32) (Sz : TR) (h : fn_M_collect S p1 = some (z, Sz)) : Ok (wR g r) D (tyR g) l rm_M_collect R_M b_M_collect 3 (some .boolean) S 0 [(0, .ref (r 0)), (1, .int p1)] [] (pI z Sz) := by
  unfold fn_M_collect at h
  refine ok_bipush (v := (8 : Int32)) (q := 2) d_M_collect_0 (by decide) rfl ?_
  refine ok_iload_n (q := 3) 1 d_M_collect_2 rfl rfl rfl ?_
  refine ok_imul (q := 4) d_M_collect_3 rfl ?_
  obtain ⟨x1, e_x1, h⟩ := st_e h
  refine ok_topi e_x1 ?_
  refine ok_istore_n (q := 5) (lv := [(2, .int x1), (0, .ref (r 0)), (1, .int p1)]) d_M_collect_4 rfl (by decide) rfl rfl ?_
  exact ok_sub [1, 2, 0] rfl (wl_M_collect_5 64 p1 x1 _ _ _ h)
set_option maxRecDepth 20000 in
set_option maxHeartbeats 4000000 in
theorem ct_M_collect (p1 : Int32) (S : TR) (z : Int32) (Sz : TR) (h : fn_M_collect S p1 = some (z, Sz)) : Ct (wR g r) D (tyR g) l y_M_collect b_M_collect 3 (some .boolean) rm_M_collect [.ref (r 0), .int p1] S (pI z Sz) := ct_of (by decide) (Nat.le_of_ble_eq_true rfl) rfl (wk_M_collect p1 S z Sz h)
theorem cs_M_131 {l : Launch} {D : va_G} {g : Nat → ClassId} {r : Nat → Nat} {rm : Room} {b : ByteArray} {nL : Nat} {ret : Option FieldType} {pc q : Nat} {Lc : List (Nat × Value)} {St : List Value} {S S2 : TR} {Post : Option Value → TR → Prop} {p1 : Int32} {z : Int32} (hk : fn_M_collect S p1 = some (z, S2)) (hd : decode b pc = .ok (.invokevirtual 131, 3)) (hq : pc + 3 = q) (hrm : rm_M_collect.frames + 1 ≤ rm.frames ∧ 8 + (3 + 11) + rm_M_collect.locals ≤ rm.locals) (hroom : (St.map fun v => v.category).sum ≤ 8) (k : Ok (wR g r) D (tyR g) l rm R_M b nL ret S2 q Lc (.int z :: St) Post) : Ok (wR g r) D (tyR g) l rm R_M b nL ret S pc Lc (.int p1 :: .ref (r 0) :: St) Post := by
  subst hq
  exact ok_cV (As := [.int p1]) (n := 1) (C := R_M) (T := F_M) (N := 27) (ci := 2) (q0 := 0) (ct_M_collect p1 S z S2 hk) hd wm_153 ⟨wm_154, wm_155, wm_156, wm_112⟩ (by decide +kernel) ⟨⟨rfl, rfl⟩, hrm⟩ rfl rfl rfl rfl hroom ⟨Nat.zero_le _, Nat.zero_le _⟩ (fun v u h => by obtain ⟨rfl, rfl⟩ := h; exact k)
set_option maxRecDepth 20000 in
set_option maxHeartbeats 4000000 in
theorem wl_M_free_4 (n : Nat) : ∀ (p1 : Int32) (p2 : Int32) (S : TR) (z : Int32) (Sz : TR), lp_M_free_4 n S p1 p2 = some (z, Sz) → Ok (wR g r) D (tyR g) l rm_M_free R_M b_M_free 3 (some .int) S 4 [(0, .ref (r 0)), (1, .int p1), (2, .int p2)] [] (pI z Sz) := by
  induction n with
  | zero => intro p1 p2 S z Sz h; exact absurd h (fun h => by cases h)
  | succ n ih =>
    intro p1 p2 S z Sz h
    rw [le_M_free_4] at h
    refine ok_iload_n (q := 5) 2 d_M_free_4 rfl rfl rfl ?_
    refine ok_bipush (v := (6 : Int32)) (q := 7) d_M_free_5 (by decide) rfl ?_
    refine ok_icmp_ge (q := 10) (t := 40) d_M_free_7 (by decide) rfl (fun hc => ?_) (fun hc => ?_)
    · replace h := if_t hc h
      refine ok_iload_n (q := 41) 1 d_M_free_40 rfl rfl rfl ?_
      obtain ⟨rfl, rfl⟩ := so_e h
      exact ok_iret d_M_free_41 ⟨rfl, rfl⟩
    · replace h := if_f hc h
      refine ok_iload_n (q := 11) 1 d_M_free_10 rfl rfl rfl ?_
      refine ok_aload_n (q := 12) 0 d_M_free_11 rfl rfl rfl ?_
      refine gf_M_44 (q := 15) d_M_free_12 rfl ?_
      refine ok_iload_n (q := 16) 2 d_M_free_15 rfl rfl rfl ?_
      obtain ⟨hg, h⟩ := gd_e h
      obtain ⟨x1, e_x1, h⟩ := st_e h
      refine al_M_12 (q := 17) hg e_x1 d_M_free_16 rfl ?_
      refine ok_if_eq (q := 20) (t := 24) d_M_free_17 (by decide) rfl (fun hc => ?_) (fun hc => ?_)
      · replace h := if_t hc h
        refine ok_bipush (v := (8 : Int32)) (q := 26) d_M_free_24 (by decide) rfl ?_
        refine ok_aload_n (q := 27) 0 d_M_free_26 rfl rfl rfl ?_
        refine ok_iload_n (q := 28) 2 d_M_free_27 rfl rfl rfl ?_
        obtain ⟨x4, S2, hk, h⟩ := bd_e h
        refine cs_M_67 (q := 31) hk d_M_free_28 rfl (by decide) (Nat.le_of_ble_eq_true rfl) ?_
        refine ok_isub (q := 32) d_M_free_31 rfl ?_
        refine ok_iadd (q := 33) d_M_free_32 rfl ?_
        obtain ⟨x5, e_x5, h⟩ := st_e h
        refine ok_topi e_x5 ?_
        refine ok_istore_n (q := 34) (lv := [(1, .int x5), (0, .ref (r 0)), (2, .int p2)]) d_M_free_33 rfl (by decide) rfl rfl ?_
        obtain ⟨x6, e_x6, h⟩ := st_e h
        refine ok_iinc (d := (1 : Int32)) (q := 37) (lv := [(2, .int x6), (1, .int x5), (0, .ref (r 0))]) 2 d_M_free_34 rfl (by decide) e_x6 (by decide) rfl rfl ?_
        refine ok_goto (q := 4) d_M_free_37 (by decide) ?_
        exact ok_sub [2, 1, 0] rfl (ih x5 x6 _ _ _ h)
      · replace h := if_f hc h
        refine ok_iconst (v := (0 : Int32)) (q := 21) d_M_free_20 (by decide) rfl ?_
        refine ok_goto (q := 32) d_M_free_21 (by decide) ?_
        refine ok_iadd (q := 33) d_M_free_32 rfl ?_
        obtain ⟨x7, e_x7, h⟩ := st_e h
        refine ok_topi e_x7 ?_
        refine ok_istore_n (q := 34) (lv := [(1, .int x7), (0, .ref (r 0)), (2, .int p2)]) d_M_free_33 rfl (by decide) rfl rfl ?_
        obtain ⟨x8, e_x8, h⟩ := st_e h
        refine ok_iinc (d := (1 : Int32)) (q := 37) (lv := [(2, .int x8), (1, .int x7), (0, .ref (r 0))]) 2 d_M_free_34 rfl (by decide) e_x8 (by decide) rfl rfl ?_
        refine ok_goto (q := 4) d_M_free_37 (by decide) ?_
        exact ok_sub [2, 1, 0] rfl (ih x7 x8 _ _ _ h)
set_option maxRecDepth 20000 in
set_option maxHeartbeats 4000000 in
theorem wk_M_free (S : TR) (z : Int32) (Sz : TR) (h : fn_M_free S = some (z, Sz)) : Ok (wR g r) D (tyR g) l rm_M_free R_M b_M_free 3 (some .int) S 0 [(0, .ref (r 0))] [] (pI z Sz) := by
  unfold fn_M_free at h
  refine ok_iconst (v := (0 : Int32)) (q := 1) d_M_free_0 (by decide) rfl ?_
  refine ok_istore_n (q := 2) (lv := [(1, .int (0 : Int32)), (0, .ref (r 0))]) d_M_free_1 rfl (by decide) rfl rfl ?_
  refine ok_iconst (v := (0 : Int32)) (q := 3) d_M_free_2 (by decide) rfl ?_
  refine ok_istore_n (q := 4) (lv := [(2, .int (0 : Int32)), (1, .int (0 : Int32)), (0, .ref (r 0))]) d_M_free_3 rfl (by decide) rfl rfl ?_
  exact ok_sub [2, 1, 0] rfl (wl_M_free_4 64 (0 : Int32) (0 : Int32) _ _ _ h)
set_option maxRecDepth 20000 in
set_option maxHeartbeats 4000000 in
theorem ct_M_free (S : TR) (z : Int32) (Sz : TR) (h : fn_M_free S = some (z, Sz)) : Ct (wR g r) D (tyR g) l y_M_free b_M_free 3 (some .int) rm_M_free [.ref (r 0)] S (pI z Sz) := ct_of (by decide) (Nat.le_of_ble_eq_true rfl) rfl (wk_M_free S z Sz h)
theorem cs_M_122 {l : Launch} {D : va_G} {g : Nat → ClassId} {r : Nat → Nat} {rm : Room} {b : ByteArray} {nL : Nat} {ret : Option FieldType} {pc q : Nat} {Lc : List (Nat × Value)} {St : List Value} {S S2 : TR} {Post : Option Value → TR → Prop} {z : Int32} (hk : fn_M_free S = some (z, S2)) (hd : decode b pc = .ok (.invokevirtual 122, 3)) (hq : pc + 3 = q) (hrm : rm_M_free.frames + 1 ≤ rm.frames ∧ 8 + (3 + 11) + rm_M_free.locals ≤ rm.locals) (hroom : (St.map fun v => v.category).sum ≤ 8) (k : Ok (wR g r) D (tyR g) l rm R_M b nL ret S2 q Lc (.int z :: St) Post) : Ok (wR g r) D (tyR g) l rm R_M b nL ret S pc Lc (.ref (r 0) :: St) Post := by
  subst hq
  exact ok_cV (As := []) (n := 0) (C := R_M) (T := F_M) (N := 27) (ci := 2) (q0 := 0) (ct_M_free S z S2 hk) hd wm_141 ⟨wm_142, wm_143, wm_144, wm_112⟩ (by decide +kernel) ⟨⟨rfl, rfl⟩, hrm⟩ rfl rfl rfl rfl hroom ⟨Nat.zero_le _, Nat.zero_le _⟩ (fun v u h => by obtain ⟨rfl, rfl⟩ := h; exact k)
set_option maxRecDepth 20000 in
set_option maxHeartbeats 4000000 in
theorem wl_M_poorest_9 (n : Nat) : ∀ (p1 : Int32) (p2 : Int32) (p3 : Int32) (S : TR) (z : Int32) (Sz : TR), lp_M_poorest_9 n S p1 p2 p3 = some (z, Sz) → Ok (wR g r) D (tyR g) l rm_M_poorest R_M b_M_poorest 6 (some .int) S 9 [(0, .ref (r 0)), (1, .int p1), (2, .int p2), (3, .int p3)] [] (pI z Sz) := by
  induction n with
  | zero => intro p1 p2 p3 S z Sz h; exact absurd h (fun h => by cases h)
  | succ n ih =>
    intro p1 p2 p3 S z Sz h
    rw [le_M_poorest_9] at h
    refine ok_iload_n (q := 10) 3 d_M_poorest_9 rfl rfl rfl ?_
    refine ok_if_lt (q := 13) (t := 86) d_M_poorest_10 (by decide) rfl (fun hc => ?_) (fun hc => ?_)
    · replace h := if_t hc h
      refine ok_iload_n (q := 87) 1 d_M_poorest_86 rfl rfl rfl ?_
      obtain ⟨rfl, rfl⟩ := so_e h
      exact ok_iret d_M_poorest_87 ⟨rfl, rfl⟩
    · replace h := if_f hc h
      refine ok_aload_n (q := 14) 0 d_M_poorest_13 rfl rfl rfl ?_
      refine ok_iload_n (q := 15) 3 d_M_poorest_14 rfl rfl rfl ?_
      obtain ⟨x3, S1, hk, h⟩ := bd_e h
      refine cs_M_125 (q := 18) hk d_M_poorest_15 rfl (by decide) (Nat.le_of_ble_eq_true rfl) ?_
      refine ok_istore (q := 20) (lv := [(4, .int x3), (0, .ref (r 0)), (1, .int p1), (2, .int p2), (3, .int p3)]) d_M_poorest_18 (by decide) rfl rfl ?_
      refine ok_aload_n (q := 21) 1 d_M_poorest_20 rfl rfl rfl ?_
      refine gf_M_44 (q := 24) d_M_poorest_21 rfl ?_
      refine ok_iload_n (q := 25) 4 d_M_poorest_24 rfl rfl rfl ?_
      obtain ⟨hg, h⟩ := gd_e h
      obtain ⟨x4, e_x4, h⟩ := st_e h
      refine al_M_12 (q := 26) hg e_x4 d_M_poorest_25 rfl ?_
      refine ok_if_ne (q := 29) (t := 56) d_M_poorest_26 (by decide) rfl (fun hc => ?_) (fun hc => ?_)
      · replace h := if_f hc h
        refine ok_iconst (v := (0 : Int32)) (q := 57) d_M_poorest_56 (by decide) rfl ?_
        refine ok_istore (q := 59) (lv := [(5, .int (0 : Int32)), (4, .int x3), (0, .ref (r 0)), (1, .int p1), (2, .int p2), (3, .int p3)]) d_M_poorest_57 (by decide) rfl rfl ?_
        refine ok_iload (q := 61) 0 d_M_poorest_59 rfl rfl ?_
        refine ok_if_eq (q := 64) (t := 80) d_M_poorest_61 (by decide) rfl (fun _ => ?_) (fun hn => absurd hn (by decide))
        obtain ⟨x5, e_x5, h⟩ := st_e h
        refine ok_iinc (d := (-1 : Int32)) (q := 83) (lv := [(3, .int x5), (5, .int (0 : Int32)), (4, .int x3), (0, .ref (r 0)), (1, .int p1), (2, .int p2)]) 5 d_M_poorest_80 rfl (by decide) e_x5 (by decide) rfl rfl ?_
        refine ok_goto (q := 9) d_M_poorest_83 (by decide) ?_
        exact ok_sub [3, 4, 5, 0] rfl (ih p1 p2 x5 _ _ _ h)
      · replace h := if_t hc h
        refine ok_aload_n (q := 30) 1 d_M_poorest_29 rfl rfl rfl ?_
        refine ok_iload_n (q := 31) 4 d_M_poorest_30 rfl rfl rfl ?_
        obtain ⟨x8, S6, hk, h⟩ := bd_e h
        refine cs_M_67 (q := 34) hk d_M_poorest_31 rfl (by decide) (Nat.le_of_ble_eq_true rfl) ?_
        refine ok_bipush (v := (8 : Int32)) (q := 36) d_M_poorest_34 (by decide) rfl ?_
        refine ok_icmp_ne (q := 39) (t := 56) d_M_poorest_36 (by decide) rfl (fun hc => ?_) (fun hc => ?_)
        · replace h := if_f hc h
          refine ok_iconst (v := (0 : Int32)) (q := 57) d_M_poorest_56 (by decide) rfl ?_
          refine ok_istore (q := 59) (lv := [(5, .int (0 : Int32)), (4, .int x3), (0, .ref (r 0)), (1, .int p1), (2, .int p2), (3, .int p3)]) d_M_poorest_57 (by decide) rfl rfl ?_
          refine ok_iload (q := 61) 0 d_M_poorest_59 rfl rfl ?_
          refine ok_if_eq (q := 64) (t := 80) d_M_poorest_61 (by decide) rfl (fun _ => ?_) (fun hn => absurd hn (by decide))
          obtain ⟨x9, e_x9, h⟩ := st_e h
          refine ok_iinc (d := (-1 : Int32)) (q := 83) (lv := [(3, .int x9), (5, .int (0 : Int32)), (4, .int x3), (0, .ref (r 0)), (1, .int p1), (2, .int p2)]) 5 d_M_poorest_80 rfl (by decide) e_x9 (by decide) rfl rfl ?_
          refine ok_goto (q := 9) d_M_poorest_83 (by decide) ?_
          exact ok_sub [3, 4, 5, 0] rfl (ih p1 p2 x9 _ _ _ h)
        · replace h := if_t hc h
          refine ok_iload (q := 41) 0 d_M_poorest_39 rfl rfl ?_
          refine ok_bipush (v := (8 : Int32)) (q := 43) d_M_poorest_41 (by decide) rfl ?_
          refine ok_icmp_ge (q := 46) (t := 56) d_M_poorest_43 (by decide) rfl (fun hc => ?_) (fun hc => ?_)
          · replace h := if_t hc h
            refine ok_iconst (v := (0 : Int32)) (q := 57) d_M_poorest_56 (by decide) rfl ?_
            refine ok_istore (q := 59) (lv := [(5, .int (0 : Int32)), (4, .int x3), (0, .ref (r 0)), (1, .int p1), (2, .int p2), (3, .int p3)]) d_M_poorest_57 (by decide) rfl rfl ?_
            refine ok_iload (q := 61) 0 d_M_poorest_59 rfl rfl ?_
            refine ok_if_eq (q := 64) (t := 80) d_M_poorest_61 (by decide) rfl (fun _ => ?_) (fun hn => absurd hn (by decide))
            obtain ⟨x10, e_x10, h⟩ := st_e h
            refine ok_iinc (d := (-1 : Int32)) (q := 83) (lv := [(3, .int x10), (5, .int (0 : Int32)), (4, .int x3), (0, .ref (r 0)), (1, .int p1), (2, .int p2)]) 5 d_M_poorest_80 rfl (by decide) e_x10 (by decide) rfl rfl ?_
            refine ok_goto (q := 9) d_M_poorest_83 (by decide) ?_
            exact ok_sub [3, 4, 5, 0] rfl (ih p1 p2 x10 _ _ _ h)
          · replace h := if_f hc h
            refine ok_iload (q := 48) 0 d_M_poorest_46 rfl rfl ?_
            refine ok_iload_n (q := 49) 3 d_M_poorest_48 rfl rfl rfl ?_
            refine ok_icmp_gt (q := 52) (t := 56) d_M_poorest_49 (by decide) rfl (fun hc => ?_) (fun hc => ?_)
            · replace h := if_t hc h
              refine ok_iconst (v := (0 : Int32)) (q := 57) d_M_poorest_56 (by decide) rfl ?_
              refine ok_istore (q := 59) (lv := [(5, .int (0 : Int32)), (4, .int x3), (0, .ref (r 0)), (1, .int p1), (2, .int p2), (3, .int p3)]) d_M_poorest_57 (by decide) rfl rfl ?_
              refine ok_iload (q := 61) 0 d_M_poorest_59 rfl rfl ?_
              refine ok_if_eq (q := 64) (t := 80) d_M_poorest_61 (by decide) rfl (fun _ => ?_) (fun hn => absurd hn (by decide))
              obtain ⟨x11, e_x11, h⟩ := st_e h
              refine ok_iinc (d := (-1 : Int32)) (q := 83) (lv := [(3, .int x11), (5, .int (0 : Int32)), (4, .int x3), (0, .ref (r 0)), (1, .int p1), (2, .int p2)]) 5 d_M_poorest_80 rfl (by decide) e_x11 (by decide) rfl rfl ?_
              refine ok_goto (q := 9) d_M_poorest_83 (by decide) ?_
              exact ok_sub [3, 4, 5, 0] rfl (ih p1 p2 x11 _ _ _ h)
            · replace h := if_f hc h
              refine ok_iconst (v := (1 : Int32)) (q := 53) d_M_poorest_52 (by decide) rfl ?_
              refine ok_goto (q := 57) d_M_poorest_53 (by decide) ?_
              refine ok_istore (q := 59) (lv := [(5, .int (1 : Int32)), (4, .int x3), (0, .ref (r 0)), (1, .int p1), (2, .int p2), (3, .int p3)]) d_M_poorest_57 (by decide) rfl rfl ?_
              refine ok_iload (q := 61) 0 d_M_poorest_59 rfl rfl ?_
              refine ok_if_eq (q := 64) (t := 80) d_M_poorest_61 (by decide) rfl (fun hn => absurd hn (by decide)) (fun _ => ?_)
              refine ok_iload_n (q := 65) 3 d_M_poorest_64 rfl rfl rfl ?_
              refine ok_if_lt (q := 68) (t := 78) d_M_poorest_65 (by decide) rfl (fun hc => ?_) (fun hc => ?_)
              · replace h := if_t hc h
                refine ok_iload_n (q := 79) 5 d_M_poorest_78 rfl rfl rfl ?_
                refine ok_istore_n (q := 80) (lv := [(1, .int p3), (5, .int (1 : Int32)), (4, .int x3), (0, .ref (r 0)), (2, .int p2), (3, .int p3)]) d_M_poorest_79 rfl (by decide) rfl rfl ?_
                obtain ⟨x12, e_x12, h⟩ := st_e h
                refine ok_iinc (d := (-1 : Int32)) (q := 83) (lv := [(3, .int x12), (1, .int p3), (5, .int (1 : Int32)), (4, .int x3), (0, .ref (r 0)), (2, .int p2)]) 5 d_M_poorest_80 rfl (by decide) e_x12 (by decide) rfl rfl ?_
                refine ok_goto (q := 9) d_M_poorest_83 (by decide) ?_
                exact ok_sub [4, 1, 5, 0] rfl (ih p3 p2 x12 _ _ _ h)
              · replace h := if_f hc h
                refine ok_iload (q := 70) 1 d_M_poorest_68 rfl rfl ?_
                refine ok_aload_n (q := 71) 2 d_M_poorest_70 rfl rfl rfl ?_
                refine ok_iload_n (q := 72) 3 d_M_poorest_71 rfl rfl rfl ?_
                obtain ⟨x15, S13, hk, h⟩ := bd_e h
                refine cs_M_125 (q := 75) hk d_M_poorest_72 rfl (by decide) (Nat.le_of_ble_eq_true rfl) ?_
                refine ok_icmp_gt (q := 78) (t := 80) d_M_poorest_75 (by decide) rfl (fun hc => ?_) (fun hc => ?_)
                · replace h := if_t hc h
                  obtain ⟨x16, e_x16, h⟩ := st_e h
                  refine ok_iinc (d := (-1 : Int32)) (q := 83) (lv := [(3, .int x16), (5, .int (1 : Int32)), (4, .int x3), (0, .ref (r 0)), (1, .int p1), (2, .int p2)]) 5 d_M_poorest_80 rfl (by decide) e_x16 (by decide) rfl rfl ?_
                  refine ok_goto (q := 9) d_M_poorest_83 (by decide) ?_
                  exact ok_sub [3, 4, 5, 0] rfl (ih p1 p2 x16 _ _ _ h)
                · replace h := if_f hc h
                  refine ok_iload_n (q := 79) 5 d_M_poorest_78 rfl rfl rfl ?_
                  refine ok_istore_n (q := 80) (lv := [(1, .int p3), (5, .int (1 : Int32)), (4, .int x3), (0, .ref (r 0)), (2, .int p2), (3, .int p3)]) d_M_poorest_79 rfl (by decide) rfl rfl ?_
                  obtain ⟨x17, e_x17, h⟩ := st_e h
                  refine ok_iinc (d := (-1 : Int32)) (q := 83) (lv := [(3, .int x17), (1, .int p3), (5, .int (1 : Int32)), (4, .int x3), (0, .ref (r 0)), (2, .int p2)]) 5 d_M_poorest_80 rfl (by decide) e_x17 (by decide) rfl rfl ?_
                  refine ok_goto (q := 9) d_M_poorest_83 (by decide) ?_
                  exact ok_sub [4, 1, 5, 0] rfl (ih p3 p2 x17 _ _ _ h)
set_option maxRecDepth 20000 in
set_option maxHeartbeats 4000000 in
theorem wk_M_poorest (S : TR) (z : Int32) (Sz : TR) (h : fn_M_poorest S = some (z, Sz)) : Ok (wR g r) D (tyR g) l rm_M_poorest R_M b_M_poorest 6 (some .int) S 0 [(0, .ref (r 0))] [] (pI z Sz) := by
  unfold fn_M_poorest at h
  refine ok_iconst (v := (-1 : Int32)) (q := 1) d_M_poorest_0 (by decide) rfl ?_
  refine ok_istore_n (q := 2) (lv := [(1, .int (-1 : Int32)), (0, .ref (r 0))]) d_M_poorest_1 rfl (by decide) rfl rfl ?_
  refine ok_aload_n (q := 3) 1 d_M_poorest_2 rfl rfl rfl ?_
  obtain ⟨x3, S1, hk, h⟩ := bd_e h
  refine cs_M_122 (q := 6) hk d_M_poorest_3 rfl (by decide) (Nat.le_of_ble_eq_true rfl) ?_
  refine ok_istore_n (q := 7) (lv := [(2, .int x3), (1, .int (-1 : Int32)), (0, .ref (r 0))]) d_M_poorest_6 rfl (by decide) rfl rfl ?_
  refine ok_iconst (v := (5 : Int32)) (q := 8) d_M_poorest_7 (by decide) rfl ?_
  refine ok_istore_n (q := 9) (lv := [(3, .int (5 : Int32)), (2, .int x3), (1, .int (-1 : Int32)), (0, .ref (r 0))]) d_M_poorest_8 rfl (by decide) rfl rfl ?_
  exact ok_sub [3, 2, 1, 0] rfl (wl_M_poorest_9 64 (-1 : Int32) x3 (5 : Int32) _ _ _ h)
set_option maxRecDepth 20000 in
set_option maxHeartbeats 4000000 in
theorem ct_M_poorest (S : TR) (z : Int32) (Sz : TR) (h : fn_M_poorest S = some (z, Sz)) : Ct (wR g r) D (tyR g) l y_M_poorest b_M_poorest 6 (some .int) rm_M_poorest [.ref (r 0)] S (pI z Sz) := ct_of (by decide) (Nat.le_of_ble_eq_true rfl) rfl (wk_M_poorest S z Sz h)
theorem cs_M_128 {l : Launch} {D : va_G} {g : Nat → ClassId} {r : Nat → Nat} {rm : Room} {b : ByteArray} {nL : Nat} {ret : Option FieldType} {pc q : Nat} {Lc : List (Nat × Value)} {St : List Value} {S S2 : TR} {Post : Option Value → TR → Prop} {z : Int32} (hk : fn_M_poorest S = some (z, S2)) (hd : decode b pc = .ok (.invokevirtual 128, 3)) (hq : pc + 3 = q) (hrm : rm_M_poorest.frames + 1 ≤ rm.frames ∧ 8 + (6 + 11) + rm_M_poorest.locals ≤ rm.locals) (hroom : (St.map fun v => v.category).sum ≤ 8) (k : Ok (wR g r) D (tyR g) l rm R_M b nL ret S2 q Lc (.int z :: St) Post) : Ok (wR g r) D (tyR g) l rm R_M b nL ret S pc Lc (.ref (r 0) :: St) Post := by
  subst hq
  exact ok_cV (As := []) (n := 0) (C := R_M) (T := F_M) (N := 27) (ci := 2) (q0 := 0) (ct_M_poorest S z S2 hk) hd wm_149 ⟨wm_150, wm_151, wm_152, wm_112⟩ (by decide +kernel) ⟨⟨rfl, rfl⟩, hrm⟩ rfl rfl rfl rfl hroom ⟨Nat.zero_le _, Nat.zero_le _⟩ (fun v u h => by obtain ⟨rfl, rfl⟩ := h; exact k)
set_option maxRecDepth 20000 in
set_option maxHeartbeats 4000000 in
theorem wl_M_room_2 (n : Nat) : ∀ (p1 : Int32) (p2 : Int32) (S : TR) (z : Int32) (Sz : TR), lp_M_room_2 n S p1 p2 = some (z, Sz) → Ok (wR g r) D (tyR g) l rm_M_room R_M b_M_room 4 (some .int) S 2 [(0, .ref (r 0)), (1, .int p1), (2, .int p2)] [] (pI z Sz) := by
  induction n with
  | zero => intro p1 p2 S z Sz h; exact absurd h (fun h => by cases h)
  | succ n ih =>
    intro p1 p2 S z Sz h
    rw [le_M_room_2] at h
    refine ok_iload_n (q := 3) 2 d_M_room_2 rfl rfl rfl ?_
    refine ok_bipush (v := (100 : Int32)) (q := 5) d_M_room_3 (by decide) rfl ?_
    refine ok_icmp_ge (q := 8) (t := 50) d_M_room_5 (by decide) rfl (fun hc => ?_) (fun hc => ?_)
    · replace h := if_t hc h
      refine ok_bipush (v := (-6 : Int32)) (q := 52) d_M_room_50 (by decide) rfl ?_
      obtain ⟨rfl, rfl⟩ := so_e h
      exact ok_iret d_M_room_52 ⟨rfl, rfl⟩
    · replace h := if_f hc h
      refine ok_aload_n (q := 9) 0 d_M_room_8 rfl rfl rfl ?_
      obtain ⟨x3, S1, hk, h⟩ := bd_e h
      refine cs_M_122 (q := 12) hk d_M_room_9 rfl (by decide) (Nat.le_of_ble_eq_true rfl) ?_
      refine ok_bipush (v := (8 : Int32)) (q := 14) d_M_room_12 (by decide) rfl ?_
      refine ok_iload_n (q := 15) 1 d_M_room_14 rfl rfl rfl ?_
      refine ok_iadd (q := 16) d_M_room_15 rfl ?_
      refine ok_icmp_lt (q := 19) (t := 21) d_M_room_16 (by decide) rfl (fun hc => ?_) (fun hc => ?_)
      · replace h := if_t hc h
        refine ok_aload_n (q := 22) 0 d_M_room_21 rfl rfl rfl ?_
        obtain ⟨x6, S4, hk, h⟩ := bd_e h
        refine cs_M_128 (q := 25) hk d_M_room_22 rfl (by decide) (Nat.le_of_ble_eq_true rfl) ?_
        refine ok_istore_n (q := 26) (lv := [(3, .int x6), (0, .ref (r 0)), (1, .int p1), (2, .int p2)]) d_M_room_25 rfl (by decide) rfl rfl ?_
        refine ok_iload_n (q := 27) 0 d_M_room_26 rfl rfl rfl ?_
        refine ok_if_ge (q := 30) (t := 33) d_M_room_27 (by decide) rfl (fun hc => ?_) (fun hc => ?_)
        · replace h := if_t hc h
          refine ok_aload_n (q := 34) 1 d_M_room_33 rfl rfl rfl ?_
          refine ok_iload_n (q := 35) 0 d_M_room_34 rfl rfl rfl ?_
          obtain ⟨x9, S7, hk, h⟩ := bd_e h
          refine cs_M_131 (q := 38) hk d_M_room_35 rfl (by decide) (Nat.le_of_ble_eq_true rfl) ?_
          refine ok_if_ne (q := 41) (t := 44) d_M_room_38 (by decide) rfl (fun hc => ?_) (fun hc => ?_)
          · replace h := if_f hc h
            obtain ⟨x10, e_x10, h⟩ := st_e h
            refine ok_iinc (d := (1 : Int32)) (q := 47) (lv := [(2, .int x10), (3, .int x6), (0, .ref (r 0)), (1, .int p1)]) 3 d_M_room_44 rfl (by decide) e_x10 (by decide) rfl rfl ?_
            refine ok_goto (q := 2) d_M_room_47 (by decide) ?_
            exact ok_sub [2, 3, 0] rfl (ih p1 x10 _ _ _ h)
          · replace h := if_t hc h
            refine ok_bipush (v := (-9 : Int32)) (q := 43) d_M_room_41 (by decide) rfl ?_
            obtain ⟨rfl, rfl⟩ := so_e h
            exact ok_iret d_M_room_43 ⟨rfl, rfl⟩
        · replace h := if_f hc h
          refine ok_bipush (v := (-6 : Int32)) (q := 32) d_M_room_30 (by decide) rfl ?_
          obtain ⟨rfl, rfl⟩ := so_e h
          exact ok_iret d_M_room_32 ⟨rfl, rfl⟩
      · replace h := if_f hc h
        refine ok_iconst (v := (0 : Int32)) (q := 20) d_M_room_19 (by decide) rfl ?_
        obtain ⟨rfl, rfl⟩ := so_e h
        exact ok_iret d_M_room_20 ⟨rfl, rfl⟩
set_option maxRecDepth 20000 in
set_option maxHeartbeats 4000000 in
theorem wk_M_room (p1 : Int32) (S : TR) (z : Int32) (Sz : TR) (h : fn_M_room S p1 = some (z, Sz)) : Ok (wR g r) D (tyR g) l rm_M_room R_M b_M_room 4 (some .int) S 0 [(0, .ref (r 0)), (1, .int p1)] [] (pI z Sz) := by
  unfold fn_M_room at h
  refine ok_iconst (v := (0 : Int32)) (q := 1) d_M_room_0 (by decide) rfl ?_
  refine ok_istore_n (q := 2) (lv := [(2, .int (0 : Int32)), (0, .ref (r 0)), (1, .int p1)]) d_M_room_1 rfl (by decide) rfl rfl ?_
  exact ok_sub [1, 2, 0] rfl (wl_M_room_2 64 p1 (0 : Int32) _ _ _ h)
set_option maxRecDepth 20000 in
set_option maxHeartbeats 4000000 in
theorem ct_M_room (p1 : Int32) (S : TR) (z : Int32) (Sz : TR) (h : fn_M_room S p1 = some (z, Sz)) : Ct (wR g r) D (tyR g) l y_M_room b_M_room 4 (some .int) rm_M_room [.ref (r 0), .int p1] S (pI z Sz) := ct_of (by decide) (Nat.le_of_ble_eq_true rfl) rfl (wk_M_room p1 S z Sz h)
theorem cs_M_147 {l : Launch} {D : va_G} {g : Nat → ClassId} {r : Nat → Nat} {rm : Room} {b : ByteArray} {nL : Nat} {ret : Option FieldType} {pc q : Nat} {Lc : List (Nat × Value)} {St : List Value} {S S2 : TR} {Post : Option Value → TR → Prop} {p1 : Int32} {z : Int32} (hk : fn_M_room S p1 = some (z, S2)) (hd : decode b pc = .ok (.invokevirtual 147, 3)) (hq : pc + 3 = q) (hrm : rm_M_room.frames + 1 ≤ rm.frames ∧ 8 + (4 + 11) + rm_M_room.locals ≤ rm.locals) (hroom : (St.map fun v => v.category).sum ≤ 8) (k : Ok (wR g r) D (tyR g) l rm R_M b nL ret S2 q Lc (.int z :: St) Post) : Ok (wR g r) D (tyR g) l rm R_M b nL ret S pc Lc (.int p1 :: .ref (r 0) :: St) Post := by
  subst hq
  exact ok_cV (As := [.int p1]) (n := 1) (C := R_M) (T := F_M) (N := 27) (ci := 2) (q0 := 0) (ct_M_room p1 S z S2 hk) hd wm_173 ⟨wm_174, wm_175, wm_176, wm_112⟩ (by decide +kernel) ⟨⟨rfl, rfl⟩, hrm⟩ rfl rfl rfl rfl hroom ⟨Nat.zero_le _, Nat.zero_le _⟩ (fun v u h => by obtain ⟨rfl, rfl⟩ := h; exact k)
set_option maxRecDepth 20000 in
set_option maxHeartbeats 4000000 in
theorem wk_M_header (p1 : Int32) (S : TR) (z : Int32) (Sz : TR) (h : fn_M_header S p1 = some (z, Sz)) : Ok (wR g r) D (tyR g) l rm_M_header R_M b_M_header 2 (some .int) S 0 [(0, .ref (r 0)), (1, .int p1)] [] (pI z Sz) := by
  unfold fn_M_header at h
  refine ok_iload_n (q := 1) 1 d_M_header_0 rfl rfl rfl ?_
  refine ok_iconst (v := (1 : Int32)) (q := 2) d_M_header_1 (by decide) rfl ?_
  refine ok_icmp_lt (q := 5) (t := 20) d_M_header_2 (by decide) rfl (fun hc => ?_) (fun hc => ?_)
  · replace h := if_t hc h
    refine ok_iconst (v := (-1 : Int32)) (q := 21) d_M_header_20 (by decide) rfl ?_
    obtain ⟨rfl, rfl⟩ := so_e h
    exact ok_iret d_M_header_21 ⟨rfl, rfl⟩
  · replace h := if_f hc h
    refine ok_iload_n (q := 6) 1 d_M_header_5 rfl rfl rfl ?_
    refine ok_bipush (v := (7 : Int32)) (q := 8) d_M_header_6 (by decide) rfl ?_
    refine ok_icmp_gt (q := 11) (t := 20) d_M_header_8 (by decide) rfl (fun hc => ?_) (fun hc => ?_)
    · replace h := if_t hc h
      refine ok_iconst (v := (-1 : Int32)) (q := 21) d_M_header_20 (by decide) rfl ?_
      obtain ⟨rfl, rfl⟩ := so_e h
      exact ok_iret d_M_header_21 ⟨rfl, rfl⟩
    · replace h := if_f hc h
      refine ok_aload_n (q := 12) 0 d_M_header_11 rfl rfl rfl ?_
      refine ok_iload_n (q := 13) 1 d_M_header_12 rfl rfl rfl ?_
      refine ok_iconst (v := (0 : Int32)) (q := 14) d_M_header_13 (by decide) rfl ?_
      obtain ⟨x3, S1, hk, h⟩ := bd_e h
      refine cs_M_81 (q := 17) hk d_M_header_14 rfl (by decide) (Nat.le_of_ble_eq_true rfl) ?_
      refine ok_goto (q := 21) d_M_header_17 (by decide) ?_
      obtain ⟨rfl, rfl⟩ := so_e h
      exact ok_iret d_M_header_21 ⟨rfl, rfl⟩
set_option maxRecDepth 20000 in
set_option maxHeartbeats 4000000 in
theorem ct_M_header (p1 : Int32) (S : TR) (z : Int32) (Sz : TR) (h : fn_M_header S p1 = some (z, Sz)) : Ct (wR g r) D (tyR g) l y_M_header b_M_header 2 (some .int) rm_M_header [.ref (r 0), .int p1] S (pI z Sz) := ct_of (by decide) (Nat.le_of_ble_eq_true rfl) rfl (wk_M_header p1 S z Sz h)
theorem cs_M_134 {l : Launch} {D : va_G} {g : Nat → ClassId} {r : Nat → Nat} {rm : Room} {b : ByteArray} {nL : Nat} {ret : Option FieldType} {pc q : Nat} {Lc : List (Nat × Value)} {St : List Value} {S S2 : TR} {Post : Option Value → TR → Prop} {p1 : Int32} {z : Int32} (hk : fn_M_header S p1 = some (z, S2)) (hd : decode b pc = .ok (.invokevirtual 134, 3)) (hq : pc + 3 = q) (hrm : rm_M_header.frames + 1 ≤ rm.frames ∧ 8 + (2 + 11) + rm_M_header.locals ≤ rm.locals) (hroom : (St.map fun v => v.category).sum ≤ 8) (k : Ok (wR g r) D (tyR g) l rm R_M b nL ret S2 q Lc (.int z :: St) Post) : Ok (wR g r) D (tyR g) l rm R_M b nL ret S pc Lc (.int p1 :: .ref (r 0) :: St) Post := by
  subst hq
  exact ok_cV (As := [.int p1]) (n := 1) (C := R_M) (T := F_M) (N := 27) (ci := 2) (q0 := 0) (ct_M_header p1 S z S2 hk) hd wm_157 ⟨wm_158, wm_159, wm_160, wm_112⟩ (by decide +kernel) ⟨⟨rfl, rfl⟩, hrm⟩ rfl rfl rfl rfl hroom ⟨Nat.zero_le _, Nat.zero_le _⟩ (fun v u h => by obtain ⟨rfl, rfl⟩ := h; exact k)
set_option maxRecDepth 20000 in
set_option maxHeartbeats 4000000 in
theorem wk_M_directory (p1 : Int32) (S : TR) (z : Int32) (Sz : TR) (h : fn_M_directory S p1 = some (z, Sz)) : Ok (wR g r) D (tyR g) l rm_M_directory R_M b_M_directory 3 (some .boolean) S 0 [(0, .ref (r 0)), (1, .int p1)] [] (pI z Sz) := by
  unfold fn_M_directory at h
  refine ok_aload_n (q := 1) 0 d_M_directory_0 rfl rfl rfl ?_
  refine ok_iload_n (q := 2) 1 d_M_directory_1 rfl rfl rfl ?_
  obtain ⟨x3, S1, hk, h⟩ := bd_e h
  refine cs_M_134 (q := 5) hk d_M_directory_2 rfl (by decide) (Nat.le_of_ble_eq_true rfl) ?_
  refine ok_istore_n (q := 6) (lv := [(2, .int x3), (0, .ref (r 0)), (1, .int p1)]) d_M_directory_5 rfl (by decide) rfl rfl ?_
  refine ok_iload_n (q := 7) 2 d_M_directory_6 rfl rfl rfl ?_
  refine ok_if_eq (q := 10) (t := 23) d_M_directory_7 (by decide) rfl (fun hc => ?_) (fun hc => ?_)
  · replace h := if_t hc h
    refine ok_iconst (v := (1 : Int32)) (q := 24) d_M_directory_23 (by decide) rfl ?_
    refine ok_goto (q := 28) d_M_directory_24 (by decide) ?_
    obtain ⟨rfl, rfl⟩ := so_e h
    exact ok_zret d_M_directory_28 (by decide) ⟨rfl, rfl⟩
  · replace h := if_f hc h
    refine ok_iload_n (q := 11) 0 d_M_directory_10 rfl rfl rfl ?_
    refine ok_if_lt (q := 14) (t := 27) d_M_directory_11 (by decide) rfl (fun hc => ?_) (fun hc => ?_)
    · replace h := if_t hc h
      refine ok_iconst (v := (0 : Int32)) (q := 28) d_M_directory_27 (by decide) rfl ?_
      obtain ⟨rfl, rfl⟩ := so_e h
      exact ok_zret d_M_directory_28 (by decide) ⟨rfl, rfl⟩
    · replace h := if_f hc h
      refine ok_aload_n (q := 15) 1 d_M_directory_14 rfl rfl rfl ?_
      refine gf_M_31 (q := 18) d_M_directory_15 rfl ?_
      refine ok_iload_n (q := 19) 0 d_M_directory_18 rfl rfl rfl ?_
      obtain ⟨hg, h⟩ := gd_e h
      obtain ⟨x4, e_x4, h⟩ := st_e h
      refine al_M_8 (q := 20) hg e_x4 d_M_directory_19 rfl ?_
      refine ok_if_eq (q := 23) (t := 27) d_M_directory_20 (by decide) rfl (fun hc => ?_) (fun hc => ?_)
      · replace h := if_t hc h
        refine ok_iconst (v := (0 : Int32)) (q := 28) d_M_directory_27 (by decide) rfl ?_
        obtain ⟨rfl, rfl⟩ := so_e h
        exact ok_zret d_M_directory_28 (by decide) ⟨rfl, rfl⟩
      · replace h := if_f hc h
        refine ok_iconst (v := (1 : Int32)) (q := 24) d_M_directory_23 (by decide) rfl ?_
        refine ok_goto (q := 28) d_M_directory_24 (by decide) ?_
        obtain ⟨rfl, rfl⟩ := so_e h
        exact ok_zret d_M_directory_28 (by decide) ⟨rfl, rfl⟩
set_option maxRecDepth 20000 in
set_option maxHeartbeats 4000000 in
theorem ct_M_directory (p1 : Int32) (S : TR) (z : Int32) (Sz : TR) (h : fn_M_directory S p1 = some (z, Sz)) : Ct (wR g r) D (tyR g) l y_M_directory b_M_directory 3 (some .boolean) rm_M_directory [.ref (r 0), .int p1] S (pI z Sz) := ct_of (by decide) (Nat.le_of_ble_eq_true rfl) rfl (wk_M_directory p1 S z Sz h)
theorem cs_M_140 {l : Launch} {D : va_G} {g : Nat → ClassId} {r : Nat → Nat} {rm : Room} {b : ByteArray} {nL : Nat} {ret : Option FieldType} {pc q : Nat} {Lc : List (Nat × Value)} {St : List Value} {S S2 : TR} {Post : Option Value → TR → Prop} {p1 : Int32} {z : Int32} (hk : fn_M_directory S p1 = some (z, S2)) (hd : decode b pc = .ok (.invokevirtual 140, 3)) (hq : pc + 3 = q) (hrm : rm_M_directory.frames + 1 ≤ rm.frames ∧ 8 + (3 + 11) + rm_M_directory.locals ≤ rm.locals) (hroom : (St.map fun v => v.category).sum ≤ 8) (k : Ok (wR g r) D (tyR g) l rm R_M b nL ret S2 q Lc (.int z :: St) Post) : Ok (wR g r) D (tyR g) l rm R_M b nL ret S pc Lc (.int p1 :: .ref (r 0) :: St) Post := by
  subst hq
  exact ok_cV (As := [.int p1]) (n := 1) (C := R_M) (T := F_M) (N := 27) (ci := 2) (q0 := 0) (ct_M_directory p1 S z S2 hk) hd wm_165 ⟨wm_166, wm_167, wm_168, wm_112⟩ (by decide +kernel) ⟨⟨rfl, rfl⟩, hrm⟩ rfl rfl rfl rfl hroom ⟨Nat.zero_le _, Nat.zero_le _⟩ (fun v u h => by obtain ⟨rfl, rfl⟩ := h; exact k)
set_option maxRecDepth 20000 in
set_option maxHeartbeats 4000000 in
theorem wk_M_there (p1 : Int32) (S : TR) (z : Int32) (Sz : TR) (h : fn_M_there S p1 = some (z, Sz)) : Ok (wR g r) D (tyR g) l rm_M_there R_M b_M_there 2 (some .boolean) S 0 [(0, .ref (r 0)), (1, .int p1)] [] (pI z Sz) := by
  unfold fn_M_there at h
  refine ok_iload_n (q := 1) 1 d_M_there_0 rfl rfl rfl ?_
  refine ok_if_eq (q := 4) (t := 12) d_M_there_1 (by decide) rfl (fun hc => ?_) (fun hc => ?_)
  · replace h := if_t hc h
    refine ok_iconst (v := (1 : Int32)) (q := 13) d_M_there_12 (by decide) rfl ?_
    refine ok_goto (q := 17) d_M_there_13 (by decide) ?_
    obtain ⟨rfl, rfl⟩ := so_e h
    exact ok_zret d_M_there_17 (by decide) ⟨rfl, rfl⟩
  · replace h := if_f hc h
    refine ok_aload_n (q := 5) 0 d_M_there_4 rfl rfl rfl ?_
    refine ok_iload_n (q := 6) 1 d_M_there_5 rfl rfl rfl ?_
    obtain ⟨x3, S1, hk, h⟩ := bd_e h
    refine cs_M_134 (q := 9) hk d_M_there_6 rfl (by decide) (Nat.le_of_ble_eq_true rfl) ?_
    refine ok_if_lt (q := 12) (t := 16) d_M_there_9 (by decide) rfl (fun hc => ?_) (fun hc => ?_)
    · replace h := if_t hc h
      refine ok_iconst (v := (0 : Int32)) (q := 17) d_M_there_16 (by decide) rfl ?_
      obtain ⟨rfl, rfl⟩ := so_e h
      exact ok_zret d_M_there_17 (by decide) ⟨rfl, rfl⟩
    · replace h := if_f hc h
      refine ok_iconst (v := (1 : Int32)) (q := 13) d_M_there_12 (by decide) rfl ?_
      refine ok_goto (q := 17) d_M_there_13 (by decide) ?_
      obtain ⟨rfl, rfl⟩ := so_e h
      exact ok_zret d_M_there_17 (by decide) ⟨rfl, rfl⟩
set_option maxRecDepth 20000 in
set_option maxHeartbeats 4000000 in
theorem ct_M_there (p1 : Int32) (S : TR) (z : Int32) (Sz : TR) (h : fn_M_there S p1 = some (z, Sz)) : Ct (wR g r) D (tyR g) l y_M_there b_M_there 2 (some .boolean) rm_M_there [.ref (r 0), .int p1] S (pI z Sz) := ct_of (by decide) (Nat.le_of_ble_eq_true rfl) rfl (wk_M_there p1 S z Sz h)
theorem cs_M_137 {l : Launch} {D : va_G} {g : Nat → ClassId} {r : Nat → Nat} {rm : Room} {b : ByteArray} {nL : Nat} {ret : Option FieldType} {pc q : Nat} {Lc : List (Nat × Value)} {St : List Value} {S S2 : TR} {Post : Option Value → TR → Prop} {p1 : Int32} {z : Int32} (hk : fn_M_there S p1 = some (z, S2)) (hd : decode b pc = .ok (.invokevirtual 137, 3)) (hq : pc + 3 = q) (hrm : rm_M_there.frames + 1 ≤ rm.frames ∧ 8 + (2 + 11) + rm_M_there.locals ≤ rm.locals) (hroom : (St.map fun v => v.category).sum ≤ 8) (k : Ok (wR g r) D (tyR g) l rm R_M b nL ret S2 q Lc (.int z :: St) Post) : Ok (wR g r) D (tyR g) l rm R_M b nL ret S pc Lc (.int p1 :: .ref (r 0) :: St) Post := by
  subst hq
  exact ok_cV (As := [.int p1]) (n := 1) (C := R_M) (T := F_M) (N := 27) (ci := 2) (q0 := 0) (ct_M_there p1 S z S2 hk) hd wm_161 ⟨wm_162, wm_163, wm_164, wm_112⟩ (by decide +kernel) ⟨⟨rfl, rfl⟩, hrm⟩ rfl rfl rfl rfl hroom ⟨Nat.zero_le _, Nat.zero_le _⟩ (fun v u h => by obtain ⟨rfl, rfl⟩ := h; exact k)
set_option maxRecDepth 20000 in
set_option maxHeartbeats 4000000 in
theorem wl_M_named_3 (n : Nat) : ∀ (p1 : Int32) (p2 : Int32) (p3 : Int32) (p4 : Int32) (S : TR) (z : Int32) (Sz : TR), lp_M_named_3 n S p1 p2 p3 p4 = some (z, Sz) → Ok (wR g r) D (tyR g) l rm_M_named R_M b_M_named 6 (some .int) S 3 [(0, .ref (r 0)), (1, .int p1), (2, .int p2), (3, .int p3), (4, .int p4)] [] (pI z Sz) := by
  induction n with
  | zero => intro p1 p2 p3 p4 S z Sz h; exact absurd h (fun h => by cases h)
  | succ n ih =>
    intro p1 p2 p3 p4 S z Sz h
    rw [le_M_named_3] at h
    refine ok_iload (q := 5) 4 d_M_named_3 rfl rfl ?_
    refine ok_bipush (v := (7 : Int32)) (q := 7) d_M_named_5 (by decide) rfl ?_
    refine ok_icmp_gt (q := 10) (t := 70) d_M_named_7 (by decide) rfl (fun hc => ?_) (fun hc => ?_)
    · replace h := if_t hc h
      refine ok_iconst (v := (0 : Int32)) (q := 71) d_M_named_70 (by decide) rfl ?_
      obtain ⟨rfl, rfl⟩ := so_e h
      exact ok_iret d_M_named_71 ⟨rfl, rfl⟩
    · replace h := if_f hc h
      refine ok_aload_n (q := 11) 0 d_M_named_10 rfl rfl rfl ?_
      refine ok_iload (q := 13) 4 d_M_named_11 rfl rfl ?_
      obtain ⟨x3, S1, hk, h⟩ := bd_e h
      refine cs_M_134 (q := 16) hk d_M_named_13 rfl (by decide) (Nat.le_of_ble_eq_true rfl) ?_
      refine ok_istore (q := 18) (lv := [(5, .int x3), (0, .ref (r 0)), (1, .int p1), (2, .int p2), (3, .int p3), (4, .int p4)]) d_M_named_16 (by decide) rfl rfl ?_
      refine ok_iload (q := 20) 5 d_M_named_18 rfl rfl ?_
      refine ok_iload_n (q := 21) 4 d_M_named_20 rfl rfl rfl ?_
      refine ok_icmp_eq (q := 24) (t := 64) d_M_named_21 (by decide) rfl (fun hc => ?_) (fun hc => ?_)
      · replace h := if_t hc h
        obtain ⟨x4, e_x4, h⟩ := st_e h
        refine ok_iinc (d := (1 : Int32)) (q := 67) (lv := [(4, .int x4), (5, .int x3), (0, .ref (r 0)), (1, .int p1), (2, .int p2), (3, .int p3)]) 5 d_M_named_64 rfl (by decide) e_x4 (by decide) rfl rfl ?_
        refine ok_goto (q := 3) d_M_named_67 (by decide) ?_
        exact ok_sub [2, 3, 4, 5, 0] rfl (ih p1 p2 p3 x4 _ _ _ h)
      · replace h := if_f hc h
        refine ok_iload (q := 26) 0 d_M_named_24 rfl rfl ?_
        refine ok_if_lt (q := 29) (t := 64) d_M_named_26 (by decide) rfl (fun hc => ?_) (fun hc => ?_)
        · replace h := if_t hc h
          obtain ⟨x5, e_x5, h⟩ := st_e h
          refine ok_iinc (d := (1 : Int32)) (q := 67) (lv := [(4, .int x5), (5, .int x3), (0, .ref (r 0)), (1, .int p1), (2, .int p2), (3, .int p3)]) 5 d_M_named_64 rfl (by decide) e_x5 (by decide) rfl rfl ?_
          refine ok_goto (q := 3) d_M_named_67 (by decide) ?_
          exact ok_sub [2, 3, 4, 5, 0] rfl (ih p1 p2 p3 x5 _ _ _ h)
        · replace h := if_f hc h
          refine ok_aload_n (q := 30) 1 d_M_named_29 rfl rfl rfl ?_
          refine gf_M_25 (q := 33) d_M_named_30 rfl ?_
          refine ok_iload (q := 35) 0 d_M_named_33 rfl rfl ?_
          obtain ⟨hg, h⟩ := gd_e h
          obtain ⟨x6, e_x6, h⟩ := st_e h
          refine al_M_6 (q := 36) hg e_x6 d_M_named_35 rfl ?_
          refine ok_iload_n (q := 37) 2 d_M_named_36 rfl rfl rfl ?_
          refine ok_icmp_ne (q := 40) (t := 64) d_M_named_37 (by decide) rfl (fun hc => ?_) (fun hc => ?_)
          · replace h := if_f hc h
            obtain ⟨x7, e_x7, h⟩ := st_e h
            refine ok_iinc (d := (1 : Int32)) (q := 67) (lv := [(4, .int x7), (5, .int x3), (0, .ref (r 0)), (1, .int p1), (2, .int p2), (3, .int p3)]) 5 d_M_named_64 rfl (by decide) e_x7 (by decide) rfl rfl ?_
            refine ok_goto (q := 3) d_M_named_67 (by decide) ?_
            exact ok_sub [2, 3, 4, 5, 0] rfl (ih p1 p2 p3 x7 _ _ _ h)
          · replace h := if_t hc h
            refine ok_aload_n (q := 41) 1 d_M_named_40 rfl rfl rfl ?_
            refine gf_M_38 (q := 44) d_M_named_41 rfl ?_
            refine ok_iload (q := 46) 0 d_M_named_44 rfl rfl ?_
            obtain ⟨hg, h⟩ := gd_e h
            obtain ⟨x8, e_x8, h⟩ := st_e h
            refine al_M_10 (q := 47) hg e_x8 d_M_named_46 rfl ?_
            refine ok_if_ge (q := 50) (t := 64) d_M_named_47 (by decide) rfl (fun hc => ?_) (fun hc => ?_)
            · replace h := if_t hc h
              obtain ⟨x9, e_x9, h⟩ := st_e h
              refine ok_iinc (d := (1 : Int32)) (q := 67) (lv := [(4, .int x9), (5, .int x3), (0, .ref (r 0)), (1, .int p1), (2, .int p2), (3, .int p3)]) 5 d_M_named_64 rfl (by decide) e_x9 (by decide) rfl rfl ?_
              refine ok_goto (q := 3) d_M_named_67 (by decide) ?_
              exact ok_sub [2, 3, 4, 5, 0] rfl (ih p1 p2 p3 x9 _ _ _ h)
            · replace h := if_f hc h
              refine ok_aload_n (q := 51) 1 d_M_named_50 rfl rfl rfl ?_
              refine gf_M_22 (q := 54) d_M_named_51 rfl ?_
              refine ok_iload (q := 56) 0 d_M_named_54 rfl rfl ?_
              obtain ⟨hg, h⟩ := gd_e h
              obtain ⟨x10, e_x10, h⟩ := st_e h
              refine al_M_5 (q := 57) hg e_x10 d_M_named_56 rfl ?_
              refine ok_iload_n (q := 58) 3 d_M_named_57 rfl rfl rfl ?_
              refine ok_icmp_ne (q := 61) (t := 64) d_M_named_58 (by decide) rfl (fun hc => ?_) (fun hc => ?_)
              · replace h := if_f hc h
                obtain ⟨x11, e_x11, h⟩ := st_e h
                refine ok_iinc (d := (1 : Int32)) (q := 67) (lv := [(4, .int x11), (5, .int x3), (0, .ref (r 0)), (1, .int p1), (2, .int p2), (3, .int p3)]) 5 d_M_named_64 rfl (by decide) e_x11 (by decide) rfl rfl ?_
                refine ok_goto (q := 3) d_M_named_67 (by decide) ?_
                exact ok_sub [2, 3, 4, 5, 0] rfl (ih p1 p2 p3 x11 _ _ _ h)
              · replace h := if_t hc h
                refine ok_iload (q := 63) 5 d_M_named_61 rfl rfl ?_
                obtain ⟨rfl, rfl⟩ := so_e h
                exact ok_iret d_M_named_63 ⟨rfl, rfl⟩
set_option maxRecDepth 20000 in
set_option maxHeartbeats 4000000 in
theorem wk_M_named (p1 : Int32) (p2 : Int32) (p3 : Int32) (S : TR) (z : Int32) (Sz : TR) (h : fn_M_named S p1 p2 p3 = some (z, Sz)) : Ok (wR g r) D (tyR g) l rm_M_named R_M b_M_named 6 (some .int) S 0 [(0, .ref (r 0)), (1, .int p1), (2, .int p2), (3, .int p3)] [] (pI z Sz) := by
  unfold fn_M_named at h
  refine ok_iconst (v := (1 : Int32)) (q := 1) d_M_named_0 (by decide) rfl ?_
  refine ok_istore (q := 3) (lv := [(4, .int (1 : Int32)), (0, .ref (r 0)), (1, .int p1), (2, .int p2), (3, .int p3)]) d_M_named_1 (by decide) rfl rfl ?_
  exact ok_sub [1, 2, 3, 4, 0] rfl (wl_M_named_3 64 p1 p2 p3 (1 : Int32) _ _ _ h)
set_option maxRecDepth 20000 in
set_option maxHeartbeats 4000000 in
theorem ct_M_named (p1 : Int32) (p2 : Int32) (p3 : Int32) (S : TR) (z : Int32) (Sz : TR) (h : fn_M_named S p1 p2 p3 = some (z, Sz)) : Ct (wR g r) D (tyR g) l y_M_named b_M_named 6 (some .int) rm_M_named [.ref (r 0), .int p1, .int p2, .int p3] S (pI z Sz) := ct_of (by decide) (Nat.le_of_ble_eq_true rfl) rfl (wk_M_named p1 p2 p3 S z Sz h)
theorem cs_M_143 {l : Launch} {D : va_G} {g : Nat → ClassId} {r : Nat → Nat} {rm : Room} {b : ByteArray} {nL : Nat} {ret : Option FieldType} {pc q : Nat} {Lc : List (Nat × Value)} {St : List Value} {S S2 : TR} {Post : Option Value → TR → Prop} {p1 : Int32} {p2 : Int32} {p3 : Int32} {z : Int32} (hk : fn_M_named S p1 p2 p3 = some (z, S2)) (hd : decode b pc = .ok (.invokevirtual 143, 3)) (hq : pc + 3 = q) (hrm : rm_M_named.frames + 1 ≤ rm.frames ∧ 8 + (6 + 11) + rm_M_named.locals ≤ rm.locals) (hroom : (St.map fun v => v.category).sum ≤ 8) (k : Ok (wR g r) D (tyR g) l rm R_M b nL ret S2 q Lc (.int z :: St) Post) : Ok (wR g r) D (tyR g) l rm R_M b nL ret S pc Lc (.int p3 :: .int p2 :: .int p1 :: .ref (r 0) :: St) Post := by
  subst hq
  exact ok_cV (As := [.int p1, .int p2, .int p3]) (n := 3) (C := R_M) (T := F_M) (N := 27) (ci := 2) (q0 := 0) (ct_M_named p1 p2 p3 S z S2 hk) hd wm_169 ⟨wm_170, wm_171, wm_172, wm_112⟩ (by decide +kernel) ⟨⟨rfl, rfl⟩, hrm⟩ rfl rfl rfl rfl hroom ⟨Nat.zero_le _, Nat.zero_le _⟩ (fun v u h => by obtain ⟨rfl, rfl⟩ := h; exact k)
set_option maxRecDepth 20000 in
set_option maxHeartbeats 4000000 in
theorem wl_M_inside_4 (n : Nat) : ∀ (p1 : Int32) (p2 : Int32) (p3 : Int32) (S : TR) (z : Int32) (Sz : TR), lp_M_inside_4 n S p1 p2 p3 = some (z, Sz) → Ok (wR g r) D (tyR g) l rm_M_inside R_M b_M_inside 5 (some .int) S 4 [(0, .ref (r 0)), (1, .int p1), (2, .int p2), (3, .int p3)] [] (pI z Sz) := by
  induction n with
  | zero => intro p1 p2 p3 S z Sz h; exact absurd h (fun h => by cases h)
  | succ n ih =>
    intro p1 p2 p3 S z Sz h
    rw [le_M_inside_4] at h
    refine ok_iload_n (q := 5) 3 d_M_inside_4 rfl rfl rfl ?_
    refine ok_bipush (v := (7 : Int32)) (q := 7) d_M_inside_5 (by decide) rfl ?_
    refine ok_icmp_gt (q := 10) (t := 47) d_M_inside_7 (by decide) rfl (fun hc => ?_) (fun hc => ?_)
    · replace h := if_t hc h
      refine ok_iload_n (q := 48) 2 d_M_inside_47 rfl rfl rfl ?_
      obtain ⟨rfl, rfl⟩ := so_e h
      exact ok_iret d_M_inside_48 ⟨rfl, rfl⟩
    · replace h := if_f hc h
      refine ok_aload_n (q := 11) 0 d_M_inside_10 rfl rfl rfl ?_
      refine ok_iload_n (q := 12) 3 d_M_inside_11 rfl rfl rfl ?_
      obtain ⟨x3, S1, hk, h⟩ := bd_e h
      refine cs_M_134 (q := 15) hk d_M_inside_12 rfl (by decide) (Nat.le_of_ble_eq_true rfl) ?_
      refine ok_istore (q := 17) (lv := [(4, .int x3), (0, .ref (r 0)), (1, .int p1), (2, .int p2), (3, .int p3)]) d_M_inside_15 (by decide) rfl rfl ?_
      refine ok_iload_n (q := 18) 3 d_M_inside_17 rfl rfl rfl ?_
      refine ok_iload (q := 20) 0 d_M_inside_18 rfl rfl ?_
      refine ok_if_lt (q := 23) (t := 38) d_M_inside_20 (by decide) rfl (fun hc => ?_) (fun hc => ?_)
      · replace h := if_t hc h
        refine ok_iconst (v := (0 : Int32)) (q := 39) d_M_inside_38 (by decide) rfl ?_
        refine ok_iadd (q := 40) d_M_inside_39 rfl ?_
        obtain ⟨x4, e_x4, h⟩ := st_e h
        refine ok_topi e_x4 ?_
        refine ok_istore_n (q := 41) (lv := [(2, .int x4), (4, .int x3), (0, .ref (r 0)), (1, .int p1), (3, .int p3)]) d_M_inside_40 rfl (by decide) rfl rfl ?_
        obtain ⟨x5, e_x5, h⟩ := st_e h
        refine ok_iinc (d := (1 : Int32)) (q := 44) (lv := [(3, .int x5), (2, .int x4), (4, .int x3), (0, .ref (r 0)), (1, .int p1)]) 4 d_M_inside_41 rfl (by decide) e_x5 (by decide) rfl rfl ?_
        refine ok_goto (q := 4) d_M_inside_44 (by decide) ?_
        exact ok_sub [3, 4, 1, 0] rfl (ih p1 x4 x5 _ _ _ h)
      · replace h := if_f hc h
        refine ok_aload_n (q := 24) 1 d_M_inside_23 rfl rfl rfl ?_
        refine gf_M_25 (q := 27) d_M_inside_24 rfl ?_
        refine ok_iload (q := 29) 0 d_M_inside_27 rfl rfl ?_
        obtain ⟨hg, h⟩ := gd_e h
        obtain ⟨x6, e_x6, h⟩ := st_e h
        refine al_M_6 (q := 30) hg e_x6 d_M_inside_29 rfl ?_
        refine ok_iload_n (q := 31) 2 d_M_inside_30 rfl rfl rfl ?_
        refine ok_icmp_ne (q := 34) (t := 38) d_M_inside_31 (by decide) rfl (fun hc => ?_) (fun hc => ?_)
        · replace h := if_f hc h
          refine ok_iconst (v := (0 : Int32)) (q := 39) d_M_inside_38 (by decide) rfl ?_
          refine ok_iadd (q := 40) d_M_inside_39 rfl ?_
          obtain ⟨x7, e_x7, h⟩ := st_e h
          refine ok_topi e_x7 ?_
          refine ok_istore_n (q := 41) (lv := [(2, .int x7), (4, .int x3), (0, .ref (r 0)), (1, .int p1), (3, .int p3)]) d_M_inside_40 rfl (by decide) rfl rfl ?_
          obtain ⟨x8, e_x8, h⟩ := st_e h
          refine ok_iinc (d := (1 : Int32)) (q := 44) (lv := [(3, .int x8), (2, .int x7), (4, .int x3), (0, .ref (r 0)), (1, .int p1)]) 4 d_M_inside_41 rfl (by decide) e_x8 (by decide) rfl rfl ?_
          refine ok_goto (q := 4) d_M_inside_44 (by decide) ?_
          exact ok_sub [3, 4, 1, 0] rfl (ih p1 x7 x8 _ _ _ h)
        · replace h := if_t hc h
          refine ok_iconst (v := (1 : Int32)) (q := 35) d_M_inside_34 (by decide) rfl ?_
          refine ok_goto (q := 39) d_M_inside_35 (by decide) ?_
          refine ok_iadd (q := 40) d_M_inside_39 rfl ?_
          obtain ⟨x9, e_x9, h⟩ := st_e h
          refine ok_topi e_x9 ?_
          refine ok_istore_n (q := 41) (lv := [(2, .int x9), (4, .int x3), (0, .ref (r 0)), (1, .int p1), (3, .int p3)]) d_M_inside_40 rfl (by decide) rfl rfl ?_
          obtain ⟨x10, e_x10, h⟩ := st_e h
          refine ok_iinc (d := (1 : Int32)) (q := 44) (lv := [(3, .int x10), (2, .int x9), (4, .int x3), (0, .ref (r 0)), (1, .int p1)]) 4 d_M_inside_41 rfl (by decide) e_x10 (by decide) rfl rfl ?_
          refine ok_goto (q := 4) d_M_inside_44 (by decide) ?_
          exact ok_sub [3, 4, 1, 0] rfl (ih p1 x9 x10 _ _ _ h)
set_option maxRecDepth 20000 in
set_option maxHeartbeats 4000000 in
theorem wk_M_inside (p1 : Int32) (S : TR) (z : Int32) (Sz : TR) (h : fn_M_inside S p1 = some (z, Sz)) : Ok (wR g r) D (tyR g) l rm_M_inside R_M b_M_inside 5 (some .int) S 0 [(0, .ref (r 0)), (1, .int p1)] [] (pI z Sz) := by
  unfold fn_M_inside at h
  refine ok_iconst (v := (0 : Int32)) (q := 1) d_M_inside_0 (by decide) rfl ?_
  refine ok_istore_n (q := 2) (lv := [(2, .int (0 : Int32)), (0, .ref (r 0)), (1, .int p1)]) d_M_inside_1 rfl (by decide) rfl rfl ?_
  refine ok_iconst (v := (1 : Int32)) (q := 3) d_M_inside_2 (by decide) rfl ?_
  refine ok_istore_n (q := 4) (lv := [(3, .int (1 : Int32)), (2, .int (0 : Int32)), (0, .ref (r 0)), (1, .int p1)]) d_M_inside_3 rfl (by decide) rfl rfl ?_
  exact ok_sub [2, 3, 1, 0] rfl (wl_M_inside_4 64 p1 (0 : Int32) (1 : Int32) _ _ _ h)
set_option maxRecDepth 20000 in
set_option maxHeartbeats 4000000 in
theorem ct_M_inside (p1 : Int32) (S : TR) (z : Int32) (Sz : TR) (h : fn_M_inside S p1 = some (z, Sz)) : Ct (wR g r) D (tyR g) l y_M_inside b_M_inside 5 (some .int) rm_M_inside [.ref (r 0), .int p1] S (pI z Sz) := ct_of (by decide) (Nat.le_of_ble_eq_true rfl) rfl (wk_M_inside p1 S z Sz h)
theorem cs_M_167 {l : Launch} {D : va_G} {g : Nat → ClassId} {r : Nat → Nat} {rm : Room} {b : ByteArray} {nL : Nat} {ret : Option FieldType} {pc q : Nat} {Lc : List (Nat × Value)} {St : List Value} {S S2 : TR} {Post : Option Value → TR → Prop} {p1 : Int32} {z : Int32} (hk : fn_M_inside S p1 = some (z, S2)) (hd : decode b pc = .ok (.invokevirtual 167, 3)) (hq : pc + 3 = q) (hrm : rm_M_inside.frames + 1 ≤ rm.frames ∧ 8 + (5 + 11) + rm_M_inside.locals ≤ rm.locals) (hroom : (St.map fun v => v.category).sum ≤ 8) (k : Ok (wR g r) D (tyR g) l rm R_M b nL ret S2 q Lc (.int z :: St) Post) : Ok (wR g r) D (tyR g) l rm R_M b nL ret S pc Lc (.int p1 :: .ref (r 0) :: St) Post := by
  subst hq
  exact ok_cV (As := [.int p1]) (n := 1) (C := R_M) (T := F_M) (N := 27) (ci := 2) (q0 := 0) (ct_M_inside p1 S z S2 hk) hd wm_185 ⟨wm_186, wm_187, wm_188, wm_112⟩ (by decide +kernel) ⟨⟨rfl, rfl⟩, hrm⟩ rfl rfl rfl rfl hroom ⟨Nat.zero_le _, Nat.zero_le _⟩ (fun v u h => by obtain ⟨rfl, rfl⟩ := h; exact k)
set_option maxRecDepth 20000 in
set_option maxHeartbeats 4000000 in
theorem wl_M_create_47 (n : Nat) : ∀ (p1 : Int32) (p2 : Int32) (p3 : Int32) (p4 : Int32) (S : TR) (z : Int32) (Sz : TR), lp_M_create_47 n S p1 p2 p3 p4 = some (z, Sz) → Ok (wR g r) D (tyR g) l rm_M_create R_M b_M_create 6 (some .int) S 47 [(0, .ref (r 0)), (1, .int p1), (2, .int p2), (3, .int p3), (4, .int p4)] [] (pI z Sz) := by
  induction n with
  | zero => intro p1 p2 p3 p4 S z Sz h; exact absurd h (fun h => by cases h)
  | succ n ih =>
    intro p1 p2 p3 p4 S z Sz h
    rw [le_M_create_47] at h
    refine ok_iload (q := 49) 4 d_M_create_47 rfl rfl ?_
    refine ok_bipush (v := (7 : Int32)) (q := 51) d_M_create_49 (by decide) rfl ?_
    refine ok_icmp_gt (q := 54) (t := 69) d_M_create_51 (by decide) rfl (fun hc => ?_) (fun hc => ?_)
    · replace h := if_t hc h
      refine ok_iload (q := 71) 4 d_M_create_69 rfl rfl ?_
      refine ok_bipush (v := (7 : Int32)) (q := 73) d_M_create_71 (by decide) rfl ?_
      refine ok_icmp_le (q := 76) (t := 79) d_M_create_73 (by decide) rfl (fun hc => ?_) (fun hc => ?_)
      · replace h := if_t hc h
        refine ok_aload_n (q := 80) 0 d_M_create_79 rfl rfl rfl ?_
        refine ok_iconst (v := (1 : Int32)) (q := 81) d_M_create_80 (by decide) rfl ?_
        obtain ⟨x3, S1, hk, h⟩ := bd_e h
        refine cs_M_147 (q := 84) hk d_M_create_81 rfl (by decide) (Nat.le_of_ble_eq_true rfl) ?_
        refine ok_istore (q := 86) (lv := [(5, .int x3), (0, .ref (r 0)), (1, .int p1), (2, .int p2), (3, .int p3), (4, .int p4)]) d_M_create_84 (by decide) rfl rfl ?_
        refine ok_iload (q := 88) 0 d_M_create_86 rfl rfl ?_
        refine ok_if_ge (q := 91) (t := 94) d_M_create_88 (by decide) rfl (fun hc => ?_) (fun hc => ?_)
        · replace h := if_t hc h
          refine ok_aload_n (q := 95) 1 d_M_create_94 rfl rfl rfl ?_
          refine ok_iload (q := 97) 5 d_M_create_95 rfl rfl ?_
          refine ok_iconst (v := (0 : Int32)) (q := 98) d_M_create_97 (by decide) rfl ?_
          refine ok_iload_n (q := 99) 3 d_M_create_98 rfl rfl rfl ?_
          obtain ⟨_, S4, hk, h⟩ := bd_e h
          refine cs_M_111 (q := 102) hk d_M_create_99 rfl (by decide) (Nat.le_of_ble_eq_true rfl) ?_
          refine ok_aload_n (q := 103) 1 d_M_create_102 rfl rfl rfl ?_
          refine ok_iload_n (q := 104) 2 d_M_create_103 rfl rfl rfl ?_
          obtain ⟨S6, e_S6, h⟩ := st_e h
          refine pf_M_92 (q := 107) e_S6 d_M_create_104 rfl ?_
          refine ok_aload_n (q := 108) 1 d_M_create_107 rfl rfl rfl ?_
          refine ok_iload_n (q := 109) 4 d_M_create_108 rfl rfl rfl ?_
          obtain ⟨hg, h⟩ := gd_e h
          obtain ⟨S7, e_S7, h⟩ := st_e h
          refine pf_M_98 (q := 112) e_S7 hg d_M_create_109 rfl ?_
          refine ok_aload_n (q := 113) 1 d_M_create_112 rfl rfl rfl ?_
          obtain ⟨x10, S8, hk, h⟩ := bd_e h
          refine cs_M_119 (q := 116) hk d_M_create_113 rfl (by decide) (Nat.le_of_ble_eq_true rfl) ?_
          refine ok_if_eq (q := 119) (t := 124) d_M_create_116 (by decide) rfl (fun hc => ?_) (fun hc => ?_)
          · replace h := if_t hc h
            refine ok_bipush (v := (-9 : Int32)) (q := 126) d_M_create_124 (by decide) rfl ?_
            obtain ⟨rfl, rfl⟩ := so_e h
            exact ok_iret d_M_create_126 ⟨rfl, rfl⟩
          · replace h := if_f hc h
            refine ok_iload (q := 121) 5 d_M_create_119 rfl rfl ?_
            refine ok_goto (q := 126) d_M_create_121 (by decide) ?_
            obtain ⟨rfl, rfl⟩ := so_e h
            exact ok_iret d_M_create_126 ⟨rfl, rfl⟩
        · replace h := if_f hc h
          refine ok_iload (q := 93) 0 d_M_create_91 rfl rfl ?_
          obtain ⟨rfl, rfl⟩ := so_e h
          exact ok_iret d_M_create_93 ⟨rfl, rfl⟩
      · replace h := if_f hc h
        refine ok_bipush (v := (-5 : Int32)) (q := 78) d_M_create_76 (by decide) rfl ?_
        obtain ⟨rfl, rfl⟩ := so_e h
        exact ok_iret d_M_create_78 ⟨rfl, rfl⟩
    · replace h := if_f hc h
      refine ok_aload_n (q := 55) 0 d_M_create_54 rfl rfl rfl ?_
      refine ok_iload (q := 57) 4 d_M_create_55 rfl rfl ?_
      obtain ⟨x13, S11, hk, h⟩ := bd_e h
      refine cs_M_134 (q := 60) hk d_M_create_57 rfl (by decide) (Nat.le_of_ble_eq_true rfl) ?_
      refine ok_if_lt (q := 63) (t := 69) d_M_create_60 (by decide) rfl (fun hc => ?_) (fun hc => ?_)
      · replace h := if_t hc h
        refine ok_iload (q := 71) 4 d_M_create_69 rfl rfl ?_
        refine ok_bipush (v := (7 : Int32)) (q := 73) d_M_create_71 (by decide) rfl ?_
        refine ok_icmp_le (q := 76) (t := 79) d_M_create_73 (by decide) rfl (fun hc => ?_) (fun hc => ?_)
        · replace h := if_t hc h
          refine ok_aload_n (q := 80) 0 d_M_create_79 rfl rfl rfl ?_
          refine ok_iconst (v := (1 : Int32)) (q := 81) d_M_create_80 (by decide) rfl ?_
          obtain ⟨x16, S14, hk, h⟩ := bd_e h
          refine cs_M_147 (q := 84) hk d_M_create_81 rfl (by decide) (Nat.le_of_ble_eq_true rfl) ?_
          refine ok_istore (q := 86) (lv := [(5, .int x16), (0, .ref (r 0)), (1, .int p1), (2, .int p2), (3, .int p3), (4, .int p4)]) d_M_create_84 (by decide) rfl rfl ?_
          refine ok_iload (q := 88) 0 d_M_create_86 rfl rfl ?_
          refine ok_if_ge (q := 91) (t := 94) d_M_create_88 (by decide) rfl (fun hc => ?_) (fun hc => ?_)
          · replace h := if_t hc h
            refine ok_aload_n (q := 95) 1 d_M_create_94 rfl rfl rfl ?_
            refine ok_iload (q := 97) 5 d_M_create_95 rfl rfl ?_
            refine ok_iconst (v := (0 : Int32)) (q := 98) d_M_create_97 (by decide) rfl ?_
            refine ok_iload_n (q := 99) 3 d_M_create_98 rfl rfl rfl ?_
            obtain ⟨_, S17, hk, h⟩ := bd_e h
            refine cs_M_111 (q := 102) hk d_M_create_99 rfl (by decide) (Nat.le_of_ble_eq_true rfl) ?_
            refine ok_aload_n (q := 103) 1 d_M_create_102 rfl rfl rfl ?_
            refine ok_iload_n (q := 104) 2 d_M_create_103 rfl rfl rfl ?_
            obtain ⟨S19, e_S19, h⟩ := st_e h
            refine pf_M_92 (q := 107) e_S19 d_M_create_104 rfl ?_
            refine ok_aload_n (q := 108) 1 d_M_create_107 rfl rfl rfl ?_
            refine ok_iload_n (q := 109) 4 d_M_create_108 rfl rfl rfl ?_
            obtain ⟨hg, h⟩ := gd_e h
            obtain ⟨S20, e_S20, h⟩ := st_e h
            refine pf_M_98 (q := 112) e_S20 hg d_M_create_109 rfl ?_
            refine ok_aload_n (q := 113) 1 d_M_create_112 rfl rfl rfl ?_
            obtain ⟨x23, S21, hk, h⟩ := bd_e h
            refine cs_M_119 (q := 116) hk d_M_create_113 rfl (by decide) (Nat.le_of_ble_eq_true rfl) ?_
            refine ok_if_eq (q := 119) (t := 124) d_M_create_116 (by decide) rfl (fun hc => ?_) (fun hc => ?_)
            · replace h := if_t hc h
              refine ok_bipush (v := (-9 : Int32)) (q := 126) d_M_create_124 (by decide) rfl ?_
              obtain ⟨rfl, rfl⟩ := so_e h
              exact ok_iret d_M_create_126 ⟨rfl, rfl⟩
            · replace h := if_f hc h
              refine ok_iload (q := 121) 5 d_M_create_119 rfl rfl ?_
              refine ok_goto (q := 126) d_M_create_121 (by decide) ?_
              obtain ⟨rfl, rfl⟩ := so_e h
              exact ok_iret d_M_create_126 ⟨rfl, rfl⟩
          · replace h := if_f hc h
            refine ok_iload (q := 93) 0 d_M_create_91 rfl rfl ?_
            obtain ⟨rfl, rfl⟩ := so_e h
            exact ok_iret d_M_create_93 ⟨rfl, rfl⟩
        · replace h := if_f hc h
          refine ok_bipush (v := (-5 : Int32)) (q := 78) d_M_create_76 (by decide) rfl ?_
          obtain ⟨rfl, rfl⟩ := so_e h
          exact ok_iret d_M_create_78 ⟨rfl, rfl⟩
      · replace h := if_f hc h
        obtain ⟨x24, e_x24, h⟩ := st_e h
        refine ok_iinc (d := (1 : Int32)) (q := 66) (lv := [(4, .int x24), (0, .ref (r 0)), (1, .int p1), (2, .int p2), (3, .int p3)]) 4 d_M_create_63 rfl (by decide) e_x24 (by decide) rfl rfl ?_
        refine ok_goto (q := 47) d_M_create_66 (by decide) ?_
        exact ok_sub [1, 2, 3, 4, 0] rfl (ih p1 p2 p3 x24 _ _ _ h)
set_option maxRecDepth 20000 in
set_option maxHeartbeats 4000000 in
theorem wk_M_create (p1 : Int32) (p2 : Int32) (p3 : Int32) (S : TR) (z : Int32) (Sz : TR) (h : fn_M_create S p1 p2 p3 = some (z, Sz)) : Ok (wR g r) D (tyR g) l rm_M_create R_M b_M_create 6 (some .int) S 0 [(0, .ref (r 0)), (1, .int p1), (2, .int p2), (3, .int p3)] [] (pI z Sz) := by
  unfold fn_M_create at h
  refine ok_aload_n (q := 1) 0 d_M_create_0 rfl rfl rfl ?_
  obtain ⟨x1, e_x1, h⟩ := st_e h
  refine gf_M_56 (q := 4) e_x1 d_M_create_1 rfl ?_
  refine ok_if_ne (q := 7) (t := 10) d_M_create_4 (by decide) rfl (fun hc => ?_) (fun hc => ?_)
  · replace h := if_f hc h
    refine ok_aload_n (q := 11) 0 d_M_create_10 rfl rfl rfl ?_
    refine ok_iload_n (q := 12) 1 d_M_create_11 rfl rfl rfl ?_
    obtain ⟨x4, S2, hk, h⟩ := bd_e h
    refine cs_M_137 (q := 15) hk d_M_create_12 rfl (by decide) (Nat.le_of_ble_eq_true rfl) ?_
    refine ok_if_ne (q := 18) (t := 20) d_M_create_15 (by decide) rfl (fun hc => ?_) (fun hc => ?_)
    · replace h := if_f hc h
      refine ok_aload_n (q := 21) 0 d_M_create_20 rfl rfl rfl ?_
      refine ok_iload_n (q := 22) 1 d_M_create_21 rfl rfl rfl ?_
      obtain ⟨x7, S5, hk, h⟩ := bd_e h
      refine cs_M_140 (q := 25) hk d_M_create_22 rfl (by decide) (Nat.le_of_ble_eq_true rfl) ?_
      refine ok_if_ne (q := 28) (t := 31) d_M_create_25 (by decide) rfl (fun hc => ?_) (fun hc => ?_)
      · replace h := if_f hc h
        refine ok_aload_n (q := 32) 0 d_M_create_31 rfl rfl rfl ?_
        refine ok_iload_n (q := 33) 1 d_M_create_32 rfl rfl rfl ?_
        refine ok_iload_n (q := 34) 2 d_M_create_33 rfl rfl rfl ?_
        refine ok_iconst (v := (0 : Int32)) (q := 35) d_M_create_34 (by decide) rfl ?_
        obtain ⟨x10, S8, hk, h⟩ := bd_e h
        refine cs_M_143 (q := 38) hk d_M_create_35 rfl (by decide) (Nat.le_of_ble_eq_true rfl) ?_
        refine ok_if_le (q := 41) (t := 44) d_M_create_38 (by decide) rfl (fun hc => ?_) (fun hc => ?_)
        · replace h := if_t hc h
          refine ok_iconst (v := (1 : Int32)) (q := 45) d_M_create_44 (by decide) rfl ?_
          refine ok_istore (q := 47) (lv := [(4, .int (1 : Int32)), (0, .ref (r 0)), (1, .int p1), (2, .int p2), (3, .int p3)]) d_M_create_45 (by decide) rfl rfl ?_
          exact ok_sub [1, 2, 3, 4, 0] rfl (wl_M_create_47 64 p1 p2 p3 (1 : Int32) _ _ _ h)
        · replace h := if_f hc h
          refine ok_bipush (v := (-4 : Int32)) (q := 43) d_M_create_41 (by decide) rfl ?_
          obtain ⟨rfl, rfl⟩ := so_e h
          exact ok_iret d_M_create_43 ⟨rfl, rfl⟩
      · replace h := if_t hc h
        refine ok_bipush (v := (-2 : Int32)) (q := 30) d_M_create_28 (by decide) rfl ?_
        obtain ⟨rfl, rfl⟩ := so_e h
        exact ok_iret d_M_create_30 ⟨rfl, rfl⟩
    · replace h := if_t hc h
      refine ok_iconst (v := (-1 : Int32)) (q := 19) d_M_create_18 (by decide) rfl ?_
      obtain ⟨rfl, rfl⟩ := so_e h
      exact ok_iret d_M_create_19 ⟨rfl, rfl⟩
  · replace h := if_t hc h
    refine ok_bipush (v := (-9 : Int32)) (q := 9) d_M_create_7 (by decide) rfl ?_
    obtain ⟨rfl, rfl⟩ := so_e h
    exact ok_iret d_M_create_9 ⟨rfl, rfl⟩
set_option maxRecDepth 20000 in
set_option maxHeartbeats 4000000 in
theorem ct_M_create (p1 : Int32) (p2 : Int32) (p3 : Int32) (S : TR) (z : Int32) (Sz : TR) (h : fn_M_create S p1 p2 p3 = some (z, Sz)) : Ct (wR g r) D (tyR g) l y_M_create b_M_create 6 (some .int) rm_M_create [.ref (r 0), .int p1, .int p2, .int p3] S (pI z Sz) := ct_of (by decide) (Nat.le_of_ble_eq_true rfl) rfl (wk_M_create p1 p2 p3 S z Sz h)

set_option maxRecDepth 20000 in
set_option maxHeartbeats 4000000 in
theorem wk_M_write (p1 : Int32) (p2 : Int32) (p3 : Int32) (S : TR) (z : Int32) (Sz : TR) (h : fn_M_write S p1 p2 p3 = some (z, Sz)) : Ok (wR g r) D (tyR g) l rm_M_write R_M b_M_write 8 (some .int) S 0 [(0, .ref (r 0)), (1, .int p1), (2, .int p2), (3, .int p3)] [] (pI z Sz) := by
  unfold fn_M_write at h
  refine ok_aload_n (q := 1) 0 d_M_write_0 rfl rfl rfl ?_
  obtain ⟨x1, e_x1, h⟩ := st_e h
  refine gf_M_56 (q := 4) e_x1 d_M_write_1 rfl ?_
  refine ok_if_ne (q := 7) (t := 10) d_M_write_4 (by decide) rfl (fun hc => ?_) (fun hc => ?_)
  · replace h := if_f hc h
    refine ok_aload_n (q := 11) 0 d_M_write_10 rfl rfl rfl ?_
    refine ok_iload_n (q := 12) 1 d_M_write_11 rfl rfl rfl ?_
    obtain ⟨x4, S2, hk, h⟩ := bd_e h
    refine cs_M_134 (q := 15) hk d_M_write_12 rfl (by decide) (Nat.le_of_ble_eq_true rfl) ?_
    refine ok_istore (q := 17) (lv := [(4, .int x4), (0, .ref (r 0)), (1, .int p1), (2, .int p2), (3, .int p3)]) d_M_write_15 (by decide) rfl rfl ?_
    refine ok_iload (q := 19) 0 d_M_write_17 rfl rfl ?_
    refine ok_if_ge (q := 22) (t := 24) d_M_write_19 (by decide) rfl (fun hc => ?_) (fun hc => ?_)
    · replace h := if_t hc h
      refine ok_aload_n (q := 25) 1 d_M_write_24 rfl rfl rfl ?_
      refine gf_M_31 (q := 28) d_M_write_25 rfl ?_
      refine ok_iload (q := 30) 0 d_M_write_28 rfl rfl ?_
      obtain ⟨hg, h⟩ := gd_e h
      obtain ⟨x5, e_x5, h⟩ := st_e h
      refine al_M_8 (q := 31) hg e_x5 d_M_write_30 rfl ?_
      refine ok_if_eq (q := 34) (t := 37) d_M_write_31 (by decide) rfl (fun hc => ?_) (fun hc => ?_)
      · replace h := if_t hc h
        refine ok_iload_n (q := 38) 3 d_M_write_37 rfl rfl rfl ?_
        refine ok_iconst (v := (1 : Int32)) (q := 39) d_M_write_38 (by decide) rfl ?_
        refine ok_icmp_lt (q := 42) (t := 48) d_M_write_39 (by decide) rfl (fun hc => ?_) (fun hc => ?_)
        · replace h := if_t hc h
          refine ok_bipush (v := (-7 : Int32)) (q := 50) d_M_write_48 (by decide) rfl ?_
          obtain ⟨rfl, rfl⟩ := so_e h
          exact ok_iret d_M_write_50 ⟨rfl, rfl⟩
        · replace h := if_f hc h
          refine ok_iload_n (q := 43) 3 d_M_write_42 rfl rfl rfl ?_
          refine ok_bipush (v := (6 : Int32)) (q := 45) d_M_write_43 (by decide) rfl ?_
          refine ok_icmp_le (q := 48) (t := 51) d_M_write_45 (by decide) rfl (fun hc => ?_) (fun hc => ?_)
          · replace h := if_t hc h
            refine ok_iload_n (q := 52) 3 d_M_write_51 rfl rfl rfl ?_
            refine ok_aload_n (q := 53) 1 d_M_write_52 rfl rfl rfl ?_
            refine gf_M_28 (q := 56) d_M_write_53 rfl ?_
            refine ok_iload (q := 58) 0 d_M_write_56 rfl rfl ?_
            obtain ⟨hg, h⟩ := gd_e h
            obtain ⟨x6, e_x6, h⟩ := st_e h
            refine al_M_7 (q := 59) hg e_x6 d_M_write_58 rfl ?_
            refine ok_icmp_le (q := 62) (t := 66) d_M_write_59 (by decide) rfl (fun hc => ?_) (fun hc => ?_)
            · replace h := if_t hc h
              refine ok_iconst (v := (0 : Int32)) (q := 67) d_M_write_66 (by decide) rfl ?_
              refine ok_istore (q := 69) (lv := [(5, .int (0 : Int32)), (4, .int x4), (0, .ref (r 0)), (1, .int p1), (2, .int p2), (3, .int p3)]) d_M_write_67 (by decide) rfl rfl ?_
              refine ok_aload_n (q := 70) 2 d_M_write_69 rfl rfl rfl ?_
              refine ok_iload (q := 72) 0 d_M_write_70 rfl rfl ?_
              refine ok_if_eq (q := 75) (t := 79) d_M_write_72 (by decide) rfl (fun _ => ?_) (fun hn => absurd hn (by decide))
              refine ok_iconst (v := (1 : Int32)) (q := 80) d_M_write_79 (by decide) rfl ?_
              obtain ⟨x9, S7, hk, h⟩ := bd_e h
              refine cs_M_147 (q := 83) hk d_M_write_80 rfl (by decide) (Nat.le_of_ble_eq_true rfl) ?_
              refine ok_istore (q := 85) (lv := [(6, .int x9), (5, .int (0 : Int32)), (4, .int x4), (0, .ref (r 0)), (1, .int p1), (2, .int p2), (3, .int p3)]) d_M_write_83 (by decide) rfl rfl ?_
              refine ok_iload (q := 87) 0 d_M_write_85 rfl rfl ?_
              refine ok_if_ge (q := 90) (t := 93) d_M_write_87 (by decide) rfl (fun hc => ?_) (fun hc => ?_)
              · replace h := if_t hc h
                refine ok_aload_n (q := 94) 3 d_M_write_93 rfl rfl rfl ?_
                refine ok_iload_n (q := 95) 4 d_M_write_94 rfl rfl rfl ?_
                refine ok_iload_n (q := 96) 5 d_M_write_95 rfl rfl rfl ?_
                refine ok_iload_n (q := 97) 6 d_M_write_96 rfl rfl rfl ?_
                obtain ⟨_, S10, hk, h⟩ := bd_e h
                refine cs_M_111 (q := 100) hk d_M_write_97 rfl (by decide) (Nat.le_of_ble_eq_true rfl) ?_
                refine ok_aload_n (q := 101) 3 d_M_write_100 rfl rfl rfl ?_
                obtain ⟨x14, S12, hk, h⟩ := bd_e h
                refine cs_M_119 (q := 104) hk d_M_write_101 rfl (by decide) (Nat.le_of_ble_eq_true rfl) ?_
                refine ok_if_ne (q := 107) (t := 110) d_M_write_104 (by decide) rfl (fun hc => ?_) (fun hc => ?_)
                · replace h := if_f hc h
                  refine ok_iload (q := 112) 1 d_M_write_110 rfl rfl ?_
                  refine ok_if_eq (q := 115) (t := 147) d_M_write_112 (by decide) rfl (fun _ => ?_) (fun hn => absurd hn (by decide))
                  refine ok_iconst (v := (0 : Int32)) (q := 148) d_M_write_147 (by decide) rfl ?_
                  obtain ⟨rfl, rfl⟩ := so_e h
                  exact ok_iret d_M_write_148 ⟨rfl, rfl⟩
                · replace h := if_t hc h
                  refine ok_bipush (v := (-9 : Int32)) (q := 109) d_M_write_107 (by decide) rfl ?_
                  obtain ⟨rfl, rfl⟩ := so_e h
                  exact ok_iret d_M_write_109 ⟨rfl, rfl⟩
              · replace h := if_f hc h
                refine ok_iload (q := 92) 0 d_M_write_90 rfl rfl ?_
                obtain ⟨rfl, rfl⟩ := so_e h
                exact ok_iret d_M_write_92 ⟨rfl, rfl⟩
            · replace h := if_f hc h
              refine ok_iconst (v := (1 : Int32)) (q := 63) d_M_write_62 (by decide) rfl ?_
              refine ok_goto (q := 67) d_M_write_63 (by decide) ?_
              refine ok_istore (q := 69) (lv := [(5, .int (1 : Int32)), (4, .int x4), (0, .ref (r 0)), (1, .int p1), (2, .int p2), (3, .int p3)]) d_M_write_67 (by decide) rfl rfl ?_
              refine ok_aload_n (q := 70) 2 d_M_write_69 rfl rfl rfl ?_
              refine ok_iload (q := 72) 0 d_M_write_70 rfl rfl ?_
              refine ok_if_eq (q := 75) (t := 79) d_M_write_72 (by decide) rfl (fun hn => absurd hn (by decide)) (fun _ => ?_)
              refine ok_iconst (v := (2 : Int32)) (q := 76) d_M_write_75 (by decide) rfl ?_
              refine ok_goto (q := 80) d_M_write_76 (by decide) ?_
              obtain ⟨x17, S15, hk, h⟩ := bd_e h
              refine cs_M_147 (q := 83) hk d_M_write_80 rfl (by decide) (Nat.le_of_ble_eq_true rfl) ?_
              refine ok_istore (q := 85) (lv := [(6, .int x17), (5, .int (1 : Int32)), (4, .int x4), (0, .ref (r 0)), (1, .int p1), (2, .int p2), (3, .int p3)]) d_M_write_83 (by decide) rfl rfl ?_
              refine ok_iload (q := 87) 0 d_M_write_85 rfl rfl ?_
              refine ok_if_ge (q := 90) (t := 93) d_M_write_87 (by decide) rfl (fun hc => ?_) (fun hc => ?_)
              · replace h := if_t hc h
                refine ok_aload_n (q := 94) 3 d_M_write_93 rfl rfl rfl ?_
                refine ok_iload_n (q := 95) 4 d_M_write_94 rfl rfl rfl ?_
                refine ok_iload_n (q := 96) 5 d_M_write_95 rfl rfl rfl ?_
                refine ok_iload_n (q := 97) 6 d_M_write_96 rfl rfl rfl ?_
                obtain ⟨_, S18, hk, h⟩ := bd_e h
                refine cs_M_111 (q := 100) hk d_M_write_97 rfl (by decide) (Nat.le_of_ble_eq_true rfl) ?_
                refine ok_aload_n (q := 101) 3 d_M_write_100 rfl rfl rfl ?_
                obtain ⟨x22, S20, hk, h⟩ := bd_e h
                refine cs_M_119 (q := 104) hk d_M_write_101 rfl (by decide) (Nat.le_of_ble_eq_true rfl) ?_
                refine ok_if_ne (q := 107) (t := 110) d_M_write_104 (by decide) rfl (fun hc => ?_) (fun hc => ?_)
                · replace h := if_f hc h
                  refine ok_iload (q := 112) 1 d_M_write_110 rfl rfl ?_
                  refine ok_if_eq (q := 115) (t := 147) d_M_write_112 (by decide) rfl (fun hn => absurd hn (by decide)) (fun _ => ?_)
                  refine ok_aload_n (q := 116) 3 d_M_write_115 rfl rfl rfl ?_
                  refine ok_iload_n (q := 117) 4 d_M_write_116 rfl rfl rfl ?_
                  obtain ⟨x25, S23, hk, h⟩ := bd_e h
                  refine cs_M_134 (q := 120) hk d_M_write_117 rfl (by decide) (Nat.le_of_ble_eq_true rfl) ?_
                  refine ok_istore (q := 122) (lv := [(7, .int x25), (6, .int x17), (5, .int (1 : Int32)), (4, .int x4), (0, .ref (r 0)), (1, .int p1), (2, .int p2), (3, .int p3)]) d_M_write_120 (by decide) rfl rfl ?_
                  refine ok_aload_n (q := 123) 4 d_M_write_122 rfl rfl rfl ?_
                  refine ok_iload (q := 125) 0 d_M_write_123 rfl rfl ?_
                  obtain ⟨_, S26, hk, h⟩ := bd_e h
                  refine cs_M_115 (q := 128) hk d_M_write_125 rfl (by decide) (Nat.le_of_ble_eq_true rfl) ?_
                  refine ok_aload_n (q := 129) 4 d_M_write_128 rfl rfl rfl ?_
                  refine ok_iload_n (q := 130) 6 d_M_write_129 rfl rfl rfl ?_
                  obtain ⟨S28, e_S28, h⟩ := st_e h
                  refine pf_M_95 (q := 133) e_S28 d_M_write_130 rfl ?_
                  refine ok_aload_n (q := 134) 4 d_M_write_133 rfl rfl rfl ?_
                  obtain ⟨x31, S29, hk, h⟩ := bd_e h
                  refine cs_M_119 (q := 137) hk d_M_write_134 rfl (by decide) (Nat.le_of_ble_eq_true rfl) ?_
                  refine ok_if_eq (q := 140) (t := 144) d_M_write_137 (by decide) rfl (fun hc => ?_) (fun hc => ?_)
                  · replace h := if_t hc h
                    refine ok_bipush (v := (-9 : Int32)) (q := 146) d_M_write_144 (by decide) rfl ?_
                    obtain ⟨rfl, rfl⟩ := so_e h
                    exact ok_iret d_M_write_146 ⟨rfl, rfl⟩
                  · replace h := if_f hc h
                    refine ok_iconst (v := (0 : Int32)) (q := 141) d_M_write_140 (by decide) rfl ?_
                    refine ok_goto (q := 146) d_M_write_141 (by decide) ?_
                    obtain ⟨rfl, rfl⟩ := so_e h
                    exact ok_iret d_M_write_146 ⟨rfl, rfl⟩
                · replace h := if_t hc h
                  refine ok_bipush (v := (-9 : Int32)) (q := 109) d_M_write_107 (by decide) rfl ?_
                  obtain ⟨rfl, rfl⟩ := so_e h
                  exact ok_iret d_M_write_109 ⟨rfl, rfl⟩
              · replace h := if_f hc h
                refine ok_iload (q := 92) 0 d_M_write_90 rfl rfl ?_
                obtain ⟨rfl, rfl⟩ := so_e h
                exact ok_iret d_M_write_92 ⟨rfl, rfl⟩
          · replace h := if_f hc h
            refine ok_bipush (v := (-7 : Int32)) (q := 50) d_M_write_48 (by decide) rfl ?_
            obtain ⟨rfl, rfl⟩ := so_e h
            exact ok_iret d_M_write_50 ⟨rfl, rfl⟩
      · replace h := if_f hc h
        refine ok_bipush (v := (-3 : Int32)) (q := 36) d_M_write_34 (by decide) rfl ?_
        obtain ⟨rfl, rfl⟩ := so_e h
        exact ok_iret d_M_write_36 ⟨rfl, rfl⟩
    · replace h := if_f hc h
      refine ok_iconst (v := (-1 : Int32)) (q := 23) d_M_write_22 (by decide) rfl ?_
      obtain ⟨rfl, rfl⟩ := so_e h
      exact ok_iret d_M_write_23 ⟨rfl, rfl⟩
  · replace h := if_t hc h
    refine ok_bipush (v := (-9 : Int32)) (q := 9) d_M_write_7 (by decide) rfl ?_
    obtain ⟨rfl, rfl⟩ := so_e h
    exact ok_iret d_M_write_9 ⟨rfl, rfl⟩
set_option maxRecDepth 20000 in
set_option maxHeartbeats 4000000 in
theorem ct_M_write (p1 : Int32) (p2 : Int32) (p3 : Int32) (S : TR) (z : Int32) (Sz : TR) (h : fn_M_write S p1 p2 p3 = some (z, Sz)) : Ct (wR g r) D (tyR g) l y_M_write b_M_write 8 (some .int) rm_M_write [.ref (r 0), .int p1, .int p2, .int p3] S (pI z Sz) := ct_of (by decide) (Nat.le_of_ble_eq_true rfl) rfl (wk_M_write p1 p2 p3 S z Sz h)

end WALK
