section WALK
variable {l : Launch} {D : va_G} {g : Nat → ClassId} {a r : Nat → Nat}
set_option maxRecDepth 20000 in
set_option maxHeartbeats 4000000 in
theorem wk_S_free (S : TC) (z : Int32) (Sz : TC) (h : fn_S_free S = some (z, Sz)) : Ok (wC g a) D (tyC g) l rm_S_free R_S b_S_free 1 (some .int) S 0 [(0, .ref (a 0))] [] (pI z Sz) := by
  unfold fn_S_free at h
  refine ok_aload_n (q := 1) 0 d_S_free_0 rfl rfl rfl ?_
  refine gf_S_12 (q := 4) d_S_free_1 rfl ?_
  obtain ⟨x3, S1, hk, h⟩ := bd_e h
  refine cs_S_158 (q := 7) hk d_S_free_4 rfl (by decide) (Nat.le_of_ble_eq_true rfl) ?_
  obtain ⟨rfl, rfl⟩ := so_e h
  exact ok_iret d_S_free_7 ⟨rfl, rfl⟩
set_option maxRecDepth 20000 in
set_option maxHeartbeats 4000000 in
theorem ct_S_free (S : TC) (z : Int32) (Sz : TC) (h : fn_S_free S = some (z, Sz)) : Ct (wC g a) D (tyC g) l y_S_free b_S_free 1 (some .int) rm_S_free [.ref (a 0)] S (pI z Sz) := ct_of (by decide) (Nat.le_of_ble_eq_true rfl) rfl (wk_S_free S z Sz h)

set_option maxRecDepth 20000 in
set_option maxHeartbeats 4000000 in
theorem wk_S_erases (p1 : Int32) (S : TC) (z : Int32) (Sz : TC) (h : fn_S_erases S p1 = some (z, Sz)) : Ok (wC g a) D (tyC g) l rm_S_erases R_S b_S_erases 2 (some .int) S 0 [(0, .ref (a 0)), (1, .int p1)] [] (pI z Sz) := by
  unfold fn_S_erases at h
  refine ok_iload_n (q := 1) 1 d_S_erases_0 rfl rfl rfl ?_
  obtain ⟨x3, S1, hk, h⟩ := bd_e h
  refine cs_S_142 (q := 4) hk d_S_erases_1 rfl (by decide) (Nat.le_of_ble_eq_true rfl) ?_
  refine ok_if_ne (q := 7) (t := 9) d_S_erases_4 (by decide) rfl (fun hc => ?_) (fun hc => ?_)
  · replace h := if_f hc h
    refine ok_iconst (v := (2 : Int32)) (q := 10) d_S_erases_9 (by decide) rfl ?_
    refine ok_aload_n (q := 11) 0 d_S_erases_10 rfl rfl rfl ?_
    refine gf_S_12 (q := 14) d_S_erases_11 rfl ?_
    refine gf_S_161 (q := 17) d_S_erases_14 rfl ?_
    refine ok_iload_n (q := 18) 1 d_S_erases_17 rfl rfl rfl ?_
    obtain ⟨hg, h⟩ := gd_e h
    obtain ⟨x4, e_x4, h⟩ := st_e h
    refine al_C_6 (q := 19) hg e_x4 d_S_erases_18 rfl ?_
    refine ok_imul (q := 20) d_S_erases_19 rfl ?_
    refine ok_aload_n (q := 21) 0 d_S_erases_20 rfl rfl rfl ?_
    refine gf_S_12 (q := 24) d_S_erases_21 rfl ?_
    refine gf_S_145 (q := 27) d_S_erases_24 rfl ?_
    refine ok_iload_n (q := 28) 1 d_S_erases_27 rfl rfl rfl ?_
    obtain ⟨hg, h⟩ := gd_e h
    obtain ⟨x5, e_x5, h⟩ := st_e h
    refine al_C_8 (q := 29) hg e_x5 d_S_erases_28 rfl ?_
    refine ok_if_eq (q := 32) (t := 36) d_S_erases_29 (by decide) rfl (fun hc => ?_) (fun hc => ?_)
    · replace h := if_t hc h
      refine ok_iconst (v := (0 : Int32)) (q := 37) d_S_erases_36 (by decide) rfl ?_
      refine ok_iadd (q := 38) d_S_erases_37 rfl ?_
      obtain ⟨rfl, rfl⟩ := so_e h
      exact ok_iret d_S_erases_38 ⟨rfl, rfl⟩
    · replace h := if_f hc h
      refine ok_iconst (v := (1 : Int32)) (q := 33) d_S_erases_32 (by decide) rfl ?_
      refine ok_goto (q := 37) d_S_erases_33 (by decide) ?_
      refine ok_iadd (q := 38) d_S_erases_37 rfl ?_
      obtain ⟨rfl, rfl⟩ := so_e h
      exact ok_iret d_S_erases_38 ⟨rfl, rfl⟩
  · replace h := if_t hc h
    refine ok_iconst (v := (-1 : Int32)) (q := 8) d_S_erases_7 (by decide) rfl ?_
    obtain ⟨rfl, rfl⟩ := so_e h
    exact ok_iret d_S_erases_8 ⟨rfl, rfl⟩
set_option maxRecDepth 20000 in
set_option maxHeartbeats 4000000 in
theorem ct_S_erases (p1 : Int32) (S : TC) (z : Int32) (Sz : TC) (h : fn_S_erases S p1 = some (z, Sz)) : Ct (wC g a) D (tyC g) l y_S_erases b_S_erases 2 (some .int) rm_S_erases [.ref (a 0), .int p1] S (pI z Sz) := ct_of (by decide) (Nat.le_of_ble_eq_true rfl) rfl (wk_S_erases p1 S z Sz h)

set_option maxRecDepth 20000 in
set_option maxHeartbeats 4000000 in
theorem wk_S_steps (S : TC) (z : Int32) (Sz : TC) (h : fn_S_steps S = some (z, Sz)) : Ok (wC g a) D (tyC g) l rm_S_steps R_S b_S_steps 1 (some .int) S 0 [(0, .ref (a 0))] [] (pI z Sz) := by
  unfold fn_S_steps at h
  refine ok_aload_n (q := 1) 0 d_S_steps_0 rfl rfl rfl ?_
  refine gf_S_12 (q := 4) d_S_steps_1 rfl ?_
  obtain ⟨x1, e_x1, h⟩ := st_e h
  refine gf_S_164 (q := 7) e_x1 d_S_steps_4 rfl ?_
  obtain ⟨rfl, rfl⟩ := so_e h
  exact ok_iret d_S_steps_7 ⟨rfl, rfl⟩
set_option maxRecDepth 20000 in
set_option maxHeartbeats 4000000 in
theorem ct_S_steps (S : TC) (z : Int32) (Sz : TC) (h : fn_S_steps S = some (z, Sz)) : Ct (wC g a) D (tyC g) l y_S_steps b_S_steps 1 (some .int) rm_S_steps [.ref (a 0)] S (pI z Sz) := ct_of (by decide) (Nat.le_of_ble_eq_true rfl) rfl (wk_S_steps S z Sz h)

set_option maxRecDepth 20000 in
set_option maxHeartbeats 4000000 in
theorem wk_M_step (S : TR) (z : Int32) (Sz : TR) (h : fn_M_step S = some (z, Sz)) : Ok (wR g r) D (tyR g) l rm_M_step R_M b_M_step 1 (some .boolean) S 0 [(0, .ref (r 0))] [] (pI z Sz) := by
  unfold fn_M_step at h
  refine ok_aload_n (q := 1) 0 d_M_step_0 rfl rfl rfl ?_
  obtain ⟨x1, e_x1, h⟩ := st_e h
  refine gf_M_60 (q := 4) e_x1 d_M_step_1 rfl ?_
  refine ok_if_ne (q := 7) (t := 19) d_M_step_4 (by decide) rfl (fun hc => ?_) (fun hc => ?_)
  · replace h := if_f hc h
    refine ok_aload_n (q := 20) 0 d_M_step_19 rfl rfl rfl ?_
    refine ok_aload_n (q := 21) 0 d_M_step_20 rfl rfl rfl ?_
    obtain ⟨x2, e_x2, h⟩ := st_e h
    refine gf_M_60 (q := 24) e_x2 d_M_step_21 rfl ?_
    refine ok_if_le (q := 27) (t := 36) d_M_step_24 (by decide) rfl (fun hc => ?_) (fun hc => ?_)
    · replace h := if_t hc h
      refine ok_aload_n (q := 37) 0 d_M_step_36 rfl rfl rfl ?_
      obtain ⟨x3, e_x3, h⟩ := st_e h
      refine gf_M_60 (q := 40) e_x3 d_M_step_37 rfl ?_
      obtain ⟨S4, e_S4, h⟩ := st_e h
      refine pf_M_60 (q := 43) e_S4 d_M_step_40 rfl ?_
      refine ok_aload_n (q := 44) 0 d_M_step_43 rfl rfl rfl ?_
      refine ok_dup (q := 45) d_M_step_44 rfl rfl ?_
      obtain ⟨x5, e_x5, h⟩ := st_e h
      refine gf_M_64 (q := 48) e_x5 d_M_step_45 rfl ?_
      refine ok_iconst (v := (1 : Int32)) (q := 49) d_M_step_48 (by decide) rfl ?_
      refine ok_iadd (q := 50) d_M_step_49 rfl ?_
      obtain ⟨S6, e_S6, h⟩ := st_e h
      refine pf_M_64 (q := 53) e_S6 d_M_step_50 rfl ?_
      refine ok_iconst (v := (1 : Int32)) (q := 54) d_M_step_53 (by decide) rfl ?_
      obtain ⟨rfl, rfl⟩ := so_e h
      exact ok_zret d_M_step_54 (by decide) ⟨rfl, rfl⟩
    · replace h := if_f hc h
      refine ok_aload_n (q := 28) 0 d_M_step_27 rfl rfl rfl ?_
      obtain ⟨x7, e_x7, h⟩ := st_e h
      refine gf_M_60 (q := 31) e_x7 d_M_step_28 rfl ?_
      refine ok_iconst (v := (1 : Int32)) (q := 32) d_M_step_31 (by decide) rfl ?_
      refine ok_isub (q := 33) d_M_step_32 rfl ?_
      refine ok_goto (q := 40) d_M_step_33 (by decide) ?_
      obtain ⟨S8, e_S8, h⟩ := st_e h
      refine pf_M_60 (q := 43) e_S8 d_M_step_40 rfl ?_
      refine ok_aload_n (q := 44) 0 d_M_step_43 rfl rfl rfl ?_
      refine ok_dup (q := 45) d_M_step_44 rfl rfl ?_
      obtain ⟨x9, e_x9, h⟩ := st_e h
      refine gf_M_64 (q := 48) e_x9 d_M_step_45 rfl ?_
      refine ok_iconst (v := (1 : Int32)) (q := 49) d_M_step_48 (by decide) rfl ?_
      refine ok_iadd (q := 50) d_M_step_49 rfl ?_
      obtain ⟨S10, e_S10, h⟩ := st_e h
      refine pf_M_64 (q := 53) e_S10 d_M_step_50 rfl ?_
      refine ok_iconst (v := (1 : Int32)) (q := 54) d_M_step_53 (by decide) rfl ?_
      obtain ⟨rfl, rfl⟩ := so_e h
      exact ok_zret d_M_step_54 (by decide) ⟨rfl, rfl⟩
  · replace h := if_t hc h
    refine ok_aload_n (q := 8) 0 d_M_step_7 rfl rfl rfl ?_
    refine ok_iconst (v := (-1 : Int32)) (q := 9) d_M_step_8 (by decide) rfl ?_
    obtain ⟨S11, e_S11, h⟩ := st_e h
    refine pf_M_60 (q := 12) e_S11 d_M_step_9 rfl ?_
    refine ok_aload_n (q := 13) 0 d_M_step_12 rfl rfl rfl ?_
    refine ok_iconst (v := (0 : Int32)) (q := 14) d_M_step_13 (by decide) rfl ?_
    obtain ⟨S12, e_S12, h⟩ := st_e h
    refine pf_M_56 (q := 17) e_S12 (by decide) d_M_step_14 rfl ?_
    refine ok_iconst (v := (0 : Int32)) (q := 18) d_M_step_17 (by decide) rfl ?_
    obtain ⟨rfl, rfl⟩ := so_e h
    exact ok_zret d_M_step_18 (by decide) ⟨rfl, rfl⟩
set_option maxRecDepth 20000 in
set_option maxHeartbeats 4000000 in
theorem ct_M_step (S : TR) (z : Int32) (Sz : TR) (h : fn_M_step S = some (z, Sz)) : Ct (wR g r) D (tyR g) l y_M_step b_M_step 1 (some .boolean) rm_M_step [.ref (r 0)] S (pI z Sz) := ct_of (by decide) (Nat.le_of_ble_eq_true rfl) rfl (wk_M_step S z Sz h)
theorem cs_M_71 {l : Launch} {D : va_G} {g : Nat → ClassId} {r : Nat → Nat} {rm : Room} {b : ByteArray} {nL : Nat} {ret : Option FieldType} {pc q : Nat} {Lc : List (Nat × Value)} {St : List Value} {S S2 : TR} {Post : Option Value → TR → Prop} {z : Int32} (hk : fn_M_step S = some (z, S2)) (hd : decode b pc = .ok (.invokevirtual 71, 3)) (hq : pc + 3 = q) (hrm : rm_M_step.frames + 1 ≤ rm.frames ∧ 8 + (1 + 11) + rm_M_step.locals ≤ rm.locals) (hroom : (St.map fun v => v.category).sum ≤ 8) (k : Ok (wR g r) D (tyR g) l rm R_M b nL ret S2 q Lc (.int z :: St) Post) : Ok (wR g r) D (tyR g) l rm R_M b nL ret S pc Lc (.ref (r 0) :: St) Post := by
  subst hq
  exact ok_cV (As := []) (n := 0) (C := R_M) (T := F_M) (N := 27) (ci := 2) (q0 := 0) (ct_M_step S z S2 hk) hd wm_113 ⟨wm_114, wm_115, wm_116, wm_112⟩ (by decide +kernel) ⟨⟨rfl, rfl⟩, hrm⟩ rfl rfl rfl rfl hroom ⟨Nat.zero_le _, Nat.zero_le _⟩ (fun v u h => by obtain ⟨rfl, rfl⟩ := h; exact k)
set_option maxRecDepth 20000 in
set_option maxHeartbeats 4000000 in
theorem wl_M_programmed_7 (n : Nat) : ∀ (p1 : Int32) (p2 : Int32) (p3 : Int32) (S : TR) (z : Int32) (Sz : TR), lp_M_programmed_7 n S p1 p2 p3 = some (z, Sz) → Ok (wR g r) D (tyR g) l rm_M_programmed R_M b_M_programmed 4 (some .int) S 7 [(0, .ref (r 0)), (1, .int p1), (2, .int p2), (3, .int p3)] [] (pI z Sz) := by
  induction n with
  | zero => intro p1 p2 p3 S z Sz h; exact absurd h (fun h => by cases h)
  | succ n ih =>
    intro p1 p2 p3 S z Sz h
    rw [le_M_programmed_7] at h
    refine ok_iload_n (q := 8) 3 d_M_programmed_7 rfl rfl rfl ?_
    refine ok_bipush (v := (8 : Int32)) (q := 10) d_M_programmed_8 (by decide) rfl ?_
    refine ok_iload_n (q := 11) 1 d_M_programmed_10 rfl rfl rfl ?_
    refine ok_imul (q := 12) d_M_programmed_11 rfl ?_
    refine ok_bipush (v := (8 : Int32)) (q := 14) d_M_programmed_12 (by decide) rfl ?_
    refine ok_iadd (q := 15) d_M_programmed_14 rfl ?_
    refine ok_icmp_ge (q := 18) (t := 41) d_M_programmed_15 (by decide) rfl (fun hc => ?_) (fun hc => ?_)
    · replace h := if_t hc h
      refine ok_iload_n (q := 42) 2 d_M_programmed_41 rfl rfl rfl ?_
      obtain ⟨rfl, rfl⟩ := so_e h
      exact ok_iret d_M_programmed_42 ⟨rfl, rfl⟩
    · replace h := if_f hc h
      refine ok_iload_n (q := 19) 2 d_M_programmed_18 rfl rfl rfl ?_
      refine ok_aload_n (q := 20) 0 d_M_programmed_19 rfl rfl rfl ?_
      refine gf_M_7 (q := 23) d_M_programmed_20 rfl ?_
      refine ok_iload_n (q := 24) 3 d_M_programmed_23 rfl rfl rfl ?_
      obtain ⟨hg, h⟩ := gd_e h
      obtain ⟨x1, e_x1, h⟩ := st_e h
      refine al_M_1 (q := 25) hg e_x1 d_M_programmed_24 rfl ?_
      refine ok_if_ne (q := 28) (t := 32) d_M_programmed_25 (by decide) rfl (fun hc => ?_) (fun hc => ?_)
      · replace h := if_f hc h
        refine ok_iconst (v := (1 : Int32)) (q := 33) d_M_programmed_32 (by decide) rfl ?_
        refine ok_iadd (q := 34) d_M_programmed_33 rfl ?_
        obtain ⟨x2, e_x2, h⟩ := st_e h
        refine ok_topi e_x2 ?_
        refine ok_istore_n (q := 35) (lv := [(2, .int x2), (0, .ref (r 0)), (1, .int p1), (3, .int p3)]) d_M_programmed_34 rfl (by decide) rfl rfl ?_
        obtain ⟨x3, e_x3, h⟩ := st_e h
        refine ok_iinc (d := (1 : Int32)) (q := 38) (lv := [(3, .int x3), (2, .int x2), (0, .ref (r 0)), (1, .int p1)]) 3 d_M_programmed_35 rfl (by decide) e_x3 (by decide) rfl rfl ?_
        refine ok_goto (q := 7) d_M_programmed_38 (by decide) ?_
        exact ok_sub [2, 3, 1, 0] rfl (ih p1 x2 x3 _ _ _ h)
      · replace h := if_t hc h
        refine ok_iconst (v := (0 : Int32)) (q := 29) d_M_programmed_28 (by decide) rfl ?_
        refine ok_goto (q := 33) d_M_programmed_29 (by decide) ?_
        refine ok_iadd (q := 34) d_M_programmed_33 rfl ?_
        obtain ⟨x4, e_x4, h⟩ := st_e h
        refine ok_topi e_x4 ?_
        refine ok_istore_n (q := 35) (lv := [(2, .int x4), (0, .ref (r 0)), (1, .int p1), (3, .int p3)]) d_M_programmed_34 rfl (by decide) rfl rfl ?_
        obtain ⟨x5, e_x5, h⟩ := st_e h
        refine ok_iinc (d := (1 : Int32)) (q := 38) (lv := [(3, .int x5), (2, .int x4), (0, .ref (r 0)), (1, .int p1)]) 3 d_M_programmed_35 rfl (by decide) e_x5 (by decide) rfl rfl ?_
        refine ok_goto (q := 7) d_M_programmed_38 (by decide) ?_
        exact ok_sub [2, 3, 1, 0] rfl (ih p1 x4 x5 _ _ _ h)
set_option maxRecDepth 20000 in
set_option maxHeartbeats 4000000 in
theorem wk_M_programmed (p1 : Int32) (S : TR) (z : Int32) (Sz : TR) (h : fn_M_programmed S p1 = some (z, Sz)) : Ok (wR g r) D (tyR g) l rm_M_programmed R_M b_M_programmed 4 (some .int) S 0 [(0, .ref (r 0)), (1, .int p1)] [] (pI z Sz) := by
  unfold fn_M_programmed at h
  refine ok_iconst (v := (0 : Int32)) (q := 1) d_M_programmed_0 (by decide) rfl ?_
  refine ok_istore_n (q := 2) (lv := [(2, .int (0 : Int32)), (0, .ref (r 0)), (1, .int p1)]) d_M_programmed_1 rfl (by decide) rfl rfl ?_
  refine ok_bipush (v := (8 : Int32)) (q := 4) d_M_programmed_2 (by decide) rfl ?_
  refine ok_iload_n (q := 5) 2 d_M_programmed_4 rfl rfl rfl ?_
  refine ok_imul (q := 6) d_M_programmed_5 rfl ?_
  obtain ⟨x1, e_x1, h⟩ := st_e h
  refine ok_topi e_x1 ?_
  refine ok_istore_n (q := 7) (lv := [(3, .int x1), (2, .int (0 : Int32)), (0, .ref (r 0)), (1, .int p1)]) d_M_programmed_6 rfl (by decide) rfl rfl ?_
  exact ok_sub [2, 3, 1, 0] rfl (wl_M_programmed_7 64 p1 (0 : Int32) x1 _ _ _ h)
set_option maxRecDepth 20000 in
set_option maxHeartbeats 4000000 in
theorem ct_M_programmed (p1 : Int32) (S : TR) (z : Int32) (Sz : TR) (h : fn_M_programmed S p1 = some (z, Sz)) : Ct (wR g r) D (tyR g) l y_M_programmed b_M_programmed 4 (some .int) rm_M_programmed [.ref (r 0), .int p1] S (pI z Sz) := ct_of (by decide) (Nat.le_of_ble_eq_true rfl) rfl (wk_M_programmed p1 S z Sz h)
theorem cs_M_67 {l : Launch} {D : va_G} {g : Nat → ClassId} {r : Nat → Nat} {rm : Room} {b : ByteArray} {nL : Nat} {ret : Option FieldType} {pc q : Nat} {Lc : List (Nat × Value)} {St : List Value} {S S2 : TR} {Post : Option Value → TR → Prop} {p1 : Int32} {z : Int32} (hk : fn_M_programmed S p1 = some (z, S2)) (hd : decode b pc = .ok (.invokevirtual 67, 3)) (hq : pc + 3 = q) (hrm : rm_M_programmed.frames + 1 ≤ rm.frames ∧ 8 + (4 + 11) + rm_M_programmed.locals ≤ rm.locals) (hroom : (St.map fun v => v.category).sum ≤ 8) (k : Ok (wR g r) D (tyR g) l rm R_M b nL ret S2 q Lc (.int z :: St) Post) : Ok (wR g r) D (tyR g) l rm R_M b nL ret S pc Lc (.int p1 :: .ref (r 0) :: St) Post := by
  subst hq
  exact ok_cV (As := [.int p1]) (n := 1) (C := R_M) (T := F_M) (N := 27) (ci := 2) (q0 := 0) (ct_M_programmed p1 S z S2 hk) hd wm_108 ⟨wm_109, wm_110, wm_111, wm_112⟩ (by decide +kernel) ⟨⟨rfl, rfl⟩, hrm⟩ rfl rfl rfl rfl hroom ⟨Nat.zero_le _, Nat.zero_le _⟩ (fun v u h => by obtain ⟨rfl, rfl⟩ := h; exact k)
set_option maxRecDepth 20000 in
set_option maxHeartbeats 4000000 in
theorem wl_M_lives_7 (n : Nat) : ∀ (p1 : Int32) (p2 : Int32) (p3 : Int32) (S : TR) (z : Int32) (Sz : TR), lp_M_lives_7 n S p1 p2 p3 = some (z, Sz) → Ok (wR g r) D (tyR g) l rm_M_lives R_M b_M_lives 4 (some .int) S 7 [(0, .ref (r 0)), (1, .int p1), (2, .int p2), (3, .int p3)] [] (pI z Sz) := by
  induction n with
  | zero => intro p1 p2 p3 S z Sz h; exact absurd h (fun h => by cases h)
  | succ n ih =>
    intro p1 p2 p3 S z Sz h
    rw [le_M_lives_7] at h
    refine ok_iload_n (q := 8) 3 d_M_lives_7 rfl rfl rfl ?_
    refine ok_bipush (v := (8 : Int32)) (q := 10) d_M_lives_8 (by decide) rfl ?_
    refine ok_iload_n (q := 11) 1 d_M_lives_10 rfl rfl rfl ?_
    refine ok_imul (q := 12) d_M_lives_11 rfl ?_
    refine ok_bipush (v := (8 : Int32)) (q := 14) d_M_lives_12 (by decide) rfl ?_
    refine ok_iadd (q := 15) d_M_lives_14 rfl ?_
    refine ok_icmp_ge (q := 18) (t := 42) d_M_lives_15 (by decide) rfl (fun hc => ?_) (fun hc => ?_)
    · replace h := if_t hc h
      refine ok_iload_n (q := 43) 2 d_M_lives_42 rfl rfl rfl ?_
      obtain ⟨rfl, rfl⟩ := so_e h
      exact ok_iret d_M_lives_43 ⟨rfl, rfl⟩
    · replace h := if_f hc h
      refine ok_iload_n (q := 19) 2 d_M_lives_18 rfl rfl rfl ?_
      refine ok_aload_n (q := 20) 0 d_M_lives_19 rfl rfl rfl ?_
      refine gf_M_7 (q := 23) d_M_lives_20 rfl ?_
      refine ok_iload_n (q := 24) 3 d_M_lives_23 rfl rfl rfl ?_
      obtain ⟨hg, h⟩ := gd_e h
      obtain ⟨x1, e_x1, h⟩ := st_e h
      refine al_M_1 (q := 25) hg e_x1 d_M_lives_24 rfl ?_
      refine ok_iconst (v := (1 : Int32)) (q := 26) d_M_lives_25 (by decide) rfl ?_
      refine ok_icmp_ne (q := 29) (t := 33) d_M_lives_26 (by decide) rfl (fun hc => ?_) (fun hc => ?_)
      · replace h := if_f hc h
        refine ok_iconst (v := (0 : Int32)) (q := 34) d_M_lives_33 (by decide) rfl ?_
        refine ok_iadd (q := 35) d_M_lives_34 rfl ?_
        obtain ⟨x2, e_x2, h⟩ := st_e h
        refine ok_topi e_x2 ?_
        refine ok_istore_n (q := 36) (lv := [(2, .int x2), (0, .ref (r 0)), (1, .int p1), (3, .int p3)]) d_M_lives_35 rfl (by decide) rfl rfl ?_
        obtain ⟨x3, e_x3, h⟩ := st_e h
        refine ok_iinc (d := (1 : Int32)) (q := 39) (lv := [(3, .int x3), (2, .int x2), (0, .ref (r 0)), (1, .int p1)]) 3 d_M_lives_36 rfl (by decide) e_x3 (by decide) rfl rfl ?_
        refine ok_goto (q := 7) d_M_lives_39 (by decide) ?_
        exact ok_sub [2, 3, 1, 0] rfl (ih p1 x2 x3 _ _ _ h)
      · replace h := if_t hc h
        refine ok_iconst (v := (1 : Int32)) (q := 30) d_M_lives_29 (by decide) rfl ?_
        refine ok_goto (q := 34) d_M_lives_30 (by decide) ?_
        refine ok_iadd (q := 35) d_M_lives_34 rfl ?_
        obtain ⟨x4, e_x4, h⟩ := st_e h
        refine ok_topi e_x4 ?_
        refine ok_istore_n (q := 36) (lv := [(2, .int x4), (0, .ref (r 0)), (1, .int p1), (3, .int p3)]) d_M_lives_35 rfl (by decide) rfl rfl ?_
        obtain ⟨x5, e_x5, h⟩ := st_e h
        refine ok_iinc (d := (1 : Int32)) (q := 39) (lv := [(3, .int x5), (2, .int x4), (0, .ref (r 0)), (1, .int p1)]) 3 d_M_lives_36 rfl (by decide) e_x5 (by decide) rfl rfl ?_
        refine ok_goto (q := 7) d_M_lives_39 (by decide) ?_
        exact ok_sub [2, 3, 1, 0] rfl (ih p1 x4 x5 _ _ _ h)
set_option maxRecDepth 20000 in
set_option maxHeartbeats 4000000 in
theorem wk_M_lives (p1 : Int32) (S : TR) (z : Int32) (Sz : TR) (h : fn_M_lives S p1 = some (z, Sz)) : Ok (wR g r) D (tyR g) l rm_M_lives R_M b_M_lives 4 (some .int) S 0 [(0, .ref (r 0)), (1, .int p1)] [] (pI z Sz) := by
  unfold fn_M_lives at h
  refine ok_iconst (v := (0 : Int32)) (q := 1) d_M_lives_0 (by decide) rfl ?_
  refine ok_istore_n (q := 2) (lv := [(2, .int (0 : Int32)), (0, .ref (r 0)), (1, .int p1)]) d_M_lives_1 rfl (by decide) rfl rfl ?_
  refine ok_bipush (v := (8 : Int32)) (q := 4) d_M_lives_2 (by decide) rfl ?_
  refine ok_iload_n (q := 5) 2 d_M_lives_4 rfl rfl rfl ?_
  refine ok_imul (q := 6) d_M_lives_5 rfl ?_
  obtain ⟨x1, e_x1, h⟩ := st_e h
  refine ok_topi e_x1 ?_
  refine ok_istore_n (q := 7) (lv := [(3, .int x1), (2, .int (0 : Int32)), (0, .ref (r 0)), (1, .int p1)]) d_M_lives_6 rfl (by decide) rfl rfl ?_
  exact ok_sub [2, 3, 1, 0] rfl (wl_M_lives_7 64 p1 (0 : Int32) x1 _ _ _ h)
set_option maxRecDepth 20000 in
set_option maxHeartbeats 4000000 in
theorem ct_M_lives (p1 : Int32) (S : TR) (z : Int32) (Sz : TR) (h : fn_M_lives S p1 = some (z, Sz)) : Ct (wR g r) D (tyR g) l y_M_lives b_M_lives 4 (some .int) rm_M_lives [.ref (r 0), .int p1] S (pI z Sz) := ct_of (by decide) (Nat.le_of_ble_eq_true rfl) rfl (wk_M_lives p1 S z Sz h)
theorem cs_M_125 {l : Launch} {D : va_G} {g : Nat → ClassId} {r : Nat → Nat} {rm : Room} {b : ByteArray} {nL : Nat} {ret : Option FieldType} {pc q : Nat} {Lc : List (Nat × Value)} {St : List Value} {S S2 : TR} {Post : Option Value → TR → Prop} {p1 : Int32} {z : Int32} (hk : fn_M_lives S p1 = some (z, S2)) (hd : decode b pc = .ok (.invokevirtual 125, 3)) (hq : pc + 3 = q) (hrm : rm_M_lives.frames + 1 ≤ rm.frames ∧ 8 + (4 + 11) + rm_M_lives.locals ≤ rm.locals) (hroom : (St.map fun v => v.category).sum ≤ 8) (k : Ok (wR g r) D (tyR g) l rm R_M b nL ret S2 q Lc (.int z :: St) Post) : Ok (wR g r) D (tyR g) l rm R_M b nL ret S pc Lc (.int p1 :: .ref (r 0) :: St) Post := by
  subst hq
  exact ok_cV (As := [.int p1]) (n := 1) (C := R_M) (T := F_M) (N := 27) (ci := 2) (q0 := 0) (ct_M_lives p1 S z S2 hk) hd wm_145 ⟨wm_146, wm_147, wm_148, wm_112⟩ (by decide +kernel) ⟨⟨rfl, rfl⟩, hrm⟩ rfl rfl rfl rfl hroom ⟨Nat.zero_le _, Nat.zero_le _⟩ (fun v u h => by obtain ⟨rfl, rfl⟩ := h; exact k)
set_option maxRecDepth 20000 in
set_option maxHeartbeats 4000000 in
theorem wl_M_nextPage_48 (n : Nat) : ∀ (p1 : Int32) (S : TR) (z : Int32) (Sz : TR), lp_M_nextPage_48 n S p1 = some (z, Sz) → Ok (wR g r) D (tyR g) l rm_M_nextPage R_M b_M_nextPage 3 (some .int) S 48 [(0, .ref (r 0)), (1, .int p1)] [] (pI z Sz) := by
  induction n with
  | zero => intro p1 S z Sz h; exact absurd h (fun h => by cases h)
  | succ n ih =>
    intro p1 S z Sz h
    rw [le_M_nextPage_48] at h
    refine ok_iload_n (q := 49) 1 d_M_nextPage_48 rfl rfl rfl ?_
    refine ok_bipush (v := (6 : Int32)) (q := 51) d_M_nextPage_49 (by decide) rfl ?_
    refine ok_icmp_ge (q := 54) (t := 82) d_M_nextPage_51 (by decide) rfl (fun hc => ?_) (fun hc => ?_)
    · replace h := if_t hc h
      refine ok_iconst (v := (-1 : Int32)) (q := 83) d_M_nextPage_82 (by decide) rfl ?_
      obtain ⟨rfl, rfl⟩ := so_e h
      exact ok_iret d_M_nextPage_83 ⟨rfl, rfl⟩
    · replace h := if_f hc h
      refine ok_aload_n (q := 55) 0 d_M_nextPage_54 rfl rfl rfl ?_
      refine gf_M_44 (q := 58) d_M_nextPage_55 rfl ?_
      refine ok_iload_n (q := 59) 1 d_M_nextPage_58 rfl rfl rfl ?_
      obtain ⟨hg, h⟩ := gd_e h
      obtain ⟨x1, e_x1, h⟩ := st_e h
      refine al_M_12 (q := 60) hg e_x1 d_M_nextPage_59 rfl ?_
      refine ok_if_ne (q := 63) (t := 76) d_M_nextPage_60 (by decide) rfl (fun hc => ?_) (fun hc => ?_)
      · replace h := if_f hc h
        obtain ⟨x2, e_x2, h⟩ := st_e h
        refine ok_iinc (d := (1 : Int32)) (q := 79) (lv := [(1, .int x2), (0, .ref (r 0))]) 1 d_M_nextPage_76 rfl (by decide) e_x2 (by decide) rfl rfl ?_
        refine ok_goto (q := 48) d_M_nextPage_79 (by decide) ?_
        exact ok_sub [1, 0] rfl (ih x2 _ _ _ h)
      · replace h := if_t hc h
        refine ok_aload_n (q := 64) 0 d_M_nextPage_63 rfl rfl rfl ?_
        refine ok_iload_n (q := 65) 1 d_M_nextPage_64 rfl rfl rfl ?_
        obtain ⟨x5, S3, hk, h⟩ := bd_e h
        refine cs_M_67 (q := 68) hk d_M_nextPage_65 rfl (by decide) (Nat.le_of_ble_eq_true rfl) ?_
        refine ok_if_ne (q := 71) (t := 76) d_M_nextPage_68 (by decide) rfl (fun hc => ?_) (fun hc => ?_)
        · replace h := if_f hc h
          obtain ⟨x6, e_x6, h⟩ := st_e h
          refine ok_iinc (d := (1 : Int32)) (q := 79) (lv := [(1, .int x6), (0, .ref (r 0))]) 1 d_M_nextPage_76 rfl (by decide) e_x6 (by decide) rfl rfl ?_
          refine ok_goto (q := 48) d_M_nextPage_79 (by decide) ?_
          exact ok_sub [1, 0] rfl (ih x6 _ _ _ h)
        · replace h := if_t hc h
          refine ok_bipush (v := (8 : Int32)) (q := 73) d_M_nextPage_71 (by decide) rfl ?_
          refine ok_iload_n (q := 74) 1 d_M_nextPage_73 rfl rfl rfl ?_
          refine ok_imul (q := 75) d_M_nextPage_74 rfl ?_
          obtain ⟨rfl, rfl⟩ := so_e h
          exact ok_iret d_M_nextPage_75 ⟨rfl, rfl⟩
set_option maxRecDepth 20000 in
set_option maxHeartbeats 4000000 in
theorem wl_M_nextPage_2 (n : Nat) : ∀ (p1 : Int32) (S : TR) (z : Int32) (Sz : TR), lp_M_nextPage_2 n S p1 = some (z, Sz) → Ok (wR g r) D (tyR g) l rm_M_nextPage R_M b_M_nextPage 3 (some .int) S 2 [(0, .ref (r 0)), (1, .int p1)] [] (pI z Sz) := by
  induction n with
  | zero => intro p1 S z Sz h; exact absurd h (fun h => by cases h)
  | succ n ih =>
    intro p1 S z Sz h
    rw [le_M_nextPage_2] at h
    refine ok_iload_n (q := 3) 1 d_M_nextPage_2 rfl rfl rfl ?_
    refine ok_bipush (v := (6 : Int32)) (q := 5) d_M_nextPage_3 (by decide) rfl ?_
    refine ok_icmp_ge (q := 8) (t := 46) d_M_nextPage_5 (by decide) rfl (fun hc => ?_) (fun hc => ?_)
    · replace h := if_t hc h
      refine ok_iconst (v := (0 : Int32)) (q := 47) d_M_nextPage_46 (by decide) rfl ?_
      refine ok_istore_n (q := 48) (lv := [(1, .int (0 : Int32)), (0, .ref (r 0))]) d_M_nextPage_47 rfl (by decide) rfl rfl ?_
      exact ok_sub [1, 0] rfl (wl_M_nextPage_48 64 (0 : Int32) _ _ _ h)
    · replace h := if_f hc h
      refine ok_aload_n (q := 9) 0 d_M_nextPage_8 rfl rfl rfl ?_
      refine ok_iload_n (q := 10) 1 d_M_nextPage_9 rfl rfl rfl ?_
      obtain ⟨x3, S1, hk, h⟩ := bd_e h
      refine cs_M_67 (q := 13) hk d_M_nextPage_10 rfl (by decide) (Nat.le_of_ble_eq_true rfl) ?_
      refine ok_istore_n (q := 14) (lv := [(2, .int x3), (0, .ref (r 0)), (1, .int p1)]) d_M_nextPage_13 rfl (by decide) rfl rfl ?_
      refine ok_aload_n (q := 15) 1 d_M_nextPage_14 rfl rfl rfl ?_
      refine gf_M_44 (q := 18) d_M_nextPage_15 rfl ?_
      refine ok_iload_n (q := 19) 2 d_M_nextPage_18 rfl rfl rfl ?_
      obtain ⟨hg, h⟩ := gd_e h
      obtain ⟨x4, e_x4, h⟩ := st_e h
      refine al_M_12 (q := 20) hg e_x4 d_M_nextPage_19 rfl ?_
      refine ok_if_ne (q := 23) (t := 40) d_M_nextPage_20 (by decide) rfl (fun hc => ?_) (fun hc => ?_)
      · replace h := if_f hc h
        obtain ⟨x5, e_x5, h⟩ := st_e h
        refine ok_iinc (d := (1 : Int32)) (q := 43) (lv := [(1, .int x5), (2, .int x3), (0, .ref (r 0))]) 2 d_M_nextPage_40 rfl (by decide) e_x5 (by decide) rfl rfl ?_
        refine ok_goto (q := 2) d_M_nextPage_43 (by decide) ?_
        exact ok_sub [2, 0] rfl (ih x5 _ _ _ h)
      · replace h := if_t hc h
        refine ok_iload_n (q := 24) 0 d_M_nextPage_23 rfl rfl rfl ?_
        refine ok_if_le (q := 27) (t := 40) d_M_nextPage_24 (by decide) rfl (fun hc => ?_) (fun hc => ?_)
        · replace h := if_t hc h
          obtain ⟨x6, e_x6, h⟩ := st_e h
          refine ok_iinc (d := (1 : Int32)) (q := 43) (lv := [(1, .int x6), (2, .int x3), (0, .ref (r 0))]) 2 d_M_nextPage_40 rfl (by decide) e_x6 (by decide) rfl rfl ?_
          refine ok_goto (q := 2) d_M_nextPage_43 (by decide) ?_
          exact ok_sub [2, 0] rfl (ih x6 _ _ _ h)
        · replace h := if_f hc h
          refine ok_iload_n (q := 28) 0 d_M_nextPage_27 rfl rfl rfl ?_
          refine ok_bipush (v := (8 : Int32)) (q := 30) d_M_nextPage_28 (by decide) rfl ?_
          refine ok_icmp_ge (q := 33) (t := 40) d_M_nextPage_30 (by decide) rfl (fun hc => ?_) (fun hc => ?_)
          · replace h := if_t hc h
            obtain ⟨x7, e_x7, h⟩ := st_e h
            refine ok_iinc (d := (1 : Int32)) (q := 43) (lv := [(1, .int x7), (2, .int x3), (0, .ref (r 0))]) 2 d_M_nextPage_40 rfl (by decide) e_x7 (by decide) rfl rfl ?_
            refine ok_goto (q := 2) d_M_nextPage_43 (by decide) ?_
            exact ok_sub [2, 0] rfl (ih x7 _ _ _ h)
          · replace h := if_f hc h
            refine ok_bipush (v := (8 : Int32)) (q := 35) d_M_nextPage_33 (by decide) rfl ?_
            refine ok_iload_n (q := 36) 2 d_M_nextPage_35 rfl rfl rfl ?_
            refine ok_imul (q := 37) d_M_nextPage_36 rfl ?_
            refine ok_iload_n (q := 38) 0 d_M_nextPage_37 rfl rfl rfl ?_
            refine ok_iadd (q := 39) d_M_nextPage_38 rfl ?_
            obtain ⟨rfl, rfl⟩ := so_e h
            exact ok_iret d_M_nextPage_39 ⟨rfl, rfl⟩
set_option maxRecDepth 20000 in
set_option maxHeartbeats 4000000 in
theorem wk_M_nextPage (S : TR) (z : Int32) (Sz : TR) (h : fn_M_nextPage S = some (z, Sz)) : Ok (wR g r) D (tyR g) l rm_M_nextPage R_M b_M_nextPage 3 (some .int) S 0 [(0, .ref (r 0))] [] (pI z Sz) := by
  unfold fn_M_nextPage at h
  refine ok_iconst (v := (0 : Int32)) (q := 1) d_M_nextPage_0 (by decide) rfl ?_
  refine ok_istore_n (q := 2) (lv := [(1, .int (0 : Int32)), (0, .ref (r 0))]) d_M_nextPage_1 rfl (by decide) rfl rfl ?_
  exact ok_sub [1, 0] rfl (wl_M_nextPage_2 64 (0 : Int32) _ _ _ h)
set_option maxRecDepth 20000 in
set_option maxHeartbeats 4000000 in
theorem ct_M_nextPage (S : TR) (z : Int32) (Sz : TR) (h : fn_M_nextPage S = some (z, Sz)) : Ct (wR g r) D (tyR g) l y_M_nextPage b_M_nextPage 3 (some .int) rm_M_nextPage [.ref (r 0)] S (pI z Sz) := ct_of (by decide) (Nat.le_of_ble_eq_true rfl) rfl (wk_M_nextPage S z Sz h)
theorem cs_M_85 {l : Launch} {D : va_G} {g : Nat → ClassId} {r : Nat → Nat} {rm : Room} {b : ByteArray} {nL : Nat} {ret : Option FieldType} {pc q : Nat} {Lc : List (Nat × Value)} {St : List Value} {S S2 : TR} {Post : Option Value → TR → Prop} {z : Int32} (hk : fn_M_nextPage S = some (z, S2)) (hd : decode b pc = .ok (.invokevirtual 85, 3)) (hq : pc + 3 = q) (hrm : rm_M_nextPage.frames + 1 ≤ rm.frames ∧ 8 + (3 + 11) + rm_M_nextPage.locals ≤ rm.locals) (hroom : (St.map fun v => v.category).sum ≤ 8) (k : Ok (wR g r) D (tyR g) l rm R_M b nL ret S2 q Lc (.int z :: St) Post) : Ok (wR g r) D (tyR g) l rm R_M b nL ret S pc Lc (.ref (r 0) :: St) Post := by
  subst hq
  exact ok_cV (As := []) (n := 0) (C := R_M) (T := F_M) (N := 27) (ci := 2) (q0 := 0) (ct_M_nextPage S z S2 hk) hd wm_121 ⟨wm_122, wm_123, wm_124, wm_112⟩ (by decide +kernel) ⟨⟨rfl, rfl⟩, hrm⟩ rfl rfl rfl rfl hroom ⟨Nat.zero_le _, Nat.zero_le _⟩ (fun v u h => by obtain ⟨rfl, rfl⟩ := h; exact k)
set_option maxRecDepth 20000 in
set_option maxHeartbeats 4000000 in
theorem wl_M_page_2 (n : Nat) : ∀ (p1 : Int32) (p2 : Int32) (p3 : Int32) (S : TR) (z : Int32) (Sz : TR), lp_M_page_2 n S p1 p2 p3 = some (z, Sz) → Ok (wR g r) D (tyR g) l rm_M_page R_M b_M_page 4 (some .int) S 2 [(0, .ref (r 0)), (1, .int p1), (2, .int p2), (3, .int p3)] [] (pI z Sz) := by
  induction n with
  | zero => intro p1 p2 p3 S z Sz h; exact absurd h (fun h => by cases h)
  | succ n ih =>
    intro p1 p2 p3 S z Sz h
    rw [le_M_page_2] at h
    refine ok_iload_n (q := 3) 3 d_M_page_2 rfl rfl rfl ?_
    refine ok_bipush (v := (48 : Int32)) (q := 5) d_M_page_3 (by decide) rfl ?_
    refine ok_icmp_ge (q := 8) (t := 46) d_M_page_5 (by decide) rfl (fun hc => ?_) (fun hc => ?_)
    · replace h := if_t hc h
      refine ok_iconst (v := (-1 : Int32)) (q := 47) d_M_page_46 (by decide) rfl ?_
      obtain ⟨rfl, rfl⟩ := so_e h
      exact ok_iret d_M_page_47 ⟨rfl, rfl⟩
    · replace h := if_f hc h
      refine ok_aload_n (q := 9) 0 d_M_page_8 rfl rfl rfl ?_
      refine gf_M_7 (q := 12) d_M_page_9 rfl ?_
      refine ok_iload_n (q := 13) 3 d_M_page_12 rfl rfl rfl ?_
      obtain ⟨hg, h⟩ := gd_e h
      obtain ⟨x1, e_x1, h⟩ := st_e h
      refine al_M_1 (q := 14) hg e_x1 d_M_page_13 rfl ?_
      refine ok_iconst (v := (1 : Int32)) (q := 15) d_M_page_14 (by decide) rfl ?_
      refine ok_icmp_ne (q := 18) (t := 40) d_M_page_15 (by decide) rfl (fun hc => ?_) (fun hc => ?_)
      · replace h := if_f hc h
        obtain ⟨x2, e_x2, h⟩ := st_e h
        refine ok_iinc (d := (1 : Int32)) (q := 43) (lv := [(3, .int x2), (0, .ref (r 0)), (1, .int p1), (2, .int p2)]) 3 d_M_page_40 rfl (by decide) e_x2 (by decide) rfl rfl ?_
        refine ok_goto (q := 2) d_M_page_43 (by decide) ?_
        exact ok_sub [1, 2, 3, 0] rfl (ih p1 p2 x2 _ _ _ h)
      · replace h := if_t hc h
        refine ok_aload_n (q := 19) 0 d_M_page_18 rfl rfl rfl ?_
        refine gf_M_13 (q := 22) d_M_page_19 rfl ?_
        refine ok_iload_n (q := 23) 3 d_M_page_22 rfl rfl rfl ?_
        obtain ⟨hg, h⟩ := gd_e h
        obtain ⟨x3, e_x3, h⟩ := st_e h
        refine al_M_2 (q := 24) hg e_x3 d_M_page_23 rfl ?_
        refine ok_iload_n (q := 25) 1 d_M_page_24 rfl rfl rfl ?_
        refine ok_icmp_ne (q := 28) (t := 40) d_M_page_25 (by decide) rfl (fun hc => ?_) (fun hc => ?_)
        · replace h := if_f hc h
          obtain ⟨x4, e_x4, h⟩ := st_e h
          refine ok_iinc (d := (1 : Int32)) (q := 43) (lv := [(3, .int x4), (0, .ref (r 0)), (1, .int p1), (2, .int p2)]) 3 d_M_page_40 rfl (by decide) e_x4 (by decide) rfl rfl ?_
          refine ok_goto (q := 2) d_M_page_43 (by decide) ?_
          exact ok_sub [1, 2, 3, 0] rfl (ih p1 p2 x4 _ _ _ h)
        · replace h := if_t hc h
          refine ok_aload_n (q := 29) 0 d_M_page_28 rfl rfl rfl ?_
          refine gf_M_16 (q := 32) d_M_page_29 rfl ?_
          refine ok_iload_n (q := 33) 3 d_M_page_32 rfl rfl rfl ?_
          obtain ⟨hg, h⟩ := gd_e h
          obtain ⟨x5, e_x5, h⟩ := st_e h
          refine al_M_3 (q := 34) hg e_x5 d_M_page_33 rfl ?_
          refine ok_iload_n (q := 35) 2 d_M_page_34 rfl rfl rfl ?_
          refine ok_icmp_ne (q := 38) (t := 40) d_M_page_35 (by decide) rfl (fun hc => ?_) (fun hc => ?_)
          · replace h := if_f hc h
            obtain ⟨x6, e_x6, h⟩ := st_e h
            refine ok_iinc (d := (1 : Int32)) (q := 43) (lv := [(3, .int x6), (0, .ref (r 0)), (1, .int p1), (2, .int p2)]) 3 d_M_page_40 rfl (by decide) e_x6 (by decide) rfl rfl ?_
            refine ok_goto (q := 2) d_M_page_43 (by decide) ?_
            exact ok_sub [1, 2, 3, 0] rfl (ih p1 p2 x6 _ _ _ h)
          · replace h := if_t hc h
            refine ok_iload_n (q := 39) 3 d_M_page_38 rfl rfl rfl ?_
            obtain ⟨rfl, rfl⟩ := so_e h
            exact ok_iret d_M_page_39 ⟨rfl, rfl⟩
set_option maxRecDepth 20000 in
set_option maxHeartbeats 4000000 in
theorem wk_M_page (p1 : Int32) (p2 : Int32) (S : TR) (z : Int32) (Sz : TR) (h : fn_M_page S p1 p2 = some (z, Sz)) : Ok (wR g r) D (tyR g) l rm_M_page R_M b_M_page 4 (some .int) S 0 [(0, .ref (r 0)), (1, .int p1), (2, .int p2)] [] (pI z Sz) := by
  unfold fn_M_page at h
  refine ok_iconst (v := (0 : Int32)) (q := 1) d_M_page_0 (by decide) rfl ?_
  refine ok_istore_n (q := 2) (lv := [(3, .int (0 : Int32)), (0, .ref (r 0)), (1, .int p1), (2, .int p2)]) d_M_page_1 rfl (by decide) rfl rfl ?_
  exact ok_sub [1, 2, 3, 0] rfl (wl_M_page_2 64 p1 p2 (0 : Int32) _ _ _ h)
set_option maxRecDepth 20000 in
set_option maxHeartbeats 4000000 in
theorem ct_M_page (p1 : Int32) (p2 : Int32) (S : TR) (z : Int32) (Sz : TR) (h : fn_M_page S p1 p2 = some (z, Sz)) : Ct (wR g r) D (tyR g) l y_M_page b_M_page 4 (some .int) rm_M_page [.ref (r 0), .int p1, .int p2] S (pI z Sz) := ct_of (by decide) (Nat.le_of_ble_eq_true rfl) rfl (wk_M_page p1 p2 S z Sz h)
theorem cs_M_81 {l : Launch} {D : va_G} {g : Nat → ClassId} {r : Nat → Nat} {rm : Room} {b : ByteArray} {nL : Nat} {ret : Option FieldType} {pc q : Nat} {Lc : List (Nat × Value)} {St : List Value} {S S2 : TR} {Post : Option Value → TR → Prop} {p1 : Int32} {p2 : Int32} {z : Int32} (hk : fn_M_page S p1 p2 = some (z, S2)) (hd : decode b pc = .ok (.invokevirtual 81, 3)) (hq : pc + 3 = q) (hrm : rm_M_page.frames + 1 ≤ rm.frames ∧ 8 + (4 + 11) + rm_M_page.locals ≤ rm.locals) (hroom : (St.map fun v => v.category).sum ≤ 8) (k : Ok (wR g r) D (tyR g) l rm R_M b nL ret S2 q Lc (.int z :: St) Post) : Ok (wR g r) D (tyR g) l rm R_M b nL ret S pc Lc (.int p2 :: .int p1 :: .ref (r 0) :: St) Post := by
  subst hq
  exact ok_cV (As := [.int p1, .int p2]) (n := 2) (C := R_M) (T := F_M) (N := 27) (ci := 2) (q0 := 0) (ct_M_page p1 p2 S z S2 hk) hd wm_117 ⟨wm_118, wm_119, wm_120, wm_112⟩ (by decide +kernel) ⟨⟨rfl, rfl⟩, hrm⟩ rfl rfl rfl rfl hroom ⟨Nat.zero_le _, Nat.zero_le _⟩ (fun v u h => by obtain ⟨rfl, rfl⟩ := h; exact k)
set_option maxRecDepth 20000 in
set_option maxHeartbeats 4000000 in
theorem wk_M_mark (p1 : Int32) (S : TR) (z : Int32) (Sz : TR) (h : fn_M_mark S p1 = some (z, Sz)) : Ok (wR g r) D (tyR g) l rm_M_mark R_M b_M_mark 2 (some .boolean) S 0 [(0, .ref (r 0)), (1, .int p1)] [] (pI z Sz) := by
  unfold fn_M_mark at h
  refine ok_aload_n (q := 1) 0 d_M_mark_0 rfl rfl rfl ?_
  obtain ⟨x3, S1, hk, h⟩ := bd_e h
  refine cs_M_71 (q := 4) hk d_M_mark_1 rfl (by decide) (Nat.le_of_ble_eq_true rfl) ?_
  refine ok_if_ne (q := 7) (t := 9) d_M_mark_4 (by decide) rfl (fun hc => ?_) (fun hc => ?_)
  · replace h := if_f hc h
    refine ok_aload_n (q := 10) 0 d_M_mark_9 rfl rfl rfl ?_
    refine gf_M_7 (q := 13) d_M_mark_10 rfl ?_
    refine ok_iload_n (q := 14) 1 d_M_mark_13 rfl rfl rfl ?_
    refine ok_iconst (v := (2 : Int32)) (q := 15) d_M_mark_14 (by decide) rfl ?_
    obtain ⟨hi, h⟩ := gd_e h
    obtain ⟨S4, e_S4, h⟩ := st_e h
    refine as_M_1 (q := 16) hi e_S4 d_M_mark_15 rfl ?_
    refine ok_aload_n (q := 17) 0 d_M_mark_16 rfl rfl rfl ?_
    refine gf_M_50 (q := 20) d_M_mark_17 rfl ?_
    refine ok_iload_n (q := 21) 1 d_M_mark_20 rfl rfl rfl ?_
    refine ok_bipush (v := (8 : Int32)) (q := 23) d_M_mark_21 (by decide) rfl ?_
    refine ok_idiv (q := 24) d_M_mark_23 (by decide) rfl ?_
    refine ok_iconst (v := (1 : Int32)) (q := 25) d_M_mark_24 (by decide) rfl ?_
    obtain ⟨hi, h⟩ := gd_e h
    obtain ⟨S5, e_S5, h⟩ := st_e h
    refine as_M_14 (q := 26) hi e_S5 (by decide) d_M_mark_25 rfl ?_
    refine ok_iconst (v := (1 : Int32)) (q := 27) d_M_mark_26 (by decide) rfl ?_
    obtain ⟨rfl, rfl⟩ := so_e h
    exact ok_zret d_M_mark_27 (by decide) ⟨rfl, rfl⟩
  · replace h := if_t hc h
    refine ok_iconst (v := (0 : Int32)) (q := 8) d_M_mark_7 (by decide) rfl ?_
    obtain ⟨rfl, rfl⟩ := so_e h
    exact ok_zret d_M_mark_8 (by decide) ⟨rfl, rfl⟩
set_option maxRecDepth 20000 in
set_option maxHeartbeats 4000000 in
theorem ct_M_mark (p1 : Int32) (S : TR) (z : Int32) (Sz : TR) (h : fn_M_mark S p1 = some (z, Sz)) : Ct (wR g r) D (tyR g) l y_M_mark b_M_mark 2 (some .boolean) rm_M_mark [.ref (r 0), .int p1] S (pI z Sz) := ct_of (by decide) (Nat.le_of_ble_eq_true rfl) rfl (wk_M_mark p1 S z Sz h)
theorem cs_M_107 {l : Launch} {D : va_G} {g : Nat → ClassId} {r : Nat → Nat} {rm : Room} {b : ByteArray} {nL : Nat} {ret : Option FieldType} {pc q : Nat} {Lc : List (Nat × Value)} {St : List Value} {S S2 : TR} {Post : Option Value → TR → Prop} {p1 : Int32} {z : Int32} (hk : fn_M_mark S p1 = some (z, S2)) (hd : decode b pc = .ok (.invokevirtual 107, 3)) (hq : pc + 3 = q) (hrm : rm_M_mark.frames + 1 ≤ rm.frames ∧ 8 + (2 + 11) + rm_M_mark.locals ≤ rm.locals) (hroom : (St.map fun v => v.category).sum ≤ 8) (k : Ok (wR g r) D (tyR g) l rm R_M b nL ret S2 q Lc (.int z :: St) Post) : Ok (wR g r) D (tyR g) l rm R_M b nL ret S pc Lc (.int p1 :: .ref (r 0) :: St) Post := by
  subst hq
  exact ok_cV (As := [.int p1]) (n := 1) (C := R_M) (T := F_M) (N := 27) (ci := 2) (q0 := 0) (ct_M_mark p1 S z S2 hk) hd wm_125 ⟨wm_126, wm_127, wm_128, wm_112⟩ (by decide +kernel) ⟨⟨rfl, rfl⟩, hrm⟩ rfl rfl rfl rfl hroom ⟨Nat.zero_le _, Nat.zero_le _⟩ (fun v u h => by obtain ⟨rfl, rfl⟩ := h; exact k)
set_option maxRecDepth 20000 in
set_option maxHeartbeats 4000000 in
theorem wk_M_put (S : TR) (z : Int32) (Sz : TR) (h : fn_M_put S = some (z, Sz)) : Ok (wR g r) D (tyR g) l rm_M_put R_M b_M_put 3 (some .boolean) S 0 [(0, .ref (r 0))] [] (pI z Sz) := by
  unfold fn_M_put at h
  refine ok_aload_n (q := 1) 0 d_M_put_0 rfl rfl rfl ?_
  refine ok_aload_n (q := 2) 0 d_M_put_1 rfl rfl rfl ?_
  obtain ⟨x1, e_x1, h⟩ := st_e h
  refine gf_M_75 (q := 5) e_x1 d_M_put_2 rfl ?_
  refine ok_aload_n (q := 6) 0 d_M_put_5 rfl rfl rfl ?_
  obtain ⟨x2, e_x2, h⟩ := st_e h
  refine gf_M_78 (q := 9) e_x2 d_M_put_6 rfl ?_
  obtain ⟨x5, S3, hk, h⟩ := bd_e h
  refine cs_M_81 (q := 12) hk d_M_put_9 rfl (by decide) (Nat.le_of_ble_eq_true rfl) ?_
  refine ok_istore_n (q := 13) (lv := [(1, .int x5), (0, .ref (r 0))]) d_M_put_12 rfl (by decide) rfl rfl ?_
  refine ok_aload_n (q := 14) 1 d_M_put_13 rfl rfl rfl ?_
  obtain ⟨x8, S6, hk, h⟩ := bd_e h
  refine cs_M_85 (q := 17) hk d_M_put_14 rfl (by decide) (Nat.le_of_ble_eq_true rfl) ?_
  refine ok_istore_n (q := 18) (lv := [(2, .int x8), (1, .int x5), (0, .ref (r 0))]) d_M_put_17 rfl (by decide) rfl rfl ?_
  refine ok_iload_n (q := 19) 0 d_M_put_18 rfl rfl rfl ?_
  refine ok_if_lt (q := 22) (t := 29) d_M_put_19 (by decide) rfl (fun hc => ?_) (fun hc => ?_)
  · replace h := if_t hc h
    refine ok_iconst (v := (0 : Int32)) (q := 30) d_M_put_29 (by decide) rfl ?_
    obtain ⟨rfl, rfl⟩ := so_e h
    exact ok_zret d_M_put_30 (by decide) ⟨rfl, rfl⟩
  · replace h := if_f hc h
    refine ok_aload_n (q := 23) 2 d_M_put_22 rfl rfl rfl ?_
    obtain ⟨x11, S9, hk, h⟩ := bd_e h
    refine cs_M_71 (q := 26) hk d_M_put_23 rfl (by decide) (Nat.le_of_ble_eq_true rfl) ?_
    refine ok_if_ne (q := 29) (t := 31) d_M_put_26 (by decide) rfl (fun hc => ?_) (fun hc => ?_)
    · replace h := if_f hc h
      refine ok_aload_n (q := 32) 2 d_M_put_31 rfl rfl rfl ?_
      refine gf_M_7 (q := 35) d_M_put_32 rfl ?_
      refine ok_iload_n (q := 36) 0 d_M_put_35 rfl rfl rfl ?_
      refine ok_iconst (v := (1 : Int32)) (q := 37) d_M_put_36 (by decide) rfl ?_
      obtain ⟨hi, h⟩ := gd_e h
      obtain ⟨S12, e_S12, h⟩ := st_e h
      refine as_M_1 (q := 38) hi e_S12 d_M_put_37 rfl ?_
      refine ok_aload_n (q := 39) 2 d_M_put_38 rfl rfl rfl ?_
      refine gf_M_13 (q := 42) d_M_put_39 rfl ?_
      refine ok_iload_n (q := 43) 0 d_M_put_42 rfl rfl rfl ?_
      refine ok_aload_n (q := 44) 2 d_M_put_43 rfl rfl rfl ?_
      obtain ⟨x13, e_x13, h⟩ := st_e h
      refine gf_M_75 (q := 47) e_x13 d_M_put_44 rfl ?_
      obtain ⟨hi, h⟩ := gd_e h
      obtain ⟨S14, e_S14, h⟩ := st_e h
      refine as_M_2 (q := 48) hi e_S14 d_M_put_47 rfl ?_
      refine ok_aload_n (q := 49) 2 d_M_put_48 rfl rfl rfl ?_
      refine gf_M_16 (q := 52) d_M_put_49 rfl ?_
      refine ok_iload_n (q := 53) 0 d_M_put_52 rfl rfl rfl ?_
      refine ok_aload_n (q := 54) 2 d_M_put_53 rfl rfl rfl ?_
      obtain ⟨x15, e_x15, h⟩ := st_e h
      refine gf_M_78 (q := 57) e_x15 d_M_put_54 rfl ?_
      obtain ⟨hi, h⟩ := gd_e h
      obtain ⟨S16, e_S16, h⟩ := st_e h
      refine as_M_3 (q := 58) hi e_S16 d_M_put_57 rfl ?_
      refine ok_aload_n (q := 59) 2 d_M_put_58 rfl rfl rfl ?_
      refine gf_M_19 (q := 62) d_M_put_59 rfl ?_
      refine ok_iload_n (q := 63) 0 d_M_put_62 rfl rfl rfl ?_
      refine ok_iload_n (q := 64) 1 d_M_put_63 rfl rfl rfl ?_
      refine ok_if_ge (q := 67) (t := 71) d_M_put_64 (by decide) rfl (fun hc => ?_) (fun hc => ?_)
      · replace h := if_t hc h
        refine ok_aload_n (q := 72) 2 d_M_put_71 rfl rfl rfl ?_
        refine gf_M_19 (q := 75) d_M_put_72 rfl ?_
        refine ok_iload_n (q := 76) 1 d_M_put_75 rfl rfl rfl ?_
        obtain ⟨hg, h⟩ := gd_e h
        obtain ⟨x17, e_x17, h⟩ := st_e h
        refine al_M_4 (q := 77) hg e_x17 d_M_put_76 rfl ?_
        refine ok_iconst (v := (1 : Int32)) (q := 78) d_M_put_77 (by decide) rfl ?_
        refine ok_iadd (q := 79) d_M_put_78 rfl ?_
        refine ok_iconst (v := (4 : Int32)) (q := 80) d_M_put_79 (by decide) rfl ?_
        refine ok_irem (q := 81) d_M_put_80 (by decide) rfl ?_
        obtain ⟨hi, h⟩ := gd_e h
        obtain ⟨S18, e_S18, h⟩ := st_e h
        refine as_M_4 (q := 82) hi e_S18 d_M_put_81 rfl ?_
        refine ok_aload_n (q := 83) 2 d_M_put_82 rfl rfl rfl ?_
        refine gf_M_22 (q := 86) d_M_put_83 rfl ?_
        refine ok_iload_n (q := 87) 0 d_M_put_86 rfl rfl rfl ?_
        refine ok_aload_n (q := 88) 2 d_M_put_87 rfl rfl rfl ?_
        obtain ⟨x19, e_x19, h⟩ := st_e h
        refine gf_M_89 (q := 91) e_x19 d_M_put_88 rfl ?_
        obtain ⟨hi, h⟩ := gd_e h
        obtain ⟨S20, e_S20, h⟩ := st_e h
        refine as_M_5 (q := 92) hi e_S20 d_M_put_91 rfl ?_
        refine ok_aload_n (q := 93) 2 d_M_put_92 rfl rfl rfl ?_
        refine gf_M_25 (q := 96) d_M_put_93 rfl ?_
        refine ok_iload_n (q := 97) 0 d_M_put_96 rfl rfl rfl ?_
        refine ok_aload_n (q := 98) 2 d_M_put_97 rfl rfl rfl ?_
        obtain ⟨x21, e_x21, h⟩ := st_e h
        refine gf_M_92 (q := 101) e_x21 d_M_put_98 rfl ?_
        obtain ⟨hi, h⟩ := gd_e h
        obtain ⟨S22, e_S22, h⟩ := st_e h
        refine as_M_6 (q := 102) hi e_S22 d_M_put_101 rfl ?_
        refine ok_aload_n (q := 103) 2 d_M_put_102 rfl rfl rfl ?_
        refine gf_M_28 (q := 106) d_M_put_103 rfl ?_
        refine ok_iload_n (q := 107) 0 d_M_put_106 rfl rfl rfl ?_
        refine ok_aload_n (q := 108) 2 d_M_put_107 rfl rfl rfl ?_
        obtain ⟨x23, e_x23, h⟩ := st_e h
        refine gf_M_95 (q := 111) e_x23 d_M_put_108 rfl ?_
        obtain ⟨hi, h⟩ := gd_e h
        obtain ⟨S24, e_S24, h⟩ := st_e h
        refine as_M_7 (q := 112) hi e_S24 d_M_put_111 rfl ?_
        refine ok_aload_n (q := 113) 2 d_M_put_112 rfl rfl rfl ?_
        refine gf_M_31 (q := 116) d_M_put_113 rfl ?_
        refine ok_iload_n (q := 117) 0 d_M_put_116 rfl rfl rfl ?_
        refine ok_aload_n (q := 118) 2 d_M_put_117 rfl rfl rfl ?_
        obtain ⟨x25, e_x25, h⟩ := st_e h
        refine gf_M_98 (q := 121) e_x25 d_M_put_118 rfl ?_
        obtain ⟨hi, h⟩ := gd_e h
        obtain ⟨hg, h⟩ := gd_e h
        obtain ⟨S26, e_S26, h⟩ := st_e h
        refine as_M_8 (q := 122) hi e_S26 hg d_M_put_121 rfl ?_
        refine ok_aload_n (q := 123) 2 d_M_put_122 rfl rfl rfl ?_
        refine gf_M_35 (q := 126) d_M_put_123 rfl ?_
        refine ok_iload_n (q := 127) 0 d_M_put_126 rfl rfl rfl ?_
        refine ok_aload_n (q := 128) 2 d_M_put_127 rfl rfl rfl ?_
        obtain ⟨x27, e_x27, h⟩ := st_e h
        refine gf_M_101 (q := 131) e_x27 d_M_put_128 rfl ?_
        obtain ⟨hi, h⟩ := gd_e h
        obtain ⟨S28, e_S28, h⟩ := st_e h
        refine as_M_9 (q := 132) hi e_S28 d_M_put_131 rfl ?_
        refine ok_aload_n (q := 133) 2 d_M_put_132 rfl rfl rfl ?_
        refine gf_M_38 (q := 136) d_M_put_133 rfl ?_
        refine ok_iload_n (q := 137) 0 d_M_put_136 rfl rfl rfl ?_
        refine ok_aload_n (q := 138) 2 d_M_put_137 rfl rfl rfl ?_
        obtain ⟨x29, e_x29, h⟩ := st_e h
        refine gf_M_104 (q := 141) e_x29 d_M_put_138 rfl ?_
        obtain ⟨hi, h⟩ := gd_e h
        obtain ⟨S30, e_S30, h⟩ := st_e h
        refine as_M_10 (q := 142) hi e_S30 d_M_put_141 rfl ?_
        refine ok_aload_n (q := 143) 2 d_M_put_142 rfl rfl rfl ?_
        refine gf_M_50 (q := 146) d_M_put_143 rfl ?_
        refine ok_iload_n (q := 147) 0 d_M_put_146 rfl rfl rfl ?_
        refine ok_bipush (v := (8 : Int32)) (q := 149) d_M_put_147 (by decide) rfl ?_
        refine ok_idiv (q := 150) d_M_put_149 (by decide) rfl ?_
        refine ok_iconst (v := (1 : Int32)) (q := 151) d_M_put_150 (by decide) rfl ?_
        obtain ⟨hi, h⟩ := gd_e h
        obtain ⟨S31, e_S31, h⟩ := st_e h
        refine as_M_14 (q := 152) hi e_S31 (by decide) d_M_put_151 rfl ?_
        refine ok_iload_n (q := 153) 1 d_M_put_152 rfl rfl rfl ?_
        refine ok_if_lt (q := 156) (t := 164) d_M_put_153 (by decide) rfl (fun hc => ?_) (fun hc => ?_)
        · replace h := if_t hc h
          refine ok_iconst (v := (1 : Int32)) (q := 165) d_M_put_164 (by decide) rfl ?_
          refine ok_goto (q := 169) d_M_put_165 (by decide) ?_
          obtain ⟨rfl, rfl⟩ := so_e h
          exact ok_zret d_M_put_169 (by decide) ⟨rfl, rfl⟩
        · replace h := if_f hc h
          refine ok_aload_n (q := 157) 2 d_M_put_156 rfl rfl rfl ?_
          refine ok_iload_n (q := 158) 1 d_M_put_157 rfl rfl rfl ?_
          obtain ⟨x34, S32, hk, h⟩ := bd_e h
          refine cs_M_107 (q := 161) hk d_M_put_158 rfl (by decide) (Nat.le_of_ble_eq_true rfl) ?_
          refine ok_if_eq (q := 164) (t := 168) d_M_put_161 (by decide) rfl (fun hc => ?_) (fun hc => ?_)
          · replace h := if_t hc h
            refine ok_iconst (v := (0 : Int32)) (q := 169) d_M_put_168 (by decide) rfl ?_
            obtain ⟨rfl, rfl⟩ := so_e h
            exact ok_zret d_M_put_169 (by decide) ⟨rfl, rfl⟩
          · replace h := if_f hc h
            refine ok_iconst (v := (1 : Int32)) (q := 165) d_M_put_164 (by decide) rfl ?_
            refine ok_goto (q := 169) d_M_put_165 (by decide) ?_
            obtain ⟨rfl, rfl⟩ := so_e h
            exact ok_zret d_M_put_169 (by decide) ⟨rfl, rfl⟩
      · replace h := if_f hc h
        refine ok_iconst (v := (0 : Int32)) (q := 68) d_M_put_67 (by decide) rfl ?_
        refine ok_goto (q := 81) d_M_put_68 (by decide) ?_
        obtain ⟨hi, h⟩ := gd_e h
        obtain ⟨S35, e_S35, h⟩ := st_e h
        refine as_M_4 (q := 82) hi e_S35 d_M_put_81 rfl ?_
        refine ok_aload_n (q := 83) 2 d_M_put_82 rfl rfl rfl ?_
        refine gf_M_22 (q := 86) d_M_put_83 rfl ?_
        refine ok_iload_n (q := 87) 0 d_M_put_86 rfl rfl rfl ?_
        refine ok_aload_n (q := 88) 2 d_M_put_87 rfl rfl rfl ?_
        obtain ⟨x36, e_x36, h⟩ := st_e h
        refine gf_M_89 (q := 91) e_x36 d_M_put_88 rfl ?_
        obtain ⟨hi, h⟩ := gd_e h
        obtain ⟨S37, e_S37, h⟩ := st_e h
        refine as_M_5 (q := 92) hi e_S37 d_M_put_91 rfl ?_
        refine ok_aload_n (q := 93) 2 d_M_put_92 rfl rfl rfl ?_
        refine gf_M_25 (q := 96) d_M_put_93 rfl ?_
        refine ok_iload_n (q := 97) 0 d_M_put_96 rfl rfl rfl ?_
        refine ok_aload_n (q := 98) 2 d_M_put_97 rfl rfl rfl ?_
        obtain ⟨x38, e_x38, h⟩ := st_e h
        refine gf_M_92 (q := 101) e_x38 d_M_put_98 rfl ?_
        obtain ⟨hi, h⟩ := gd_e h
        obtain ⟨S39, e_S39, h⟩ := st_e h
        refine as_M_6 (q := 102) hi e_S39 d_M_put_101 rfl ?_
        refine ok_aload_n (q := 103) 2 d_M_put_102 rfl rfl rfl ?_
        refine gf_M_28 (q := 106) d_M_put_103 rfl ?_
        refine ok_iload_n (q := 107) 0 d_M_put_106 rfl rfl rfl ?_
        refine ok_aload_n (q := 108) 2 d_M_put_107 rfl rfl rfl ?_
        obtain ⟨x40, e_x40, h⟩ := st_e h
        refine gf_M_95 (q := 111) e_x40 d_M_put_108 rfl ?_
        obtain ⟨hi, h⟩ := gd_e h
        obtain ⟨S41, e_S41, h⟩ := st_e h
        refine as_M_7 (q := 112) hi e_S41 d_M_put_111 rfl ?_
        refine ok_aload_n (q := 113) 2 d_M_put_112 rfl rfl rfl ?_
        refine gf_M_31 (q := 116) d_M_put_113 rfl ?_
        refine ok_iload_n (q := 117) 0 d_M_put_116 rfl rfl rfl ?_
        refine ok_aload_n (q := 118) 2 d_M_put_117 rfl rfl rfl ?_
        obtain ⟨x42, e_x42, h⟩ := st_e h
        refine gf_M_98 (q := 121) e_x42 d_M_put_118 rfl ?_
        obtain ⟨hi, h⟩ := gd_e h
        obtain ⟨hg, h⟩ := gd_e h
        obtain ⟨S43, e_S43, h⟩ := st_e h
        refine as_M_8 (q := 122) hi e_S43 hg d_M_put_121 rfl ?_
        refine ok_aload_n (q := 123) 2 d_M_put_122 rfl rfl rfl ?_
        refine gf_M_35 (q := 126) d_M_put_123 rfl ?_
        refine ok_iload_n (q := 127) 0 d_M_put_126 rfl rfl rfl ?_
        refine ok_aload_n (q := 128) 2 d_M_put_127 rfl rfl rfl ?_
        obtain ⟨x44, e_x44, h⟩ := st_e h
        refine gf_M_101 (q := 131) e_x44 d_M_put_128 rfl ?_
        obtain ⟨hi, h⟩ := gd_e h
        obtain ⟨S45, e_S45, h⟩ := st_e h
        refine as_M_9 (q := 132) hi e_S45 d_M_put_131 rfl ?_
        refine ok_aload_n (q := 133) 2 d_M_put_132 rfl rfl rfl ?_
        refine gf_M_38 (q := 136) d_M_put_133 rfl ?_
        refine ok_iload_n (q := 137) 0 d_M_put_136 rfl rfl rfl ?_
        refine ok_aload_n (q := 138) 2 d_M_put_137 rfl rfl rfl ?_
        obtain ⟨x46, e_x46, h⟩ := st_e h
        refine gf_M_104 (q := 141) e_x46 d_M_put_138 rfl ?_
        obtain ⟨hi, h⟩ := gd_e h
        obtain ⟨S47, e_S47, h⟩ := st_e h
        refine as_M_10 (q := 142) hi e_S47 d_M_put_141 rfl ?_
        refine ok_aload_n (q := 143) 2 d_M_put_142 rfl rfl rfl ?_
        refine gf_M_50 (q := 146) d_M_put_143 rfl ?_
        refine ok_iload_n (q := 147) 0 d_M_put_146 rfl rfl rfl ?_
        refine ok_bipush (v := (8 : Int32)) (q := 149) d_M_put_147 (by decide) rfl ?_
        refine ok_idiv (q := 150) d_M_put_149 (by decide) rfl ?_
        refine ok_iconst (v := (1 : Int32)) (q := 151) d_M_put_150 (by decide) rfl ?_
        obtain ⟨hi, h⟩ := gd_e h
        obtain ⟨S48, e_S48, h⟩ := st_e h
        refine as_M_14 (q := 152) hi e_S48 (by decide) d_M_put_151 rfl ?_
        refine ok_iload_n (q := 153) 1 d_M_put_152 rfl rfl rfl ?_
        refine ok_if_lt (q := 156) (t := 164) d_M_put_153 (by decide) rfl (fun hc => ?_) (fun hc => ?_)
        · replace h := if_t hc h
          refine ok_iconst (v := (1 : Int32)) (q := 165) d_M_put_164 (by decide) rfl ?_
          refine ok_goto (q := 169) d_M_put_165 (by decide) ?_
          obtain ⟨rfl, rfl⟩ := so_e h
          exact ok_zret d_M_put_169 (by decide) ⟨rfl, rfl⟩
        · replace h := if_f hc h
          refine ok_aload_n (q := 157) 2 d_M_put_156 rfl rfl rfl ?_
          refine ok_iload_n (q := 158) 1 d_M_put_157 rfl rfl rfl ?_
          obtain ⟨x51, S49, hk, h⟩ := bd_e h
          refine cs_M_107 (q := 161) hk d_M_put_158 rfl (by decide) (Nat.le_of_ble_eq_true rfl) ?_
          refine ok_if_eq (q := 164) (t := 168) d_M_put_161 (by decide) rfl (fun hc => ?_) (fun hc => ?_)
          · replace h := if_t hc h
            refine ok_iconst (v := (0 : Int32)) (q := 169) d_M_put_168 (by decide) rfl ?_
            obtain ⟨rfl, rfl⟩ := so_e h
            exact ok_zret d_M_put_169 (by decide) ⟨rfl, rfl⟩
          · replace h := if_f hc h
            refine ok_iconst (v := (1 : Int32)) (q := 165) d_M_put_164 (by decide) rfl ?_
            refine ok_goto (q := 169) d_M_put_165 (by decide) ?_
            obtain ⟨rfl, rfl⟩ := so_e h
            exact ok_zret d_M_put_169 (by decide) ⟨rfl, rfl⟩
    · replace h := if_t hc h
      refine ok_iconst (v := (0 : Int32)) (q := 30) d_M_put_29 (by decide) rfl ?_
      obtain ⟨rfl, rfl⟩ := so_e h
      exact ok_zret d_M_put_30 (by decide) ⟨rfl, rfl⟩
set_option maxRecDepth 20000 in
set_option maxHeartbeats 4000000 in
theorem ct_M_put (S : TR) (z : Int32) (Sz : TR) (h : fn_M_put S = some (z, Sz)) : Ct (wR g r) D (tyR g) l y_M_put b_M_put 3 (some .boolean) rm_M_put [.ref (r 0)] S (pI z Sz) := ct_of (by decide) (Nat.le_of_ble_eq_true rfl) rfl (wk_M_put S z Sz h)
theorem cs_M_119 {l : Launch} {D : va_G} {g : Nat → ClassId} {r : Nat → Nat} {rm : Room} {b : ByteArray} {nL : Nat} {ret : Option FieldType} {pc q : Nat} {Lc : List (Nat × Value)} {St : List Value} {S S2 : TR} {Post : Option Value → TR → Prop} {z : Int32} (hk : fn_M_put S = some (z, S2)) (hd : decode b pc = .ok (.invokevirtual 119, 3)) (hq : pc + 3 = q) (hrm : rm_M_put.frames + 1 ≤ rm.frames ∧ 8 + (3 + 11) + rm_M_put.locals ≤ rm.locals) (hroom : (St.map fun v => v.category).sum ≤ 8) (k : Ok (wR g r) D (tyR g) l rm R_M b nL ret S2 q Lc (.int z :: St) Post) : Ok (wR g r) D (tyR g) l rm R_M b nL ret S pc Lc (.ref (r 0) :: St) Post := by
  subst hq
  exact ok_cV (As := []) (n := 0) (C := R_M) (T := F_M) (N := 27) (ci := 2) (q0 := 0) (ct_M_put S z S2 hk) hd wm_137 ⟨wm_138, wm_139, wm_140, wm_112⟩ (by decide +kernel) ⟨⟨rfl, rfl⟩, hrm⟩ rfl rfl rfl rfl hroom ⟨Nat.zero_le _, Nat.zero_le _⟩ (fun v u h => by obtain ⟨rfl, rfl⟩ := h; exact k)
set_option maxRecDepth 20000 in
set_option maxHeartbeats 4000000 in
theorem wk_M_fresh (p1 : Int32) (p2 : Int32) (p3 : Int32) (S : TR) (z : Unit) (Sz : TR) (h : fn_M_fresh S p1 p2 p3 = some (z, Sz)) : Ok (wR g r) D (tyR g) l rm_M_fresh R_M b_M_fresh 4 none S 0 [(0, .ref (r 0)), (1, .int p1), (2, .int p2), (3, .int p3)] [] (pV z Sz) := by
  unfold fn_M_fresh at h
  refine ok_aload_n (q := 1) 0 d_M_fresh_0 rfl rfl rfl ?_
  refine ok_iload_n (q := 2) 1 d_M_fresh_1 rfl rfl rfl ?_
  obtain ⟨S1, e_S1, h⟩ := st_e h
  refine pf_M_75 (q := 5) e_S1 d_M_fresh_2 rfl ?_
  refine ok_aload_n (q := 6) 0 d_M_fresh_5 rfl rfl rfl ?_
  refine ok_iload_n (q := 7) 2 d_M_fresh_6 rfl rfl rfl ?_
  obtain ⟨S2, e_S2, h⟩ := st_e h
  refine pf_M_78 (q := 10) e_S2 d_M_fresh_7 rfl ?_
  refine ok_aload_n (q := 11) 0 d_M_fresh_10 rfl rfl rfl ?_
  refine ok_iload_n (q := 12) 3 d_M_fresh_11 rfl rfl rfl ?_
  obtain ⟨S3, e_S3, h⟩ := st_e h
  refine pf_M_89 (q := 15) e_S3 d_M_fresh_12 rfl ?_
  refine ok_aload_n (q := 16) 0 d_M_fresh_15 rfl rfl rfl ?_
  refine ok_iconst (v := (0 : Int32)) (q := 17) d_M_fresh_16 (by decide) rfl ?_
  obtain ⟨S4, e_S4, h⟩ := st_e h
  refine pf_M_92 (q := 20) e_S4 d_M_fresh_17 rfl ?_
  refine ok_aload_n (q := 21) 0 d_M_fresh_20 rfl rfl rfl ?_
  refine ok_iconst (v := (0 : Int32)) (q := 22) d_M_fresh_21 (by decide) rfl ?_
  obtain ⟨S5, e_S5, h⟩ := st_e h
  refine pf_M_95 (q := 25) e_S5 d_M_fresh_22 rfl ?_
  refine ok_aload_n (q := 26) 0 d_M_fresh_25 rfl rfl rfl ?_
  refine ok_iconst (v := (0 : Int32)) (q := 27) d_M_fresh_26 (by decide) rfl ?_
  obtain ⟨S6, e_S6, h⟩ := st_e h
  refine pf_M_98 (q := 30) e_S6 (by decide) d_M_fresh_27 rfl ?_
  refine ok_aload_n (q := 31) 0 d_M_fresh_30 rfl rfl rfl ?_
  refine ok_iconst (v := (-1 : Int32)) (q := 32) d_M_fresh_31 (by decide) rfl ?_
  obtain ⟨S7, e_S7, h⟩ := st_e h
  refine pf_M_101 (q := 35) e_S7 d_M_fresh_32 rfl ?_
  refine ok_aload_n (q := 36) 0 d_M_fresh_35 rfl rfl rfl ?_
  refine ok_iconst (v := (-1 : Int32)) (q := 37) d_M_fresh_36 (by decide) rfl ?_
  obtain ⟨S8, e_S8, h⟩ := st_e h
  refine pf_M_104 (q := 40) e_S8 d_M_fresh_37 rfl ?_
  obtain ⟨-, rfl⟩ := so_e h
  exact ok_vret d_M_fresh_40 ⟨rfl, rfl⟩
set_option maxRecDepth 20000 in
set_option maxHeartbeats 4000000 in
theorem ct_M_fresh (p1 : Int32) (p2 : Int32) (p3 : Int32) (S : TR) (z : Unit) (Sz : TR) (h : fn_M_fresh S p1 p2 p3 = some (z, Sz)) : Ct (wR g r) D (tyR g) l y_M_fresh b_M_fresh 4 none rm_M_fresh [.ref (r 0), .int p1, .int p2, .int p3] S (pV z Sz) := ct_of (by decide) (Nat.le_of_ble_eq_true rfl) rfl (wk_M_fresh p1 p2 p3 S z Sz h)
theorem cs_M_111 {l : Launch} {D : va_G} {g : Nat → ClassId} {r : Nat → Nat} {rm : Room} {b : ByteArray} {nL : Nat} {ret : Option FieldType} {pc q : Nat} {Lc : List (Nat × Value)} {St : List Value} {S S2 : TR} {Post : Option Value → TR → Prop} {p1 : Int32} {p2 : Int32} {p3 : Int32} {z : Unit} (hk : fn_M_fresh S p1 p2 p3 = some (z, S2)) (hd : decode b pc = .ok (.invokevirtual 111, 3)) (hq : pc + 3 = q) (hrm : rm_M_fresh.frames + 1 ≤ rm.frames ∧ 8 + (4 + 11) + rm_M_fresh.locals ≤ rm.locals) (hroom : (St.map fun v => v.category).sum ≤ 8) (k : Ok (wR g r) D (tyR g) l rm R_M b nL ret S2 q Lc (St) Post) : Ok (wR g r) D (tyR g) l rm R_M b nL ret S pc Lc (.int p3 :: .int p2 :: .int p1 :: .ref (r 0) :: St) Post := by
  subst hq
  exact ok_cV (As := [.int p1, .int p2, .int p3]) (n := 3) (C := R_M) (T := F_M) (N := 27) (ci := 2) (q0 := 0) (ct_M_fresh p1 p2 p3 S z S2 hk) hd wm_129 ⟨wm_130, wm_131, wm_132, wm_112⟩ (by decide +kernel) ⟨⟨rfl, rfl⟩, hrm⟩ rfl rfl rfl rfl hroom ⟨Nat.zero_le _, Nat.zero_le _⟩ (fun v u h => by obtain ⟨rfl, rfl⟩ := h; exact k)
set_option maxRecDepth 20000 in
set_option maxHeartbeats 4000000 in
theorem wk_M_like (p1 : Int32) (S : TR) (z : Unit) (Sz : TR) (h : fn_M_like S p1 = some (z, Sz)) : Ok (wR g r) D (tyR g) l rm_M_like R_M b_M_like 2 none S 0 [(0, .ref (r 0)), (1, .int p1)] [] (pV z Sz) := by
  unfold fn_M_like at h
  refine ok_aload_n (q := 1) 0 d_M_like_0 rfl rfl rfl ?_
  refine ok_aload_n (q := 2) 0 d_M_like_1 rfl rfl rfl ?_
  refine gf_M_13 (q := 5) d_M_like_2 rfl ?_
  refine ok_iload_n (q := 6) 1 d_M_like_5 rfl rfl rfl ?_
  obtain ⟨hg, h⟩ := gd_e h
  obtain ⟨x1, e_x1, h⟩ := st_e h
  refine al_M_2 (q := 7) hg e_x1 d_M_like_6 rfl ?_
  refine ok_aload_n (q := 8) 0 d_M_like_7 rfl rfl rfl ?_
  refine gf_M_16 (q := 11) d_M_like_8 rfl ?_
  refine ok_iload_n (q := 12) 1 d_M_like_11 rfl rfl rfl ?_
  obtain ⟨hg, h⟩ := gd_e h
  obtain ⟨x2, e_x2, h⟩ := st_e h
  refine al_M_3 (q := 13) hg e_x2 d_M_like_12 rfl ?_
  refine ok_aload_n (q := 14) 0 d_M_like_13 rfl rfl rfl ?_
  refine gf_M_22 (q := 17) d_M_like_14 rfl ?_
  refine ok_iload_n (q := 18) 1 d_M_like_17 rfl rfl rfl ?_
  obtain ⟨hg, h⟩ := gd_e h
  obtain ⟨x3, e_x3, h⟩ := st_e h
  refine al_M_5 (q := 19) hg e_x3 d_M_like_18 rfl ?_
  obtain ⟨_, S4, hk, h⟩ := bd_e h
  refine cs_M_111 (q := 22) hk d_M_like_19 rfl (by decide) (Nat.le_of_ble_eq_true rfl) ?_
  refine ok_aload_n (q := 23) 0 d_M_like_22 rfl rfl rfl ?_
  refine ok_aload_n (q := 24) 0 d_M_like_23 rfl rfl rfl ?_
  refine gf_M_25 (q := 27) d_M_like_24 rfl ?_
  refine ok_iload_n (q := 28) 1 d_M_like_27 rfl rfl rfl ?_
  obtain ⟨hg, h⟩ := gd_e h
  obtain ⟨x6, e_x6, h⟩ := st_e h
  refine al_M_6 (q := 29) hg e_x6 d_M_like_28 rfl ?_
  obtain ⟨S7, e_S7, h⟩ := st_e h
  refine pf_M_92 (q := 32) e_S7 d_M_like_29 rfl ?_
  refine ok_aload_n (q := 33) 0 d_M_like_32 rfl rfl rfl ?_
  refine ok_aload_n (q := 34) 0 d_M_like_33 rfl rfl rfl ?_
  refine gf_M_28 (q := 37) d_M_like_34 rfl ?_
  refine ok_iload_n (q := 38) 1 d_M_like_37 rfl rfl rfl ?_
  obtain ⟨hg, h⟩ := gd_e h
  obtain ⟨x8, e_x8, h⟩ := st_e h
  refine al_M_7 (q := 39) hg e_x8 d_M_like_38 rfl ?_
  obtain ⟨S9, e_S9, h⟩ := st_e h
  refine pf_M_95 (q := 42) e_S9 d_M_like_39 rfl ?_
  refine ok_aload_n (q := 43) 0 d_M_like_42 rfl rfl rfl ?_
  refine ok_aload_n (q := 44) 0 d_M_like_43 rfl rfl rfl ?_
  refine gf_M_31 (q := 47) d_M_like_44 rfl ?_
  refine ok_iload_n (q := 48) 1 d_M_like_47 rfl rfl rfl ?_
  obtain ⟨hg, h⟩ := gd_e h
  obtain ⟨x10, e_x10, h⟩ := st_e h
  refine al_M_8 (q := 49) hg e_x10 d_M_like_48 rfl ?_
  obtain ⟨hg, h⟩ := gd_e h
  obtain ⟨S11, e_S11, h⟩ := st_e h
  refine pf_M_98 (q := 52) e_S11 hg d_M_like_49 rfl ?_
  refine ok_aload_n (q := 53) 0 d_M_like_52 rfl rfl rfl ?_
  refine ok_aload_n (q := 54) 0 d_M_like_53 rfl rfl rfl ?_
  refine gf_M_38 (q := 57) d_M_like_54 rfl ?_
  refine ok_iload_n (q := 58) 1 d_M_like_57 rfl rfl rfl ?_
  obtain ⟨hg, h⟩ := gd_e h
  obtain ⟨x12, e_x12, h⟩ := st_e h
  refine al_M_10 (q := 59) hg e_x12 d_M_like_58 rfl ?_
  refine ok_if_ge (q := 62) (t := 66) d_M_like_59 (by decide) rfl (fun hc => ?_) (fun hc => ?_)
  · replace h := if_t hc h
    refine ok_aload_n (q := 67) 0 d_M_like_66 rfl rfl rfl ?_
    refine gf_M_35 (q := 70) d_M_like_67 rfl ?_
    refine ok_iload_n (q := 71) 1 d_M_like_70 rfl rfl rfl ?_
    obtain ⟨hg, h⟩ := gd_e h
    obtain ⟨x13, e_x13, h⟩ := st_e h
    refine al_M_9 (q := 72) hg e_x13 d_M_like_71 rfl ?_
    obtain ⟨S14, e_S14, h⟩ := st_e h
    refine pf_M_101 (q := 75) e_S14 d_M_like_72 rfl ?_
    refine ok_aload_n (q := 76) 0 d_M_like_75 rfl rfl rfl ?_
    refine ok_aload_n (q := 77) 0 d_M_like_76 rfl rfl rfl ?_
    refine gf_M_38 (q := 80) d_M_like_77 rfl ?_
    refine ok_iload_n (q := 81) 1 d_M_like_80 rfl rfl rfl ?_
    obtain ⟨hg, h⟩ := gd_e h
    obtain ⟨x15, e_x15, h⟩ := st_e h
    refine al_M_10 (q := 82) hg e_x15 d_M_like_81 rfl ?_
    obtain ⟨S16, e_S16, h⟩ := st_e h
    refine pf_M_104 (q := 85) e_S16 d_M_like_82 rfl ?_
    obtain ⟨-, rfl⟩ := so_e h
    exact ok_vret d_M_like_85 ⟨rfl, rfl⟩
  · replace h := if_f hc h
    refine ok_iconst (v := (-1 : Int32)) (q := 63) d_M_like_62 (by decide) rfl ?_
    refine ok_goto (q := 72) d_M_like_63 (by decide) ?_
    obtain ⟨S17, e_S17, h⟩ := st_e h
    refine pf_M_101 (q := 75) e_S17 d_M_like_72 rfl ?_
    refine ok_aload_n (q := 76) 0 d_M_like_75 rfl rfl rfl ?_
    refine ok_aload_n (q := 77) 0 d_M_like_76 rfl rfl rfl ?_
    refine gf_M_38 (q := 80) d_M_like_77 rfl ?_
    refine ok_iload_n (q := 81) 1 d_M_like_80 rfl rfl rfl ?_
    obtain ⟨hg, h⟩ := gd_e h
    obtain ⟨x18, e_x18, h⟩ := st_e h
    refine al_M_10 (q := 82) hg e_x18 d_M_like_81 rfl ?_
    obtain ⟨S19, e_S19, h⟩ := st_e h
    refine pf_M_104 (q := 85) e_S19 d_M_like_82 rfl ?_
    obtain ⟨-, rfl⟩ := so_e h
    exact ok_vret d_M_like_85 ⟨rfl, rfl⟩
set_option maxRecDepth 20000 in
set_option maxHeartbeats 4000000 in
theorem ct_M_like (p1 : Int32) (S : TR) (z : Unit) (Sz : TR) (h : fn_M_like S p1 = some (z, Sz)) : Ct (wR g r) D (tyR g) l y_M_like b_M_like 2 none rm_M_like [.ref (r 0), .int p1] S (pV z Sz) := ct_of (by decide) (Nat.le_of_ble_eq_true rfl) rfl (wk_M_like p1 S z Sz h)
theorem cs_M_115 {l : Launch} {D : va_G} {g : Nat → ClassId} {r : Nat → Nat} {rm : Room} {b : ByteArray} {nL : Nat} {ret : Option FieldType} {pc q : Nat} {Lc : List (Nat × Value)} {St : List Value} {S S2 : TR} {Post : Option Value → TR → Prop} {p1 : Int32} {z : Unit} (hk : fn_M_like S p1 = some (z, S2)) (hd : decode b pc = .ok (.invokevirtual 115, 3)) (hq : pc + 3 = q) (hrm : rm_M_like.frames + 1 ≤ rm.frames ∧ 8 + (2 + 11) + rm_M_like.locals ≤ rm.locals) (hroom : (St.map fun v => v.category).sum ≤ 8) (k : Ok (wR g r) D (tyR g) l rm R_M b nL ret S2 q Lc (St) Post) : Ok (wR g r) D (tyR g) l rm R_M b nL ret S pc Lc (.int p1 :: .ref (r 0) :: St) Post := by
  subst hq
  exact ok_cV (As := [.int p1]) (n := 1) (C := R_M) (T := F_M) (N := 27) (ci := 2) (q0 := 0) (ct_M_like p1 S z S2 hk) hd wm_133 ⟨wm_134, wm_135, wm_136, wm_112⟩ (by decide +kernel) ⟨⟨rfl, rfl⟩, hrm⟩ rfl rfl rfl rfl hroom ⟨Nat.zero_le _, Nat.zero_le _⟩ (fun v u h => by obtain ⟨rfl, rfl⟩ := h; exact k)
end WALK
