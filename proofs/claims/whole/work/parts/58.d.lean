theorem op_truncate {C : TC} {R : TR} (h : Iv C R) (x y : Int32) : Op (fn_S_truncate C x y) (fn_M_truncate R x y) := by
  have h0 := h
  obtain ⟨T, N, B, hs, hpr, hnu, h4, h5, h6⟩ := h
  have n10 : ¬ (1 : Int32) = 0 := by decide
  unfold fn_S_truncate fn_M_truncate
  rw [st_s]
  rcases h5 with w | w
  · rw [c_refF0 (h4.trans w), bd_s, if_neg (by decide), w, if_pos rfl]; exact ⟨_, _, _, rfl, rfl, h0⟩
  have hu := h6 w
  rw [c_refF hs.1 (h4.trans w), bd_s, w, if_neg n10, r_header hs.2.1, bd_s]
  cases e : hdx T N x with
  | none =>
    show Op (if (-1 : Int32) = 0 then _ else some (-1, C)) (if 0 ≤ (-1 : Int32) then _ else _)
    rw [if_neg (show ¬ (-1 : Int32) = 0 by decide), if_neg (by decide)]; exact ⟨_, _, _, rfl, rfl, h0⟩
  | some p =>
    obtain ⟨o, h1, h7, rfl, e2⟩ := hdx_some e
    obtain ⟨hp, hl, -⟩ := kyx_some e2
    obtain ⟨t1, t2⟩ := c_htags hs.1 (show o < 8 by omega)
    rw [e2] at t1 t2
    have t2 : T p < 65536 := t2
    have t1 : fn_S_headerTags C (nI o) = some (nI (T p), C) := t1
    show Op (if cond (fld T p) (-3 : Int32) 0 = 0 then _ else some (cond (fld T p) (-3 : Int32) 0, C)) (if 0 ≤ nI p then _ else _)
    rw [if_pos (show 0 ≤ nI p from nI_pos' (by omega)), show ixI (some p) = nI p from rfl, gd_s (inb_n hp (by decide)), st_s, rr_n (by omega), r_fold hs.2.1 hp hl]
    cases fld T p with
    | true =>
      rw [show cond true (-3 : Int32) 0 = -3 from rfl, if_neg (show ¬ (-3 : Int32) = 0 by decide), bI_t, if_neg n10]; exact ⟨_, _, _, rfl, rfl, h0⟩
    | false =>
      rw [show cond false (-3 : Int32) 0 = 0 from rfl, if_pos rfl, bI_f, if_pos rfl, t1, bd_s, ft_length C t2, bd_s]
      by_cases w1 : y < 0
      · rw [if_pos w1, if_pos w1]; exact ⟨_, _, _, rfl, rfl, h0⟩
      rw [if_neg w1, if_neg w1, gd_s (inb_n hp (by decide)), st_s, rr_n (by omega), r_len hs.2.1 hp hl]
      by_cases w2 : y ≤ nI (T p / 4096 % 8)
      · rw [if_pos w2, if_pos w2, gd_s (inb_n hp (by decide)), st_s]
        obtain ⟨c, c2, rfl⟩ := nI_of2 (x := y) (M := nI (T p / 4096 % 8)) (n := T p / 4096 % 8) (nI_toInt (by omega)) w1 w2
        by_cases w3 : nI c = nI (T p / 4096 % 8)
        · rw [if_pos w3, if_pos w3]; exact ⟨_, _, _, rfl, rfl, h0⟩
        rw [if_neg w3, if_neg w3]
        have w3 : c ≠ T p / 4096 % 8 := fun z => w3 (by rw [z])
        obtain ⟨zz, C1, R1, T1, N1, B1, g1, g2, g3, g4, g5, g6⟩ := s_room (k := 1) (by decide) hs hu
        have nu1 : NU (at' T1 N1 R1) := by rw [at_eq g5]; exact hnu
        rw [show fn_S_makeRoom C 1 = _ from g1, bd_s, show fn_M_room R 1 = _ from g2, bd_s]
        by_cases q3 : zz = 0
        · obtain ⟨u1, f1, c1, r1⟩ := room_yes g6 q3
          obtain ⟨p1, ek, -⟩ := ky_some hu u1 g5 e2
          obtain ⟨v, C2, R2, R3, T2, N2, k1, k2, k3, k4, k5, k6, k7, k8⟩ := s_len g3 u1 nu1 (by omega) h1 h7 (show c < 8 by omega) ek
          rw [if_pos q3, q3, if_pos (show (0 : Int32) ≤ 0 by decide), k1, bd_s, r_header g3.2.1, bd_s, hdx_k h1 h7, ek, show ixI (some p1) = nI p1 from rfl, k2, bd_s, st_s, k3, bd_s]
          cases v with
          | false =>
            rw [bI_f, if_pos rfl, if_pos rfl]
            exact ⟨-9, fc C2 0 0 0, R3, rfl, rfl, Iv_off k5 k6 k7 k4.2⟩
          | true =>
            rw [bI_t, if_neg n10, if_neg n10, ni_inc]
            obtain ⟨v2, C4, R4, T4, s1, s2, s3, s4, s5, s6, s7⟩ := s_marks (show o < 8 by omega) (6 - c) 64 64 (c + 1) C2 R3 T2 (by omega) (by omega) (by omega) k5 (k8 rfl) k7
            have eR : fn_M_drop R3 (nI o) (nI c) = some (bI v2, R4) := by
              unfold fn_M_drop; rw [st_s, ni_inc]; exact s2
            rw [show fn_S_markChunks C2 (nI o) (nI (c + 1)) = _ from s1, eR, bd_s, bd_s]
            have f0 : R3 0 0 = 1 := k4.2.trans (by rw [r1]; exact w)
            cases v2 with
            | false =>
              rw [bI_f, if_pos rfl, if_pos rfl]
              exact ⟨-9, fc C4 0 0 0, R4, rfl, rfl, Iv_off s4 s5 s6 s3.2⟩
            | true =>
              rw [bI_t, if_neg n10, if_neg n10]
              exact ⟨0, C4, R4, rfl, rfl, Iv_on s4 (s7 rfl) s6 (by rw [s3.1, k4.1, c1]; exact h4.trans w) (s3.2.trans f0)⟩
        · obtain ⟨r1, r2⟩ := room_no g3 g4 nu1 g6 q3 (h4.trans w) w
          rw [if_neg q3, if_neg r1]
          exact ⟨_, _, _, rfl, rfl, r2⟩
      · rw [if_neg w2, if_neg w2]; exact ⟨_, _, _, rfl, rfl, h0⟩
