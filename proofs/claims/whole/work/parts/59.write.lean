/-! write. -/
theorem ck_ok {o c : Nat} (ho : o < 8) (hc : c < 8) : (o + 8 * c) % 8 = o ∧ (o + 8 * c) / 8 % 8 = c ∧ (o + 8 * c) % 64 = o + 8 * c ∧ (o + 8 * c) / 64 = 0 ∧ (o + 8 * c) / 512 = 0 ∧ (o + 8 * c) / 4096 = 0 ∧ (o + 8 * c) / 32768 = 0 ∧ o + 8 * c < 65536 := by
  refine ⟨by omega, by omega, by omega, by omega, by omega, by omega, by omega, by omega⟩
/-- a chunk is put, on both sides -/
theorem s_chunk {C : TC} {R : TR} {T N : Nat → Nat} {B : Nat → Bool} (h : Sm C R T N B) (hu : Uq T N) (hnu : NU (at' T N R)) {o c b : Nat} (ho : o < 8) (hc1 : 1 ≤ c) (hc : c < 8) (hx : nxb N B = some b) (y : Int32) :
    ∃ (v : Bool) (C1 : TC) (R0 R1 : TR) (T1 N1 : Nat → Nat), fn_S_put C (ixI (pgx T N o c)) (nI (o + 8 * c)) y 0 = some (bI v, C1) ∧ fn_M_fresh R (nI o) (nI c) y = some ((), R0) ∧ fn_M_put R0 = some (bI v, R1) ∧ Fw C R C1 R1 v ∧ Sm C1 R1 T1 N1 B ∧ Pr T1 N1 ∧ NU (at' T1 N1 R1) ∧ (v = true → Uq T1 N1 ∧ N1 = upN N b (N b + 1) ∧ ∀ k, k ≤ 7 → at' T1 N1 R1 k = at' T N R k) := by
  obtain ⟨R2, k1, k2, k3, k4, k5, k6, k7, k8, k9, k10, k11⟩ := r_fresh (R := R) (nI o) (nI c) y
  obtain ⟨v1, v2, v3, v4, v5, v6, v7, v8⟩ := ck_ok ho hc
  have v9 : (o + 8 * c) / 256 % 2 = 0 := by omega
  have hnw : NW R2 (o + 8 * c) y 0 := ⟨by rw [k4, v1], by rw [k5, v2], k6, by rw [k7, v5]; rfl, by rw [k8, v6]; rfl, by rw [k9, v7]; rfl, Or.inl ⟨k10, k11, rfl⟩⟩
  obtain ⟨v, C3, R3, T3, N3, p1, p2, p3, p4⟩ := s_putI (h.new k2 k3) hu hx v8 v9 hnw (old := pgx T N o c) (by rw [v3]; rfl)
  obtain ⟨q1, q2, q3, q4⟩ := p4
  have aR : ∀ k, at' T N R2 k = at' T N R k := at_R (k2 5 (by decide)) (k2 10 (by decide))
  rw [v3] at q3 q4
  have nu : NU (at' T3 N3 R3) := by
    rcases q3 with ⟨-, z⟩ | z
    · rw [at_eq z, at_eq aR]; exact hnu
    · exact NU_key hnu (fun k hk => by rw [z k, if_neg (by omega), aR k])
  refine ⟨v, C3, R2, R3, T3, N3, p1, k1, p2, ⟨p3.1, p3.2.2.2.1.trans (by rw [k3 0 (by decide)])⟩, q1, q2, nu, fun z => ?_⟩
  obtain ⟨z1, z2, z3, z4⟩ := q4 z
  exact ⟨z1, z4, fun k hk => by rw [z2 k, if_neg (by omega), aR k]⟩
theorem op_write {C : TC} {R : TR} (h : Iv C R) (x y u : Int32) : Op (fn_S_write C x y u) (fn_M_write R x y u) := by
  have h0 := h
  obtain ⟨T, N, B, hs, hpr, hnu, h4, h5, h6⟩ := h
  have n10 : ¬ (1 : Int32) = 0 := by decide
  unfold fn_S_write fn_M_write
  rw [st_s]
  rcases h5 with w | w
  · rw [c_refF0 (h4.trans w), bd_s, if_neg (by decide), w, if_pos rfl]; exact ⟨_, _, _, rfl, rfl, h0⟩
  have hu := h6 w
  rw [c_refF hs.1 (h4.trans w), bd_s, w, if_neg n10, r_header hs.2.1, bd_s]
  cases e : hdx T N x with
  | none =>
    show Op (if (-1 : Int32) = 0 then _ else some (-1, C)) (if 0 ≤ (-1 : Int32) then _ else _)
    rw [if_neg (show ¬ (-1 : Int32) = 0 by decide), if_neg (by decide)]; exact ⟨_, _, _, rfl, rfl, h0⟩
  | some p =>
    obtain ⟨o, h1, h7, rfl, e2⟩ := hdx_some e
    obtain ⟨hp, hl, -⟩ := kyx_some e2
    obtain ⟨t1, t2⟩ := c_htags hs.1 (show o < 8 by omega)
    rw [e2] at t1 t2
    have t2 : T p < 65536 := t2
    have t1 : fn_S_headerTags C (nI o) = some (nI (T p), C) := t1
    show Op (if cond (fld T p) (-3 : Int32) 0 = 0 then _ else some (cond (fld T p) (-3 : Int32) 0, C)) (if 0 ≤ nI p then _ else _)
    rw [if_pos (show 0 ≤ nI p from nI_pos' (by omega)), show ixI (some p) = nI p from rfl, gd_s (inb_n hp (by decide)), st_s, rr_n (by omega), r_fold hs.2.1 hp hl]
    cases fld T p with
    | true =>
      rw [show cond true (-3 : Int32) 0 = -3 from rfl, if_neg (show ¬ (-3 : Int32) = 0 by decide), bI_t, if_neg n10]; exact ⟨_, _, _, rfl, rfl, h0⟩
    | false =>
      rw [show cond false (-3 : Int32) 0 = 0 from rfl, if_pos rfl, bI_f, if_pos rfl]
      by_cases w1 : y < 1
      · rw [if_pos w1, if_pos w1]; exact ⟨_, _, _, rfl, rfl, h0⟩
      rw [if_neg w1, if_neg w1]
      by_cases w2 : y ≤ 6
      · rw [if_pos w2, if_pos w2, t1, bd_s, ft_length C t2, bd_s, gd_s (inb_n hp (by decide)), st_s, rr_n (by omega), r_len hs.2.1 hp hl]
        obtain ⟨c, c1, c2, rfl⟩ := in_case (n := 6) w1 w2 (by decide)
        by_cases w3 : nI c ≤ nI (T p / 4096 % 8)
        · rw [if_pos w3, if_pos w3]
          obtain ⟨zz, C1, R1, T1, N1, B1, g1, g2, g3, g4, g5, g6⟩ := s_room (k := 1) (by decide) hs hu
          have nu1 : NU (at' T1 N1 R1) := by rw [at_eq g5]; exact hnu
          rw [show fn_S_makeRoom C 1 = _ from g1, bd_s, show fn_M_room R 1 = _ from g2, bd_s]
          by_cases q3 : zz = 0
          · obtain ⟨u1, f1, k1, r1⟩ := room_yes g6 q3
            obtain ⟨b, hx⟩ := nx_of g3 (by omega)
            obtain ⟨v, C2, R2, R3, T2, N2, a1, a2, a3, a4, a5, a6, a7, a8⟩ := s_chunk g3 u1 nu1 (show o < 8 by omega) c1 (by omega) hx u
            rw [if_pos q3, q3, if_pos (show (0 : Int32) ≤ 0 by decide), c_livePage g3.1 (by omega) (by omega), bd_s, ft_ofChunk, bd_s, a1, bd_s, a2, bd_s, a3, bd_s]
            cases v with
            | false =>
              rw [bI_f, if_pos rfl, if_pos rfl]
              exact ⟨-9, fc C2 0 0 0, R3, rfl, rfl, Iv_off a5 a6 a7 a4.2⟩
            | true =>
              rw [bI_t, if_neg n10, if_neg n10]
              exact ⟨0, C2, R3, rfl, rfl, Iv_on a5 (a8 rfl).1 a7 (by rw [a4.1, k1]; exact h4.trans w) (a4.2.trans (by rw [r1]; exact w))⟩
          · obtain ⟨r1, r2⟩ := room_no g3 g4 nu1 g6 q3 (h4.trans w) w
            rw [if_neg q3, if_neg r1]
            exact ⟨_, _, _, rfl, rfl, r2⟩
        · rw [if_neg w3, if_neg w3]
          obtain ⟨zz, C1, R1, T1, N1, B1, g1, g2, g3, g4, g5, g6⟩ := s_room (k := 2) (by decide) hs hu
          have nu1 : NU (at' T1 N1 R1) := by rw [at_eq g5]; exact hnu
          rw [show fn_S_makeRoom C 2 = _ from g1, bd_s, show fn_M_room R 2 = _ from g2, bd_s]
          by_cases q3 : zz = 0
          · obtain ⟨u1, f1, k1, r1⟩ := room_yes g6 q3
            obtain ⟨b, hx⟩ := nx_of g3 (by omega)
            obtain ⟨hb6, hb8, hbB⟩ := nxb_some hx (fun b hb => (g3.1.1 b hb).1)
            obtain ⟨v, C2, R2, R3, T2, N2, a1, a2, a3, a4, a5, a6, a7, a8⟩ := s_chunk g3 u1 nu1 (show o < 8 by omega) c1 (by omega) hx u
            rw [if_pos q3, q3, if_pos (show (0 : Int32) ≤ 0 by decide), c_livePage g3.1 (by omega) (by omega), bd_s, ft_ofChunk, bd_s, a1, bd_s, a2, bd_s, a3, bd_s]
            cases v with
            | false =>
              rw [bI_f, if_pos rfl, if_pos rfl]
              exact ⟨-9, fc C2 0 0 0, R3, rfl, rfl, Iv_off a5 a6 a7 a4.2⟩
            | true =>
              rw [bI_t, if_neg n10, if_neg n10]
              obtain ⟨u2, n2, ha⟩ := a8 rfl
              have fp := free_put hb6 hb8 hbB
              have ek : ∃ p2, kyx T2 N2 o = some p2 := by
                obtain ⟨p1, ek1, -⟩ := ky_some hu u1 g5 e2
                have z := ha o h7
                rw [at_k u1, at_k u2, ek1] at z
                cases z2 : kyx T2 N2 o with
                | none => rw [z2] at z; cases z
                | some q => exact ⟨q, rfl⟩
              obtain ⟨p2, ek⟩ := ek
              obtain ⟨v, C4, R4, R5, T4, N4, b1, b2, b3, b4, b5, b6, b7, b8⟩ := s_len a5 u2 a7 (by rw [n2]; omega) h1 h7 (show c < 8 by omega) ek
              rw [b1, bd_s, r_header a5.2.1, bd_s, hdx_k h1 h7, ek, show ixI (some p2) = nI p2 from rfl, b2, bd_s, st_s, b3, bd_s]
              have f0 : R3 0 0 = 1 := a4.2.trans (by rw [r1]; exact w)
              cases v with
              | false =>
                rw [bI_f, if_pos rfl, if_pos rfl]
                exact ⟨-9, fc C4 0 0 0, R5, rfl, rfl, Iv_off b5 b6 b7 b4.2⟩
              | true =>
                rw [bI_t, if_neg n10, if_neg n10]
                exact ⟨0, C4, R5, rfl, rfl, Iv_on b5 (b8 rfl) b7 (by rw [b4.1, a4.1, k1]; exact h4.trans w) (b4.2.trans f0)⟩
          · obtain ⟨r1, r2⟩ := room_no g3 g4 nu1 g6 q3 (h4.trans w) w
            rw [if_neg q3, if_neg r1]
            exact ⟨_, _, _, rfl, rfl, r2⟩
      · rw [if_neg w2, if_neg w2]; exact ⟨_, _, _, rfl, rfl, h0⟩
