/-! read, tags, free, erases, steps, wear, cut, flip. -/
theorem in_case {x : Int32} {n : Nat} (h1 : ¬ x < 1) (h2 : x ≤ nI n) (hn : n < 8) : ∃ c, 1 ≤ c ∧ c ≤ n ∧ x = nI c := by
  have e1 : (1 : Int32).toInt = 1 := by decide
  have e0 : (0 : Int32).toInt = 0 := by decide
  rw [Int32.lt_iff_toInt_lt] at h1
  obtain ⟨c, hc, e⟩ := nI_of2 (x := x) (M := nI n) (n := n) (nI_toInt (by omega)) (fun q => by rw [Int32.lt_iff_toInt_lt] at q; omega) h2
  refine ⟨c, ?_, hc, e⟩
  subst e
  rw [nI_toInt (by omega)] at h1
  omega
theorem op_read {C : TC} {R : TR} (h : Iv C R) (x y : Int32) : Op (fn_S_read C x y) (fn_M_read R x y) := by
  have h0 := h
  obtain ⟨T, N, B, hs, -, -, h4, h5, -⟩ := h
  have n10 : ¬ (1 : Int32) = 0 := by decide
  unfold fn_S_read fn_M_read
  rw [st_s]
  rcases h5 with w | w
  · rw [c_refF0 (h4.trans w), bd_s, if_neg (by decide), w, if_pos rfl]; exact ⟨_, _, _, rfl, rfl, h0⟩
  · rw [c_refF hs.1 (h4.trans w), bd_s, w, if_neg n10, r_header hs.2.1, bd_s]
    cases e : hdx T N x with
    | none =>
      show Op (if (-1 : Int32) = 0 then _ else _) (if 0 ≤ (-1 : Int32) then _ else _)
      rw [if_neg (show ¬ (-1 : Int32) = 0 by decide), if_neg (by decide)]
      exact ⟨8589934591, C, R, congrArg (fun v => some (v, C)) (show (8589934592 : Int64) + (-1 : Int32).toInt64 = 8589934591 by decide), rfl, h0⟩
    | some p =>
      obtain ⟨o, h1, h7, rfl, e2⟩ := hdx_some e
      obtain ⟨hp, hl, -⟩ := kyx_some e2
      obtain ⟨t1, t2⟩ := c_htags hs.1 (show o < 8 by omega)
      rw [e2] at t1 t2
      have t2 : T p < 65536 := t2
      have t1 : fn_S_headerTags C (nI o) = some (nI (T p), C) := t1
      show Op (if cond (fld T p) (-3 : Int32) 0 = 0 then _ else some ((8589934592 : Int64) + (cond (fld T p) (-3 : Int32) 0).toInt64, C)) (if 0 ≤ nI p then _ else _)
      rw [if_pos (show 0 ≤ nI p from nI_pos' (by omega)), show ixI (some p) = nI p from rfl, gd_s (inb_n hp (by decide)), st_s, rr_n (by omega), r_fold hs.2.1 hp hl]
      cases fld T p with
      | true =>
        rw [show cond true (-3 : Int32) 0 = -3 from rfl, if_neg (show ¬ (-3 : Int32) = 0 by decide), bI_t, if_neg n10]
        exact ⟨8589934589, C, R, congrArg (fun v => some (v, C)) (show (8589934592 : Int64) + (-3 : Int32).toInt64 = 8589934589 by decide), rfl, h0⟩
      | false =>
        rw [show cond false (-3 : Int32) 0 = 0 from rfl, if_pos rfl, bI_f, if_pos rfl]
        by_cases w1 : y < 1
        · rw [if_pos w1, if_pos w1]; exact ⟨_, _, _, rfl, rfl, h0⟩
        · rw [if_neg w1, if_neg w1, t1, bd_s, ft_length C t2, bd_s, gd_s (inb_n hp (by decide)), st_s, rr_n (by omega), r_len hs.2.1 hp hl]
          by_cases w2 : y ≤ nI (T p / 4096 % 8)
          · obtain ⟨c, c1, c2, rfl⟩ := in_case w1 w2 (by omega)
            rw [if_pos w2, if_pos w2, c_livePage hs.1 (by omega) (by omega), bd_s, r_page hs.2.1 (by omega) (by omega), bd_s]
            cases g : pgx T N o c with
            | none => rw [show ixI none = -1 from rfl, if_pos rfl, if_neg (by decide)]; exact ⟨_, _, _, rfl, rfl, h0⟩
            | some q =>
              obtain ⟨hq, hlq, -⟩ := pgx_some g
              have z := hs.2.2.1.1 q hq (lv_pgm hlq)
              rw [show ixI (some q) = nI q from rfl, if_neg (ni_m1 (by omega)), c_word hq z.1 z.2, bd_s, if_pos (nI_pos' (by omega)), gd_s (inb_n hq (by decide)), st_s, rr_n (by omega)]
              unfold wdL
              by_cases u : R 10 q < 0
              · rw [if_pos u, if_pos u, gd_s (inb_n hq (by decide)), st_s, rr_n (by omega)]; exact ⟨_, _, _, rfl, rfl, h0⟩
              · rw [if_neg u, if_neg u]; exact ⟨_, _, _, rfl, rfl, h0⟩
          · rw [if_neg w2, if_neg w2]; exact ⟨_, _, _, rfl, rfl, h0⟩
theorem bk_case (x : Int32) {n : Nat} {M : Int32} (hM : M = nI n) (hn : n < 2 ^ 31) : x < 0 ∨ (¬ x < 0 ∧ M ≤ x) ∨ ∃ b, b < n ∧ x = nI b := by
  subst hM
  rcases pk_ix x hn with h | h | h
  · exact Or.inl h
  · refine Or.inr (Or.inl ⟨fun q => ?_, h⟩)
    rw [Int32.lt_iff_toInt_lt] at q
    rw [Int32.le_iff_toInt_le, nI_toInt hn] at h
    have e0 : (0 : Int32).toInt = 0 := by decide
    omega
  · exact Or.inr (Or.inr h)
theorem c_blk (C : TC) {b : Nat} (hb : b < 6) : fn_S_isBlock C (nI b) = some (1, C) := by
  unfold fn_S_isBlock
  rw [if_neg (ni_nn (by omega)), if_neg (fun z => by have := (ni_6 (i := b) (by omega)).mp z; omega)]
theorem c_blkN (C : TC) {x : Int32} (h : x < 0 ∨ (¬ x < 0 ∧ 6 ≤ x)) : fn_S_isBlock C x = some (0, C) := by
  unfold fn_S_isBlock
  rcases h with h | ⟨h1, h2⟩
  · rw [if_pos h]
  · rw [if_neg h1, if_pos h2]
theorem c_pag (C : TC) {b i : Nat} (hb : b < 6) (hi : i < 8) : fn_S_isPage C (nI b) (nI i) = some (1, C) := by
  unfold fn_S_isPage
  rw [c_blk C hb, bd_s, if_neg (by decide), if_neg (ni_nn (by omega)), if_neg (fun z => by have := (ni_8 (i := i) (by omega)).mp z; omega)]
theorem c_pagN1 (C : TC) {x y : Int32} (h : x < 0 ∨ (¬ x < 0 ∧ 6 ≤ x)) : fn_S_isPage C x y = some (0, C) := by
  unfold fn_S_isPage
  rw [c_blkN C h, bd_s, if_pos rfl]
theorem c_pagN2 (C : TC) {b : Nat} {y : Int32} (hb : b < 6) (h : y < 0 ∨ (¬ y < 0 ∧ 8 ≤ y)) : fn_S_isPage C (nI b) y = some (0, C) := by
  unfold fn_S_isPage
  rw [c_blk C hb, bd_s, if_neg (by decide)]
  rcases h with h | ⟨h1, h2⟩
  · rw [if_pos h]
  · rw [if_neg h1, if_pos h2]
theorem r_out (R : TR) {b i : Nat} (hb : b < 6) (hi : i < 8) : fn_M_outside R (nI b) (nI i) = some (0, R) := by
  unfold fn_M_outside
  rw [if_neg (ni_nn (by omega)), if_neg (by rw [show (5 : Int32) = nI 5 from rfl, nI_ltI (by decide) (by omega)]; omega), if_neg (ni_nn (by omega)), if_pos (by rw [show (7 : Int32) = nI 7 from rfl, nI_leI (by omega) (by decide)]; omega)]
theorem r_outN1 (R : TR) {x y : Int32} (h : x < 0 ∨ (¬ x < 0 ∧ 6 ≤ x)) : fn_M_outside R x y = some (1, R) := by
  unfold fn_M_outside
  rcases h with h | ⟨h1, h2⟩
  · rw [if_pos h]
  · have e5 : (5 : Int32).toInt = 5 := by decide
    have e6 : (6 : Int32).toInt = 6 := by decide
    rw [if_neg h1, if_pos (by rw [Int32.lt_iff_toInt_lt]; rw [Int32.le_iff_toInt_le] at h2; omega)]
theorem r_outN2 (R : TR) {b : Nat} {y : Int32} (hb : b < 6) (h : y < 0 ∨ (¬ y < 0 ∧ 8 ≤ y)) : fn_M_outside R (nI b) y = some (1, R) := by
  unfold fn_M_outside
  rw [if_neg (ni_nn (by omega)), if_neg (by rw [show (5 : Int32) = nI 5 from rfl, nI_ltI (by decide) (by omega)]; omega)]
  rcases h with h | ⟨h1, h2⟩
  · rw [if_pos h]
  · have e7 : (7 : Int32).toInt = 7 := by decide
    have e8 : (8 : Int32).toInt = 8 := by decide
    rw [if_neg h1, if_neg (fun z => by rw [Int32.le_iff_toInt_le] at h2 z; omega)]
theorem pg_eq {b i : Nat} : nI b * (8 : Int32) + nI i = nI (8 * b + i) ∧ (8 : Int32) * nI b + nI i = nI (8 * b + i) := by
  rw [show (8 : Int32) = nI 8 from rfl, pk_mul, pk_mul, nI_add, nI_add, Nat.mul_comm b]
  exact ⟨rfl, rfl⟩
theorem op_tags {C : TC} {R : TR} (h : Iv C R) (x y : Int32) : Op (fn_S_tags C x y) (fn_M_tags R x y) := by
  have h0 := h
  obtain ⟨T, N, B, hs, -⟩ := h
  unfold fn_S_tags fn_M_tags
  rcases bk_case x (n := 6) (M := 6) rfl (by decide) with g | g | ⟨b, hb, rfl⟩
  · rw [c_pagN1 C (Or.inl g), bd_s, if_pos rfl, r_outN1 R (Or.inl g), bd_s, if_neg (by decide)]; exact ⟨_, _, _, rfl, rfl, h0⟩
  · rw [c_pagN1 C (Or.inr g), bd_s, if_pos rfl, r_outN1 R (Or.inr g), bd_s, if_neg (by decide)]; exact ⟨_, _, _, rfl, rfl, h0⟩
  rcases bk_case y (n := 8) (M := 8) rfl (by decide) with g | g | ⟨i, hi, rfl⟩
  · rw [c_pagN2 C hb (Or.inl g), bd_s, if_pos rfl, r_outN2 R hb (Or.inl g), bd_s, if_neg (by decide)]; exact ⟨_, _, _, rfl, rfl, h0⟩
  · rw [c_pagN2 C hb (Or.inr g), bd_s, if_pos rfl, r_outN2 R hb (Or.inr g), bd_s, if_neg (by decide)]; exact ⟨_, _, _, rfl, rfl, h0⟩
  have hp : 8 * b + i < 48 := by omega
  have p31 : 8 * b + i < 2 ^ 31 := by omega
  rw [c_pag C hb hi, bd_s, if_neg (by decide), st_s, pg_eq.1, c_prog hs.1 hp, bd_s, r_out R hb hi, bd_s, if_pos rfl, st_s, pg_eq.2]
  simp only [gd_s (inb_n hp (by decide : 48 < 2 ^ 31)), st_s, rr_n p31, rc_n p31]
  cases e : pgm N (8 * b + i) with
  | false => rw [bI_f, if_pos rfl, hs.2.1.2.1 _ hp e, if_pos rfl]; exact ⟨_, _, _, rfl, rfl, h0⟩
  | true =>
    obtain ⟨g0, g1, g2, g3, g4, g6, g7, g8⟩ : PgR R (8 * b + i) (T (8 * b + i)) := hs.2.1.2.2 _ hp e
    rw [bI_t, if_neg (show ¬ (1 : Int32) = 0 by decide), (hs.1.2 _ hp e).2, g1, if_neg (by rw [ni_n0 (by omega)]; omega), g2, g3, g4, g6, g7, g8]
    generalize T (8 * b + i) = t at *
    have e1 : nI (t % 8) + (8 : Int32) * nI (t / 8 % 8) + (64 : Int32) * nI (t / 64 % 4) + (512 : Int32) * nI (t / 512 % 8) + (4096 : Int32) * nI (t / 4096 % 8) = nI (t % 8 + 8 * (t / 8 % 8) + 64 * (t / 64 % 4) + 512 * (t / 512 % 8) + 4096 * (t / 4096 % 8)) := by
      rw [show (8 : Int32) = nI 8 from rfl, show (64 : Int32) = nI 64 from rfl, show (512 : Int32) = nI 512 from rfl, show (4096 : Int32) = nI 4096 from rfl, pk_mul, pk_mul, pk_mul, pk_mul, nI_add, nI_add, nI_add, nI_add]
    rw [e1]
    by_cases u : t / 256 % 2 = 1
    · rw [if_pos (by rw [u]; rfl)]
      by_cases u2 : t / 32768 % 2 = 0
      · rw [if_pos (by rw [u2]; rfl), show (256 : Int32) = nI 256 from rfl, show (0 : Int32) = nI 0 from rfl, nI_add, nI_add, show t % 8 + 8 * (t / 8 % 8) + 64 * (t / 64 % 4) + 512 * (t / 512 % 8) + 4096 * (t / 4096 % 8) + 256 + 0 = t by omega]
        exact ⟨_, _, _, rfl, rfl, h0⟩
      · rw [if_neg (by rw [ni_n0 (by omega)]; omega), show (256 : Int32) = nI 256 from rfl, show (32768 : Int32) = nI 32768 from rfl, nI_add, nI_add, show t % 8 + 8 * (t / 8 % 8) + 64 * (t / 64 % 4) + 512 * (t / 512 % 8) + 4096 * (t / 4096 % 8) + 256 + 32768 = t by omega]
        exact ⟨_, _, _, rfl, rfl, h0⟩
    · rw [if_neg (by rw [show (2 : Int32) = nI 2 from rfl, nI_eq (by omega) (by decide)]; omega)]
      by_cases u2 : t / 32768 % 2 = 0
      · rw [if_pos (by rw [u2]; rfl), show (0 : Int32) = nI 0 from rfl, nI_add, nI_add, show t % 8 + 8 * (t / 8 % 8) + 64 * (t / 64 % 4) + 512 * (t / 512 % 8) + 4096 * (t / 4096 % 8) + 0 + 0 = t by omega]
        exact ⟨_, _, _, rfl, rfl, h0⟩
      · rw [if_neg (by rw [ni_n0 (by omega)]; omega), show (0 : Int32) = nI 0 from rfl, show (32768 : Int32) = nI 32768 from rfl, nI_add, nI_add, show t % 8 + 8 * (t / 8 % 8) + 64 * (t / 64 % 4) + 512 * (t / 512 % 8) + 4096 * (t / 4096 % 8) + 0 + 32768 = t by omega]
        exact ⟨_, _, _, rfl, rfl, h0⟩
theorem op_free {C : TC} {R : TR} (h : Iv C R) : Op (fn_S_free C) (fn_M_free R) := by
  have h0 := h
  obtain ⟨T, N, B, hs, -⟩ := h
  unfold fn_S_free
  rw [c_free hs.1, bd_s, r_free hs.2.1]
  exact ⟨_, _, _, rfl, rfl, h0⟩
theorem op_steps {C : TC} {R : TR} (h : Iv C R) : Op (fn_S_steps C) (fn_M_steps R) := by
  have h0 := h
  obtain ⟨T, N, B, hs, -⟩ := h
  unfold fn_S_steps fn_M_steps
  rw [st_s, st_s, hs.2.2.2.2.1]
  exact ⟨_, _, _, rfl, rfl, h0⟩
theorem op_erases {C : TC} {R : TR} (h : Iv C R) (x : Int32) : Op (fn_S_erases C x) (fn_M_erases R x) := by
  have h0 := h
  obtain ⟨T, N, B, hs, -⟩ := h
  unfold fn_S_erases fn_M_erases
  rcases bk_case x (n := 6) (M := 6) rfl (by decide) with g | g | ⟨b, hb, rfl⟩
  · rw [c_blkN C (Or.inl g), bd_s, if_pos rfl, r_outN1 R (Or.inl g), bd_s, if_neg (by decide)]; exact ⟨_, _, _, rfl, rfl, h0⟩
  · rw [c_blkN C (Or.inr g), bd_s, if_pos rfl, r_outN1 R (Or.inr g), bd_s, if_neg (by decide)]; exact ⟨_, _, _, rfl, rfl, h0⟩
  have b31 : b < 2 ^ 31 := by omega
  rw [c_blk C hb, bd_s, if_neg (by decide), show fn_M_outside R (nI b) 0 = some (0, R) from r_out R hb (i := 0) (by decide), bd_s, if_pos rfl]
  simp only [gd_s (inb_n hb (by decide : 6 < 2 ^ 31)), st_s, rr_n b31, rc_n b31]
  rw [(hs.2.2.1.2 b hb).1, (hs.1.1 b hb).2.2, (hs.2.1.1 b hb).2]
  cases B b
  · rw [bI_f, if_pos rfl, if_pos rfl]; exact ⟨_, _, _, rfl, rfl, h0⟩
  · rw [bI_t, if_neg (by decide), if_neg (by decide)]; exact ⟨_, _, _, rfl, rfl, h0⟩
theorem op_wear {C : TC} {R : TR} (h : Iv C R) (x : Int32) : Op (fn_S_wear C x) (fn_M_wear R x) := by
  have h0 := h
  obtain ⟨T, N, B, hs, hj⟩ := h
  unfold fn_S_wear fn_M_wear
  rcases bk_case x (n := 6) (M := 6) rfl (by decide) with g | g | ⟨b, hb, rfl⟩
  · rw [c_blkN C (Or.inl g), bd_s, if_pos rfl, r_outN1 R (Or.inl g), bd_s, if_neg (by decide)]; exact ⟨_, _, _, rfl, rfl, h0⟩
  · rw [c_blkN C (Or.inr g), bd_s, if_pos rfl, r_outN1 R (Or.inr g), bd_s, if_neg (by decide)]; exact ⟨_, _, _, rfl, rfl, h0⟩
  have b31 : b < 2 ^ 31 := by omega
  rw [c_blk C hb, bd_s, if_neg (by decide), show fn_M_outside R (nI b) 0 = some (0, R) from r_out R hb (i := 0) (by decide), bd_s, if_pos rfl]
  simp only [gd_s (inb_n hb (by decide : 6 < 2 ^ 31)), st_s, rr_n b31, rc_n b31, wc_n b31, wr_n b31]
  rw [(hs.2.2.1.2 b hb).2.1, (hs.1.1 b hb).2.2, (hs.2.1.1 b hb).2]
  cases B b
  · rw [bI_f, if_pos rfl, if_pos rfl]
    by_cases w : R 13 b = 0
    · rw [if_pos w, if_pos w]
      refine ⟨_, _, _, rfl, rfl, T, N, B, ⟨hs.1, hs.2.1, ⟨hs.2.2.1.1, ?_⟩, hs.2.2.2⟩, hj⟩
      intro i hi
      show C.1 6 i = R 15 i ∧ upd (C.1 7) b 1 i = upd (R 13) b 1 i ∧ C.1 9 i = R 14 i ∧ isB (upd (R 13) b 1 i) ∧ isB (R 14 i)
      have z := hs.2.2.1.2 i hi
      by_cases e : i = b
      · subst e; rw [upd_s, upd_s]; exact ⟨z.1, rfl, z.2.2.1, Or.inr rfl, z.2.2.2.2⟩
      · rw [upd_n e, upd_n e]; exact z
    · rw [if_neg w, if_neg w]; exact ⟨_, _, _, rfl, rfl, h0⟩
  · rw [bI_t, if_neg (by decide), if_neg (by decide)]; exact ⟨_, _, _, rfl, rfl, h0⟩
theorem op_cut {C : TC} {R : TR} (h : Iv C R) (x : Int32) : Op (fn_S_cut C x) (fn_M_cut R x) := by
  obtain ⟨T, N, B, hs, hj⟩ := h
  have key : ∀ y : Int32, Iv (fc C 1 2 y) (fr R 0 2 y) := fun y => ⟨T, N, B, ⟨hs.1, hs.2.1, hs.2.2.1, hs.2.2.2.1, hs.2.2.2.2.1, rfl, hs.2.2.2.2.2.2⟩, hj⟩
  unfold fn_S_cut fn_M_cut
  simp only [st_s]
  by_cases w : x < 0
  · rw [if_pos w, if_pos w]; exact ⟨_, _, _, rfl, rfl, key _⟩
  · rw [if_neg w, if_neg w]
    by_cases w2 : 1000 < x
    · rw [if_pos w2, if_pos w2]; exact ⟨_, _, _, rfl, rfl, key _⟩
    · rw [if_neg w2, if_neg w2]; exact ⟨_, _, _, rfl, rfl, key _⟩
