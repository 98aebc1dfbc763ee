/-! flip and checkpoint. -/
theorem bx_0 : ∀ j, j < 39 → (0 : Int64) ^^^ bitL j = bitL j := by decide +kernel
theorem bx_s : ∀ j, j < 39 → bitL j ^^^ bitL j = 0 := by decide +kernel
theorem NU_mono {A A1 : Nat → Option Ab} (h : NU A) (hm : ∀ k t w, A1 k = some (t, w, true) → A k = some (t, w, true)) : NU A1 :=
  fun o o' a b c d e t w t' w' x y z => h o o' a b c d e t w t' w' (hm _ _ _ x) (hm _ _ _ y) z
theorem op_flip {C : TC} {R : TR} (h : Iv C R) (x y z : Int32) : Op (fn_S_flip C x y z) (fn_M_flip R x y z) := by
  have h0 := h
  obtain ⟨T, N, B, hs, hpr, hnu, hj⟩ := h
  unfold fn_S_flip fn_M_flip
  rcases bk_case x (n := 6) (M := 6) rfl (by decide) with g | g | ⟨b, hb, rfl⟩
  · rw [c_pagN1 C (Or.inl g), bd_s, if_pos rfl, r_outN1 R (Or.inl g), bd_s, if_neg (by decide)]; exact ⟨_, _, _, rfl, rfl, h0⟩
  · rw [c_pagN1 C (Or.inr g), bd_s, if_pos rfl, r_outN1 R (Or.inr g), bd_s, if_neg (by decide)]; exact ⟨_, _, _, rfl, rfl, h0⟩
  rcases bk_case y (n := 8) (M := 8) rfl (by decide) with g | g | ⟨i, hi, rfl⟩
  · rw [c_pagN2 C hb (Or.inl g), bd_s, if_pos rfl, r_outN2 R hb (Or.inl g), bd_s, if_neg (by decide)]; exact ⟨_, _, _, rfl, rfl, h0⟩
  · rw [c_pagN2 C hb (Or.inr g), bd_s, if_pos rfl, r_outN2 R hb (Or.inr g), bd_s, if_neg (by decide)]; exact ⟨_, _, _, rfl, rfl, h0⟩
  have hp : 8 * b + i < 48 := by omega
  have p31 : 8 * b + i < 2 ^ 31 := by omega
  have b31 : b < 2 ^ 31 := by omega
  have d8 : (8 * b + i) / 8 = b := by omega
  rw [c_pag C hb hi, bd_s, if_neg (by decide), r_out R hb hi, bd_s, if_pos rfl]
  rcases bk_case z (n := 39) (M := 39) rfl (by decide) with g | ⟨g1, g2⟩ | ⟨j, hj9, rfl⟩
  · rw [if_pos g, if_pos g]; exact ⟨_, _, _, rfl, rfl, h0⟩
  · have e38 : (38 : Int32).toInt = 38 := by decide
    have e39 : (39 : Int32).toInt = 39 := by decide
    rw [Int32.le_iff_toInt_le] at g2
    rw [if_neg g1, if_neg g1, if_neg (by rw [Int32.lt_iff_toInt_lt]; omega), if_neg (by rw [Int32.le_iff_toInt_le]; omega)]; exact ⟨_, _, _, rfl, rfl, h0⟩
  rw [if_neg (ni_nn (by omega)), if_neg (ni_nn (by omega)), if_pos (by rw [show (39 : Int32) = nI 39 from rfl, nI_ltI (by omega) (by decide)]; exact hj9), if_pos (by rw [show (38 : Int32) = nI 38 from rfl, nI_leI (by omega) (by decide)]; omega), pg_eq.1, st_s, pg_eq.2]
  unfold fn_C_turnBit
  rw [ni_d8 p31, d8]
  simp only [gd_s (inb_n hp (by decide : 48 < 2 ^ 31)), gd_s (inb_n hb (by decide : 6 < 2 ^ 31)), st_s, rr_n p31, rr_n b31, rc_n b31, rl_n p31, wr_n p31, wl_n p31]
  rw [(hs.1.1 b hb).2.2, (hs.2.1.1 b hb).2]
  cases B b with
  | true => rw [bI_t, if_neg (by decide), if_neg (by decide), bd_s, gd_s (by decide)]; exact ⟨_, _, _, rfl, rfl, h0⟩
  | false =>
    rw [bI_f, if_pos rfl, if_pos rfl, c_prog hs.1 hp, bd_s]
    cases e : pgm N (8 * b + i) with
    | false => rw [bI_f, if_pos rfl, hs.2.1.2.1 _ hp e, if_pos rfl, bd_s, gd_s (by decide)]; exact ⟨_, _, _, rfl, rfl, h0⟩
    | true =>
      obtain ⟨g0, g1, -⟩ : PgR R (8 * b + i) (T (8 * b + i)) := hs.2.1.2.2 _ hp e
      have hf := (hs.2.2.1.1 _ hp e).2
      rw [bI_t, if_neg (show ¬ (1 : Int32) = 0 by decide), g1, if_neg (show ¬ nI (1 + T (8 * b + i) / 256 % 2) = 0 by rw [ni_n0 (by omega)]; omega), c_unread hp hf, bd_s]
      by_cases u : R 10 (8 * b + i) < 0
      · rw [decide_eq_true u, show bI (!true) = 0 from rfl, if_pos rfl, if_pos u, bd_s, gd_s (by decide)]
        have fin : ∀ (f9 f10 : Nat → Int32), (∀ q, q ≠ 8 * b + i → f9 q = R 9 q ∧ f10 q = R 10 q) → flipOK (C.2 (8 * b + i) ^^^ bitL j) (f9 (8 * b + i)) (f10 (8 * b + i)) → ∀ R1 : TR, (∀ k, k ≠ 9 → k ≠ 10 → R1 k = R k) → R1 9 = f9 → R1 10 = f10 → Iv (C.1, vp_updL C.2 (8 * b + i) (C.2 (8 * b + i) ^^^ bitL j)) R1 := fun f9 f10 hq hfl R1 hR h9 h10 => by
          refine ⟨T, N, B, ⟨hs.1, ?_, ⟨?_, ?_⟩, ?_⟩, hpr, ?_, ?_, ?_, ?_⟩
          · unfold RS; rw [hR 12 (by decide) (by decide), hR 1 (by decide) (by decide), hR 2 (by decide) (by decide), hR 3 (by decide) (by decide), hR 4 (by decide) (by decide), hR 6 (by decide) (by decide), hR 7 (by decide) (by decide), hR 8 (by decide) (by decide)]; exact hs.2.1
          · intro q q1 q2
            rw [hR 5 (by decide) (by decide), h9, h10]
            by_cases w : q = 8 * b + i
            · subst w; exact ⟨(hs.2.2.1.1 _ q1 q2).1, by show flipOK (vp_updL _ _ _ _) _ _; rw [updL_s]; exact hfl⟩
            · have := hs.2.2.1.1 q q1 q2
              exact ⟨this.1, by show flipOK (vp_updL _ _ _ _) _ _; rw [updL_n w, (hq q w).1, (hq q w).2]; exact this.2⟩
          · rw [hR 15 (by decide) (by decide), hR 13 (by decide) (by decide), hR 14 (by decide) (by decide)]; exact hs.2.2.1.2
          · unfold SC; rw [hR 0 (by decide) (by decide)]; exact hs.2.2.2
          · refine NU_mono hnu (fun k t w hk => ?_)
            unfold at' at hk ⊢
            cases e5 : ufx T N k with
            | none => rw [e5] at hk; cases hk
            | some q =>
              rw [e5] at hk
              have hk : some (atp T R1 q) = some (t, w, true) := hk
              show some (atp T R q) = some (t, w, true)
              rw [← hk]
              have z3 : (atp T R1 q).2.2 = true := by rw [Option.some.inj hk]
              unfold atp at z3 ⊢
              rw [hR 5 (by decide) (by decide)]
              have z3 : decide (R1 10 q < 0) = true := z3
              rw [z3]
              congr 3
              rw [decide_eq_true_iff]
              by_cases w : q = 8 * b + i
              · rw [w]; exact u
              · rw [h10, (hq q w).2, decide_eq_true_iff] at z3; exact z3
          · rw [hR 0 (by decide) (by decide)]; exact hj.1
          · rw [hR 0 (by decide) (by decide)]; exact hj.2.1
          · rw [hR 0 (by decide) (by decide)]; exact hj.2.2
        have u9 : ∀ v : Int32, ∀ q, q ≠ 8 * b + i → upd (R 9) (8 * b + i) v q = R 9 q ∧ R 10 q = R 10 q := fun v q hq => ⟨upd_n hq, rfl⟩
        have r9 : ∀ v : Int32, ∀ k, k ≠ 9 → k ≠ 10 → up2 R 9 (8 * b + i) v k = R k := fun v k k1 _ => up2_n k1
        rcases hf with ⟨f1, f2, f3⟩ | ⟨a, ha, f1, f2, f3⟩ | ⟨a, a2, ha, ha2, hne, f1, f2, f3⟩
        · rw [f1, if_neg (show ¬ (0 : Int32) ≤ -1 by decide)]
          exact ⟨1, _, _, rfl, rfl, fin (upd (R 9) (8 * b + i) (nI j)) (R 10) (u9 _) (by rw [upd_s, f2, f3, bx_0 j hj9]; exact Or.inr (Or.inl ⟨j, hj9, rfl, rfl, rfl⟩)) _ (r9 _) rfl rfl⟩
        · rw [f1, if_pos (show 0 ≤ nI a from nI_pos' (by omega))]
          by_cases w : a = j
          · subst w
            rw [if_pos rfl]
            exact ⟨1, _, _, rfl, rfl, fin (upd (R 9) (8 * b + i) (-1)) (R 10) (u9 _) (by rw [upd_s, f2, f3, bx_s a hj9]; exact Or.inl ⟨rfl, rfl, rfl⟩) _ (r9 _) rfl rfl⟩
          · rw [if_neg (by rw [nI_eq (by omega) (by omega)]; exact w)]
            exact ⟨1, _, _, rfl, rfl, fin (R 9) (upd (R 10) (8 * b + i) (nI j)) (fun q hq => ⟨rfl, upd_n hq⟩) (by rw [upd_s, f1, f3]; exact Or.inr (Or.inr ⟨a, j, ha, hj9, w, rfl, rfl, rfl⟩)) _ (fun k _ k2 => up2_n k2) rfl rfl⟩
        · rw [f2] at u; exact absurd u (ni_nn (by omega))
      · rw [decide_eq_false u, show bI (!false) = 1 from rfl, if_neg (show ¬ (1 : Int32) = 0 by decide), if_neg u, bd_s, gd_s (by decide)]; exact ⟨_, _, _, rfl, rfl, h0⟩
theorem Iv_off {C : TC} {R : TR} {T N : Nat → Nat} {B : Nat → Bool} (h : Sm C R T N B) (hp : Pr T N) (hn : NU (at' T N R)) (h0 : R 0 0 = 0) : Iv (fc C 0 0 0) R :=
  ⟨T, N, B, h, hp, hn, h0.symm, Or.inl h0, fun z => by rw [h0] at z; cases z⟩
theorem c_tou_lp : ∀ (m n i : Nat) (C : TC), i + m = 6 → m < n → ∃ C1, lp_C_fillRegion_16 n C (nI i) = some (1, C1) ∧ (∀ k, k ≠ 9 → C1.1 k = C.1 k) ∧ C1.2 = C.2 ∧ ∀ q, C1.1 9 q = if i ≤ q ∧ q < 6 then 0 else C.1 9 q := by
  intro m
  induction m with
  | zero =>
    intro n i C hi hn
    obtain ⟨n, rfl⟩ := pred_n hn
    rw [le_C_fillRegion_16, if_pos ((ni_6 (i := i) (by omega)).mpr (by omega))]
    exact ⟨C, rfl, fun _ _ => rfl, rfl, fun q => by rw [if_neg (by omega)]⟩
  | succ m ih =>
    intro n i C hi hn
    obtain ⟨n, rfl⟩ := pred_n hn
    rw [le_C_fillRegion_16, if_neg (fun z => by have := (ni_6 (i := i) (by omega)).mp z; omega), gd_s (inb_n (by omega) (by decide)), st_s, st_s, wc_n (by omega), ni_inc]
    obtain ⟨C1, a1, a2, a3, a4⟩ := ih n (i + 1) (up2 C.1 9 i 0, C.2) (by omega) (by omega)
    refine ⟨C1, a1, fun k hk => (a2 k hk).trans (up2_n hk), a3, fun q => ?_⟩
    rw [a4 q]
    show (if i + 1 ≤ q ∧ q < 6 then 0 else upd (C.1 9) i 0 q) = _
    by_cases w : q = i
    · rw [w, if_neg (by omega), upd_s, if_pos (by omega)]
    · rw [upd_n w]
      by_cases w2 : i + 1 ≤ q ∧ q < 6
      · rw [if_pos w2, if_pos (by omega)]
      · rw [if_neg w2, if_neg (by omega)]
def lvS (T N : Nat → Nat) (b : Nat) : Nat := cn (lv T N) 8 (8 * b)
theorem c_live_lp {C : TC} {T N : Nat → Nat} {B : Nat → Bool} (h : CS C T N B) : ∀ (m n i k : Nat), i + m = 6 → m < n → lp_C_countLive_4 n C (nI k) (nI i) = some (nI (k + sm (lvS T N) m i), C) := by
  intro m
  induction m with
  | zero =>
    intro n i k hi hn
    obtain ⟨n, rfl⟩ := pred_n hn
    rw [le_C_countLive_4, if_pos ((ni_6 (i := i) (by omega)).mpr (by omega))]; rfl
  | succ m ih =>
    intro n i k hi hn
    obtain ⟨n, rfl⟩ := pred_n hn
    rw [le_C_countLive_4, if_neg (fun z => by have := (ni_6 (i := i) (by omega)).mp z; omega), c_lives h (by omega), bd_s, st_s, st_s, nI_add, ni_inc, ih n (i + 1) _ (by omega) (by omega), sm_s, Nat.add_assoc]
    rfl
theorem RS14 {R R1 : TR} {T N : Nat → Nat} {B : Nat → Bool} (h : RS R T N B) (hR : ∀ k, k ≠ 14 → R1 k = R k) : RS R1 T N B := by
  unfold RS; rw [hR 12 (by decide), hR 1 (by decide), hR 2 (by decide), hR 3 (by decide), hR 4 (by decide), hR 6 (by decide), hR 7 (by decide), hR 8 (by decide)]; exact h
theorem r_chk_lp {T N : Nat → Nat} {B : Nat → Bool} : ∀ (m n i k : Nat) (R : TR), RS R T N B → i + m = 6 → m < n → ∃ R1, lp_M_checkpoint_41 n R (nI k) (nI i) = some (nI (k + sm (lvS T N) m i), R1) ∧ (∀ j, j ≠ 14 → R1 j = R j) ∧ ∀ q, R1 14 q = if i ≤ q ∧ q < 6 then 0 else R 14 q := by
  intro m
  induction m with
  | zero =>
    intro n i k R h hi hn
    obtain ⟨n, rfl⟩ := pred_n hn
    rw [le_M_checkpoint_41, if_pos ((ni_6 (i := i) (by omega)).mpr (by omega))]
    exact ⟨R, rfl, fun _ _ => rfl, fun q => by rw [if_neg (by omega)]⟩
  | succ m ih =>
    intro n i k R h hi hn
    obtain ⟨n, rfl⟩ := pred_n hn
    have h1 : RS (up2 R 14 i 0) T N B := RS14 h (fun j hj => up2_n hj)
    rw [le_M_checkpoint_41, if_neg (fun z => by have := (ni_6 (i := i) (by omega)).mp z; omega), gd_s (inb_n (by omega) (by decide)), st_s, wr_n (by omega), r_lives h1 (by omega), bd_s, st_s, st_s, nI_add, ni_inc]
    obtain ⟨R1, a1, a2, a3⟩ := ih n (i + 1) (k + cn (lv T N) 8 (8 * i)) (up2 R 14 i 0) h1 (by omega) (by omega)
    refine ⟨R1, ?_, fun j hj => (a2 j hj).trans (up2_n hj), fun q => ?_⟩
    · rw [a1, sm_s, Nat.add_assoc]; rfl
    · rw [a3 q, up2_s]
      by_cases w : q = i
      · rw [w, if_neg (by omega), upd_s, if_pos (by omega)]
      · rw [upd_n w]
        by_cases w2 : i + 1 ≤ q ∧ q < 6
        · rw [if_pos w2, if_pos (by omega)]
        · rw [if_neg w2, if_neg (by omega)]
theorem op_checkpoint {C : TC} {R : TR} (h : Iv C R) : Op (fn_S_checkpoint C) (fn_M_checkpoint R) := by
  have h0 := h
  obtain ⟨T, N, B, hs, hpr, hnu, h4, h5, h6⟩ := h
  have n10 : ¬ (1 : Int32) = 0 := by decide
  unfold fn_S_checkpoint fn_M_checkpoint
  rw [st_s, st_s, h4]
  rcases h5 with w | w
  · rw [w, if_pos rfl, if_pos rfl]; exact ⟨_, _, _, rfl, rfl, h0⟩
  rw [w, if_neg n10, if_neg n10]
  obtain ⟨v, C1, R1, e1, e2, f1, f2, f3, f4, f5⟩ := s_step hs.2.2.2
  have hs1 := hs.same f1 f2 f3 f4
  have nu1 : NU (at' T N R1) := by rw [show at' T N R1 = at' T N R from funext (at_R (f3 5 (by decide)) (f3 10 (by decide)))]; exact hnu
  unfold fn_C_dropRegion
  rw [e1, e2, bd_s, bd_s]
  cases v with
  | false =>
    rw [bI_f, if_pos rfl, if_pos rfl, bd_s, if_pos rfl]
    exact ⟨-9, fc C1 0 0 0, R1, rfl, rfl, Iv_off hs1 hpr nu1 f5.2.2.2.1⟩
  | true =>
    rw [bI_t, if_neg n10, if_neg n10, st_s, bd_s, if_neg n10, st_s]
    have hs2 : Sm (fc C1 1 0 0) (fr R1 0 1 0) T N B := ⟨hs1.1, hs1.2.1, hs1.2.2.1, rfl, hs1.2.2.2.2.1, hs1.2.2.2.2.2.1, Or.inl rfl⟩
    obtain ⟨v, C2, R2, d1, d2, k1, k2, k3, k4, k5⟩ := s_step hs2.2.2.2
    have hs3 := hs2.same k1 k2 k3 k4
    have nu2 : NU (at' T N R2) := by rw [show at' T N R2 = at' T N R1 from funext (at_R (k3 5 (by decide)) (k3 10 (by decide)))]; exact nu1
    unfold fn_C_fillRegion
    rw [d1, d2, bd_s, bd_s]
    cases v with
    | false =>
      rw [bI_f, if_pos rfl, if_pos rfl, bd_s, if_pos rfl]
      exact ⟨-9, fc C2 0 0 0, R2, rfl, rfl, Iv_off hs3 hpr nu2 k5.2.2.2.1⟩
    | true =>
      rw [bI_t, if_neg n10, if_neg n10, st_s, st_s]
      have hs4 : Sm (fc C2 1 0 1) (fr R2 0 1 1) T N B := ⟨hs3.1, hs3.2.1, hs3.2.2.1, rfl, hs3.2.2.2.2.1, hs3.2.2.2.2.2.1, Or.inr rfl⟩
      obtain ⟨C3, a1, a2, a3, a4⟩ := c_tou_lp 6 64 0 (fc C2 1 0 1) rfl (by decide)
      obtain ⟨R3, b1, b2, b3⟩ := r_chk_lp (T := T) (N := N) (B := B) 6 64 0 0 (fr R2 0 1 1) hs4.2.1 rfl (by decide)
      have c3 : CS C3 T N B := by unfold CS; rw [a2 5 (by decide), a2 8 (by decide), a2 2 (by decide)]; exact hs4.1
      have e4 := c_live_lp c3 6 64 0 0 rfl (by decide)
      rw [show lp_C_fillRegion_16 64 (fc C2 1 0 1) 0 = some (1, C3) from a1, bd_s, if_neg n10]
      rw [show fn_C_countLive C3 = _ from e4, bd_s]
      refine ⟨nI (0 + sm (lvS T N) 6 0), C3, R3, rfl, b1, T, N, B, ⟨c3, RS14 hs4.2.1 b2, ⟨?_, ?_⟩, ?_⟩, hpr, ?_, ?_, ?_, ?_⟩
      · rw [a2 3 (by decide), a3, b2 5 (by decide), b2 9 (by decide), b2 10 (by decide)]; exact hs4.2.2.1.1
      · intro i hi
        rw [a2 6 (by decide), a2 7 (by decide), b2 15 (by decide), b2 13 (by decide), a4, b3, if_pos (by omega), if_pos (by omega)]
        have z := hs4.2.2.1.2 i hi
        exact ⟨z.1, z.2.1, rfl, z.2.2.2.1, Or.inl rfl⟩
      · unfold SC; rw [a2 1 (by decide), b2 0 (by decide)]; exact hs4.2.2.2
      · rw [show at' T N R3 = at' T N R2 from funext (at_R ((b2 5 (by decide)).trans rfl) ((b2 10 (by decide)).trans rfl))]; exact nu2
      · rw [a2 0 (by decide), b2 0 (by decide)]
        show C2.1 0 0 = R2 0 0
        rw [k5.1, k5.2.2.2.1]
        show C1.1 0 0 = R1 0 0
        rw [f5.1, f5.2.2.2.1]
        exact h4
      · rw [b2 0 (by decide)]
        show isB (R2 0 0)
        rw [k5.2.2.2.1]
        show isB (R1 0 0)
        rw [f5.2.2.2.1]
        exact Or.inr w
      · exact fun _ => h6 w
