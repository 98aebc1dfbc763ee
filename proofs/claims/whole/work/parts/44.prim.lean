/-! Turned bits; the relation between the two sides; a step; a mark. -/
def bitL (i : Nat) : Int64 := (1 : Int64) <<< ((nI i).toInt64 &&& 63)
def bcN (y : Int64) : Int32 := match fn_J_bitCount ((fun _ _ => 0, fun _ => 0) : TC) y with
  | none => 0
  | some z => z.1
theorem bc_eq (C : TC) (y : Int64) : fn_J_bitCount C y = some (bcN y, C) := rfl
theorem bc_0 : bcN 0 < 2 := by decide +kernel
theorem bc_1 : ∀ i, i < 39 → bcN (bitL i) < 2 := by decide +kernel
theorem bc_2 : ∀ i, i < 39 → ∀ j, j < 39 → i ≠ j → ¬ bcN (bitL i ^^^ bitL j) < 2 := by decide +kernel
def flipOK (y : Int64) (f s : Int32) : Prop := (f = -1 ∧ s = -1 ∧ y = 0) ∨ (∃ i, i < 39 ∧ f = nI i ∧ s = -1 ∧ y = bitL i) ∨ (∃ i j, i < 39 ∧ j < 39 ∧ i ≠ j ∧ f = nI i ∧ s = nI j ∧ y = bitL i ^^^ bitL j)
theorem flip_bc {y : Int64} {f s : Int32} (h : flipOK y f s) : bcN y < 2 ↔ s < 0 := by
  rcases h with ⟨rfl, rfl, rfl⟩ | ⟨i, hi, rfl, rfl, rfl⟩ | ⟨i, j, hi, hj, hne, rfl, rfl, rfl⟩
  · exact ⟨fun _ => by decide, fun _ => bc_0⟩
  · exact ⟨fun _ => by decide, fun _ => bc_1 i hi⟩
  · exact ⟨fun q => absurd q (bc_2 i hi j hj hne), fun q => absurd q (nI_pos (by omega))⟩
def EQA (C : TC) (R : TR) (N : Nat → Nat) : Prop := (∀ p, p < 48 → pgm N p = true → C.1 3 p = R 5 p ∧ flipOK (C.2 p) (R 9 p) (R 10 p)) ∧
  ∀ b, b < 6 → C.1 6 b = R 15 b ∧ C.1 7 b = R 13 b ∧ C.1 9 b = R 14 b ∧ isB (R 13 b) ∧ isB (R 14 b)
def SC (C : TC) (R : TR) : Prop := C.1 1 0 = R 0 1 ∧ C.1 1 1 = R 0 3 ∧ C.1 1 2 = R 0 2 ∧ isB (R 0 1)
def Sm (C : TC) (R : TR) (T N : Nat → Nat) (B : Nat → Bool) : Prop := CS C T N B ∧ RS R T N B ∧ EQA C R N ∧ SC C R
/-- what a step, a mark, a put leave as it was besides -/
def Fr (C : TC) (R : TR) (C1 : TC) (R1 : TR) (v : Bool) : Prop := C1.1 0 = C.1 0 ∧ C1.1 10 = C.1 10 ∧ R1 11 = R 11 ∧ R1 0 0 = cond v (R 0 0) 0 ∧ ∀ j, 4 ≤ j → R1 0 j = R 0 j
theorem up2_s {f : Nat → Nat → Int32} {k j : Nat} {x : Int32} : up2 f k j x k = upd (f k) j x := by
  unfold up2; rw [show Nat.beq k k = true from Nat.beq_refl k]; rfl
theorem up2_n {f : Nat → Nat → Int32} {k k' j : Nat} {x : Int32} (h : k' ≠ k) : up2 f k j x k' = f k' := by
  unfold up2
  cases q : Nat.beq k' k with
  | true => exact absurd (Nat.eq_of_beq_eq_true q) h
  | false => rfl
theorem upd_s {f : Nat → Int32} {k : Nat} {x : Int32} : upd f k x k = x := if_pos rfl
theorem upd_n {f : Nat → Int32} {k j : Nat} {x : Int32} (h : j ≠ k) : upd f k x j = f j := if_neg h
theorem s_step {C : TC} {R : TR} (h : SC C R) : ∃ (v : Bool) (C1 : TC) (R1 : TR), fn_C_takeStep C = some (bI v, C1) ∧ fn_M_step R = some (bI v, R1) ∧ (∀ k, k ≠ 1 → C1.1 k = C.1 k) ∧ C1.2 = C.2 ∧ (∀ k, k ≠ 0 → R1 k = R k) ∧ SC C1 R1 ∧ Fr C R C1 R1 v := by
  obtain ⟨h0, h1, h2, h3⟩ := h
  unfold fn_C_takeStep fn_M_step
  simp only [st_s, h2]
  by_cases q : R 0 2 = 0
  · rw [if_pos q, if_pos q]
    refine ⟨false, _, _, rfl, rfl, fun k hk => up2_n hk, rfl, fun k hk => ?_, ⟨h0, h1, rfl, h3⟩, rfl, rfl, rfl, rfl, fun j hj => ?_⟩
    · show up2 (up2 R 0 2 _) 0 0 _ k = _; rw [up2_n hk, up2_n hk]
    · show upd (upd (R 0) 2 _) 0 _ j = _; rw [upd_n (by omega), upd_n (by omega)]
  · rw [if_neg q, if_neg q]
    by_cases w : R 0 2 ≤ 0
    · rw [if_pos w, if_pos w]
      refine ⟨true, _, _, rfl, rfl, fun k hk => up2_n hk, rfl, fun k hk => ?_, ⟨h0, ?_, h2, h3⟩, rfl, rfl, rfl, rfl, fun j hj => ?_⟩
      · show up2 (up2 R 0 2 _) 0 3 _ k = _; rw [up2_n hk, up2_n hk]
      · show C.1 1 1 + 1 = R 0 3 + 1; rw [h1]
      · show upd (upd (R 0) 2 _) 3 _ j = _; rw [upd_n (by omega), upd_n (by omega)]
    · rw [if_neg w, if_neg w]
      refine ⟨true, _, _, rfl, rfl, fun k hk => ?_, rfl, fun k hk => ?_, ⟨h0, ?_, rfl, h3⟩, rfl, rfl, rfl, rfl, fun j hj => ?_⟩
      · show up2 (up2 C.1 1 2 _) 1 1 _ k = _; rw [up2_n hk, up2_n hk]
      · show up2 (up2 R 0 2 _) 0 3 _ k = _; rw [up2_n hk, up2_n hk]
      · show C.1 1 1 + 1 = R 0 3 + 1; rw [h1]
      · show upd (upd (R 0) 2 _) 3 _ j = _; rw [upd_n (by omega), upd_n (by omega)]
/-- the arrays are the same: so is the picture -/
theorem Sm.same {C C1 : TC} {R R1 : TR} {T N : Nat → Nat} {B : Nat → Bool} (h : Sm C R T N B) (hC : ∀ k, k ≠ 1 → C1.1 k = C.1 k) (h2 : C1.2 = C.2) (hR : ∀ k, k ≠ 0 → R1 k = R k) (hs : SC C1 R1) : Sm C1 R1 T N B := by
  obtain ⟨hc, hr, he, -⟩ := h
  refine ⟨?_, ?_, ?_, hs⟩
  · unfold CS; rw [hC 5 (by decide), hC 8 (by decide), hC 2 (by decide)]; exact hc
  · unfold RS; rw [hR 12 (by decide), hR 1 (by decide), hR 2 (by decide), hR 3 (by decide), hR 4 (by decide), hR 6 (by decide), hR 7 (by decide), hR 8 (by decide)]; exact hr
  · unfold EQA; rw [hC 3 (by decide), hC 6 (by decide), hC 7 (by decide), hC 9 (by decide), h2, hR 5 (by decide), hR 9 (by decide), hR 10 (by decide), hR 13 (by decide), hR 14 (by decide), hR 15 (by decide)]; exact he
def upN (f : Nat → Nat) (k v : Nat) : Nat → Nat := fun j => if j = k then v else f j
theorem upN_s {f : Nat → Nat} {k v : Nat} : upN f k v k = v := if_pos rfl
theorem upN_n {f : Nat → Nat} {k v j : Nat} (h : j ≠ k) : upN f k v j = f j := if_neg h
theorem or_256 {T : Nat} (hT : T < 65536) (h : T / 256 % 2 = 0) : nI T ||| 256 = nI (T + 256) := by
  have e := or_mid 8 1 (T % 256) 1 (T / 512) (by omega) (by decide)
  rw [show (256 : Int32) = nI (2 ^ 8 * 1) from rfl, ni_or, show T = T % 256 + 2 ^ 8 * (2 ^ 1 * (T / 512)) by omega, e]
  congr 1
  omega
theorem lv_t {T N : Nat → Nat} {p : Nat} (h : lv T N p = true) : pgm N p = true ∧ T p / 256 % 2 = 0 := by
  unfold lv at h; rw [Bool.and_eq_true, decide_eq_true_iff] at h; exact h
theorem wc_n {C : TC} {k p : Nat} {x : Int32} (h : p < 2 ^ 31) : wc C k (nI p) x = (up2 C.1 k p x, C.2) := by unfold wc; rw [nI_clamp h]
theorem wr_n {R : TR} {k p : Nat} {x : Int32} (h : p < 2 ^ 31) : wr R k (nI p) x = up2 R k p x := by unfold wr; rw [nI_clamp h]
theorem wl_n {C : TC} {p : Nat} {x : Int64} (h : p < 2 ^ 31) : wl C (nI p) x = (C.1, vp_updL C.2 p x) := by unfold wl; rw [nI_clamp h]
/-- touched blocks -/
theorem tou_upd {C : TC} {R : TR} {c9 r14 : Nat → Int32} {b0 : Nat} (h : ∀ b, b < 6 → C.1 6 b = R 15 b ∧ C.1 7 b = R 13 b ∧ C.1 9 b = R 14 b ∧ isB (R 13 b) ∧ isB (R 14 b)) (h9 : c9 = upd (C.1 9) b0 1) (h14 : r14 = upd (R 14) b0 1) : ∀ b, b < 6 → C.1 6 b = R 15 b ∧ C.1 7 b = R 13 b ∧ c9 b = r14 b ∧ isB (R 13 b) ∧ isB (r14 b) := by
  subst h9; subst h14
  intro b hb
  have q := h b hb
  by_cases e : b = b0
  · subst e; rw [upd_s, upd_s]; exact ⟨q.1, q.2.1, rfl, q.2.2.2.1, Or.inr rfl⟩
  · rw [upd_n e, upd_n e]; exact q
def PgR (R : TR) (p t : Nat) : Prop := t < 65536 ∧ R 1 p = nI (1 + t / 256 % 2) ∧ R 2 p = nI (t % 8) ∧ R 3 p = nI (t / 8 % 8) ∧ R 4 p = nI (t / 64 % 4) ∧ R 6 p = nI (t / 512 % 8) ∧ R 7 p = nI (t / 4096 % 8) ∧ R 8 p = nI (t / 32768 % 2)
theorem s_mark {C : TC} {R : TR} {T N : Nat → Nat} {B : Nat → Bool} (h : Sm C R T N B) {p : Nat} (hp : p < 48) (hl : lv T N p = true) : ∃ (v : Bool) (C1 : TC) (R1 : TR), fn_C_mark C (nI p) = some (bI v, C1) ∧ fn_M_mark R (nI p) = some (bI v, R1) ∧ Sm C1 R1 (cond v (upN T p (T p + 256)) T) N B ∧ Fr C R C1 R1 v ∧ R1 5 = R 5 ∧ R1 10 = R 10 := by
  obtain ⟨v, C1, R1, e1, e2, f1, f2, f3, f4, f5⟩ := s_step h.2.2.2
  have h1 := h.same f1 f2 f3 f4
  obtain ⟨hq, ht⟩ := lv_t hl
  unfold fn_C_mark fn_M_mark
  rw [e1, e2, bd_s, bd_s]
  cases v with
  | false =>
    rw [bI_f, if_pos rfl, if_pos rfl]
    exact ⟨false, C1, R1, rfl, rfl, h1, f5, f3 5 (by decide), f3 10 (by decide)⟩
  | true =>
    have hc := h1.1.2 p hp hq
    have hr : PgR R1 p (T p) := h1.2.1.2.2 p hp hq
    rw [bI_t, if_neg (by decide), if_neg (by decide)]
    simp only [gd_s (inb_n hp (by decide : 48 < 2 ^ 31)), st_s, rc_n (show p < 2 ^ 31 by omega), ni_d8 (show p < 2 ^ 31 by omega), gd_s (inb_n (show p / 8 < 6 by omega) (by decide : 6 < 2 ^ 31)), hc.2, or_256 hc.1 ht, wc_n (show p < 2 ^ 31 by omega), wr_n (show p < 2 ^ 31 by omega), wc_n (show p / 8 < 2 ^ 31 by omega), wr_n (show p / 8 < 2 ^ 31 by omega)]
    refine ⟨true, _, _, rfl, rfl, ⟨⟨h1.1.1, ?_⟩, ⟨h1.2.1.1, ?_, ?_⟩, ⟨h1.2.2.1.1, tou_upd (C := C1) (R := R1) (b0 := p / 8) h1.2.2.1.2 rfl rfl⟩, h1.2.2.2⟩, ⟨f5.1, f5.2.1, f5.2.2.1, f5.2.2.2.1, f5.2.2.2.2⟩, f3 5 (by decide), f3 10 (by decide)⟩
    · intro q hq1 hq2
      show upN T p (T p + 256) q < 65536 ∧ upd (C1.1 2) p (nI (T p + 256)) q = nI (upN T p (T p + 256) q)
      by_cases e : q = p
      · subst e; rw [upd_s, upN_s]; exact ⟨by omega, rfl⟩
      · rw [upd_n e, upN_n e]; exact h1.1.2 q hq1 hq2
    · intro q hq1 hq2
      show upd (R1 1) p 2 q = 0
      rw [upd_n (fun e => by rw [e, hq] at hq2; cases hq2)]
      exact h1.2.1.2.1 q hq1 hq2
    · intro q hq1 hq2
      show PgR (up2 (up2 R1 1 p 2) 14 (p / 8) 1) q (upN T p (T p + 256) q)
      by_cases e : q = p
      · subst e
        rw [upN_s]
        obtain ⟨g0, g1, g2, g3, g4, g6, g7, g8⟩ := hr
        refine ⟨by omega, ?_, ?_, ?_, ?_, ?_, ?_, ?_⟩
        · show upd (R1 1) q 2 q = _; rw [upd_s, show 1 + (T q + 256) / 256 % 2 = 2 by omega]; rfl
        · show R1 2 q = _; rw [g2, show (T q + 256) % 8 = T q % 8 by omega]
        · show R1 3 q = _; rw [g3, show (T q + 256) / 8 % 8 = T q / 8 % 8 by omega]
        · show R1 4 q = _; rw [g4, show (T q + 256) / 64 % 4 = T q / 64 % 4 by omega]
        · show R1 6 q = _; rw [g6, show (T q + 256) / 512 % 8 = T q / 512 % 8 by omega]
        · show R1 7 q = _; rw [g7, show (T q + 256) / 4096 % 8 = T q / 4096 % 8 by omega]
        · show R1 8 q = _; rw [g8, show (T q + 256) / 32768 % 2 = T q / 32768 % 2 by omega]
      · rw [upN_n e]
        obtain ⟨g0, g1, g2⟩ : PgR R1 q (T q) := h1.2.1.2.2 q hq1 hq2
        exact ⟨g0, (show upd (R1 1) p 2 q = _ from (upd_n e).trans g1), g2⟩
