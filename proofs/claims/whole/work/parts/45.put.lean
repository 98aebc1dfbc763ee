/-! A page is programmed; a put. -/
theorem pgm_up {N : Nat → Nat} {b p : Nat} (hp : p = 8 * b + N b) (hn : N b < 8) (q : Nat) : pgm (upN N b (N b + 1)) q = true ↔ pgm N q = true ∨ q = p := by
  unfold pgm
  rw [decide_eq_true_iff, decide_eq_true_iff]
  by_cases e : q / 8 = b
  · rw [e, upN_s]
    constructor
    · intro h; omega
    · intro h; omega
  · rw [upN_n e]
    constructor
    · intro h; exact Or.inl h
    · intro h
      rcases h with h | h
      · exact h
      · exact absurd (by rw [h, hp]; omega) e
theorem pgm_new {N : Nat → Nat} {b p : Nat} (hp : p = 8 * b + N b) (hn : N b < 8) : pgm N p = false := by
  unfold pgm
  rw [decide_eq_false_iff_not, show p / 8 = b by omega]
  omega
def pgC (C : TC) (p b n V : Nat) (w : Int32) (y : Int64) : TC := (up2 (up2 (up2 (up2 C.1 2 p (nI V)) 3 p w) 5 b (nI n)) 9 b 1, vp_updL C.2 p y)
def pgR (R : TR) (p b V : Nat) (w f s : Int32) : TR := up2 (up2 (up2 (up2 (up2 (up2 (up2 (up2 (up2 (up2 (up2 R 1 p 1) 2 p (nI (V % 8))) 3 p (nI (V / 8 % 8))) 4 p (nI (V / 64 % 4))) 5 p w) 6 p (nI (V / 512 % 8))) 7 p (nI (V / 4096 % 8))) 8 p (nI (V / 32768 % 2))) 9 p f) 10 p s) 14 b 1
theorem updL_s {f : Nat → Int64} {k : Nat} {x : Int64} : vp_updL f k x k = x := if_pos rfl
theorem updL_n {f : Nat → Int64} {k j : Nat} {x : Int64} (h : j ≠ k) : vp_updL f k x j = f j := if_neg h
theorem Sm.prog {C : TC} {R : TR} {T N : Nat → Nat} {B : Nat → Bool} (h : Sm C R T N B) {b p V : Nat} {w f s : Int32} {y : Int64} (hb : b < 6) (hp : p = 8 * b + N b) (hn : N b < 8) (hV : V < 65536) (hm : V / 256 % 2 = 0) (hf : flipOK y f s) :
    Sm (pgC C p b (N b + 1) V w y) (pgR R p b V w f s) (upN T p V) (upN N b (N b + 1)) B := by
  obtain ⟨⟨c1, c2⟩, ⟨r1, r2, r3⟩, ⟨q1, q2⟩, hs⟩ := h
  have hnew := pgm_new hp hn
  have ne : ∀ q, pgm N q = true → q ≠ p := fun q hq e => by rw [e, hnew] at hq; cases hq
  refine ⟨⟨?_, ?_⟩, ⟨?_, ?_, ?_⟩, ⟨?_, tou_upd (C := C) (R := R) (b0 := b) q2 rfl rfl⟩, hs⟩
  · intro i hi
    show upN N b (N b + 1) i ≤ 8 ∧ upd (C.1 5) b (nI (N b + 1)) i = nI (upN N b (N b + 1) i) ∧ C.1 8 i = bI (B i)
    by_cases e : i = b
    · subst e; rw [upN_s, upd_s]; exact ⟨by omega, rfl, (c1 i hi).2.2⟩
    · rw [upN_n e, upd_n e]; exact c1 i hi
  · intro q hq hg
    show upN T p V q < 65536 ∧ upd (C.1 2) p (nI V) q = nI (upN T p V q)
    rcases (pgm_up hp hn q).mp hg with g | g
    · rw [upN_n (ne q g), upd_n (ne q g)]; exact c2 q hq g
    · subst g; rw [upN_s, upd_s]; exact ⟨hV, rfl⟩
  · intro i hi
    show upN N b (N b + 1) i ≤ 8 ∧ R 12 i = bI (B i)
    by_cases e : i = b
    · subst e; rw [upN_s]; exact ⟨by omega, (r1 i hi).2⟩
    · rw [upN_n e]; exact r1 i hi
  · intro q hq hg
    show upd (R 1) p 1 q = 0
    have g1 : ¬ (pgm N q = true ∨ q = p) := fun z => by rw [(pgm_up hp hn q).mpr z] at hg; cases hg
    rw [upd_n (fun e => g1 (Or.inr e))]
    exact r2 q hq (by cases z : pgm N q with
      | false => rfl
      | true => exact absurd (Or.inl z) g1)
  · intro q hq hg
    show PgR (pgR R p b V w f s) q (upN T p V q)
    rcases (pgm_up hp hn q).mp hg with g | g
    · have e := ne q g
      rw [upN_n e]
      obtain ⟨g0, g1, g2, g3, g4, g6, g7, g8⟩ : PgR R q (T q) := r3 q hq g
      exact ⟨g0, (show upd (R 1) p _ q = _ from (upd_n e).trans g1), (show upd (R 2) p _ q = _ from (upd_n e).trans g2), (show upd (R 3) p _ q = _ from (upd_n e).trans g3), (show upd (R 4) p _ q = _ from (upd_n e).trans g4), (show upd (R 6) p _ q = _ from (upd_n e).trans g6), (show upd (R 7) p _ q = _ from (upd_n e).trans g7), (show upd (R 8) p _ q = _ from (upd_n e).trans g8)⟩
    · subst g
      rw [upN_s]
      exact ⟨hV, (show upd (R 1) q 1 q = _ by rw [upd_s, hm]; rfl), (show upd (R 2) q _ q = _ from upd_s), (show upd (R 3) q _ q = _ from upd_s), (show upd (R 4) q _ q = _ from upd_s), (show upd (R 6) q _ q = _ from upd_s), (show upd (R 7) q _ q = _ from upd_s), (show upd (R 8) q _ q = _ from upd_s)⟩
  · intro q hq hg
    show upd (C.1 3) p w q = upd (R 5) p w q ∧ flipOK (vp_updL C.2 p y q) (upd (R 9) p f q) (upd (R 10) p s q)
    rcases (pgm_up hp hn q).mp hg with g | g
    · have e := ne q g
      rw [upd_n e, upd_n e, upd_n e, upd_n e, updL_n e]; exact q1 q hq g
    · subst g; rw [upd_s, upd_s, upd_s, upd_s, updL_s]; exact ⟨rfl, hf⟩
theorem nxb_some {N : Nat → Nat} {B : Nat → Bool} {b : Nat} (h : nxb N B = some b) (hN : ∀ b, b < 6 → N b ≤ 8) : b < 6 ∧ N b < 8 ∧ B b = false := by
  unfold nxb at h
  cases q : fx (nP1 N B) 6 0 with
  | some x =>
    rw [q] at h; cases h
    have e := fx_some 6 0 b q
    have z := e.2.2
    unfold nP1 at z
    rw [Bool.and_eq_true, Bool.and_eq_true, decide_eq_true_iff, decide_eq_true_iff, Bool.not_eq_true'] at z
    exact ⟨by omega, z.2.2, z.1⟩
  | none =>
    rw [q] at h
    have e := fx_some 6 0 b h
    have z := e.2.2
    unfold nP0 at z
    rw [Bool.and_eq_true, decide_eq_true_iff, Bool.not_eq_true'] at z
    exact ⟨by omega, by omega, z.1⟩
/-- the class programs the next page -/
theorem c_program {C C1 : TC} {T N : Nat → Nat} {B : Nat → Bool} (h : CS C T N B) {b V : Nat} {w : Int32} {y : Int64} {v : Bool} (hx : nxb N B = some b) (h1 : CS C1 T N B) (hst : fn_C_takeStep C = some (bI v, C1)) :
    fn_C_program C (nI V) w y = some (bI v, cond v (pgC C1 (8 * b + N b) b (N b + 1) V w y) C1) := by
  obtain ⟨hb, hn, -⟩ := nxb_some hx (fun b hb => (h.1 b hb).1)
  unfold fn_C_program
  rw [c_next h, hx, bd_s, show ixI (some b) = nI b from rfl, if_neg (ni_m1 (by omega)), hst, bd_s]
  cases v with
  | false => rw [bI_f, if_pos rfl]; rfl
  | true =>
    have hc := (h1.1 b hb).2.1
    have e8 : nI b * (8 : Int32) + nI (N b) = nI (8 * b + N b) := by rw [show (8 : Int32) = nI 8 from rfl, pk_mul, nI_add, Nat.mul_comm]
    have p48 : 8 * b + N b < 48 := by omega
    rw [bI_t, if_neg (by decide)]
    simp only [gd_s (inb_n hb (by decide : 6 < 2 ^ 31)), st_s, rc_n (show b < 2 ^ 31 by omega), hc, e8, gd_s (inb_n p48 (by decide : 48 < 2 ^ 31)), wc_n (show 8 * b + N b < 2 ^ 31 by omega), wl_n (show 8 * b + N b < 2 ^ 31 by omega), wc_n (show b < 2 ^ 31 by omega)]
    have e5 : (up2 (up2 C1.1 2 (8 * b + N b) (nI V)) 3 (8 * b + N b) w) 5 b = nI (N b) := hc
    rw [e5, ni_inc]
    rfl
