/-! A put, on both sides. -/
def Vs (V s : Nat) : Nat := V % 64 + 64 * (s + 4 * (V / 256))
theorem Vs_ok {V s : Nat} (hV : V < 65536) (hs : s < 4) : Vs V s < 65536 ∧ Vs V s % 64 = V % 64 ∧ Vs V s / 64 % 4 = s ∧ Vs V s / 256 = V / 256 := by
  unfold Vs
  refine ⟨by omega, by omega, by omega, by omega⟩
def rwR (R : TR) (p b : Nat) (o c z w u n d f s : Int32) : TR := up2 (up2 (up2 (up2 (up2 (up2 (up2 (up2 (up2 (up2 (up2 R 1 p 1) 2 p o) 3 p c) 4 p z) 5 p w) 6 p u) 7 p n) 8 p d) 9 p f) 10 p s) 14 b 1
theorem rwR_eq {R : TR} {p b V : Nat} {o c z w u n d f s : Int32} (h1 : o = nI (V % 8)) (h2 : c = nI (V / 8 % 8)) (h3 : z = nI (V / 64 % 4)) (h4 : u = nI (V / 512 % 8)) (h5 : n = nI (V / 4096 % 8)) (h6 : d = nI (V / 32768 % 2)) : rwR R p b o c z w u n d f s = pgR R p b V w f s := by
  subst h1; subst h2; subst h3; subst h4; subst h5; subst h6; rfl
theorem ni_d4 {p : Nat} (h : p < 2 ^ 31) : nI p - nI p / (4 : Int32) * (4 : Int32) = nI (p % 4) := by rw [show (4 : Int32) = nI 4 from rfl, pk_rem h (by decide) (by decide)]
theorem uz_1 {f : Nat → Nat → Int32} {j : Nat} {x : Int32} : up2 f 1 j x 0 = f 0 := rfl
theorem uz_2 {f : Nat → Nat → Int32} {j : Nat} {x : Int32} : up2 f 2 j x 0 = f 0 := rfl
theorem uz_3 {f : Nat → Nat → Int32} {j : Nat} {x : Int32} : up2 f 3 j x 0 = f 0 := rfl
theorem uz_4 {f : Nat → Nat → Int32} {j : Nat} {x : Int32} : up2 f 4 j x 0 = f 0 := rfl
theorem uz_5 {f : Nat → Nat → Int32} {j : Nat} {x : Int32} : up2 f 5 j x 0 = f 0 := rfl
theorem uz_6 {f : Nat → Nat → Int32} {j : Nat} {x : Int32} : up2 f 6 j x 0 = f 0 := rfl
theorem uz_7 {f : Nat → Nat → Int32} {j : Nat} {x : Int32} : up2 f 7 j x 0 = f 0 := rfl
theorem uz_8 {f : Nat → Nat → Int32} {j : Nat} {x : Int32} : up2 f 8 j x 0 = f 0 := rfl
theorem uz_9 {f : Nat → Nat → Int32} {j : Nat} {x : Int32} : up2 f 9 j x 0 = f 0 := rfl
theorem uz_10 {f : Nat → Nat → Int32} {j : Nat} {x : Int32} : up2 f 10 j x 0 = f 0 := rfl
theorem uz_14 {f : Nat → Nat → Int32} {j : Nat} {x : Int32} : up2 f 14 j x 0 = f 0 := rfl
theorem r_put0 {R R1 : TR} {T N : Nat → Nat} {B : Nat → Bool} (h : RS R T N B) {b o c : Nat} (ho : o < 8) (hc : c < 8) (hx : nxb N B = some b) (hst : fn_M_step R = some (bI false, R1)) (h4 : R 0 4 = nI o) (h5 : R 0 5 = nI c) : fn_M_put R = some (0, R1) := by
  obtain ⟨hb, hn, -⟩ := nxb_some hx (fun b hb => (h.1 b hb).1)
  unfold fn_M_put
  rw [st_s, st_s, h4, h5, r_page h ho hc, bd_s, r_next h, hx, bd_s, show npI N (some b) = nI (8 * b + N b) from rfl, if_neg (ni_nn (by omega)), hst, bd_s, bI_f, if_pos rfl]
theorem r_put1 {R R1 : TR} {T N : Nat → Nat} {B : Nat → Bool} (h : RS R T N B) {b o c : Nat} (ho : o < 8) (hc : c < 8) (hx : nxb N B = some b) (hst : fn_M_step R = some (bI true, R1)) (h4 : R 0 4 = nI o) (h5 : R 0 5 = nI c) (hB : isB (R1 0 9)) (hold : pgx T N o c = none) :
    fn_M_put R = some (1, rwR R1 (8 * b + N b) b (R1 0 4) (R1 0 5) 0 (R1 0 6) (R1 0 7) (R1 0 8) (R1 0 9) (R1 0 10) (R1 0 11)) := by
  obtain ⟨hb, hn, -⟩ := nxb_some hx (fun b hb => (h.1 b hb).1)
  have p48 : 8 * b + N b < 48 := by omega
  have d8 : (8 * b + N b) / 8 = b := by omega
  unfold fn_M_put
  rw [st_s, st_s, h4, h5, r_page h ho hc, bd_s, r_next h, hx, bd_s, show npI N (some b) = nI (8 * b + N b) from rfl, if_neg (ni_nn (by omega)), hst, bd_s, bI_t, if_neg (by decide), hold, show ixI none = -1 from rfl]
  simp only [gd_s (inb_n p48 (by decide : 48 < 2 ^ 31)), st_s, wr_n (show 8 * b + N b < 2 ^ 31 by omega), ni_d8 (show 8 * b + N b < 2 ^ 31 by omega), d8, gd_s (inb_n hb (by decide : 6 < 2 ^ 31)), wr_n (show b < 2 ^ 31 by omega), uz_1, uz_2, uz_3, uz_4, uz_5, uz_6, uz_7, uz_8, uz_9, uz_10, uz_14]
  rw [if_neg (by decide)]
  refine Eq.trans (gd_s hB) ?_
  rw [if_pos (by decide)]
  rfl
theorem r_put2 {R R1 : TR} {T N : Nat → Nat} {B : Nat → Bool} (h : RS R T N B) {b o c q : Nat} (ho : o < 8) (hc : c < 8) (hx : nxb N B = some b) (hst : fn_M_step R = some (bI true, R1)) (hR : ∀ k, k ≠ 0 → R1 k = R k) (h4 : R 0 4 = nI o) (h5 : R 0 5 = nI c) (hB : isB (R1 0 9)) (hold : pgx T N o c = some q) :
    fn_M_put R = bd (fn_M_mark (rwR R1 (8 * b + N b) b (R1 0 4) (R1 0 5) (nI ((T q / 64 + 1) % 4)) (R1 0 6) (R1 0 7) (R1 0 8) (R1 0 9) (R1 0 10) (R1 0 11)) (nI q)) fun x S => if x = 0 then some (0, S) else some (1, S) := by
  obtain ⟨hb, hn, -⟩ := nxb_some hx (fun b hb => (h.1 b hb).1)
  obtain ⟨hq, hl, -⟩ := pgx_some hold
  have p48 : 8 * b + N b < 48 := by omega
  have d8 : (8 * b + N b) / 8 = b := by omega
  have hs : R1 4 q = nI (T q / 64 % 4) := by rw [hR 4 (by decide)]; exact (h.2.2 q hq (lv_pgm hl)).2.2.2.2.1
  unfold fn_M_put
  rw [st_s, st_s, h4, h5, r_page h ho hc, bd_s, r_next h, hx, bd_s, show npI N (some b) = nI (8 * b + N b) from rfl, if_neg (ni_nn (by omega)), hst, bd_s, bI_t, if_neg (by decide), hold, show ixI (some q) = nI q from rfl]
  simp only [gd_s (inb_n p48 (by decide : 48 < 2 ^ 31)), st_s, wr_n (show 8 * b + N b < 2 ^ 31 by omega), ni_d8 (show 8 * b + N b < 2 ^ 31 by omega), d8, gd_s (inb_n hb (by decide : 6 < 2 ^ 31)), wr_n (show b < 2 ^ 31 by omega), gd_s (inb_n hq (by decide : 48 < 2 ^ 31)), rr_n (show q < 2 ^ 31 by omega), uz_1, uz_2, uz_3, uz_4, uz_5, uz_6, uz_7, uz_8, uz_9, uz_10, uz_14]
  rw [if_pos (nI_pos' (by omega))]
  refine Eq.trans (gd_s hB) ?_
  rw [if_neg (ni_nn (by omega))]
  have e4 : (up2 (up2 (up2 R1 1 (8 * b + N b) 1) 2 (8 * b + N b) (R1 0 4)) 3 (8 * b + N b) (R1 0 5)) 4 q + (1 : Int32) - ((up2 (up2 (up2 R1 1 (8 * b + N b) 1) 2 (8 * b + N b) (R1 0 4)) 3 (8 * b + N b) (R1 0 5)) 4 q + (1 : Int32)) / (4 : Int32) * (4 : Int32) = nI ((T q / 64 + 1) % 4) := by
    rw [show (up2 (up2 (up2 R1 1 (8 * b + N b) 1) 2 (8 * b + N b) (R1 0 4)) 3 (8 * b + N b) (R1 0 5)) 4 q = nI (T q / 64 % 4) from hs, ni_inc, ni_d4 (by omega)]
    congr 1
    omega
  unfold rwR
  rw [← e4]
def NW (R : TR) (V : Nat) (w : Int32) (y : Int64) : Prop := R 0 4 = nI (V % 8) ∧ R 0 5 = nI (V / 8 % 8) ∧ R 0 6 = w ∧ R 0 7 = nI (V / 512 % 8) ∧ R 0 8 = nI (V / 4096 % 8) ∧ R 0 9 = nI (V / 32768 % 2) ∧ flipOK y (R 0 10) (R 0 11)
def ser (T : Nat → Nat) (old : Option Nat) : Nat := match old with
  | none => 0
  | some q => (T q / 64 + 1) % 4
def mkO (T : Nat → Nat) (old : Option Nat) : Nat → Nat := match old with
  | none => T
  | some q => upN T q (T q + 256)
theorem ser_lt {T : Nat → Nat} {old : Option Nat} : ser T old < 4 := by
  cases old with
  | none => exact (by decide : 0 < 4)
  | some q => exact Nat.mod_lt _ (by decide)
theorem lv_up {T N : Nat → Nat} {b p V q : Nat} (hp : p = 8 * b + N b) (hn : N b < 8) (hq : q ≠ p) : lv (upN T p V) (upN N b (N b + 1)) q = lv T N q := by
  unfold lv
  rw [upN_n hq]
  congr 1
  have e := pgm_up hp hn q
  cases x : pgm N q with
  | true => exact e.mpr (Or.inl x)
  | false =>
    cases z : pgm (upN N b (N b + 1)) q with
    | false => rfl
    | true =>
      rcases e.mp z with g | g
      · rw [g] at x; cases x
      · exact absurd g hq
theorem lv_ne {T N : Nat → Nat} {b p q : Nat} (hp : p = 8 * b + N b) (hn : N b < 8) (hq : lv T N q = true) : q ≠ p := fun e => by
  have g := lv_pgm hq
  rw [e, pgm_new hp hn] at g
  cases g
theorem nib2 {n : Nat} (h : n < 2) : isB (nI n) := by
  rcases (show n = 0 ∨ n = 1 by omega) with e | e <;> rw [e]
  · exact Or.inl rfl
  · exact Or.inr rfl
theorem s_put {C : TC} {R : TR} {T N : Nat → Nat} {B : Nat → Bool} (h : Sm C R T N B) {b V : Nat} {w : Int32} {y : Int64} {old : Option Nat} (hx : nxb N B = some b) (hV : V < 65536) (hm : V / 256 % 2 = 0) (hw : NW R V w y) (hold : pgx T N (V % 8) (V / 8 % 8) = old) :
    ∃ (v : Bool) (C1 : TC) (R1 : TR), fn_S_put C (ixI old) (nI V) w y = some (bI v, C1) ∧ fn_M_put R = some (bI v, R1) ∧ Fr C R C1 R1 v ∧
      ((v = false ∧ Sm C1 R1 T N B ∧ R1 5 = R 5 ∧ R1 10 = R 10) ∨
       (Sm C1 R1 (cond v (mkO (upN T (8 * b + N b) (Vs V (ser T old))) old) (upN T (8 * b + N b) (Vs V (ser T old)))) (upN N b (N b + 1)) B ∧ R1 5 = upd (R 5) (8 * b + N b) w ∧ R1 10 = upd (R 10) (8 * b + N b) (R 0 11) ∧ (old = none → v = true))) := by
  obtain ⟨v, C1, R1, e1, e2, f1, f2, f3, f4, f5⟩ := s_step h.2.2.2
  have h1 := h.same f1 f2 f3 f4
  obtain ⟨w4, w5, w6, w7, w8, w9, wf⟩ := hw
  obtain ⟨hb, hn, -⟩ := nxb_some hx (fun b hb => (h.1.1 b hb).1)
  obtain ⟨v1, v2, v3, v4⟩ := Vs_ok hV (ser_lt (T := T) (old := old))
  have fj := f5.2.2.2.2
  have k5 : Vs V (ser T old) / 512 = V / 512 := by rw [show 512 = 256 * 2 from rfl, ← Nat.div_div_eq_div_mul, v4, Nat.div_div_eq_div_mul]
  have k12 : Vs V (ser T old) / 4096 = V / 4096 := by rw [show 4096 = 256 * 16 from rfl, ← Nat.div_div_eq_div_mul, v4, Nat.div_div_eq_div_mul]
  have k15 : Vs V (ser T old) / 32768 = V / 32768 := by rw [show 32768 = 256 * 128 from rfl, ← Nat.div_div_eq_div_mul, v4, Nat.div_div_eq_div_mul]
  have hB : isB (R1 0 9) := by rw [fj 9 (by decide), w9]; exact nib2 (by omega)
  have hf : flipOK y (R1 0 10) (R1 0 11) := by rw [fj 10 (by decide), fj 11 (by decide)]; exact wf
  have hP : Sm (pgC C1 (8 * b + N b) b (N b + 1) (Vs V (ser T old)) w y) (pgR R1 (8 * b + N b) b (Vs V (ser T old)) w (R1 0 10) (R1 0 11)) (upN T (8 * b + N b) (Vs V (ser T old))) (upN N b (N b + 1)) B := h1.prog hb rfl hn v1 (by omega) hf
  have hE : ∀ z : Int32, z = nI (ser T old) → rwR R1 (8 * b + N b) b (R1 0 4) (R1 0 5) z (R1 0 6) (R1 0 7) (R1 0 8) (R1 0 9) (R1 0 10) (R1 0 11) = pgR R1 (8 * b + N b) b (Vs V (ser T old)) w (R1 0 10) (R1 0 11) := fun z hz => by
    rw [fj 6 (by decide), w6]
    refine rwR_eq ?_ ?_ ?_ ?_ ?_ ?_
    · rw [fj 4 (by decide), w4]; congr 1; omega
    · rw [fj 5 (by decide), w5]; congr 1; omega
    · rw [hz, v3]
    · rw [fj 7 (by decide), w7, k5]
    · rw [fj 8 (by decide), w8, k12]
    · rw [fj 9 (by decide), w9, k15]
  have hc := c_program (V := Vs V (ser T old)) (w := w) (y := y) h.1 hx h1.1 e1
  have h5 : (pgR R1 (8 * b + N b) b (Vs V (ser T old)) w (R1 0 10) (R1 0 11)) 5 = upd (R 5) (8 * b + N b) w := by
    show upd (R1 5) _ _ = _; rw [f3 5 (by decide)]
  have h10 : (pgR R1 (8 * b + N b) b (Vs V (ser T old)) w (R1 0 10) (R1 0 11)) 10 = upd (R 10) (8 * b + N b) (R 0 11) := by
    show upd (R1 10) _ _ = _; rw [f3 10 (by decide), fj 11 (by decide)]
  unfold fn_S_put
  cases old with
  | none =>
    rw [show ixI none = -1 from rfl, if_pos rfl, show fn_T_withSerial C (nI V) 0 = some (nI (V % 64 + 64 * (0 + 4 * (V / 256))), C) from ft_withSerial C hV (s := 0) (by decide), bd_s]
    rw [show V % 64 + 64 * (0 + 4 * (V / 256)) = Vs V (ser T none) from rfl, hc, bd_s, gd_s (bI_b v)]
    cases v with
    | false => exact ⟨false, C1, R1, rfl, r_put0 h.2.1 (by omega) (by omega) hx e2 w4 w5, f5, Or.inl ⟨rfl, h1, f3 5 (by decide), f3 10 (by decide)⟩⟩
    | true =>
      exact ⟨true, pgC C1 (8 * b + N b) b (N b + 1) (Vs V (ser T none)) w y, pgR R1 (8 * b + N b) b (Vs V (ser T none)) w (R1 0 10) (R1 0 11), rfl, (r_put1 h.2.1 (by omega) (by omega) hx e2 w4 w5 hB hold).trans (by rw [hE 0 rfl]; rfl), f5, Or.inr ⟨hP, h5, h10, fun _ => rfl⟩⟩
  | some q =>
    obtain ⟨hq, hl, -⟩ := pgx_some hold
    have hqc := h.1.2 q hq (lv_pgm hl)
    rw [show ixI (some q) = nI q from rfl, if_neg (ni_m1 (by omega)), gd_s (inb_n hq (by decide)), st_s, rc_n (by omega), hqc.2, ft_serialAfter C hqc.1, bd_s, ft_withSerial C hV (Nat.mod_lt _ (by decide)), bd_s]
    rw [show V % 64 + 64 * ((T q / 64 + 1) % 4 + 4 * (V / 256)) = Vs V (ser T (some q)) from rfl, hc, bd_s]
    cases v with
    | false =>
      rw [bI_f, if_pos rfl]
      exact ⟨false, C1, R1, rfl, r_put0 h.2.1 (by omega) (by omega) hx e2 w4 w5, f5, Or.inl ⟨rfl, h1, f3 5 (by decide), f3 10 (by decide)⟩⟩
    | true =>
      have hne := lv_ne rfl hn hl
      obtain ⟨u, C2, R2, m1, m2, m3, m4, m5, m6⟩ := s_mark hP hq (by rw [lv_up rfl hn hne]; exact hl)
      have er := r_put2 h.2.1 (by omega) (by omega) hx e2 f3 w4 w5 hB hold
      rw [hE (nI ((T q / 64 + 1) % 4)) rfl, m2, bd_s] at er
      rw [bI_t, if_neg (by decide), show cond true (pgC C1 (8 * b + N b) b (N b + 1) (Vs V (ser T (some q))) w y) C1 = pgC C1 (8 * b + N b) b (N b + 1) (Vs V (ser T (some q))) w y from rfl, m1, bd_s]
      have hFr : Fr C R C2 R2 u := ⟨m4.1.trans f5.1, m4.2.1.trans f5.2.1, m4.2.2.1.trans f5.2.2.1, m4.2.2.2.1.trans (by
        have e0 : (pgR R1 (8 * b + N b) b (Vs V (ser T (some q))) w (R1 0 10) (R1 0 11)) 0 0 = R 0 0 := f5.2.2.2.1
        rw [e0]), fun j hj => (m4.2.2.2.2 j hj).trans (fj j hj)⟩
      cases u with
      | false =>
        rw [bI_f, if_pos rfl] at er
        rw [bI_f, if_pos rfl]
        exact ⟨false, C2, R2, rfl, er, hFr, Or.inr ⟨m3, m5.trans h5, m6.trans h10, fun z => by cases z⟩⟩
      | true =>
        rw [bI_t, if_neg (by decide)] at er
        rw [bI_t, if_neg (by decide)]
        exact ⟨true, C2, R2, rfl, er, hFr, Or.inr ⟨m3, m5.trans h5, m6.trans h10, fun z => by cases z⟩⟩
