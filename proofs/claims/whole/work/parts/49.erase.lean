/-! Free pages; an erase. -/
def psB (N : Nat → Nat) (B : Nat → Bool) (b : Nat) : Nat := cond (B b) 8 (8 - N b)
def psi (N : Nat → Nat) (B : Nat → Bool) : Nat := sm (psB N B) 6 0
def upB (B : Nat → Bool) (d : Nat) : Nat → Bool := fun j => if j = d then true else B j
theorem upB_s {B : Nat → Bool} {d : Nat} : upB B d d = true := if_pos rfl
theorem upB_n {B : Nat → Bool} {d j : Nat} (h : j ≠ d) : upB B d j = B j := if_neg h
theorem sm6 (f : Nat → Nat) : sm f 6 0 = f 0 + (f 1 + (f 2 + (f 3 + (f 4 + (f 5 + 0))))) := rfl
theorem sm6_up {f g : Nat → Nat} {d : Nat} (hd : d < 6) (h : ∀ i, i ≠ d → g i = f i) : sm g 6 0 + f d = sm f 6 0 + g d := by
  rw [sm6, sm6]
  rcases (show d = 0 ∨ d = 1 ∨ d = 2 ∨ d = 3 ∨ d = 4 ∨ d = 5 by omega) with e | e | e | e | e | e <;> subst e
  · rw [h 1 (by decide), h 2 (by decide), h 3 (by decide), h 4 (by decide), h 5 (by decide)]; omega
  · rw [h 0 (by decide), h 2 (by decide), h 3 (by decide), h 4 (by decide), h 5 (by decide)]; omega
  · rw [h 0 (by decide), h 1 (by decide), h 3 (by decide), h 4 (by decide), h 5 (by decide)]; omega
  · rw [h 0 (by decide), h 1 (by decide), h 2 (by decide), h 4 (by decide), h 5 (by decide)]; omega
  · rw [h 0 (by decide), h 1 (by decide), h 2 (by decide), h 3 (by decide), h 5 (by decide)]; omega
  · rw [h 0 (by decide), h 1 (by decide), h 2 (by decide), h 3 (by decide), h 4 (by decide)]; omega
theorem psB_t {N : Nat → Nat} {B : Nat → Bool} {b : Nat} (h : B b = true) : psB N B b = 8 := by unfold psB; rw [h]; rfl
theorem psB_f {N : Nat → Nat} {B : Nat → Bool} {b : Nat} (h : B b = false) : psB N B b = 8 - N b := by unfold psB; rw [h]; rfl
theorem psi_le (N : Nat → Nat) (B : Nat → Bool) : psi N B ≤ 48 := sm_le (k := 8) (fun i => by unfold psB; cases B i <;> simp) 6 0
theorem free_put {N : Nat → Nat} {B : Nat → Bool} {b : Nat} (hb : b < 6) (hn : N b < 8) (hB : B b = false) : free (upN N b (N b + 1)) B + 1 = free N B := by
  have e := sm6_up (f := frB N B) (g := frB (upN N b (N b + 1)) B) hb (fun i hi => by unfold frB; rw [upN_n hi])
  rw [frB_f hB, frB_f hB, upN_s] at e
  unfold free
  omega
theorem psi_put {N : Nat → Nat} {B : Nat → Bool} {b : Nat} (hb : b < 6) (hn : N b < 8) (hB : B b = false) : psi (upN N b (N b + 1)) B + 1 = psi N B := by
  have e := sm6_up (f := psB N B) (g := psB (upN N b (N b + 1)) B) hb (fun i hi => by unfold psB; rw [upN_n hi])
  rw [psB_f hB, psB_f hB, upN_s] at e
  unfold psi
  omega
theorem psi_er {N : Nat → Nat} {B : Nat → Bool} {d : Nat} (hd : d < 6) (hn : N d = 8) (hB : B d = false) : psi (upN N d 0) B = psi N B + 8 := by
  have e := sm6_up (f := psB N B) (g := psB (upN N d 0) B) hd (fun i hi => by unfold psB; rw [upN_n hi])
  rw [psB_f hB, psB_f hB, upN_s, hn] at e
  unfold psi
  omega
theorem psi_bad {N : Nat → Nat} {B : Nat → Bool} {d : Nat} (hd : d < 6) (hn : N d = 8) (hB : B d = false) : psi N (upB B d) = psi N B + 8 := by
  have e := sm6_up (f := psB N B) (g := psB N (upB B d)) hd (fun i hi => by unfold psB; rw [upB_n hi])
  rw [psB_f hB, psB_t upB_s, hn] at e
  unfold psi
  omega
theorem nxb_ex {N : Nat → Nat} {B : Nat → Bool} (hN : ∀ b, b < 6 → N b ≤ 8) (h : 0 < free N B) : ∃ b, nxb N B = some b := by
  cases e : nxb N B with
  | some b => exact ⟨b, rfl⟩
  | none =>
    exfalso
    unfold nxb at e
    have e1 : fx (nP1 N B) 6 0 = none := by
      cases q : fx (nP1 N B) 6 0 with
      | none => rfl
      | some x => rw [q] at e; cases e
    rw [e1] at e
    have e0 : fx (nP0 N B) 6 0 = none := e
    have z : ∀ b, b < 6 → frB N B b = 0 := fun b hb => by
      have a1 := fx_none 6 0 e1 b (by omega) (by omega)
      have a0 := fx_none 6 0 e0 b (by omega) (by omega)
      cases q : B b with
      | true => exact frB_t q
      | false =>
        rw [frB_f q]
        unfold nP1 at a1
        unfold nP0 at a0
        rw [q] at a1 a0
        simp at a1 a0
        omega
    unfold free at h
    rw [sm6, z 0 (by decide), z 1 (by decide), z 2 (by decide), z 3 (by decide), z 4 (by decide), z 5 (by decide)] at h
    omega
theorem r_zero_lp {d : Nat} (hd : d < 6) : ∀ (m n i : Nat) (R : TR), i + m = 8 → m < n → ∃ R1, lp_M_collect_95 n R (nI d) (nI (8 * d + i)) = some (1, R1) ∧ (∀ k, k ≠ 1 → R1 k = R k) ∧ ∀ q, R1 1 q = if 8 * d + i ≤ q ∧ q < 8 * d + 8 then 0 else R 1 q := by
  intro m
  have e8 : ((8 : Int32) * nI d) + (8 : Int32) = nI (8 * d + 8) := by rw [show (8 : Int32) = nI 8 from rfl, pk_mul, nI_add]
  induction m with
  | zero =>
    intro n i R hi hn
    obtain ⟨n, rfl⟩ := pred_n hn
    rw [le_M_collect_95, e8, if_pos (by rw [nI_leI (by omega) (by omega)]; omega)]
    exact ⟨R, rfl, fun _ _ => rfl, fun q => by rw [if_neg (by omega)]⟩
  | succ m ih =>
    intro n i R hi hn
    obtain ⟨n, rfl⟩ := pred_n hn
    have hp : 8 * d + i < 48 := by omega
    rw [le_M_collect_95, e8, if_neg (by rw [nI_leI (by omega) (by omega)]; omega), gd_s (inb_n hp (by decide)), st_s, st_s, wr_n (by omega), ni_inc, Nat.add_assoc]
    obtain ⟨R1, a1, a2, a3⟩ := ih n (i + 1) (up2 R 1 (8 * d + i) 0) (by omega) (by omega)
    refine ⟨R1, a1, fun k hk => (a2 k hk).trans (up2_n hk), fun q => ?_⟩
    rw [a3 q, up2_s]
    by_cases w : q = 8 * d + i
    · rw [w, if_neg (by omega), upd_s, if_pos (by omega)]
    · rw [upd_n w]
      by_cases w2 : 8 * d + (i + 1) ≤ q ∧ q < 8 * d + 8
      · rw [if_pos w2, if_pos (by omega)]
      · rw [if_neg w2, if_neg (by omega)]
theorem s_erase {C : TC} {R : TR} {T N : Nat → Nat} {B : Nat → Bool} (h : Sm C R T N B) {d : Nat} (hd : d < 6) (hN : N d = 8) (hB : B d = false) :
    ∃ (v : Bool) (C1 : TC) (R1 : TR) (N1 : Nat → Nat) (B1 : Nat → Bool), fn_C_erase C (nI d) = some (bI v, C1) ∧ (∀ n, lp_M_collect_5 (n + 1) R (nI d) (nI (8 * d + 8)) = some (bI v, R1)) ∧ Fr C R C1 R1 v ∧ R1 5 = R 5 ∧ R1 10 = R 10 ∧ Sm C1 R1 T N1 B1 ∧
      ((v = false ∧ N1 = N ∧ B1 = B) ∨ (v = true ∧ ((N1 = upN N d 0 ∧ B1 = B) ∨ (N1 = N ∧ B1 = upB B d)))) := by
  obtain ⟨v, C1, R1, e1, e2, f1, f2, f3, f4, f5⟩ := s_step h.2.2.2
  have h1 := h.same f1 f2 f3 f4
  have e8 : ((8 : Int32) * nI d) + (8 : Int32) = nI (8 * d + 8) := by rw [show (8 : Int32) = nI 8 from rfl, pk_mul, nI_add]
  have er : ∀ n, lp_M_collect_5 (n + 1) R (nI d) (nI (8 * d + 8)) = (bd (fn_M_step R) fun x3 S1 => if x3 = 0 then (some ((0 : Int32), S1)) else (gd (inB (nI d) 6) <| st (wr S1 14 (nI d) (1 : Int32)) fun S4 => gd (inB (nI d) 6) <| st (rr S4 13 (nI d)) fun x5 => if x5 = 0 then (gd (inB (nI d) 6) <| st (rr S4 15 (nI d)) fun x6 => gd (inB (nI d) 6) <| st (wr S4 15 (nI d) (x6 + (1 : Int32))) fun S7 => st ((8 : Int32) * nI d) fun x8 => lp_M_collect_95 64 S7 (nI d) x8) else (gd (inB (nI d) 6) <| st (wr S4 12 (nI d) (1 : Int32)) fun S9 => some ((1 : Int32), S9)))) := fun n => by
    rw [le_M_collect_5, e8, if_pos (by rw [nI_leI (by omega) (by omega)]; omega)]
  unfold fn_C_erase
  rw [e1, bd_s]
  cases v with
  | false =>
    rw [bI_f, if_pos rfl]
    exact ⟨false, C1, R1, N, B, rfl, fun n => by rw [er, e2, bd_s, bI_f, if_pos rfl], f5, f3 5 (by decide), f3 10 (by decide), h1, Or.inl ⟨rfl, rfl, rfl⟩⟩
  | true =>
    obtain ⟨⟨c1, c2⟩, ⟨r1, r2, r3⟩, ⟨q1, q2⟩, hs⟩ := h1
    have hw := (q2 d hd).2.1
    have d31 : d < 2 ^ 31 := by omega
    rw [bI_t, if_neg (by decide)]
    simp only [gd_s (inb_n hd (by decide : 6 < 2 ^ 31)), st_s, rc_n d31, wc_n d31]
    have erT : ∀ n, lp_M_collect_5 (n + 1) R (nI d) (nI (8 * d + 8)) = if R1 13 d = 0 then lp_M_collect_95 64 (up2 (up2 R1 14 d 1) 15 d (R1 15 d + 1)) (nI d) (nI (8 * d + 0)) else some (1, up2 (up2 R1 14 d 1) 12 d 1) := fun n => by
      rw [er, e2, bd_s, bI_t, if_neg (by decide)]
      simp only [gd_s (inb_n hd (by decide : 6 < 2 ^ 31)), st_s, rr_n d31, wr_n d31]
      rw [show (8 : Int32) * nI d = nI (8 * d + 0) by rw [show (8 : Int32) = nI 8 from rfl, pk_mul, Nat.add_zero]]
      rfl
    by_cases w : R1 13 d = 0
    · rw [if_pos (hw.trans w)]
      obtain ⟨R2, a1, a2, a3⟩ := r_zero_lp hd 8 64 0 (up2 (up2 R1 14 d 1) 15 d (R1 15 d + 1)) rfl (by decide)
      have pg0 : ∀ q, q < 48 → (pgm (upN N d 0) q = true ↔ pgm N q = true ∧ q / 8 ≠ d) := fun q hq => by
        unfold pgm
        rw [decide_eq_true_iff, decide_eq_true_iff]
        by_cases e : q / 8 = d
        · rw [e, upN_s]; constructor
          · intro z; omega
          · intro z; exact absurd rfl z.2
        · rw [upN_n e]; exact ⟨fun z => ⟨z, e⟩, fun z => z.1⟩
      refine ⟨true, _, R2, upN N d 0, B, rfl, fun n => by rw [erT, if_pos w]; exact a1, ?_, (a2 5 (by decide)).trans (f3 5 (by decide)), (a2 10 (by decide)).trans (f3 10 (by decide)), ?_, Or.inr ⟨rfl, Or.inl ⟨rfl, rfl⟩⟩⟩
      · refine ⟨f5.1, f5.2.1, (a2 11 (by decide)).trans f5.2.2.1, ?_, fun j hj => ?_⟩
        · rw [a2 0 (by decide)]; exact f5.2.2.2.1
        · rw [a2 0 (by decide)]; exact f5.2.2.2.2 j hj
      · refine ⟨⟨?_, ?_⟩, ⟨?_, ?_, ?_⟩, ⟨?_, ?_⟩, ?_⟩
        · intro i hi
          show upN N d 0 i ≤ 8 ∧ upd (C1.1 5) d 0 i = nI (upN N d 0 i) ∧ C1.1 8 i = bI (B i)
          by_cases e : i = d
          · subst e; rw [upN_s, upd_s]; exact ⟨by decide, rfl, (c1 i hi).2.2⟩
          · rw [upN_n e, upd_n e]; exact c1 i hi
        · intro q hq hg
          exact c2 q hq ((pg0 q hq).mp hg).1
        · intro i hi
          rw [a2 12 (by decide)]
          show upN N d 0 i ≤ 8 ∧ R1 12 i = bI (B i)
          by_cases e : i = d
          · subst e; rw [upN_s]; exact ⟨by decide, (r1 i hi).2⟩
          · rw [upN_n e]; exact r1 i hi
        · intro q hq hg
          rw [a3 q]
          by_cases e : 8 * d + 0 ≤ q ∧ q < 8 * d + 8
          · rw [if_pos e]
          · rw [if_neg e]
            show R1 1 q = 0
            refine r2 q hq ?_
            cases z : pgm N q with
            | false => rfl
            | true => rw [(pg0 q hq).mpr ⟨z, by omega⟩] at hg; cases hg
        · intro q hq hg
          obtain ⟨g1, g2⟩ := (pg0 q hq).mp hg
          show PgR R2 q (T q)
          obtain ⟨k0, k1, k2⟩ : PgR R1 q (T q) := r3 q hq g1
          refine ⟨k0, ?_, ?_⟩
          · rw [a3 q, if_neg (by omega)]; exact k1
          · rw [a2 2 (by decide), a2 3 (by decide), a2 4 (by decide), a2 6 (by decide), a2 7 (by decide), a2 8 (by decide)]; exact k2
        · intro q hq hg
          rw [a2 5 (by decide), a2 9 (by decide), a2 10 (by decide)]
          exact q1 q hq ((pg0 q hq).mp hg).1
        · intro i hi
          rw [a2 13 (by decide), a2 14 (by decide), a2 15 (by decide)]
          show upd (C1.1 6) d (C1.1 6 d + 1) i = upd (R1 15) d (R1 15 d + 1) i ∧ C1.1 7 i = R1 13 i ∧ upd (C1.1 9) d 1 i = upd (R1 14) d 1 i ∧ isB (R1 13 i) ∧ isB (upd (R1 14) d 1 i)
          have z := q2 i hi
          by_cases e : i = d
          · subst e; rw [upd_s, upd_s, upd_s, upd_s, z.1]; exact ⟨rfl, z.2.1, rfl, z.2.2.2.1, Or.inr rfl⟩
          · rw [upd_n e, upd_n e, upd_n e, upd_n e]; exact z
        · unfold SC; rw [a2 0 (by decide)]; exact hs
    · rw [if_neg (fun z => w (hw.symm.trans z))]
      refine ⟨true, _, up2 (up2 R1 14 d 1) 12 d 1, N, upB B d, rfl, fun n => by rw [erT, if_neg w]; rfl, f5, f3 5 (by decide), f3 10 (by decide), ?_, Or.inr ⟨rfl, Or.inr ⟨rfl, rfl⟩⟩⟩
      refine ⟨⟨?_, c2⟩, ⟨?_, r2, r3⟩, ⟨q1, tou_upd (C := C1) (R := R1) (b0 := d) q2 rfl rfl⟩, hs⟩
      · intro i hi
        show N i ≤ 8 ∧ C1.1 5 i = nI (N i) ∧ upd (C1.1 8) d 1 i = bI (upB B d i)
        have z := c1 i hi
        by_cases e : i = d
        · subst e; rw [upB_s, upd_s]; exact ⟨z.1, z.2.1, rfl⟩
        · rw [upB_n e, upd_n e]; exact z
      · intro i hi
        show N i ≤ 8 ∧ upd (R1 12) d 1 i = bI (upB B d i)
        have z := r1 i hi
        by_cases e : i = d
        · subst e; rw [upB_s, upd_s]; exact ⟨z.1, rfl⟩
        · rw [upB_n e, upd_n e]; exact z
