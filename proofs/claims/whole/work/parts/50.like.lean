/-! A page's word is put anew: putWordOf, like. -/
theorem c_unread {C : TC} {R : TR} {p : Nat} (hp : p < 48) (hf : flipOK (C.2 p) (R 9 p) (R 10 p)) : fn_C_isUnreadable C (nI p) = some (bI (!decide (R 10 p < 0)), C) := by
  unfold fn_C_isUnreadable
  rw [gd_s (inb_n hp (by decide)), st_s, rl_n (by omega), bc_eq, bd_s]
  by_cases w : R 10 p < 0
  · rw [if_pos ((flip_bc hf).mpr w), decide_eq_true w]; rfl
  · rw [if_neg (fun z => w ((flip_bc hf).mp z)), decide_eq_false w]; rfl
theorem c_putWord {C : TC} {R : TR} {p : Nat} (hp : p < 48) (hf : flipOK (C.2 p) (R 9 p) (R 10 p)) (V : Int32) : fn_S_putWordOf C (nI p) V = bd (fn_S_put C (nI p) V (C.1 3 p) (if R 10 p < 0 then 0 else C.2 p)) fun x S => gd (isB x) (some (x, S)) := by
  unfold fn_S_putWordOf
  rw [c_unread hp hf, bd_s]
  by_cases w : R 10 p < 0
  · rw [decide_eq_true w, show bI (!true) = 0 from rfl, if_pos rfl, gd_s (inb_n hp (by decide)), st_s, rc_n (by omega), if_pos w]
  · rw [decide_eq_false w, show bI (!false) = 1 from rfl, if_neg (by decide), gd_s (inb_n hp (by decide)), st_s, rl_n (by omega), gd_s (inb_n hp (by decide)), st_s, rc_n (by omega), if_neg w]
theorem r_fresh {R : TR} (o c w : Int32) : ∃ R1, fn_M_fresh R o c w = some ((), R1) ∧ (∀ k, k ≠ 0 → R1 k = R k) ∧ (∀ j, j < 4 → R1 0 j = R 0 j) ∧ R1 0 4 = o ∧ R1 0 5 = c ∧ R1 0 6 = w ∧ R1 0 7 = 0 ∧ R1 0 8 = 0 ∧ R1 0 9 = 0 ∧ R1 0 10 = -1 ∧ R1 0 11 = -1 := by
  unfold fn_M_fresh
  simp only [st_s]
  refine ⟨_, rfl, fun k hk => ?_, fun j hj => ?_, rfl, rfl, rfl, rfl, rfl, rfl, rfl, rfl⟩
  · unfold fr; rw [up2_n hk, up2_n hk, up2_n hk, up2_n hk, up2_n hk, up2_n hk, up2_n hk, up2_n hk]
  · unfold fr; rw [up2_s, up2_s, up2_s, up2_s, up2_s, up2_s, up2_s, up2_s, upd_n (by omega), upd_n (by omega), upd_n (by omega), upd_n (by omega), upd_n (by omega), upd_n (by omega), upd_n (by omega), upd_n (by omega)]
theorem fr_n {R : TR} {k j i : Nat} {x : Int32} (h : i ≠ j) : fr R k j x k i = R k i := by unfold fr; rw [up2_s, upd_n h]
theorem fr_s {R : TR} {k j : Nat} {x : Int32} : fr R k j x k j = x := by unfold fr; rw [up2_s, upd_s]
theorem fr_k {R : TR} {k j k' : Nat} {x : Int32} (h : k' ≠ k) : fr R k j x k' = R k' := by unfold fr; rw [up2_n h]
theorem r_like {R : TR} {p : Nat} (hp : p < 48) (h8 : isB (R 8 p)) : ∃ R1, fn_M_like R (nI p) = some ((), R1) ∧ (∀ k, k ≠ 0 → R1 k = R k) ∧ (∀ j, j < 4 → R1 0 j = R 0 j) ∧ R1 0 4 = R 2 p ∧ R1 0 5 = R 3 p ∧ R1 0 6 = R 5 p ∧ R1 0 7 = R 6 p ∧ R1 0 8 = R 7 p ∧ R1 0 9 = R 8 p ∧ R1 0 10 = (if R 10 p < 0 then -1 else R 9 p) ∧ R1 0 11 = R 10 p := by
  obtain ⟨R1, e, f1, f2, a4, a5, a6, -, -, -, -, -⟩ := r_fresh (R := R) (R 2 p) (R 3 p) (R 5 p)
  have p31 : p < 2 ^ 31 := by omega
  unfold fn_M_like
  simp only [gd_s (inb_n hp (by decide : 48 < 2 ^ 31)), st_s, rr_n p31]
  rw [e, bd_s]
  rw [f1 6 (by decide), fr_k (k' := 7) (by decide), f1 7 (by decide), fr_k (k' := 8) (by decide), fr_k (k' := 8) (by decide), f1 8 (by decide), gd_s h8, fr_k (k' := 10) (by decide), fr_k (k' := 10) (by decide), fr_k (k' := 10) (by decide), f1 10 (by decide)]
  by_cases w : R 10 p < 0
  · rw [if_neg (fun z => by rw [Int32.lt_iff_toInt_lt] at w; rw [Int32.le_iff_toInt_le] at z; omega), if_pos w, fr_k (k' := 10) (by decide), fr_k (k' := 10) (by decide), fr_k (k' := 10) (by decide), fr_k (k' := 10) (by decide), f1 10 (by decide)]
    refine ⟨_, rfl, fun k hk => ?_, fun j hj => ?_, ?_, ?_, ?_, ?_, ?_, ?_, ?_, fr_s⟩
    · rw [fr_k hk, fr_k hk, fr_k hk, fr_k hk, fr_k hk]; exact f1 k hk
    · rw [fr_n (by omega), fr_n (by omega), fr_n (by omega), fr_n (by omega), fr_n (by omega)]; exact f2 j hj
    · rw [fr_n (by omega), fr_n (by omega), fr_n (by omega), fr_n (by omega), fr_n (by omega)]; exact a4
    · rw [fr_n (by omega), fr_n (by omega), fr_n (by omega), fr_n (by omega), fr_n (by omega)]; exact a5
    · rw [fr_n (by omega), fr_n (by omega), fr_n (by omega), fr_n (by omega), fr_n (by omega)]; exact a6
    · rw [fr_n (by omega), fr_n (by omega), fr_n (by omega), fr_n (by omega), fr_s]
    · rw [fr_n (by omega), fr_n (by omega), fr_n (by omega), fr_s]
    · rw [fr_n (by omega), fr_n (by omega), fr_s]
    · rw [fr_n (by omega), fr_s]
  · rw [if_pos (by rw [Int32.lt_iff_toInt_lt] at w; rw [Int32.le_iff_toInt_le]; omega), if_neg w, fr_k (k' := 9) (by decide), fr_k (k' := 9) (by decide), fr_k (k' := 9) (by decide), f1 9 (by decide), fr_k (k' := 10) (by decide), fr_k (k' := 10) (by decide), fr_k (k' := 10) (by decide), fr_k (k' := 10) (by decide), f1 10 (by decide)]
    refine ⟨_, rfl, fun k hk => ?_, fun j hj => ?_, ?_, ?_, ?_, ?_, ?_, ?_, ?_, fr_s⟩
    · rw [fr_k hk, fr_k hk, fr_k hk, fr_k hk, fr_k hk]; exact f1 k hk
    · rw [fr_n (by omega), fr_n (by omega), fr_n (by omega), fr_n (by omega), fr_n (by omega)]; exact f2 j hj
    · rw [fr_n (by omega), fr_n (by omega), fr_n (by omega), fr_n (by omega), fr_n (by omega)]; exact a4
    · rw [fr_n (by omega), fr_n (by omega), fr_n (by omega), fr_n (by omega), fr_n (by omega)]; exact a5
    · rw [fr_n (by omega), fr_n (by omega), fr_n (by omega), fr_n (by omega), fr_n (by omega)]; exact a6
    · rw [fr_n (by omega), fr_n (by omega), fr_n (by omega), fr_n (by omega), fr_s]
    · rw [fr_n (by omega), fr_n (by omega), fr_n (by omega), fr_s]
    · rw [fr_n (by omega), fr_n (by omega), fr_s]
    · rw [fr_n (by omega), fr_s]
theorem Sm.new {C : TC} {R R1 : TR} {T N : Nat → Nat} {B : Nat → Bool} (h : Sm C R T N B) (hR : ∀ k, k ≠ 0 → R1 k = R k) (hj : ∀ j, j < 4 → R1 0 j = R 0 j) : Sm C R1 T N B :=
  h.same (fun _ _ => rfl) rfl hR (by unfold SC; rw [hj 1 (by decide), hj 2 (by decide), hj 3 (by decide)]; exact h.2.2.2)
theorem flip_new {y : Int64} {f s : Int32} (h : flipOK y f s) : flipOK (if s < 0 then 0 else y) (if s < 0 then -1 else f) s := by
  rcases h with ⟨rfl, rfl, rfl⟩ | ⟨i, hi, rfl, rfl, rfl⟩ | ⟨i, j, hi, hj, hne, rfl, rfl, rfl⟩
  · rw [if_pos (by decide), if_pos (by decide)]; exact Or.inl ⟨rfl, rfl, rfl⟩
  · rw [if_pos (by decide), if_pos (by decide)]; exact Or.inl ⟨rfl, rfl, rfl⟩
  · rw [if_neg (ni_nn (by omega)), if_neg (ni_nn (by omega))]; exact Or.inr (Or.inr ⟨i, j, hi, hj, hne, rfl, rfl, rfl⟩)
