/-! mount, the call. -/
def mtC (C : TC) (pz : Int32) : Option (Int32 × TC) := bd (fn_S_settleStale C) fun _ S28 => bd (fn_S_markStale S28) fun x32 S30 => gd (isB x32) <| st (fc S30 0 0 x32) fun S33 => st (S33.1 0 0) fun x34 => if x34 = 0 then (some ((-9 : Int32), S33)) else (some (pz, S33))
theorem s_mt {C : TC} {R : TR} {T N : Nat → Nat} {B : Nat → Bool} (hs : Sm C R T N B) (hpr : Pr T N) (hnu : NU (at' T N R)) (h1 : R 0 0 = 1) (z : Int32) : Op (mtC C z) (lp_M_mount_84 64 R z 0) := by
  obtain ⟨C1, a1, a2, a3, a4⟩ := c_settle_lp (T := T) (N := N) (B := B) 48 64 0 C hs.1 rfl (by decide)
  obtain ⟨R1, b1, b2, b3⟩ := r_settle_lp (B := B) hpr z 48 64 0 R hs.2.1 rfl (by decide)
  have hs1 : Sm C1 R1 T N B := by
    refine ⟨CS10 hs.1 a2, RS11 hs.2.1 b2, ⟨?_, ?_⟩, ?_⟩
    · rw [a2 3 (by decide), a3, b2 5 (by decide), b2 9 (by decide), b2 10 (by decide)]; exact hs.2.2.1.1
    · rw [a2 6 (by decide), a2 7 (by decide), a2 9 (by decide), b2 15 (by decide), b2 13 (by decide), b2 14 (by decide)]; exact hs.2.2.1.2
    · unfold SC; rw [a2 1 (by decide), b2 0 (by decide)]; exact hs.2.2.2
  have t0 : Tj T N 0 = T := funext (fun q => Tj_n (fun z => by omega))
  obtain ⟨v, C2, R2, j, g1, g2, g3, g4, g5, g6, g7⟩ := s_stale_lp (T := T) (N := N) (B := B) z 48 64 64 0 C1 R1 rfl (by decide) (by decide) (by rw [t0]; exact hs1) (fun q hq => by rw [a4, if_pos (by omega)]) (fun q hq => by rw [b3, if_pos (by omega)])
  have nu := NU_Tj (R1 := R2) hpr hnu (g4.trans (b2 5 (by decide))) (g5.trans (b2 10 (by decide))) j
  rw [show lp_M_mount_84 64 R z 0 = _ from b1, show lp_M_mount_175 64 R1 z 0 = _ from g2]
  unfold mtC
  rw [show fn_S_settleStale C = _ from a1, bd_s, show fn_S_markStale C1 = _ from g1, bd_s, gd_s (bI_b v), st_s, st_s]
  have e0 : (fc C2 0 0 (bI v)).1 0 0 = bI v := rfl
  rw [e0]
  cases v with
  | false =>
    rw [bI_f, if_pos rfl]
    exact ⟨-9, _, R2, rfl, rfl, Iv_off2 (T := Tj T N j) g3 (Pr_Tj hpr j) nu rfl g6⟩
  | true =>
    rw [bI_t, if_neg (by decide)]
    have ej := g7 rfl
    subst ej
    have f1 : R2 0 0 = 1 := g6.trans (by rw [b2 0 (by decide)]; exact h1)
    exact ⟨z, _, R2, rfl, rfl, Iv_on (T := Tj T N 48) g3 (Uq_Tj hpr) nu rfl f1⟩
theorem op_mount {C : TC} {R : TR} (h : Iv C R) (x : Int32) : Op (fn_S_mount C x) (fn_M_mount R x) := by
  obtain ⟨T, N, B, hs, hpr, hnu, -⟩ := h
  have hs1 : Sm C (fr R 0 0 1) T N B := hs.same (fun _ _ => rfl) rfl (fun k hk => fr_k hk) hs.2.2.2
  have nu1 : NU (at' T N (fr R 0 0 1)) := hnu
  have i8 : ∀ k : Nat, (8 : Int32) * nI k = nI (8 * k) := fun k => by rw [show (8 : Int32) = nI 8 from rfl, pk_mul]
  have cA : fn_C_countGood C = some (nI (cn (fun b => !B b) 6 0), C) := by
    have e := c_good_lp hs.1 6 64 0 0 rfl (by decide)
    rw [Nat.zero_add] at e
    exact e
  have cB : fn_C_countGoodTouched C = some (nI (cn (fun b => !B b && tB (fr R 0 0 1) b) 6 0), C) := by
    have e := c_goodT_lp hs1 6 64 0 0 rfl (by decide)
    rw [Nat.zero_add] at e
    exact e
  have rA : lp_M_mount_35 64 (fr R 0 0 1) 1 0 0 = lp_M_mount_84 64 (fr R 0 0 1) (nI (8 * cn (fun b => !B b) 6 0)) 0 := by
    have e := r_pages_lp hs1.2.1 true 6 64 0 0 rfl (by decide)
    rw [Nat.zero_add, show goP (fr R 0 0 1) B true = fun b => !B b from funext (fun b => by unfold goP; cases B b <;> rfl)] at e
    exact e
  have rB : lp_M_mount_35 64 (fr R 0 0 1) 0 1 0 = lp_M_mount_84 64 (fr R 0 0 1) (nI (8 * cn (fun b => !B b && tB (fr R 0 0 1) b) 6 0 + 1)) 0 := by
    have e := r_pages_lp hs1.2.1 false 6 64 0 1 rfl (by decide)
    rw [Nat.add_comm 1, show goP (fr R 0 0 1) B false = fun b => !B b && tB (fr R 0 0 1) b from funext (fun b => by unfold goP; cases B b <;> rfl)] at e
    exact e
  unfold fn_S_mount fn_M_mount
  have e1 : fr R 0 0 1 0 1 = R 0 1 := rfl
  rw [st_s, st_s, st_s, hs.2.2.2.1, e1, rA, rB, cA, bd_s, st_s, i8, cB, bd_s, st_s, i8, ni_inc]
  have gA := s_mt hs1 hpr nu1 rfl (nI (8 * cn (fun b => !B b) 6 0))
  have gB := s_mt hs1 hpr nu1 rfl (nI (8 * cn (fun b => !B b && tB (fr R 0 0 1) b) 6 0 + 1))
  by_cases w : x = 0
  · rw [if_pos w, if_pos w]
    by_cases w2 : R 0 1 = 0
    · rw [if_pos w2, if_pos w2]; exact gA
    · rw [if_neg w2, if_neg w2]; exact gB
  · rw [if_neg w, if_neg w]; exact gA
/-- the two sides at their start -/
def C00 : TC := (up2 (up2 (fun _ _ => 0) 1 2 (-1)) 0 0 1, fun _ => 0)
def R00 : TR := up2 (up2 (fun _ _ => 0) 0 2 (-1)) 0 0 1
theorem Iv_0 : Iv C00 R00 := by
  have pg : ∀ q, pgm (fun _ => 0) q = false := fun q => by unfold pgm; exact decide_eq_false (Nat.not_lt_zero _)
  have lv0 : ∀ q, lv (fun _ => 0) (fun _ => 0) q = false := fun q => by unfold lv; rw [pg q]; rfl
  refine ⟨fun _ => 0, fun _ => 0, fun _ => false, ⟨⟨?_, ?_⟩, ⟨?_, ?_, ?_⟩, ⟨?_, ?_⟩, rfl, rfl, rfl, Or.inl rfl⟩, ?_, ?_, rfl, Or.inr rfl, ?_⟩
  · intro b hb; exact ⟨Nat.zero_le _, rfl, rfl⟩
  · intro p hp hg; rw [pg p] at hg; cases hg
  · intro b hb; exact ⟨Nat.zero_le _, rfl⟩
  · intro p hp hg; rfl
  · intro p hp hg; rw [pg p] at hg; cases hg
  · intro p hp hg; rw [pg p] at hg; cases hg
  · intro b hb; exact ⟨rfl, rfl, rfl, Or.inl rfl, Or.inl rfl⟩
  · intro p q hp hq h1; rw [lv0 p] at h1; cases h1
  · have e : ∀ k, at' (fun _ => 0) (fun _ => 0) R00 k = none := fun k => by
      unfold at' ufx
      rw [fx_no (fun q _ => by unfold ufP kyP; rw [lv0 q]; rfl)]
      rfl
    intro o o' a b c d f t w t' w' h1; rw [e] at h1; cases h1
  · intro _ p q hp hq h1; rw [lv0 p] at h1; cases h1
