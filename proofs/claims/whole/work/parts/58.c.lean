def lenV (t n : Nat) : Nat := t % 4096 + 4096 * (n + 8 * (t / 32768))
theorem len_p {t : Nat} : ∃ a l f, a < 4096 ∧ l < 8 ∧ t = a + 4096 * l + 32768 * f ∧ t % 4096 = a ∧ t / 32768 = f := ⟨t % 4096, t / 4096 % 8, t / 32768, by omega, by omega, by omega, rfl, rfl⟩
theorem len_ok {t n : Nat} (ht : t < 65536) (hn : n < 8) : lenV t n < 65536 ∧ lenV t n % 512 = t % 512 ∧ lenV t n / 512 % 8 = t / 512 % 8 ∧ lenV t n / 4096 % 8 = n ∧ lenV t n / 32768 = t / 32768 := by
  obtain ⟨a, l, f, ha, hl, e, e1, e2⟩ := len_p (t := t)
  have ev : lenV t n = a + 4096 * n + 32768 * f := by unfold lenV; rw [e1, e2]; omega
  rw [ev]
  have f2 : f < 2 := by omega
  have d1 : (a + 4096 * n + 32768 * f) % 512 = a % 512 := by omega
  have d2 : t % 512 = a % 512 := by omega
  have d3 : (a + 4096 * n + 32768 * f) / 512 = a / 512 + 8 * n + 64 * f := by omega
  have d4 : t / 512 = a / 512 + 8 * l + 64 * f := by omega
  have d5 : (a + 4096 * n + 32768 * f) / 4096 = n + 8 * f := by omega
  refine ⟨by omega, by rw [d1, d2], by rw [d3, d4]; omega, by rw [d5]; omega, by omega⟩
/-- the header is put anew with another length -/
theorem s_len {C : TC} {R : TR} {T N : Nat → Nat} {B : Nat → Bool} (h : Sm C R T N B) (hu : Uq T N) (hnu : NU (at' T N R)) (hfr : 0 < free N B) {o p n : Nat} (h1 : 1 ≤ o) (h7 : o ≤ 7) (hn : n < 8) (ek : kyx T N o = some p) :
    ∃ (v : Bool) (C1 : TC) (R0 R1 : TR) (T1 N1 : Nat → Nat), fn_S_putLength C (nI o) (nI n) = some (bI v, C1) ∧ fn_M_like R (nI p) = some ((), R0) ∧ fn_M_put (fr R0 0 8 (nI n)) = some (bI v, R1) ∧ Fw C R C1 R1 v ∧ Sm C1 R1 T1 N1 B ∧ Pr T1 N1 ∧ NU (at' T1 N1 R1) ∧ (v = true → Uq T1 N1) := by
  obtain ⟨hp, hl, hk⟩ := kyx_some ek
  obtain ⟨b, hx⟩ := nx_of h hfr
  have hg := lv_pgm hl
  have hc := h.1.2 p hp hg
  have hr : PgR R p (T p) := h.2.1.2.2 p hp hg
  obtain ⟨R0, l1, l2, l3, l4, l5, l6, l7, l8, l9, l10, l11⟩ := r_like (R := R) hp (by rw [hr.2.2.2.2.2.2.2]; exact nib2 (by omega))
  have ht := (lv_t hl).2
  obtain ⟨V1, V0, V4, V5, V6⟩ := len_ok hc.1 hn
  have V2 : lenV (T p) n % 64 = T p % 64 := by rw [← Nat.mod_mod_of_dvd (lenV (T p) n) (show 64 ∣ 512 by decide), V0, Nat.mod_mod_of_dvd (T p) (show 64 ∣ 512 by decide)]
  have V3 : lenV (T p) n / 256 % 2 = 0 := by
    have z1 : lenV (T p) n / 256 % 2 = lenV (T p) n % 512 / 256 := by omega
    have z2 : T p / 256 % 2 = T p % 512 / 256 := by omega
    rw [z1, V0, ← z2]; exact ht
  obtain ⟨v, C1, R1, T1, N1, e1, e2, f, po⟩ := s_putW (R0 := fr R0 0 8 (nI n)) h hu hp hl hx V1 V2 V3 (fun k hk => (fr_k hk).trans (l2 k hk)) (fun j hj => (fr_n (by omega)).trans (l3 j hj)) ((fr_n (by decide)).trans l4) ((fr_n (by decide)).trans l5) ((fr_n (by decide)).trans l6) ((fr_n (by decide)).trans (l7.trans (by rw [hr.2.2.2.2.2.1, V4]))) (fr_s.trans (by rw [V5])) ((fr_n (by decide)).trans (l9.trans (by rw [hr.2.2.2.2.2.2.2, V6]))) ((fr_n (by decide)).trans l10) ((fr_n (by decide)).trans l11)
  obtain ⟨p1, p2, p3, p4⟩ := po
  have hat : at' T N R o = some (T p / 512, R 5 p, decide (R 10 p < 0)) := by rw [at_k hu, ek]; rfl
  have nu : NU (at' T1 N1 R1) := by
    rcases p3 with ⟨-, p3⟩ | p3
    · rw [at_eq p3]; exact hnu
    · refine NU_put hnu p3 (fun hrd o' o1 o7 hne t' w' ht' hpar => ?_)
      rw [V2, hk] at hne
      rw [hrd] at hat
      exact hnu o' o o1 o7 h1 h7 hne t' w' _ _ ht' hat (by rw [hpar]; exact V4)
  refine ⟨v, C1, R0, R1, T1, N1, ?_, l1, e2, f, p1, p2, nu, fun z => (p4 z).1⟩
  unfold fn_S_putLength
  rw [c_page0 h.1 (by omega), bd_s, ek, show ixI (some p) = nI p from rfl, if_neg (ni_m1 (by omega)), gd_s (inb_n hp (by decide)), st_s, rc_n (by omega), hc.2, ft_withLength C hc.1 hn, bd_s]
  rw [show T p % 4096 + 4096 * (n + 8 * (T p / 32768)) = lenV (T p) n from rfl, e1, bd_s]
  cases v
  · rw [bI_f, if_pos rfl]
  · rw [bI_t, if_neg (by decide)]
