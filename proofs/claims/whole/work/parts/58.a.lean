/-! write, truncate, remove. -/
theorem NU_key {A A1 : Nat → Option Ab} (h : NU A) (hk : ∀ k, k ≤ 7 → A1 k = A k) : NU A1 :=
  fun o o' a b c d e t w t' w' x y z => h o o' a b c d e t w t' w' (by rw [← hk o b]; exact x) (by rw [← hk o' d]; exact y) z
theorem ni_6l {i : Nat} (h : i < 2 ^ 31) : (6 : Int32) < nI i ↔ 6 < i := ni_lt rfl (by decide) h
theorem s_marks {N : Nat → Nat} {B : Nat → Bool} {o : Nat} (ho : o < 8) : ∀ (m n n' c : Nat) (C : TC) (R : TR) (T : Nat → Nat), c + m = 7 → m < n → m < n' → Sm C R T N B → Uq T N → NU (at' T N R) →
    ∃ (v : Bool) (C1 : TC) (R1 : TR) (T1 : Nat → Nat), lp_S_markChunks_2 n C (nI o) (nI c) = some (bI v, C1) ∧ lp_M_drop_4 n' R (nI o) (nI c) = some (bI v, R1) ∧ Fw C R C1 R1 v ∧ Sm C1 R1 T1 N B ∧ Pr T1 N ∧ NU (at' T1 N R1) ∧ (v = true → Uq T1 N) := by
  intro m
  induction m with
  | zero =>
    intro n n' c C R T hc hn hn' h hu hnu
    obtain ⟨n, rfl⟩ := pred_n hn
    obtain ⟨n', rfl⟩ := pred_n hn'
    rw [le_S_markChunks_2, if_pos ((ni_6l (i := c) (by omega)).mpr (by omega)), le_M_drop_4, if_pos ((ni_6l (i := c) (by omega)).mpr (by omega))]
    exact ⟨true, C, R, T, rfl, rfl, ⟨rfl, rfl⟩, h, hu.pr, hnu, fun _ => hu⟩
  | succ m ih =>
    intro n n' c C R T hc hn hn' h hu hnu
    obtain ⟨n, rfl⟩ := pred_n hn
    obtain ⟨n', rfl⟩ := pred_n hn'
    have eC : lp_S_markChunks_2 (n + 1) C (nI o) (nI c) = (if ixI (pgx T N o c) = (-1 : Int32) then (lp_S_markChunks_2 n C (nI o) (nI (c + 1))) else (bd (fn_C_mark C (ixI (pgx T N o c))) fun x7 S5 => if x7 = 0 then (some ((0 : Int32), S5)) else (lp_S_markChunks_2 n S5 (nI o) (nI (c + 1))))) := by
      rw [le_S_markChunks_2, if_neg (fun z => by have := (ni_6l (i := c) (by omega)).mp z; omega), c_livePage h.1 ho (by omega), bd_s]
      simp only [st_s, ni_inc]
    have eR : lp_M_drop_4 (n' + 1) R (nI o) (nI c) = (if ixI (pgx T N o c) < 0 then (lp_M_drop_4 n' R (nI o) (nI (c + 1))) else (bd (fn_M_mark R (ixI (pgx T N o c))) fun x7 S5 => if x7 = 0 then (some ((0 : Int32), S5)) else (lp_M_drop_4 n' S5 (nI o) (nI (c + 1))))) := by
      rw [le_M_drop_4, if_neg (fun z => by have := (ni_6l (i := c) (by omega)).mp z; omega), r_page h.2.1 ho (by omega), bd_s]
      simp only [st_s, ni_inc]
    rw [eC, eR]
    cases e : pgx T N o c with
    | none =>
      rw [show ixI none = -1 from rfl, if_pos rfl, if_pos (by decide)]
      exact ih n n' (c + 1) C R T (by omega) (by omega) (by omega) h hu hnu
    | some p =>
      obtain ⟨hp, hl, hk⟩ := pgx_some e
      rw [show ixI (some p) = nI p from rfl, if_neg (ni_m1 (by omega)), if_neg (ni_nn (by omega))]
      obtain ⟨v, C1, R1, m1, m2, m3, m4, m5, m6⟩ := s_mark h hp hl
      rw [m1, m2, bd_s, bd_s]
      cases v with
      | false =>
        rw [bI_f, if_pos rfl, if_pos rfl]
        exact ⟨false, C1, R1, T, rfl, rfl, ⟨m4.1, m4.2.2.2.1⟩, m3, hu.pr, by rw [show at' T N R1 = at' T N R from funext (at_R m5 m6)]; exact hnu, fun z => by cases z⟩
      | true =>
        rw [bI_t, if_neg (by decide), if_neg (by decide)]
        have nu1 : NU (at' (upN T p (T p + 256)) N R1) := NU_mono hnu (fun k t w hk => by
          rw [at_mk hu hp hl m5 m6 k] at hk
          by_cases z : k = T p % 64
          · rw [if_pos z] at hk; cases hk
          · rw [if_neg z] at hk; exact hk)
        obtain ⟨v2, C2, R2, T2, g1, g2, g3, g4⟩ := ih n n' (c + 1) C1 R1 _ (by omega) (by omega) (by omega) m3 (hu.mk hl) nu1
        have f0 : R1 0 0 = R 0 0 := m4.2.2.2.1
        exact ⟨v2, C2, R2, T2, g1, g2, ⟨g3.1.trans m4.1, g3.2.trans (by rw [f0])⟩, g4⟩
