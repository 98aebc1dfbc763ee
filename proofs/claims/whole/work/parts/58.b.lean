theorem op_remove {C : TC} {R : TR} (h : Iv C R) (x : Int32) : Op (fn_S_remove C x) (fn_M_remove R x) := by
  have h0 := h
  obtain ⟨T, N, B, hs, hpr, hnu, h4, h5, h6⟩ := h
  have n10 : ¬ (1 : Int32) = 0 := by decide
  unfold fn_S_remove fn_M_remove
  rw [st_s]
  rcases h5 with w | w
  · rw [c_refO0 (h4.trans w), bd_s, if_neg (by decide), w, if_pos rfl]; exact ⟨_, _, _, rfl, rfl, h0⟩
  have hu := h6 w
  rw [c_refO hs.1 (h4.trans w), bd_s, w, if_neg n10, r_header hs.2.1, bd_s]
  cases e : hdx T N x with
  | none => rw [show cond (none : Option Nat).isSome (0 : Int32) (-1) = -1 from rfl, if_neg (by decide), show ixI none = -1 from rfl, if_neg (by decide)]; exact ⟨_, _, _, rfl, rfl, h0⟩
  | some p =>
    obtain ⟨o, h1, h7, rfl, e2⟩ := hdx_some e
    obtain ⟨hp, hl, -⟩ := kyx_some e2
    rw [show cond (some p).isSome (0 : Int32) (-1) = 0 from rfl, if_pos rfl, show ixI (some p) = nI p from rfl, if_pos (nI_pos' (by omega)), c_inside hs.1, bd_s, r_inside hs.2.1, bd_s]
    by_cases q : nI (cn (inP T N (nI o)) 7 1) ≤ 0
    · rw [if_pos q, if_pos q]
      obtain ⟨v, C1, R1, m1, m2, m3, m4, m5, m6⟩ := s_mark hs hp hl
      have eC : fn_S_markChunks C (nI o) 0 = bd (fn_C_mark C (nI p)) fun x7 S5 => if x7 = 0 then (some ((0 : Int32), S5)) else (lp_S_markChunks_2 63 S5 (nI o) (nI 1)) := by
        show lp_S_markChunks_2 (63 + 1) C (nI o) (nI 0) = _
        rw [le_S_markChunks_2, if_neg (by decide), c_livePage hs.1 (by omega) (by decide), bd_s, show pgx T N o 0 = some p from e2, show ixI (some p) = nI p from rfl, if_neg (ni_m1 (by omega))]
        simp only [st_s, ni_inc]
      have eR : ∀ S, fn_M_drop S (nI o) 0 = lp_M_drop_4 64 S (nI o) (nI 1) := fun S => rfl
      rw [eC, m1, m2, bd_s, bd_s]
      cases v with
      | false =>
        rw [bI_f, if_pos rfl, if_pos rfl, bd_s, if_pos rfl]
        exact ⟨-9, fc C1 0 0 0, R1, rfl, rfl, Iv_off (T := T) m3 hpr (by rw [show at' T N R1 = at' T N R from funext (at_R m5 m6)]; exact hnu) m4.2.2.2.1⟩
      | true =>
        rw [bI_t, if_neg n10, if_neg n10, eR]
        have nu1 : NU (at' (upN T p (T p + 256)) N R1) := NU_mono hnu (fun k t w hk => by
          rw [at_mk hu hp hl m5 m6 k] at hk
          by_cases z : k = T p % 64
          · rw [if_pos z] at hk; cases hk
          · rw [if_neg z] at hk; exact hk)
        obtain ⟨v2, C2, R2, T2, g1, g2, g3, g4, g5, g6, g7⟩ := s_marks (show o < 8 by omega) 6 63 64 1 C1 R1 _ rfl (by decide) (by decide) m3 (hu.mk hl) nu1
        rw [g1, g2, bd_s, bd_s]
        have f0 : R1 0 0 = R 0 0 := m4.2.2.2.1
        cases v2 with
        | false =>
          rw [bI_f, if_pos rfl, if_pos rfl]
          exact ⟨-9, fc C2 0 0 0, R2, rfl, rfl, Iv_off g4 g5 g6 g3.2⟩
        | true =>
          rw [bI_t, if_neg n10, if_neg n10]
          exact ⟨0, C2, R2, rfl, rfl, Iv_on g4 (g7 rfl) g6 (by rw [g3.1, m4.1]; exact h4.trans w) (g3.2.trans (f0.trans w))⟩
    · rw [if_neg q, if_neg q]; exact ⟨_, _, _, rfl, rfl, h0⟩
