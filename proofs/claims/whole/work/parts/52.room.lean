/-! Which block is collected; making room. -/
def cd (T N : Nat → Nat) (B : Nat → Bool) (b : Nat) : Prop := B b = false ∧ N b = 8 ∧ cn (lv T N) 8 (8 * b) < 8 ∧ cn (lv T N) 8 (8 * b) ≤ free N B
def btr (T N : Nat → Nat) (b c : Nat) : Prop := cn (lv T N) 8 (8 * b) < cn (lv T N) 8 (8 * c) ∨ (cn (lv T N) 8 (8 * b) = cn (lv T N) 8 (8 * c) ∧ b ≤ c)
def best (T N : Nat → Nat) (B : Nat → Bool) (r : Option Nat) : Prop := (r = none ∧ ∀ b, b < 6 → ¬ cd T N B b) ∨ ∃ b, r = some b ∧ b < 6 ∧ cd T N B b ∧ ∀ c, c < 6 → cd T N B c → btr T N b c
theorem best_u {T N : Nat → Nat} {B : Nat → Bool} {r s : Option Nat} (h : best T N B r) (g : best T N B s) : r = s := by
  rcases h with ⟨rfl, h⟩ | ⟨b, rfl, hb, h1, h2⟩
  · rcases g with ⟨rfl, g⟩ | ⟨c, rfl, hc, g1, g2⟩
    · rfl
    · exact absurd g1 (h c hc)
  · rcases g with ⟨rfl, g⟩ | ⟨c, rfl, hc, g1, g2⟩
    · exact absurd h1 (g b hb)
    · have a := h2 c hc g1
      have a2 := g2 b hb h1
      unfold btr at a a2
      rw [show b = c by omega]
theorem c_poor_lp {C : TC} {T N : Nat → Nat} {B : Nat → Bool} (h : CS C T N B) : ∀ (m n i : Nat) (e : Option Nat) (f : Nat), i + m = 6 → m < n →
    ((e = none ∧ f = 8 ∧ ∀ b, b < i → ¬ cd T N B b) ∨ ∃ b, e = some b ∧ b < i ∧ f = cn (lv T N) 8 (8 * b) ∧ cd T N B b ∧ ∀ c, c < i → cd T N B c → btr T N b c) →
    ∃ r, lp_S_blockToCollect_16 n C (ixI e) (nI f) (nI (free N B)) (nI i) = some (ixI r, C) ∧ best T N B r := by
  intro m
  induction m with
  | zero =>
    intro n i e f hi hn hI
    obtain ⟨n, rfl⟩ := pred_n hn
    have ei : i = 6 := by omega
    subst ei
    rw [le_S_blockToCollect_16, if_pos ((ni_6 (i := 6) (by decide)).mpr (by decide))]
    refine ⟨e, rfl, ?_⟩
    rcases hI with ⟨a, -, b⟩ | ⟨b, a1, a2, a3, a4, a5⟩
    · exact Or.inl ⟨a, b⟩
    · exact Or.inr ⟨b, a1, a2, a4, a5⟩
  | succ m ih =>
    intro n i e f hi hn hI
    obtain ⟨n, rfl⟩ := pred_n hn
    have hi6 : i < 6 := by omega
    have hb := h.1 i hi6
    have hle := cn_le (P := lv T N) 8 (8 * i)
    have hfl : free N B ≤ 48 := sm_le (k := 8) (fun j => by unfold frB; cases B j <;> simp) 6 0
    have f8 : f ≤ 8 := by
      rcases hI with ⟨-, a, -⟩ | ⟨b, -, -, a, -, -⟩
      · omega
      · rw [a]; exact cn_le 8 (8 * b)
    have skip : ¬ cd T N B i → ((e = none ∧ f = 8 ∧ ∀ b, b < i + 1 → ¬ cd T N B b) ∨ ∃ b, e = some b ∧ b < i + 1 ∧ f = cn (lv T N) 8 (8 * b) ∧ cd T N B b ∧ ∀ c, c < i + 1 → cd T N B c → btr T N b c) := fun hc => by
      rcases hI with ⟨a, a2, b⟩ | ⟨b, a1, a2, a3, a4, a5⟩
      · exact Or.inl ⟨a, a2, fun c hc2 => by
          by_cases w : c = i
          · rw [w]; exact hc
          · exact b c (by omega)⟩
      · exact Or.inr ⟨b, a1, by omega, a3, a4, fun c hc2 hc3 => by
          by_cases w : c = i
          · rw [w] at hc3; exact absurd hc3 hc
          · exact a5 c (by omega) hc3⟩
    rw [le_S_blockToCollect_16, if_neg (fun q => by have := (ni_6 (i := i) (by omega)).mp q; omega), gd_s (inb_n hi6 (by decide)), st_s, rc_n (by omega), hb.2.2]
    cases q : B i with
    | true =>
      rw [bI_t, if_neg (by decide), st_s, ni_inc]
      exact ih n (i + 1) e f (by omega) (by omega) (skip (fun z => by rw [z.1] at q; cases q))
    | false =>
      rw [bI_f, if_pos rfl, gd_s (inb_n hi6 (by decide)), st_s, rc_n (by omega), hb.2.1]
      by_cases h8 : N i = 8
      · rw [if_pos (by rw [h8]; decide), c_lives h hi6, bd_s]
        by_cases w1 : f ≤ cn (lv T N) 8 (8 * i)
        · rw [if_pos ((nI_leI (by omega) (by omega)).mpr w1), st_s, ni_inc]
          refine ih n (i + 1) e f (by omega) (by omega) ?_
          rcases hI with ⟨a, a2, b⟩ | ⟨b, a1, a2, a3, a4, a5⟩
          · exact skip (fun z => by have := z.2.2.1; omega)
          · exact Or.inr ⟨b, a1, by omega, a3, a4, fun c hc2 hc3 => by
              by_cases w : c = i
              · subst w; unfold btr; omega
              · exact a5 c (by omega) hc3⟩
        · rw [if_neg (fun z => w1 ((nI_leI (by omega) (by omega)).mp z))]
          by_cases w2 : free N B < cn (lv T N) 8 (8 * i)
          · rw [if_pos ((nI_ltI (by omega) (by omega)).mpr w2), st_s, ni_inc]
            exact ih n (i + 1) e f (by omega) (by omega) (skip (fun z => by have := z.2.2.2; omega))
          · rw [if_neg (fun z => w2 ((nI_ltI (by omega) (by omega)).mp z)), st_s, ni_inc]
            have ci : cd T N B i := ⟨q, h8, by omega, by omega⟩
            exact ih n (i + 1) (some i) (cn (lv T N) 8 (8 * i)) (by omega) (by omega) (Or.inr ⟨i, rfl, by omega, rfl, ci, fun c hc2 hc3 => by
              by_cases w : c = i
              · subst w; exact Or.inr ⟨rfl, Nat.le_refl _⟩
              · rcases hI with ⟨a, a2, b⟩ | ⟨b, a1, a2, a3, a4, a5⟩
                · exact absurd hc3 (b c (by omega))
                · have := a5 c (by omega) hc3; unfold btr at this ⊢; omega⟩)
      · rw [if_neg (by rw [show (8 : Int32) = nI 8 from rfl, nI_leI (by decide) (by omega)]; omega), st_s, ni_inc]
        exact ih n (i + 1) e f (by omega) (by omega) (skip (fun z => h8 z.2.1))
theorem c_poor {C : TC} {T N : Nat → Nat} {B : Nat → Bool} (h : CS C T N B) : ∃ r, fn_S_blockToCollect C = some (ixI r, C) ∧ best T N B r := by
  unfold fn_S_blockToCollect
  rw [c_free h, bd_s]
  exact c_poor_lp h 6 64 0 none 8 rfl (by decide) (Or.inl ⟨rfl, rfl, fun b hb => by omega⟩)
theorem ni_8 {i : Nat} (h : i < 2 ^ 31) : (8 : Int32) ≤ nI i ↔ 8 ≤ i := ni_le rfl (by decide) h
def dnI (m : Nat) : Int32 := match m with
  | 0 => -1
  | i + 1 => nI i
theorem dn_s (i : Nat) : nI i + (-1 : Int32) = dnI i := by
  cases i with
  | zero => decide
  | succ i => exact pk_m1 i
theorem r_poor_lp {R : TR} {T N : Nat → Nat} {B : Nat → Bool} (h : RS R T N B) : ∀ (m n : Nat) (e : Option Nat), m ≤ 6 → m < n →
    ((e = none ∧ ∀ b, m ≤ b → b < 6 → ¬ cd T N B b) ∨ ∃ b, e = some b ∧ m ≤ b ∧ b < 6 ∧ cd T N B b ∧ ∀ c, m ≤ c → c < 6 → cd T N B c → btr T N b c) →
    ∃ r, lp_M_poorest_9 n R (ixI e) (nI (free N B)) (dnI m) = some (ixI r, R) ∧ best T N B r := by
  intro m
  induction m with
  | zero =>
    intro n e hm hn hI
    obtain ⟨n, rfl⟩ := pred_n hn
    rw [le_M_poorest_9, if_pos (by decide)]
    refine ⟨e, rfl, ?_⟩
    rcases hI with ⟨a, b⟩ | ⟨b, a1, a2, a3, a4, a5⟩
    · exact Or.inl ⟨a, fun c hc => b c (Nat.zero_le _) hc⟩
    · exact Or.inr ⟨b, a1, a3, a4, fun c hc => a5 c (Nat.zero_le _) hc⟩
  | succ i ih =>
    intro n e hm hn hI
    obtain ⟨n, rfl⟩ := pred_n hn
    have hi6 : i < 6 := by omega
    have hb := h.1 i hi6
    have hle := cn_le (P := lv T N) 8 (8 * i)
    have hfl : free N B ≤ 48 := sm_le (k := 8) (fun j => by unfold frB; cases B j <;> simp) 6 0
    have skip : ¬ cd T N B i → ((e = none ∧ ∀ b, i ≤ b → b < 6 → ¬ cd T N B b) ∨ ∃ b, e = some b ∧ i ≤ b ∧ b < 6 ∧ cd T N B b ∧ ∀ c, i ≤ c → c < 6 → cd T N B c → btr T N b c) := fun hc => by
      rcases hI with ⟨a, b⟩ | ⟨b, a1, a2, a3, a4, a5⟩
      · exact Or.inl ⟨a, fun c h1 h2 => by
          by_cases w : c = i
          · rw [w]; exact hc
          · exact b c (by omega) h2⟩
      · exact Or.inr ⟨b, a1, by omega, a3, a4, fun c h1 h2 h3 => by
          by_cases w : c = i
          · rw [w] at h3; exact absurd h3 hc
          · exact a5 c (by omega) h2 h3⟩
    rw [le_M_poorest_9, show dnI (i + 1) = nI i from rfl, if_neg (ni_nn (by omega)), r_lives h hi6, bd_s, gd_s (inb_n hi6 (by decide)), st_s, rr_n (by omega), hb.2]
    cases q : B i with
    | true =>
      rw [bI_t, if_neg (by decide), st_s, dn_s]
      exact ih n e (by omega) (by omega) (skip (fun z => by rw [z.1] at q; cases q))
    | false =>
      rw [bI_f, if_pos rfl, r_prog h hi6, bd_s]
      by_cases h8 : N i = 8
      · rw [if_pos (by rw [h8]; rfl)]
        by_cases w1 : 8 ≤ cn (lv T N) 8 (8 * i)
        · rw [if_pos ((ni_8 (i := cn (lv T N) 8 (8 * i)) (by omega)).mpr w1), st_s, dn_s]
          exact ih n e (by omega) (by omega) (skip (fun z => by have := z.2.2.1; omega))
        · rw [if_neg (fun z => w1 ((ni_8 (i := cn (lv T N) 8 (8 * i)) (by omega)).mp z))]
          by_cases w2 : free N B < cn (lv T N) 8 (8 * i)
          · rw [if_pos ((nI_ltI (by omega) (by omega)).mpr w2), st_s, dn_s]
            exact ih n e (by omega) (by omega) (skip (fun z => by have := z.2.2.2; omega))
          · rw [if_neg (fun z => w2 ((nI_ltI (by omega) (by omega)).mp z))]
            have ci : cd T N B i := ⟨q, h8, by omega, by omega⟩
            rcases hI with ⟨a, b⟩ | ⟨b, a1, a2, a3, a4, a5⟩
            · subst a
              rw [show ixI none = -1 from rfl, if_pos (by decide), st_s, dn_s]
              exact ih n (some i) (by omega) (by omega) (Or.inr ⟨i, rfl, Nat.le_refl _, hi6, ci, fun c h1 h2 h3 => by
                by_cases w : c = i
                · subst w; exact Or.inr ⟨rfl, Nat.le_refl _⟩
                · exact absurd h3 (b c (by omega) h2)⟩)
            · subst a1
              have hlb := cn_le (P := lv T N) 8 (8 * b)
              rw [show ixI (some b) = nI b from rfl, if_neg (ni_nn (by omega)), r_lives h a3, bd_s]
              by_cases w3 : cn (lv T N) 8 (8 * b) < cn (lv T N) 8 (8 * i)
              · rw [if_pos ((nI_ltI (by omega) (by omega)).mpr w3), st_s, dn_s]
                exact ih n (some b) (by omega) (by omega) (Or.inr ⟨b, rfl, by omega, a3, a4, fun c h1 h2 h3 => by
                  by_cases w : c = i
                  · subst w; exact Or.inl w3
                  · exact a5 c (by omega) h2 h3⟩)
              · rw [if_neg (fun z => w3 ((nI_ltI (by omega) (by omega)).mp z)), st_s, dn_s]
                exact ih n (some i) (by omega) (by omega) (Or.inr ⟨i, rfl, Nat.le_refl _, hi6, ci, fun c h1 h2 h3 => by
                  by_cases w : c = i
                  · subst w; exact Or.inr ⟨rfl, Nat.le_refl _⟩
                  · have := a5 c (by omega) h2 h3; unfold btr at this ⊢; omega⟩)
      · rw [if_neg (by rw [show (8 : Int32) = nI 8 from rfl, nI_eq (by omega) (by decide)]; exact h8), st_s, dn_s]
        exact ih n e (by omega) (by omega) (skip (fun z => h8 z.2.1))
theorem r_poor {R : TR} {T N : Nat → Nat} {B : Nat → Bool} (h : RS R T N B) : ∃ r, fn_M_poorest R = some (ixI r, R) ∧ best T N B r := by
  unfold fn_M_poorest
  rw [r_free h, bd_s]
  exact r_poor_lp h 6 64 none (by decide) (by decide) (Or.inl ⟨rfl, fun b h1 h2 => by omega⟩)
/-- what making room comes to -/
def RO (C : TC) (R : TR) (C1 : TC) (R1 : TR) (T1 N1 : Nat → Nat) (B1 : Nat → Bool) (k : Nat) (z : Int32) : Prop :=
  (z = 0 ∧ Uq T1 N1 ∧ 8 + k ≤ free N1 B1 ∧ C1.1 0 = C.1 0 ∧ R1 0 0 = R 0 0) ∨ (z = -6 ∧ Uq T1 N1 ∧ C1.1 0 = C.1 0 ∧ R1 0 0 = R 0 0) ∨ (z = -9 ∧ C1.1 0 0 = 0 ∧ R1 0 0 = 0)
theorem s_room_lp {k : Nat} (hk : k ≤ 2) : ∀ (m n n' t : Nat) (C : TC) (R : TR) (T N : Nat → Nat) (B : Nat → Bool), 48 < psi N B + m → m < n → m < n' → t + m ≤ 60 → Sm C R T N B → Uq T N →
    ∃ (z : Int32) (C1 : TC) (R1 : TR) (T1 N1 : Nat → Nat) (B1 : Nat → Bool), lp_S_makeRoom_7 n C (nI (8 + k)) (nI t) = some (z, C1) ∧ lp_M_room_2 n' R (nI k) (nI t) = some (z, R1) ∧ Sm C1 R1 T1 N1 B1 ∧ Pr T1 N1 ∧ (∀ j, at' T1 N1 R1 j = at' T N R j) ∧ RO C R C1 R1 T1 N1 B1 k z := by
  intro m
  induction m with
  | zero => intro n n' t C R T N B hm; have := psi_le N B; omega
  | succ m ih =>
    intro n n' t C R T N B hm hn hn' ht h hu
    obtain ⟨n, rfl⟩ := pred_n hn
    obtain ⟨n', rfl⟩ := pred_n hn'
    have hfl : free N B ≤ 48 := sm_le (k := 8) (fun j => by unfold frB; cases B j <;> simp) 6 0
    have e8 : (8 : Int32) + nI k = nI (8 + k) := by rw [show (8 : Int32) = nI 8 from rfl, nI_add]
    obtain ⟨r, c1, c2⟩ := c_poor h.1
    obtain ⟨r', c3, c4⟩ := r_poor h.2.1
    have er := best_u c4 c2
    subst er
    have eC : lp_S_makeRoom_7 (n + 1) C (nI (8 + k)) (nI t) = if nI (8 + k) ≤ nI (free N B) then some (0, C) else if ixI r' = -1 then some (-6, C) else (bd (fn_S_collect C (ixI r')) fun x15 S13 => if x15 = 0 then (bd (fn_S_switchOff S13) fun x19 S17 => some (x19, S17)) else lp_S_makeRoom_7 n S13 (nI (8 + k)) (nI (t + 1))) := by
      rw [le_S_makeRoom_7, if_neg (by rw [show (1000 : Int32) = nI 1000 from rfl, nI_leI (by decide) (by omega)]; omega), c_free h.1, bd_s]
      by_cases w : nI (8 + k) ≤ nI (free N B)
      · rw [if_pos w, if_pos w, c_free h.1, bd_s, if_pos w]
      · rw [if_neg w, if_neg w, c1, bd_s]
        simp only [st_s, ni_inc]
    have eR : lp_M_room_2 (n' + 1) R (nI k) (nI t) = if nI (free N B) < nI (8 + k) then (if 0 ≤ ixI r' then (bd (fn_M_collect R (ixI r')) fun x9 S7 => if x9 = 0 then (some ((-9 : Int32), S7)) else lp_M_room_2 n' S7 (nI k) (nI (t + 1))) else some (-6, R)) else some (0, R) := by
      rw [le_M_room_2, if_neg (by rw [show (100 : Int32) = nI 100 from rfl, nI_leI (by decide) (by omega)]; omega), r_free h.2.1, bd_s, e8, c3, bd_s]
      simp only [st_s, ni_inc]
    by_cases w : 8 + k ≤ free N B
    · rw [if_pos ((nI_leI (by omega) (by omega)).mpr w)] at eC
      rw [if_neg (fun z => by have := (nI_ltI (by omega) (by omega)).mp z; omega)] at eR
      exact ⟨0, C, R, T, N, B, eC, eR, h, hu.pr, fun _ => rfl, Or.inl ⟨rfl, hu, w, rfl, rfl⟩⟩
    · rw [if_neg (fun z => w ((nI_leI (by omega) (by omega)).mp z))] at eC
      rw [if_pos ((nI_ltI (by omega) (by omega)).mpr (by omega))] at eR
      cases r' with
      | none =>
        rw [show ixI none = -1 from rfl, if_pos rfl] at eC
        rw [show ixI none = -1 from rfl, if_neg (by decide)] at eR
        exact ⟨-6, C, R, T, N, B, eC, eR, h, hu.pr, fun _ => rfl, Or.inr (Or.inl ⟨rfl, hu, rfl, rfl⟩)⟩
      | some d =>
        rcases c2 with ⟨c2, -⟩ | ⟨d', c2, hd, cdd, -⟩
        · cases c2
        cases c2
        obtain ⟨v, C1, R1, T1, N1, B1, g1, g2, g3, g4, g5, g6, g7⟩ := s_coll hd cdd.1 h hu cdd.2.1 cdd.2.2.2 cdd.2.2.1
        rw [show ixI (some d) = nI d from rfl, if_neg (ni_m1 (by omega)), g1, bd_s] at eC
        rw [show ixI (some d) = nI d from rfl, if_pos (nI_pos' (by omega)), g2, bd_s] at eR
        cases v with
        | false =>
          rw [bI_f, if_pos rfl] at eC eR
          refine ⟨-9, fc C1 0 0 0, R1, T1, N1, B1, eC, eR, g4, g5, g6, Or.inr (Or.inr ⟨rfl, rfl, g3.2⟩)⟩
        | true =>
          rw [bI_t, if_neg (by decide)] at eC eR
          obtain ⟨u1, p1⟩ := g7 rfl
          obtain ⟨z, C2, R2, T2, N2, B2, k1, k2, k3, k4, k5, k6⟩ := ih n n' (t + 1) C1 R1 T1 N1 B1 (by omega) (by omega) (by omega) (by omega) g4 u1
          refine ⟨z, C2, R2, T2, N2, B2, eC.trans k1, eR.trans k2, k3, k4, fun j => (k5 j).trans (g6 j), ?_⟩
          have f0 : R1 0 0 = R 0 0 := g3.2
          rcases k6 with ⟨a1, a2, a3, a4, a5⟩ | ⟨a1, a2, a4, a5⟩ | a
          · exact Or.inl ⟨a1, a2, a3, a4.trans g3.1, a5.trans f0⟩
          · exact Or.inr (Or.inl ⟨a1, a2, a4.trans g3.1, a5.trans f0⟩)
          · exact Or.inr (Or.inr a)
theorem s_room {C : TC} {R : TR} {T N : Nat → Nat} {B : Nat → Bool} {k : Nat} (hk : k ≤ 2) (h : Sm C R T N B) (hu : Uq T N) :
    ∃ (z : Int32) (C1 : TC) (R1 : TR) (T1 N1 : Nat → Nat) (B1 : Nat → Bool), fn_S_makeRoom C (nI k) = some (z, C1) ∧ fn_M_room R (nI k) = some (z, R1) ∧ Sm C1 R1 T1 N1 B1 ∧ Pr T1 N1 ∧ (∀ j, at' T1 N1 R1 j = at' T N R j) ∧ RO C R C1 R1 T1 N1 B1 k z := by
  obtain ⟨z, C1, R1, T1, N1, B1, g1, g2, g3⟩ := s_room_lp hk 49 64 64 0 C R T N B (by omega) (by decide) (by decide) (by decide) h hu
  refine ⟨z, C1, R1, T1, N1, B1, ?_, g2, g3⟩
  unfold fn_S_makeRoom
  rw [st_s, show (8 : Int32) = nI 8 from rfl, nI_add]
  exact g1
