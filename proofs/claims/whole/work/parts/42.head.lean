/-! Headers: who is there, what is in a directory, the names. -/
theorem fx_some {P : Nat → Bool} : ∀ (m i p : Nat), fx P m i = some p → i ≤ p ∧ p < i + m ∧ P p = true := by
  intro m
  induction m with
  | zero => intro i p h; cases h
  | succ m ih =>
    intro i p h
    cases hp : P i with
    | true => rw [fx_t hp] at h; cases h; exact ⟨Nat.le_refl _, by omega, hp⟩
    | false => rw [fx_f hp] at h; have := ih (i + 1) p h; exact ⟨by omega, by omega, this.2.2⟩
theorem fx_none {P : Nat → Bool} : ∀ (m i : Nat), fx P m i = none → ∀ p, i ≤ p → p < i + m → P p = false := by
  intro m
  induction m with
  | zero => intro i _ p h1 h2; omega
  | succ m ih =>
    intro i h p h1 h2
    cases hp : P i with
    | true => rw [fx_t hp] at h; cases h
    | false =>
      rw [fx_f hp] at h
      by_cases e : p = i
      · rw [e]; exact hp
      · exact ih (i + 1) h p (by omega) (by omega)
theorem fx_cong {P Q : Nat → Bool} : ∀ (m i : Nat), (∀ p, i ≤ p → p < i + m → P p = Q p) → fx P m i = fx Q m i := by
  intro m
  induction m with
  | zero => intro i _; rfl
  | succ m ih =>
    intro i h
    have h1 := h i (Nat.le_refl _) (by omega)
    have h2 := ih (i + 1) (fun p a b => h p (by omega) (by omega))
    cases hp : P i with
    | true => rw [fx_t hp, fx_t (h1 ▸ hp)]
    | false => rw [fx_f hp, fx_f (h1 ▸ hp), h2]
theorem pgx_some {T N : Nat → Nat} {o c p : Nat} (h : pgx T N o c = some p) : p < 48 ∧ lv T N p = true ∧ T p % 64 = o + 8 * c := by
  have q := fx_some 48 0 p h
  have e := q.2.2
  unfold pgP at e
  rw [Bool.and_eq_true, decide_eq_true_iff] at e
  exact ⟨by omega, e.1, e.2⟩
theorem ni_m1 {p : Nat} (h : p < 2 ^ 31) : ¬ nI p = -1 := fun e => by
  have h1 := nI_toInt h
  rw [e] at h1
  have h2 : (-1 : Int32).toInt = -1 := by decide
  omega
theorem ni_nn {p : Nat} (h : p < 2 ^ 31) : ¬ nI p < 0 := nI_pos h
def hdx (T N : Nat → Nat) (x : Int32) : Option Nat := if 1 ≤ x ∧ x ≤ 7 then pgx T N x.toNatClampNeg 0 else none
theorem ob_case (x : Int32) : x ≤ 0 ∨ 7 < x ∨ ∃ o, 1 ≤ o ∧ o ≤ 7 ∧ x = nI o := by
  by_cases h1 : x ≤ 0
  · exact Or.inl h1
  · by_cases h2 : 7 < x
    · exact Or.inr (Or.inl h2)
    · obtain ⟨j, hj, e⟩ := nI_of2 (x := x) (M := 7) (n := 7) (by decide) (fun q => h1 (by rw [Int32.le_iff_toInt_le]; rw [Int32.lt_iff_toInt_lt] at q; omega)) (by rw [Int32.le_iff_toInt_le]; rw [Int32.lt_iff_toInt_lt] at h2; omega)
      refine Or.inr (Or.inr ⟨j, ?_, hj, e⟩)
      subst e
      rw [← nI_0, nI_leI (by omega) (by omega)] at h1
      omega
theorem hdx_n {T N : Nat → Nat} {o : Nat} (h1 : 1 ≤ o) (h7 : o ≤ 7) : hdx T N (nI o) = pgx T N o 0 := by
  unfold hdx
  rw [if_pos ⟨(ni_le (a := 1) rfl (by decide) (by omega)).mpr h1, by rw [show (7 : Int32) = nI 7 from rfl, nI_leI (by omega) (by decide)]; exact h7⟩, nI_clamp (by omega)]
theorem hdx_lo {T N : Nat → Nat} {x : Int32} (h : x ≤ 0) : hdx T N x = none := by
  unfold hdx
  rw [if_neg (fun q => by rw [Int32.le_iff_toInt_le] at h; have := q.1; rw [Int32.le_iff_toInt_le] at this; have e1 : (1 : Int32).toInt = 1 := by decide
                          have e0 : (0 : Int32).toInt = 0 := by decide
                          omega)]
theorem hdx_hi {T N : Nat → Nat} {x : Int32} (h : 7 < x) : hdx T N x = none := by
  unfold hdx
  rw [if_neg (fun q => by rw [Int32.lt_iff_toInt_lt] at h; have := q.2; rw [Int32.le_iff_toInt_le] at this; omega)]
theorem c_isThere {C : TC} {T N : Nat → Nat} {B : Nat → Bool} (h : CS C T N B) (x : Int32) : fn_S_isThere C x = some (bI (hdx T N x).isSome, C) := by
  unfold fn_S_isThere
  rcases ob_case x with h1 | h1 | ⟨o, h1, h7, rfl⟩
  · rw [if_pos h1, hdx_lo h1]; rfl
  · by_cases h0 : x ≤ 0
    · rw [if_pos h0, hdx_lo h0]; rfl
    · rw [if_neg h0, if_pos h1, hdx_hi h1]; rfl
  · rw [if_neg (by rw [← nI_0, nI_leI (by omega) (by omega)]; omega), if_neg (by rw [show (7 : Int32) = nI 7 from rfl, nI_ltI (by decide) (by omega)]; omega), show (0 : Int32) = nI 0 from rfl, c_livePage h (by omega) (by decide), bd_s, hdx_n h1 h7]
    cases q : pgx T N o 0 with
    | none => rw [show ixI none = -1 from rfl, if_pos rfl]; rfl
    | some p => rw [show ixI (some p) = nI p from rfl, if_neg (ni_m1 (by have := (pgx_some q).1; omega))]; rfl
theorem r_header {R : TR} {T N : Nat → Nat} {B : Nat → Bool} (h : RS R T N B) (x : Int32) : fn_M_header R x = some (ixI (hdx T N x), R) := by
  unfold fn_M_header
  rcases ob_case x with h1 | h1 | ⟨o, h1, h7, rfl⟩
  · rw [if_pos (by rw [Int32.lt_iff_toInt_lt]; rw [Int32.le_iff_toInt_le] at h1; have e1 : (1 : Int32).toInt = 1 := by decide
                   have e0 : (0 : Int32).toInt = 0 := by decide
                   omega), hdx_lo h1]; rfl
  · rw [if_neg (by rw [Int32.lt_iff_toInt_lt]; rw [Int32.lt_iff_toInt_lt] at h1; have e1 : (1 : Int32).toInt = 1 := by decide
                   have e7 : (7 : Int32).toInt = 7 := by decide
                   omega), if_pos h1, hdx_hi h1]; rfl
  · rw [if_neg (by rw [show (1 : Int32) = nI 1 from rfl, nI_ltI (by omega) (by decide)]; omega), if_neg (by rw [show (7 : Int32) = nI 7 from rfl, nI_ltI (by decide) (by omega)]; omega), show (0 : Int32) = nI 0 from rfl, r_page h (by omega) (by decide), bd_s, hdx_n h1 h7]
