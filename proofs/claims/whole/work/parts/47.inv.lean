/-! What holds of the picture: one live page a key while the system is on, two next to each other while it is off; what a key bears. -/
def Uq (T N : Nat → Nat) : Prop := ∀ p q, p < 48 → q < 48 → lv T N p = true → lv T N q = true → T p % 64 = T q % 64 → p = q
def Pr (T N : Nat → Nat) : Prop := ∀ p q, p < 48 → q < 48 → lv T N p = true → lv T N q = true → p ≠ q → T p % 64 = T q % 64 → (T p / 64 + 1) % 4 = T q / 64 % 4 ∨ (T q / 64 + 1) % 4 = T p / 64 % 4
def flP (T N : Nat → Nat) (p q : Nat) : Bool := lv T N q && decide (T p % 64 = T q % 64 ∧ (T p / 64 + 1) % 4 = T q / 64 % 4)
def flB (T N : Nat → Nat) (p : Nat) : Bool := (fx (flP T N p) 48 0).isSome
def kyP (T N : Nat → Nat) (k p : Nat) : Bool := lv T N p && decide (T p % 64 = k)
def kyx (T N : Nat → Nat) (k : Nat) : Option Nat := fx (kyP T N k) 48 0
def ufP (T N : Nat → Nat) (k p : Nat) : Bool := kyP T N k p && !flB T N p
def ufx (T N : Nat → Nat) (k : Nat) : Option Nat := fx (ufP T N k) 48 0
abbrev Ab : Type := Nat × Int32 × Bool
def atp (T : Nat → Nat) (R : TR) (p : Nat) : Ab := (T p / 512, R 5 p, decide (R 10 p < 0))
def at' (T N : Nat → Nat) (R : TR) (k : Nat) : Option Ab := (ufx T N k).map (atp T R)
theorem pgx_k {T N : Nat → Nat} {o c : Nat} : pgx T N o c = kyx T N (o + 8 * c) := rfl
theorem kyP_iff {T N : Nat → Nat} {k p : Nat} : kyP T N k p = true ↔ lv T N p = true ∧ T p % 64 = k := by
  unfold kyP; rw [Bool.and_eq_true, decide_eq_true_iff]
theorem ufP_iff {T N : Nat → Nat} {k p : Nat} : ufP T N k p = true ↔ lv T N p = true ∧ T p % 64 = k ∧ flB T N p = false := by
  unfold ufP; rw [Bool.and_eq_true, kyP_iff, Bool.not_eq_true', and_assoc]
theorem flP_iff {T N : Nat → Nat} {p q : Nat} : flP T N p q = true ↔ lv T N q = true ∧ T p % 64 = T q % 64 ∧ (T p / 64 + 1) % 4 = T q / 64 % 4 := by
  unfold flP; rw [Bool.and_eq_true, decide_eq_true_iff]
theorem fx_isSome {P : Nat → Bool} : (fx P 48 0).isSome = true ↔ ∃ q, q < 48 ∧ P q = true := by
  constructor
  · intro h
    cases e : fx P 48 0 with
    | none => rw [e] at h; cases h
    | some q => have z := fx_some 48 0 q e; exact ⟨q, by omega, z.2.2⟩
  · intro ⟨q, hq, hP⟩
    cases e : fx P 48 0 with
    | none => have z := fx_none 48 0 e q (by omega) (by omega); rw [hP] at z; cases z
    | some q => rfl
theorem fx_uniq {P : Nat → Bool} {p : Nat} (hp : p < 48) (h : P p = true) (hu : ∀ q, q < 48 → P q = true → q = p) : fx P 48 0 = some p := by
  cases e : fx P 48 0 with
  | none => have z := fx_none 48 0 e p (by omega) (by omega); rw [h] at z; cases z
  | some q => have z := fx_some 48 0 q e; rw [hu q (by omega) z.2.2]
theorem fx_no {P : Nat → Bool} (h : ∀ q, q < 48 → P q = false) : fx P 48 0 = none := by
  cases e : fx P 48 0 with
  | none => rfl
  | some q => have z := fx_some 48 0 q e; rw [h q (by omega)] at z; cases z.2.2
theorem flB_iff {T N : Nat → Nat} {p : Nat} : flB T N p = true ↔ ∃ q, q < 48 ∧ lv T N q = true ∧ T p % 64 = T q % 64 ∧ (T p / 64 + 1) % 4 = T q / 64 % 4 := by
  unfold flB
  rw [fx_isSome]
  constructor
  · intro ⟨q, hq, h⟩; exact ⟨q, hq, flP_iff.mp h⟩
  · intro ⟨q, hq, h⟩; exact ⟨q, hq, flP_iff.mpr h⟩
theorem flB_no {T N : Nat → Nat} {p : Nat} (h : ∀ q, q < 48 → lv T N q = true → T p % 64 = T q % 64 → (T p / 64 + 1) % 4 = T q / 64 % 4 → False) : flB T N p = false := by
  cases e : flB T N p with
  | false => rfl
  | true => obtain ⟨q, h1, h2, h3, h4⟩ := flB_iff.mp e; exact (h q h1 h2 h3 h4).elim
theorem Uq.fl {T N : Nat → Nat} (h : Uq T N) {p : Nat} (hp : p < 48) (hl : lv T N p = true) : flB T N p = false :=
  flB_no (fun q h1 h2 h3 h4 => by
    have e := h p q hp h1 hl h2 h3
    subst e
    omega)
theorem Uq.pr {T N : Nat → Nat} (h : Uq T N) : Pr T N := fun p q hp hq h1 h2 hn hk => absurd (h p q hp hq h1 h2 hk) hn
theorem Uq.uf {T N : Nat → Nat} (h : Uq T N) (k : Nat) : ufx T N k = kyx T N k := by
  unfold ufx kyx
  refine fx_cong 48 0 (fun p _ hp => ?_)
  unfold ufP
  cases e : kyP T N k p with
  | false => rfl
  | true => rw [h.fl (by omega) (kyP_iff.mp e).1]; rfl
theorem kyx_of {T N : Nat → Nat} (h : Uq T N) {p : Nat} (hp : p < 48) (hl : lv T N p = true) : kyx T N (T p % 64) = some p :=
  fx_uniq hp (kyP_iff.mpr ⟨hl, rfl⟩) (fun q hq hk => h q p hq hp (kyP_iff.mp hk).1 hl (kyP_iff.mp hk).2)
theorem kyx_some {T N : Nat → Nat} {k p : Nat} (h : kyx T N k = some p) : p < 48 ∧ lv T N p = true ∧ T p % 64 = k := by
  have z := fx_some 48 0 p h
  exact ⟨by omega, kyP_iff.mp z.2.2⟩
theorem kyx_none {T N : Nat → Nat} {k p : Nat} (h : kyx T N k = none) (hp : p < 48) (hl : lv T N p = true) : T p % 64 ≠ k := fun e => by
  have z := fx_none 48 0 h p (by omega) (by omega)
  rw [kyP_iff.mpr ⟨hl, e⟩] at z
  cases z
theorem at_k {T N : Nat → Nat} (h : Uq T N) (R : TR) (k : Nat) : at' T N R k = (kyx T N k).map (atp T R) := by unfold at'; rw [h.uf]
/-- the picture behind a put that went through -/
theorem lv_put {T N : Nat → Nat} {b p V q : Nat} (hp : p = 8 * b + N b) (hn : N b < 8) (hV : V / 256 % 2 = 0) : lv (upN T p V) (upN N b (N b + 1)) q = true ↔ q = p ∨ lv T N q = true := by
  by_cases e : q = p
  · subst e
    refine ⟨fun _ => Or.inl rfl, fun _ => ?_⟩
    unfold lv
    rw [upN_s, (pgm_up hp hn q).mpr (Or.inr rfl), decide_eq_true hV]; rfl
  · rw [lv_up hp hn e]
    exact ⟨fun h => Or.inr h, fun h => h.elim (fun z => absurd z e) id⟩
theorem lv_mk {T N : Nat → Nat} {q0 q : Nat} (h0 : lv T N q0 = true) : lv (upN T q0 (T q0 + 256)) N q = true ↔ q ≠ q0 ∧ lv T N q = true := by
  by_cases e : q = q0
  · subst e
    refine ⟨fun h => ?_, fun h => absurd rfl h.1⟩
    have z := (lv_t h).2
    rw [upN_s] at z
    have y := (lv_t h0).2
    omega
  · unfold lv; rw [upN_n e]; exact ⟨fun h => ⟨e, h⟩, fun h => h.2⟩
theorem Uq.mk {T N : Nat → Nat} (h : Uq T N) {q0 : Nat} (h0 : lv T N q0 = true) : Uq (upN T q0 (T q0 + 256)) N := by
  intro p q hp hq h1 h2 hk
  have g1 := (lv_mk h0).mp h1
  have g2 := (lv_mk h0).mp h2
  rw [upN_n g1.1, upN_n g2.1] at hk
  exact h p q hp hq g1.2 g2.2 hk
theorem Pr.mk {T N : Nat → Nat} (h : Pr T N) {q0 : Nat} (h0 : lv T N q0 = true) : Pr (upN T q0 (T q0 + 256)) N := by
  intro p q hp hq h1 h2 hn hk
  have g1 := (lv_mk h0).mp h1
  have g2 := (lv_mk h0).mp h2
  rw [upN_n g1.1, upN_n g2.1] at hk ⊢
  exact h p q hp hq g1.2 g2.2 hn hk
theorem at_mk {T N : Nat → Nat} {R R1 : TR} (h : Uq T N) {q0 : Nat} (hq : q0 < 48) (h0 : lv T N q0 = true) (h5 : R1 5 = R 5) (h10 : R1 10 = R 10) (k : Nat) : at' (upN T q0 (T q0 + 256)) N R1 k = if k = T q0 % 64 then none else at' T N R k := by
  rw [at_k (h.mk h0), at_k h]
  by_cases e : k = T q0 % 64
  · rw [if_pos e]
    have z : kyx (upN T q0 (T q0 + 256)) N k = none := fx_no (fun q hq1 => by
      cases w : kyP (upN T q0 (T q0 + 256)) N k q with
      | false => rfl
      | true =>
        obtain ⟨w1, w2⟩ := kyP_iff.mp w
        have g := (lv_mk h0).mp w1
        rw [upN_n g.1] at w2
        exact absurd (h q q0 hq1 hq g.2 h0 (by omega)) g.1)
    rw [z]; rfl
  · rw [if_neg e]
    have z : kyx (upN T q0 (T q0 + 256)) N k = kyx T N k := fx_cong 48 0 (fun q _ hq1 => by
      by_cases w : q = q0
      · subst w
        have y : kyP T N k q = false := by
          cases w1 : kyP T N k q with
          | false => rfl
          | true => exact absurd (kyP_iff.mp w1).2.symm e
        have y2 : kyP (upN T q (T q + 256)) N k q = false := by
          cases w1 : kyP (upN T q (T q + 256)) N k q with
          | false => rfl
          | true => exact absurd rfl ((lv_mk h0).mp (kyP_iff.mp w1).1).1
        rw [y, y2]
      · unfold kyP lv; rw [upN_n w])
    rw [z]
    cases w : kyx T N k with
    | none => rfl
    | some q =>
      have g := kyx_some w
      show some (atp _ _ q) = some (atp _ _ q)
      unfold atp
      rw [h5, h10, upN_n (fun z => e (by rw [← z]; exact g.2.2.symm))]
