/-! The picture: T p the tags of a page as a number, N b how many pages of a block are programmed. What the reading methods answer, on both sides. -/
def ixI (o : Option Nat) : Int32 := match o with
  | none => -1
  | some p => nI p
def fx (P : Nat → Bool) : Nat → Nat → Option Nat
  | 0, _ => none
  | m + 1, i => cond (P i) (some i) (fx P m (i + 1))
def cn (P : Nat → Bool) : Nat → Nat → Nat
  | 0, _ => 0
  | m + 1, i => cond (P i) 1 0 + cn P m (i + 1)
def pgm (N : Nat → Nat) (p : Nat) : Bool := decide (p % 8 < N (p / 8))
def lv (T N : Nat → Nat) (p : Nat) : Bool := pgm N p && decide (T p / 256 % 2 = 0)
def CS (C : TC) (T N : Nat → Nat) (B : Nat → Bool) : Prop := (∀ b, b < 6 → N b ≤ 8 ∧ C.1 5 b = nI (N b) ∧ C.1 8 b = bI (B b)) ∧ ∀ p, p < 48 → pgm N p = true → T p < 65536 ∧ C.1 2 p = nI (T p)
def RS (R : TR) (T N : Nat → Nat) (B : Nat → Bool) : Prop := (∀ b, b < 6 → N b ≤ 8 ∧ R 12 b = bI (B b)) ∧ (∀ p, p < 48 → pgm N p = false → R 1 p = 0) ∧ ∀ p, p < 48 → pgm N p = true → T p < 65536 ∧ R 1 p = nI (1 + T p / 256 % 2) ∧ R 2 p = nI (T p % 8) ∧ R 3 p = nI (T p / 8 % 8) ∧ R 4 p = nI (T p / 64 % 4) ∧ R 6 p = nI (T p / 512 % 8) ∧ R 7 p = nI (T p / 4096 % 8) ∧ R 8 p = nI (T p / 32768 % 2)
theorem inb_n {p n : Nat} (h : p < n) (hn : n < 2 ^ 31) : inB (nI p) n := by
  have e := nI_toInt (n := p) (by omega)
  exact ⟨by rw [e]; omega, by rw [e]; omega⟩
theorem rc_n {C : TC} {k p : Nat} (h : p < 2 ^ 31) : rc C k (nI p) = C.1 k p := by unfold rc; rw [nI_clamp h]
theorem rl_n {C : TC} {p : Nat} (h : p < 2 ^ 31) : rl C (nI p) = C.2 p := by unfold rl; rw [nI_clamp h]
theorem rr_n {R : TR} {k p : Nat} (h : p < 2 ^ 31) : rr R k (nI p) = R k p := by unfold rr; rw [nI_clamp h]
theorem ni_inc (p : Nat) : nI p + (1 : Int32) = nI (p + 1) := nI_1 p
theorem ni_le {a b : Nat} {x : Int32} (hx : x = nI a) (ha : a < 2 ^ 31) (hb : b < 2 ^ 31) : x ≤ nI b ↔ a ≤ b := by rw [hx]; exact nI_leI ha hb
theorem ni_lt {a b : Nat} {x : Int32} (hx : x = nI a) (ha : a < 2 ^ 31) (hb : b < 2 ^ 31) : x < nI b ↔ a < b := by rw [hx]; exact nI_ltI ha hb
theorem ni_n0 {a : Nat} (ha : a < 2 ^ 31) : nI a = 0 ↔ a = 0 := by rw [← nI_0]; exact nI_eq ha (by decide)
theorem ni_n1 {a : Nat} (ha : a < 2 ^ 31) : nI a = 1 ↔ a = 1 := by rw [show (1 : Int32) = nI 1 from rfl]; exact nI_eq ha (by decide)
theorem ni_d8 {p : Nat} (h : p < 2 ^ 31) : nI p / (8 : Int32) = nI (p / 8) := by rw [show (8 : Int32) = nI 8 from rfl, pk_div h (by decide) (by decide)]
theorem ni_r8 {p : Nat} (h : p < 2 ^ 31) : nI p - nI p / (8 : Int32) * (8 : Int32) = nI (p % 8) := by rw [show (8 : Int32) = nI 8 from rfl, pk_rem h (by decide) (by decide)]
theorem ni_6 {i : Nat} (h : i < 2 ^ 31) : (6 : Int32) ≤ nI i ↔ 6 ≤ i := ni_le rfl (by decide) h
theorem ni_48 {i : Nat} (h : i < 2 ^ 31) : (48 : Int32) ≤ nI i ↔ 48 ≤ i := ni_le rfl (by decide) h
theorem pred_n {m n : Nat} (h : m < n) : ∃ k, n = k + 1 := ⟨n - 1, by omega⟩
theorem lv_pgm {T N : Nat → Nat} {p : Nat} (h : lv T N p = true) : pgm N p = true := by
  unfold lv at h; rw [Bool.and_eq_true] at h; exact h.1
theorem c_prog {C : TC} {T N : Nat → Nat} {B : Nat → Bool} (h : CS C T N B) {p : Nat} (hp : p < 48) : fn_C_isProgrammed C (nI p) = some (bI (pgm N p), C) := by
  unfold fn_C_isProgrammed
  have hb := h.1 (p / 8) (by omega)
  rw [ni_r8 (by omega), ni_d8 (by omega), gd_s (inb_n (by omega) (by decide)), st_s, rc_n (by omega), hb.2.1]
  by_cases q : p % 8 < N (p / 8)
  · rw [if_neg (by rw [nI_leI (by omega) (by omega)]; omega), show pgm N p = true from decide_eq_true q]; rfl
  · rw [if_pos (by rw [nI_leI (by omega) (by omega)]; omega), show pgm N p = false from decide_eq_false q]; rfl
theorem c_live {C : TC} {T N : Nat → Nat} {B : Nat → Bool} (h : CS C T N B) {p : Nat} (hp : p < 48) : fn_C_isLive C (nI p) = some (bI (lv T N p), C) := by
  unfold fn_C_isLive
  rw [c_prog h hp, bd_s]
  cases q : pgm N p with
  | false => rw [bI_f, if_pos rfl, show lv T N p = false by unfold lv; rw [q]; rfl]; rfl
  | true =>
    have ht := h.2 p hp q
    rw [bI_t, if_neg (by decide), gd_s (inb_n hp (by decide)), st_s, rc_n (by omega), ht.2, ft_isMarked C ht.1, bd_s]
    by_cases w : T p / 256 % 2 = 1
    · rw [decide_eq_true w, bI_t, if_neg (by decide), show lv T N p = false by unfold lv; rw [q, decide_eq_false (by omega)]; rfl]; rfl
    · rw [decide_eq_false w, bI_f, if_pos rfl, show lv T N p = true by unfold lv; rw [q, decide_eq_true (by omega)]; rfl]; rfl
def pgP (T N : Nat → Nat) (o c : Nat) (p : Nat) : Bool := lv T N p && decide (T p % 64 = o + 8 * c)
def pgx (T N : Nat → Nat) (o c : Nat) : Option Nat := fx (pgP T N o c) 48 0
theorem fx_t {P : Nat → Bool} {m i : Nat} (h : P i = true) : fx P (m + 1) i = some i := by show cond (P i) _ _ = _; rw [h]; rfl
theorem fx_f {P : Nat → Bool} {m i : Nat} (h : P i = false) : fx P (m + 1) i = fx P m (i + 1) := by show cond (P i) _ _ = _; rw [h]; rfl
theorem c_livePage_lp {C : TC} {T N : Nat → Nat} {B : Nat → Bool} (h : CS C T N B) {o c : Nat} (ho : o < 8) (hc : c < 8) : ∀ (m n i : Nat), i + m = 48 → m < n → lp_C_livePage_2 n C (nI o) (nI c) (nI i) = some (ixI (fx (pgP T N o c) m i), C) := by
  intro m
  induction m with
  | zero =>
    intro n i hi hn
    obtain ⟨n, rfl⟩ := pred_n hn
    rw [le_C_livePage_2, if_pos ((ni_48 (i := i) (by omega)).mpr (by omega))]; rfl
  | succ m ih =>
    intro n i hi hn
    obtain ⟨n, rfl⟩ := pred_n hn
    have hp : i < 48 := by omega
    have nx := ih n (i + 1) (by omega) (by omega)
    rw [le_C_livePage_2, if_neg (fun q => by have := (ni_48 (i := i) (by omega)).mp q; omega), c_live h hp, bd_s]
    cases hl : lv T N i with
    | false =>
      rw [bI_f, if_pos rfl, st_s, ni_inc, nx, fx_f (by unfold pgP; rw [hl]; rfl)]
    | true =>
      have ht := h.2 i hp (lv_pgm hl)
      rw [bI_t, if_neg (by decide), gd_s (inb_n hp (by decide)), st_s, rc_n (by omega), ht.2, ft_areOf C ht.1 (by omega) (by omega), bd_s]
      by_cases he : T i % 64 = o + 8 * c
      · rw [decide_eq_true he, bI_t, if_neg (by decide), fx_t (by unfold pgP; rw [hl, decide_eq_true he]; rfl)]; rfl
      · rw [decide_eq_false he, bI_f, if_pos rfl, st_s, ni_inc, nx, fx_f (by unfold pgP; rw [hl, decide_eq_false he]; rfl)]
theorem c_livePage {C : TC} {T N : Nat → Nat} {B : Nat → Bool} (h : CS C T N B) {o c : Nat} (ho : o < 8) (hc : c < 8) : fn_C_livePage C (nI o) (nI c) = some (ixI (pgx T N o c), C) :=
  c_livePage_lp h ho hc 48 64 0 rfl (by decide)
theorem r_live {R : TR} {T N : Nat → Nat} {B : Nat → Bool} (h : RS R T N B) {p : Nat} (hp : p < 48) : R 1 p = 1 ↔ lv T N p = true := by
  cases q : pgm N p with
  | false =>
    rw [h.2.1 p hp q, show lv T N p = false by unfold lv; rw [q]; rfl]
    exact ⟨fun e => absurd e (by decide), fun e => by cases e⟩
  | true =>
    rw [(h.2.2 p hp q).2.1, ni_n1 (by omega), show lv T N p = decide (T p / 256 % 2 = 0) by unfold lv; rw [q]; rfl, decide_eq_true_iff]
    omega
theorem r_page_lp {R : TR} {T N : Nat → Nat} {B : Nat → Bool} (h : RS R T N B) {o c : Nat} (ho : o < 8) (hc : c < 8) : ∀ (m n i : Nat), i + m = 48 → m < n → lp_M_page_2 n R (nI o) (nI c) (nI i) = some (ixI (fx (pgP T N o c) m i), R) := by
  intro m
  induction m with
  | zero =>
    intro n i hi hn
    obtain ⟨n, rfl⟩ := pred_n hn
    rw [le_M_page_2, if_pos ((ni_48 (i := i) (by omega)).mpr (by omega))]; rfl
  | succ m ih =>
    intro n i hi hn
    obtain ⟨n, rfl⟩ := pred_n hn
    have hp : i < 48 := by omega
    have nx := ih n (i + 1) (by omega) (by omega)
    rw [le_M_page_2, if_neg (fun q => by have := (ni_48 (i := i) (by omega)).mp q; omega)]
    simp only [gd_s (inb_n hp (by decide : 48 < 2 ^ 31)), st_s, rr_n (show i < 2 ^ 31 by omega), ni_inc, nx]
    cases hl : lv T N i with
    | false =>
      rw [if_neg (fun q => by rw [(r_live h hp).mp q] at hl; cases hl), fx_f (by unfold pgP; rw [hl]; rfl)]
    | true =>
      have ht := h.2.2 i hp (lv_pgm hl)
      rw [if_pos ((r_live h hp).mpr hl), ht.2.2.1, ht.2.2.2.1]
      by_cases e1 : T i % 8 = o
      · rw [if_pos (by rw [e1])]
        by_cases e2 : T i / 8 % 8 = c
        · rw [if_pos (by rw [e2]), fx_t (by unfold pgP; rw [hl, decide_eq_true (by omega)]; rfl)]; rfl
        · rw [if_neg (by rw [nI_eq (by omega) (by omega)]; exact e2), fx_f (by unfold pgP; rw [hl, decide_eq_false (by omega)]; rfl)]
      · rw [if_neg (by rw [nI_eq (by omega) (by omega)]; exact e1), fx_f (by unfold pgP; rw [hl, decide_eq_false (by omega)]; rfl)]
theorem r_page {R : TR} {T N : Nat → Nat} {B : Nat → Bool} (h : RS R T N B) {o c : Nat} (ho : o < 8) (hc : c < 8) : fn_M_page R (nI o) (nI c) = some (ixI (pgx T N o c), R) :=
  r_page_lp h ho hc 48 64 0 rfl (by decide)
