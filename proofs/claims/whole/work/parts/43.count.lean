/-! Counts over blocks, the next page, on both sides. -/
def sm (f : Nat → Nat) : Nat → Nat → Nat
  | 0, _ => 0
  | m + 1, i => f i + sm f m (i + 1)
theorem sm_s (f : Nat → Nat) (m i : Nat) : sm f (m + 1) i = f i + sm f m (i + 1) := rfl
theorem sm_le {f : Nat → Nat} {k : Nat} (h : ∀ i, f i ≤ k) : ∀ (m i : Nat), sm f m i ≤ k * m := by
  intro m
  induction m with
  | zero => intro i; exact Nat.zero_le _
  | succ m ih => intro i; rw [sm_s]; have := ih (i + 1); have := h i; rw [Nat.mul_succ]; omega
def frB (N : Nat → Nat) (B : Nat → Bool) (b : Nat) : Nat := cond (B b) 0 (8 - N b)
def free (N : Nat → Nat) (B : Nat → Bool) : Nat := sm (frB N B) 6 0
theorem ni_8s {n : Nat} (h : n ≤ 8) : (8 : Int32) - nI n = nI (8 - n) := by rw [show (8 : Int32) = nI 8 from rfl, pk_sub h]
theorem frB_t {N : Nat → Nat} {B : Nat → Bool} {b : Nat} (h : B b = true) : frB N B b = 0 := by unfold frB; rw [h]; rfl
theorem frB_f {N : Nat → Nat} {B : Nat → Bool} {b : Nat} (h : B b = false) : frB N B b = 8 - N b := by unfold frB; rw [h]; rfl
theorem c_free_lp {C : TC} {T N : Nat → Nat} {B : Nat → Bool} (h : CS C T N B) : ∀ (m n i k : Nat), i + m = 6 → m < n → lp_C_countFree_4 n C (nI k) (nI i) = some (nI (k + sm (frB N B) m i), C) := by
  intro m
  induction m with
  | zero =>
    intro n i k hi hn
    obtain ⟨n, rfl⟩ := pred_n hn
    rw [le_C_countFree_4, if_pos ((ni_6 (i := i) (by omega)).mpr (by omega))]; rfl
  | succ m ih =>
    intro n i k hi hn
    obtain ⟨n, rfl⟩ := pred_n hn
    have hb := h.1 i (by omega)
    rw [le_C_countFree_4, if_neg (fun q => by have := (ni_6 (i := i) (by omega)).mp q; omega), gd_s (inb_n (by omega) (by decide)), st_s, rc_n (by omega), hb.2.2, sm_s]
    cases q : B i with
    | true => rw [bI_t, if_neg (by decide), st_s, ni_inc, ih n (i + 1) k (by omega) (by omega), frB_t q, Nat.zero_add]
    | false => rw [bI_f, if_pos rfl, gd_s (inb_n (by omega) (by decide)), st_s, rc_n (by omega), hb.2.1, st_s, ni_8s hb.1, nI_add, st_s, ni_inc, ih n (i + 1) _ (by omega) (by omega), frB_f q, Nat.add_assoc]
theorem c_free {C : TC} {T N : Nat → Nat} {B : Nat → Bool} (h : CS C T N B) : fn_C_countFree C = some (nI (free N B), C) := by
  have e := c_free_lp h 6 64 0 0 rfl (by decide)
  rw [Nat.zero_add] at e
  exact e
theorem r_prog_lp {R : TR} {T N : Nat → Nat} {B : Nat → Bool} (h : RS R T N B) {b : Nat} (hb : b < 6) : ∀ (m n i : Nat), i + m = 8 → m < n → lp_M_programmed_7 n R (nI b) (nI (min i (N b))) (nI (8 * b + i)) = some (nI (N b), R) := by
  intro m
  have h8 := (h.1 b hb).1
  have e8 : ((8 : Int32) * nI b) + (8 : Int32) = nI (8 * b + 8) := by rw [show (8 : Int32) = nI 8 from rfl, pk_mul, nI_add]
  induction m with
  | zero =>
    intro n i hi hn
    obtain ⟨n, rfl⟩ := pred_n hn
    rw [le_M_programmed_7, e8, if_pos (by rw [nI_leI (by omega) (by omega)]; omega), Nat.min_eq_right (by omega)]
  | succ m ih =>
    intro n i hi hn
    obtain ⟨n, rfl⟩ := pred_n hn
    rw [le_M_programmed_7, e8, if_neg (by rw [nI_leI (by omega) (by omega)]; omega), gd_s (inb_n (by omega) (by decide)), st_s, rr_n (by omega)]
    have hd : (8 * b + i) / 8 = b := by omega
    have hm : (8 * b + i) % 8 = i := by omega
    by_cases q : i < N b
    · have hp : pgm N (8 * b + i) = true := by unfold pgm; rw [hd, hm]; exact decide_eq_true q
      rw [(h.2.2 _ (by omega) hp).2.1, if_neg (by rw [ni_n0 (by omega)]; omega), st_s, st_s, ni_inc, ni_inc]
      have e := ih n (i + 1) (by omega) (by omega)
      rw [show min (i + 1) (N b) = min i (N b) + 1 by omega] at e
      exact e
    · have hp : pgm N (8 * b + i) = false := by unfold pgm; rw [hd, hm]; exact decide_eq_false q
      rw [h.2.1 _ (by omega) hp, if_pos rfl, st_s, st_s, ni_inc, show (0 : Int32) = nI 0 from rfl, nI_add, Nat.add_zero]
      have e := ih n (i + 1) (by omega) (by omega)
      rw [show min (i + 1) (N b) = min i (N b) by omega] at e
      exact e
theorem r_prog {R : TR} {T N : Nat → Nat} {B : Nat → Bool} (h : RS R T N B) {b : Nat} (hb : b < 6) : fn_M_programmed R (nI b) = some (nI (N b), R) := by
  unfold fn_M_programmed
  have e := r_prog_lp h hb 8 64 0 rfl (by decide)
  rw [Nat.zero_min, Nat.add_zero] at e
  rw [st_s, show (8 : Int32) = nI 8 from rfl, pk_mul]
  exact e
theorem r_free_lp {R : TR} {T N : Nat → Nat} {B : Nat → Bool} (h : RS R T N B) : ∀ (m n i k : Nat), i + m = 6 → m < n → lp_M_free_4 n R (nI k) (nI i) = some (nI (k + sm (frB N B) m i), R) := by
  intro m
  induction m with
  | zero =>
    intro n i k hi hn
    obtain ⟨n, rfl⟩ := pred_n hn
    rw [le_M_free_4, if_pos ((ni_6 (i := i) (by omega)).mpr (by omega))]; rfl
  | succ m ih =>
    intro n i k hi hn
    obtain ⟨n, rfl⟩ := pred_n hn
    have hb := h.1 i (by omega)
    rw [le_M_free_4, if_neg (fun q => by have := (ni_6 (i := i) (by omega)).mp q; omega), gd_s (inb_n (by omega) (by decide)), st_s, rr_n (by omega), hb.2, sm_s]
    cases q : B i with
    | true => rw [bI_t, if_neg (by decide), st_s, st_s, ni_inc, show (0 : Int32) = nI 0 from rfl, nI_add, ih n (i + 1) _ (by omega) (by omega), frB_t q, Nat.zero_add, Nat.add_zero]
    | false => rw [bI_f, if_pos rfl, r_prog h (by omega), bd_s, st_s, st_s, ni_8s hb.1, nI_add, ni_inc, ih n (i + 1) _ (by omega) (by omega), frB_f q, Nat.add_assoc]
theorem r_free {R : TR} {T N : Nat → Nat} {B : Nat → Bool} (h : RS R T N B) : fn_M_free R = some (nI (free N B), R) := by
  have e := r_free_lp h 6 64 0 0 rfl (by decide)
  rw [Nat.zero_add] at e
  exact e
theorem cn_t {P : Nat → Bool} {m i : Nat} (h : P i = true) : cn P (m + 1) i = 1 + cn P m (i + 1) := by show cond (P i) 1 0 + _ = _; rw [h]; rfl
theorem cn_f {P : Nat → Bool} {m i : Nat} (h : P i = false) : cn P (m + 1) i = cn P m (i + 1) := by show cond (P i) 1 0 + _ = _; rw [h]; exact Nat.zero_add _
theorem cn_le {P : Nat → Bool} : ∀ (m i : Nat), cn P m i ≤ m := by
  intro m
  induction m with
  | zero => intro i; exact Nat.le_refl _
  | succ m ih =>
    intro i
    have := ih (i + 1)
    cases q : P i with
    | true => rw [cn_t q]; omega
    | false => rw [cn_f q]; omega
theorem c_lives_lp {C : TC} {T N : Nat → Nat} {B : Nat → Bool} (h : CS C T N B) {b : Nat} (hb : b < 6) : ∀ (m n i k : Nat), i + m = 8 → m < n → lp_C_countLiveIn_10 n C (nI k) (nI (8 * b)) (nI (8 * b + i)) = some (nI (k + cn (lv T N) m (8 * b + i)), C) := by
  intro m
  have e8 : nI (8 * b) + (8 : Int32) = nI (8 * b + 8) := by rw [show (8 : Int32) = nI 8 from rfl, nI_add]
  induction m with
  | zero =>
    intro n i k hi hn
    obtain ⟨n, rfl⟩ := pred_n hn
    rw [le_C_countLiveIn_10, e8, if_pos (by rw [nI_leI (by omega) (by omega)]; omega)]; rfl
  | succ m ih =>
    intro n i k hi hn
    obtain ⟨n, rfl⟩ := pred_n hn
    rw [le_C_countLiveIn_10, e8, if_neg (by rw [nI_leI (by omega) (by omega)]; omega), c_live h (by omega), bd_s]
    cases q : lv T N (8 * b + i) with
    | false => rw [bI_f, if_pos rfl, st_s, ni_inc, Nat.add_assoc, ih n (i + 1) k (by omega) (by omega), ← Nat.add_assoc, cn_f q]
    | true => rw [bI_t, if_neg (by decide), st_s, st_s, ni_inc, ni_inc, Nat.add_assoc (8 * b), ih n (i + 1) _ (by omega) (by omega), ← Nat.add_assoc (8 * b), cn_t q, Nat.add_assoc k 1]
theorem c_lives {C : TC} {T N : Nat → Nat} {B : Nat → Bool} (h : CS C T N B) {b : Nat} (hb : b < 6) : fn_C_countLiveIn C (nI b) = some (nI (cn (lv T N) 8 (8 * b)), C) := by
  unfold fn_C_countLiveIn
  have e := c_lives_lp h hb 8 64 0 0 rfl (by decide)
  rw [Nat.zero_add, Nat.add_zero] at e
  rw [st_s, show (8 : Int32) = nI 8 from rfl, pk_mul, Nat.mul_comm b]
  exact e
theorem r_lives_lp {R : TR} {T N : Nat → Nat} {B : Nat → Bool} (h : RS R T N B) {b : Nat} (hb : b < 6) : ∀ (m n i k : Nat), i + m = 8 → m < n → lp_M_lives_7 n R (nI b) (nI k) (nI (8 * b + i)) = some (nI (k + cn (lv T N) m (8 * b + i)), R) := by
  intro m
  have e8 : ((8 : Int32) * nI b) + (8 : Int32) = nI (8 * b + 8) := by rw [show (8 : Int32) = nI 8 from rfl, pk_mul, nI_add]
  induction m with
  | zero =>
    intro n i k hi hn
    obtain ⟨n, rfl⟩ := pred_n hn
    rw [le_M_lives_7, e8, if_pos (by rw [nI_leI (by omega) (by omega)]; omega)]; rfl
  | succ m ih =>
    intro n i k hi hn
    obtain ⟨n, rfl⟩ := pred_n hn
    have hp : 8 * b + i < 48 := by omega
    rw [le_M_lives_7, e8, if_neg (by rw [nI_leI (by omega) (by omega)]; omega), gd_s (inb_n hp (by decide)), st_s, rr_n (by omega)]
    cases q : lv T N (8 * b + i) with
    | false =>
      rw [if_neg (fun z => by rw [(r_live h hp).mp z] at q; cases q), st_s, st_s, ni_inc, show (0 : Int32) = nI 0 from rfl, nI_add, Nat.add_zero, Nat.add_assoc, ih n (i + 1) k (by omega) (by omega), ← Nat.add_assoc, cn_f q]
    | true => rw [if_pos ((r_live h hp).mpr q), st_s, st_s, ni_inc, ni_inc, Nat.add_assoc (8 * b), ih n (i + 1) _ (by omega) (by omega), ← Nat.add_assoc (8 * b), cn_t q, Nat.add_assoc k 1]
theorem r_lives {R : TR} {T N : Nat → Nat} {B : Nat → Bool} (h : RS R T N B) {b : Nat} (hb : b < 6) : fn_M_lives R (nI b) = some (nI (cn (lv T N) 8 (8 * b)), R) := by
  unfold fn_M_lives
  have e := r_lives_lp h hb 8 64 0 0 rfl (by decide)
  rw [Nat.zero_add, Nat.add_zero] at e
  rw [st_s, show (8 : Int32) = nI 8 from rfl, pk_mul]
  exact e
def nP1 (N : Nat → Nat) (B : Nat → Bool) (b : Nat) : Bool := !B b && (decide (0 < N b) && decide (N b < 8))
def nP0 (N : Nat → Nat) (B : Nat → Bool) (b : Nat) : Bool := !B b && decide (N b = 0)
def orO (x y : Option Nat) : Option Nat := match x with
  | some b => some b
  | none => y
def nxb (N : Nat → Nat) (B : Nat → Bool) : Option Nat := orO (fx (nP1 N B) 6 0) (fx (nP0 N B) 6 0)
def npI (N : Nat → Nat) (o : Option Nat) : Int32 := match o with
  | none => -1
  | some b => nI (8 * b + N b)
theorem c_next_lp {C : TC} {T N : Nat → Nat} {B : Nat → Bool} (h : CS C T N B) : ∀ (m n i : Nat) (e : Option Nat), i + m = 6 → m < n → (∀ x, e = some x → x < 6) → lp_C_blockOfNextPage_4 n C (ixI e) (nI i) = some (ixI (orO (fx (nP1 N B) m i) (orO e (fx (nP0 N B) m i))), C) := by
  intro m
  induction m with
  | zero =>
    intro n i e hi hn he
    obtain ⟨n, rfl⟩ := pred_n hn
    rw [le_C_blockOfNextPage_4, if_pos ((ni_6 (i := i) (by omega)).mpr (by omega))]
    cases e <;> rfl
  | succ m ih =>
    intro n i e hi hn he
    obtain ⟨n, rfl⟩ := pred_n hn
    have hb := h.1 i (by omega)
    rw [le_C_blockOfNextPage_4, if_neg (fun q => by have := (ni_6 (i := i) (by omega)).mp q; omega), gd_s (inb_n (by omega) (by decide)), st_s, rc_n (by omega), hb.2.2]
    cases q : B i with
    | true => rw [bI_t, if_neg (by decide), st_s, ni_inc, ih n (i + 1) e (by omega) (by omega) he, fx_f (P := nP1 N B) (by unfold nP1; rw [q]; rfl), fx_f (P := nP0 N B) (by unfold nP0; rw [q]; rfl)]
    | false =>
      rw [bI_f, if_pos rfl, gd_s (inb_n (by omega) (by decide)), st_s, rc_n (by omega), hb.2.1]
      by_cases h8 : N i = 8
      · rw [if_pos (by rw [h8]; rfl), st_s, ni_inc, ih n (i + 1) e (by omega) (by omega) he, fx_f (P := nP1 N B) (by unfold nP1; rw [h8]; cases B i <;> rfl), fx_f (P := nP0 N B) (by unfold nP0; rw [h8]; cases B i <;> rfl)]
      · rw [if_neg (by rw [show (8 : Int32) = nI 8 from rfl, nI_eq (by omega) (by decide)]; exact h8), gd_s (inb_n (by omega) (by decide)), st_s]
        by_cases h0 : N i = 0
        · rw [if_pos (by rw [h0]; decide), fx_f (P := nP1 N B) (by unfold nP1; rw [h0]; cases B i <;> rfl), fx_t (P := nP0 N B) (by unfold nP0; rw [h0, q]; rfl)]
          cases e with
          | none =>
            rw [show ixI none = -1 from rfl, if_pos rfl, st_s, ni_inc]
            have z := ih n (i + 1) (some i) (by omega) (by omega) (fun x hx => by cases hx; omega)
            exact z
          | some x =>
            have hx := he x rfl
            rw [show ixI (some x) = nI x from rfl, if_neg (ni_m1 (by omega)), st_s, ni_inc]
            have z := ih n (i + 1) (some x) (by omega) (by omega) he
            exact z
        · rw [if_neg (by rw [← nI_0, nI_leI (by omega) (by decide)]; omega), fx_t (P := nP1 N B) (by unfold nP1; rw [q, decide_eq_true (show 0 < N i by omega), decide_eq_true (show N i < 8 by omega)]; rfl)]
          rfl
theorem c_next {C : TC} {T N : Nat → Nat} {B : Nat → Bool} (h : CS C T N B) : fn_C_blockOfNextPage C = some (ixI (nxb N B), C) :=
  c_next_lp h 6 64 0 none rfl (by decide) (fun x hx => by cases hx)
theorem r_next0_lp {R : TR} {T N : Nat → Nat} {B : Nat → Bool} (h : RS R T N B) : ∀ (m n i : Nat), i + m = 6 → m < n → lp_M_nextPage_48 n R (nI i) = some (npI N (fx (nP0 N B) m i), R) := by
  intro m
  induction m with
  | zero =>
    intro n i hi hn
    obtain ⟨n, rfl⟩ := pred_n hn
    rw [le_M_nextPage_48, if_pos ((ni_6 (i := i) (by omega)).mpr (by omega))]; rfl
  | succ m ih =>
    intro n i hi hn
    obtain ⟨n, rfl⟩ := pred_n hn
    have hb := h.1 i (by omega)
    rw [le_M_nextPage_48, if_neg (fun q => by have := (ni_6 (i := i) (by omega)).mp q; omega), gd_s (inb_n (by omega) (by decide)), st_s, rr_n (by omega), hb.2]
    cases q : B i with
    | true => rw [bI_t, if_neg (by decide), st_s, ni_inc, ih n (i + 1) (by omega) (by omega), fx_f (P := nP0 N B) (by unfold nP0; rw [q]; rfl)]
    | false =>
      rw [bI_f, if_pos rfl, r_prog h (by omega), bd_s]
      by_cases h0 : N i = 0
      · rw [h0, if_pos (show nI 0 = 0 from rfl), fx_t (P := nP0 N B) (by unfold nP0; rw [h0, q]; rfl), show npI N (some i) = nI (8 * i + N i) from rfl, h0, show (8 : Int32) = nI 8 from rfl, pk_mul, Nat.add_zero]
      · rw [if_neg (by rw [ni_n0 (by omega)]; exact h0), st_s, ni_inc, ih n (i + 1) (by omega) (by omega), fx_f (P := nP0 N B) (by unfold nP0; rw [decide_eq_false h0]; cases B i <;> rfl)]
theorem r_next_lp {R : TR} {T N : Nat → Nat} {B : Nat → Bool} (h : RS R T N B) : ∀ (m n i : Nat), i + m = 6 → m < n → lp_M_nextPage_2 n R (nI i) = some (npI N (orO (fx (nP1 N B) m i) (fx (nP0 N B) 6 0)), R) := by
  intro m
  induction m with
  | zero =>
    intro n i hi hn
    obtain ⟨n, rfl⟩ := pred_n hn
    rw [le_M_nextPage_2, if_pos ((ni_6 (i := i) (by omega)).mpr (by omega))]
    exact r_next0_lp h 6 64 0 rfl (by decide)
  | succ m ih =>
    intro n i hi hn
    obtain ⟨n, rfl⟩ := pred_n hn
    have hb := h.1 i (by omega)
    rw [le_M_nextPage_2, if_neg (fun q => by have := (ni_6 (i := i) (by omega)).mp q; omega), r_prog h (by omega), bd_s, gd_s (inb_n (by omega) (by decide)), st_s, rr_n (by omega), hb.2]
    cases q : B i with
    | true => rw [bI_t, if_neg (by decide), st_s, ni_inc, ih n (i + 1) (by omega) (by omega), fx_f (P := nP1 N B) (by unfold nP1; rw [q]; rfl)]
    | false =>
      rw [bI_f, if_pos rfl]
      by_cases h0 : N i = 0
      · rw [if_pos (by rw [h0]; decide), st_s, ni_inc, ih n (i + 1) (by omega) (by omega), fx_f (P := nP1 N B) (by unfold nP1; rw [h0]; cases B i <;> rfl)]
      · rw [if_neg (by rw [← nI_0, nI_leI (by omega) (by decide)]; omega)]
        by_cases h8 : N i = 8
        · rw [if_pos (by rw [h8]; decide), st_s, ni_inc, ih n (i + 1) (by omega) (by omega), fx_f (P := nP1 N B) (by unfold nP1; rw [h8]; cases B i <;> rfl)]
        · rw [if_neg (by rw [show (8 : Int32) = nI 8 from rfl, nI_leI (by decide) (by omega)]; omega), fx_t (P := nP1 N B) (by unfold nP1; rw [q, decide_eq_true (show 0 < N i by omega), decide_eq_true (show N i < 8 by omega)]; rfl), show (8 : Int32) = nI 8 from rfl, pk_mul, nI_add]
          rfl
theorem r_next {R : TR} {T N : Nat → Nat} {B : Nat → Bool} (h : RS R T N B) : fn_M_nextPage R = some (npI N (nxb N B), R) :=
  r_next_lp h 6 64 0 rfl (by decide)
