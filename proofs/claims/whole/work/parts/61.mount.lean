/-! mount: what is stale. -/
theorem c_good_lp {C : TC} {T N : Nat → Nat} {B : Nat → Bool} (h : CS C T N B) : ∀ (m n i k : Nat), i + m = 6 → m < n → lp_C_countGood_4 n C (nI k) (nI i) = some (nI (k + cn (fun b => !B b) m i), C) := by
  intro m
  induction m with
  | zero =>
    intro n i k hi hn
    obtain ⟨n, rfl⟩ := pred_n hn
    rw [le_C_countGood_4, if_pos ((ni_6 (i := i) (by omega)).mpr (by omega))]; rfl
  | succ m ih =>
    intro n i k hi hn
    obtain ⟨n, rfl⟩ := pred_n hn
    rw [le_C_countGood_4, if_neg (fun z => by have := (ni_6 (i := i) (by omega)).mp z; omega), gd_s (inb_n (by omega) (by decide)), st_s, rc_n (by omega), (h.1 i (by omega)).2.2]
    cases e : B i with
    | true => rw [bI_t, if_neg (by decide), st_s, ni_inc, ih n (i + 1) k (by omega) (by omega), cn_f (P := fun b => !B b) (by rw [e]; rfl)]
    | false => rw [bI_f, if_pos rfl, st_s, st_s, ni_inc, ni_inc, ih n (i + 1) _ (by omega) (by omega), cn_t (P := fun b => !B b) (by rw [e]; rfl), Nat.add_assoc k 1]
def tB (R : TR) (b : Nat) : Bool := !decide (R 14 b = 0)
theorem c_goodT_lp {C : TC} {R : TR} {T N : Nat → Nat} {B : Nat → Bool} (h : Sm C R T N B) : ∀ (m n i k : Nat), i + m = 6 → m < n → lp_C_countGoodTouched_4 n C (nI k) (nI i) = some (nI (k + cn (fun b => !B b && tB R b) m i), C) := by
  intro m
  induction m with
  | zero =>
    intro n i k hi hn
    obtain ⟨n, rfl⟩ := pred_n hn
    rw [le_C_countGoodTouched_4, if_pos ((ni_6 (i := i) (by omega)).mpr (by omega))]; rfl
  | succ m ih =>
    intro n i k hi hn
    obtain ⟨n, rfl⟩ := pred_n hn
    rw [le_C_countGoodTouched_4, if_neg (fun z => by have := (ni_6 (i := i) (by omega)).mp z; omega), gd_s (inb_n (by omega) (by decide)), st_s, rc_n (by omega), (h.1.1 i (by omega)).2.2]
    cases e : B i with
    | true => rw [bI_t, if_neg (by decide), st_s, ni_inc, ih n (i + 1) k (by omega) (by omega), cn_f (P := fun b => !B b && tB R b) (by rw [e]; rfl)]
    | false =>
      rw [bI_f, if_pos rfl, gd_s (inb_n (by omega) (by decide)), st_s, rc_n (by omega), (h.2.2.1.2 i (by omega)).2.2.1]
      by_cases w : R 14 i = 0
      · rw [if_pos w, st_s, ni_inc, ih n (i + 1) k (by omega) (by omega), cn_f (P := fun b => !B b && tB R b) (by unfold tB; rw [e, decide_eq_true w]; rfl)]
      · rw [if_neg w, st_s, st_s, ni_inc, ni_inc, ih n (i + 1) _ (by omega) (by omega), cn_t (P := fun b => !B b && tB R b) (by unfold tB; rw [e, decide_eq_false w]; rfl), Nat.add_assoc k 1]
def goP (R : TR) (B : Nat → Bool) (al : Bool) (b : Nat) : Bool := !B b && (al || tB R b)
theorem r_pages_lp {R : TR} {T N : Nat → Nat} {B : Nat → Bool} (h : RS R T N B) (al : Bool) : ∀ (m n i k : Nat), i + m = 6 → m < n → lp_M_mount_35 n R (bI al) (nI k) (nI i) = lp_M_mount_84 64 R (nI (k + 8 * cn (goP R B al) m i)) 0 := by
  intro m
  have a0 : ∀ k : Nat, nI k + (0 : Int32) = nI k := fun k => nI_add k 0
  have a8 : ∀ k : Nat, nI k + (8 : Int32) = nI (k + 8) := fun k => nI_add k 8
  induction m with
  | zero =>
    intro n i k hi hn
    obtain ⟨n, rfl⟩ := pred_n hn
    rw [le_M_mount_35, if_pos ((ni_6 (i := i) (by omega)).mpr (by omega))]; rfl
  | succ m ih =>
    intro n i k hi hn
    obtain ⟨n, rfl⟩ := pred_n hn
    rw [le_M_mount_35, if_neg (fun z => by have := (ni_6 (i := i) (by omega)).mp z; omega), gd_s (inb_n (by omega) (by decide)), st_s, rr_n (by omega), (h.1 i (by omega)).2]
    simp only [st_s, ni_inc, a0, a8]
    cases e : B i with
    | true =>
      rw [bI_t, if_neg (by decide), ih n (i + 1) k (by omega) (by omega), cn_f (P := goP R B al) (by unfold goP; rw [e]; rfl)]
    | false =>
      rw [bI_f, if_pos rfl]
      cases al with
      | true =>
        rw [bI_t, if_neg (by decide)]
        have z := ih n (i + 1) (k + 8) (by omega) (by omega)
        rw [bI_t] at z
        rw [z, cn_t (P := goP R B true) (by unfold goP; rw [e]; rfl), Nat.mul_add, Nat.add_assoc]
      | false =>
        rw [bI_f, if_pos rfl, gd_s (inb_n (by omega) (by decide)), rr_n (by omega)]
        by_cases w : R 14 i = 0
        · have z := ih n (i + 1) k (by omega) (by omega)
          rw [bI_f] at z
          rw [if_pos w, z, cn_f (P := goP R B false) (by unfold goP tB; rw [e, decide_eq_true w]; rfl)]
        · have z := ih n (i + 1) (k + 8) (by omega) (by omega)
          rw [bI_f] at z
          rw [if_neg w, z, cn_t (P := goP R B false) (by unfold goP tB; rw [e, decide_eq_false w]; rfl), Nat.mul_add, Nat.add_assoc]
theorem c_succ_lp {C : TC} {T N : Nat → Nat} {B : Nat → Bool} (h : CS C T N B) {p : Nat} (hp : p < 48) (hg : pgm N p = true) : ∀ (m n i : Nat), i + m = 48 → m < n → lp_C_hasSuccessor_2 n C (nI p) (nI i) = some (bI (fx (flP T N p) m i).isSome, C) := by
  intro m
  have hc := h.2 p hp hg
  induction m with
  | zero =>
    intro n i hi hn
    obtain ⟨n, rfl⟩ := pred_n hn
    rw [le_C_hasSuccessor_2, if_pos ((ni_48 (i := i) (by omega)).mpr (by omega))]; rfl
  | succ m ih =>
    intro n i hi hn
    obtain ⟨n, rfl⟩ := pred_n hn
    have hi48 : i < 48 := by omega
    have nx := ih n (i + 1) (by omega) (by omega)
    rw [le_C_hasSuccessor_2, if_neg (fun z => by have := (ni_48 (i := i) (by omega)).mp z; omega), c_live h hi48, bd_s]
    simp only [st_s, ni_inc, nx]
    cases hl : lv T N i with
    | false => rw [bI_f, if_pos rfl, fx_f (P := flP T N p) (by unfold flP; rw [hl]; rfl)]
    | true =>
      have hq := h.2 i hi48 (lv_pgm hl)
      rw [bI_t, if_neg (by decide), gd_s (inb_n hp (by decide)), rc_n (by omega), hc.2, gd_s (inb_n hi48 (by decide)), rc_n (by omega), hq.2, ft_follow C hc.1 hq.1, bd_s]
      by_cases w : T p % 64 = T i % 64 ∧ (T p / 64 + 1) % 4 = T i / 64 % 4
      · rw [decide_eq_true w, bI_t, if_neg (by decide), fx_t (P := flP T N p) (by unfold flP; rw [hl, decide_eq_true w]; rfl)]; rfl
      · rw [decide_eq_false w, bI_f, if_pos rfl, fx_f (P := flP T N p) (by unfold flP; rw [hl, decide_eq_false w]; rfl)]
        exact nx
theorem c_succ {C : TC} {T N : Nat → Nat} {B : Nat → Bool} (h : CS C T N B) {p : Nat} (hp : p < 48) (hg : pgm N p = true) : fn_C_hasSuccessor C (nI p) = some (bI (flB T N p), C) := c_succ_lp h hp hg 48 64 0 rfl (by decide)
theorem r_fol_lp {R : TR} {T N : Nat → Nat} {B : Nat → Bool} (h : RS R T N B) {p : Nat} (hp : p < 48) (hg : pgm N p = true) : ∀ (m n i : Nat), i + m = 48 → m < n → lp_M_followed_2 n R (nI p) (nI i) = some (bI (fx (flP T N p) m i).isSome, R) := by
  intro m
  have hr : PgR R p (T p) := h.2.2 p hp hg
  induction m with
  | zero =>
    intro n i hi hn
    obtain ⟨n, rfl⟩ := pred_n hn
    rw [le_M_followed_2, if_pos ((ni_48 (i := i) (by omega)).mpr (by omega))]; rfl
  | succ m ih =>
    intro n i hi hn
    obtain ⟨n, rfl⟩ := pred_n hn
    have hi48 : i < 48 := by omega
    have nx := ih n (i + 1) (by omega) (by omega)
    rw [le_M_followed_2, if_neg (fun z => by have := (ni_48 (i := i) (by omega)).mp z; omega)]
    simp only [gd_s (inb_n hp (by decide : 48 < 2 ^ 31)), gd_s (inb_n hi48 (by decide : 48 < 2 ^ 31)), st_s, ni_inc, nx, rr_n (show i < 2 ^ 31 by omega), rr_n (show p < 2 ^ 31 by omega)]
    cases hl : lv T N i with
    | false => rw [if_neg (fun z => by rw [(r_live h hi48).mp z] at hl; cases hl), fx_f (P := flP T N p) (by unfold flP; rw [hl]; rfl)]
    | true =>
      have hq : PgR R i (T i) := h.2.2 i hi48 (lv_pgm hl)
      rw [if_pos ((r_live h hi48).mpr hl), hr.2.2.1, hr.2.2.2.1, hr.2.2.2.2.1, hq.2.2.1, hq.2.2.2.1, hq.2.2.2.2.1, ni_inc, ni_d4 (by omega)]
      by_cases w1 : T i % 8 = T p % 8
      · rw [if_pos (by rw [w1])]
        by_cases w2 : T i / 8 % 8 = T p / 8 % 8
        · rw [if_pos (by rw [w2])]
          by_cases w3 : T i / 64 % 4 = (T p / 64 % 4 + 1) % 4
          · rw [if_pos (by rw [w3]), fx_t (P := flP T N p) (by unfold flP; rw [hl, decide_eq_true (by omega)]; rfl)]; rfl
          · rw [if_neg (by rw [nI_eq (by omega) (by omega)]; exact w3), fx_f (P := flP T N p) (by unfold flP; rw [hl, decide_eq_false (by omega)]; rfl)]
        · rw [if_neg (by rw [nI_eq (by omega) (by omega)]; exact w2), fx_f (P := flP T N p) (by unfold flP; rw [hl, decide_eq_false (by omega)]; rfl)]
      · rw [if_neg (by rw [nI_eq (by omega) (by omega)]; exact w1), fx_f (P := flP T N p) (by unfold flP; rw [hl, decide_eq_false (by omega)]; rfl)]
theorem r_fol {R : TR} {T N : Nat → Nat} {B : Nat → Bool} (h : RS R T N B) {p : Nat} (hp : p < 48) (hg : pgm N p = true) : fn_M_followed R (nI p) = some (bI (flB T N p), R) := r_fol_lp h hp hg 48 64 0 rfl (by decide)
theorem c_latest_lp {C : TC} {T N : Nat → Nat} {B : Nat → Bool} (h : CS C T N B) {o : Nat} (ho : o < 8) : ∀ (m n i : Nat), i + m = 48 → m < n → lp_C_latestHeader_2 n C (nI o) (nI i) = some (ixI (fx (ufP T N o) m i), C) := by
  intro m
  induction m with
  | zero =>
    intro n i hi hn
    obtain ⟨n, rfl⟩ := pred_n hn
    rw [le_C_latestHeader_2, if_pos ((ni_48 (i := i) (by omega)).mpr (by omega))]; rfl
  | succ m ih =>
    intro n i hi hn
    obtain ⟨n, rfl⟩ := pred_n hn
    have hi48 : i < 48 := by omega
    have nx := ih n (i + 1) (by omega) (by omega)
    rw [le_C_latestHeader_2, if_neg (fun z => by have := (ni_48 (i := i) (by omega)).mp z; omega), c_live h hi48, bd_s]
    simp only [st_s, ni_inc, nx]
    cases hl : lv T N i with
    | false => rw [bI_f, if_pos rfl, fx_f (P := ufP T N o) (by unfold ufP kyP; rw [hl]; rfl)]
    | true =>
      have hq := h.2 i hi48 (lv_pgm hl)
      rw [bI_t, if_neg (by decide), gd_s (inb_n hi48 (by decide)), rc_n (by omega), hq.2, show fn_T_areOf C (nI (T i)) (nI o) 0 = _ from ft_areOf C hq.1 (by omega) (c := 0) (by decide), bd_s, c_succ h hi48 (lv_pgm hl), bd_s]
      by_cases w : T i % 64 = o + 8 * 0
      · rw [decide_eq_true w, bI_t, if_neg (by decide)]
        have w : T i % 64 = o := w
        cases e : flB T N i with
        | false => rw [bI_f, if_pos rfl, fx_t (P := ufP T N o) (ufP_iff.mpr ⟨hl, w, e⟩)]; rfl
        | true =>
          rw [bI_t, if_neg (by decide), fx_f (P := ufP T N o) (by
            cases z : ufP T N o i with
            | false => rfl
            | true => rw [(ufP_iff.mp z).2.2] at e; cases e)]
          exact nx
      · rw [decide_eq_false w, bI_f, if_pos rfl, fx_f (P := ufP T N o) (by
            cases z : ufP T N o i with
            | false => rfl
            | true => exact absurd (ufP_iff.mp z).2.1 w)]
        exact nx
theorem c_latest {C : TC} {T N : Nat → Nat} {B : Nat → Bool} (h : CS C T N B) {o : Nat} (ho : o < 8) : fn_C_latestHeader C (nI o) = some (ixI (ufx T N o), C) := c_latest_lp h ho 48 64 0 rfl (by decide)
def over (T N : Nat → Nat) (p : Nat) : Bool := !decide (T p / 8 % 8 = 0) && match ufx T N (T p % 8) with
    | none => true
    | some q => decide (T q / 4096 % 8 < T p / 8 % 8)
theorem ufx_some {T N : Nat → Nat} {k p : Nat} (h : ufx T N k = some p) : p < 48 ∧ lv T N p = true ∧ T p % 64 = k ∧ flB T N p = false := by
  have z := fx_some 48 0 p h
  exact ⟨by omega, ufP_iff.mp z.2.2⟩
theorem c_beyond {C : TC} {T N : Nat → Nat} {B : Nat → Bool} (h : CS C T N B) {p : Nat} (hp : p < 48) (hg : pgm N p = true) : fn_S_isBeyondFile C (nI p) = some (bI (over T N p), C) := by
  have hc := h.2 p hp hg
  unfold fn_S_isBeyondFile over
  rw [gd_s (inb_n hp (by decide)), st_s, rc_n (by omega), hc.2, ft_chunk C hc.1, bd_s]
  by_cases w : T p / 8 % 8 = 0
  · rw [if_pos (by rw [w]; rfl), decide_eq_true w]; rfl
  · rw [if_neg (by rw [ni_n0 (by omega)]; exact w), decide_eq_false w, gd_s (inb_n hp (by decide)), st_s, rc_n (by omega), hc.2, ft_object C, bd_s, c_latest h (by omega), bd_s]
    cases e : ufx T N (T p % 8) with
    | none => rw [show ixI none = -1 from rfl, if_pos rfl]; rfl
    | some q =>
      obtain ⟨hq, hl, -⟩ := ufx_some e
      have hcq := h.2 q hq (lv_pgm hl)
      rw [show ixI (some q) = nI q from rfl, if_neg (ni_m1 (by omega)), gd_s (inb_n hq (by decide)), st_s, rc_n (by omega), hcq.2, ft_length C hcq.1, bd_s]
      show (if nI (T p / 8 % 8) ≤ nI (T q / 4096 % 8) then some (0, C) else some (1, C)) = some (bI (true && decide (T q / 4096 % 8 < T p / 8 % 8)), C)
      by_cases w2 : T q / 4096 % 8 < T p / 8 % 8
      · rw [if_neg (by rw [nI_leI (by omega) (by omega)]; omega), decide_eq_true w2]; rfl
      · rw [if_pos (by rw [nI_leI (by omega) (by omega)]; omega), decide_eq_false w2]; rfl
def stl (T N : Nat → Nat) (p : Nat) : Bool := lv T N p && (flB T N p || over T N p)
theorem CS10 {C C1 : TC} {T N : Nat → Nat} {B : Nat → Bool} (h : CS C T N B) (hC : ∀ k, k ≠ 10 → C1.1 k = C.1 k) : CS C1 T N B := by
  unfold CS; rw [hC 5 (by decide), hC 8 (by decide), hC 2 (by decide)]; exact h
theorem c_settle_lp {T N : Nat → Nat} {B : Nat → Bool} : ∀ (m n i : Nat) (C : TC), CS C T N B → i + m = 48 → m < n → ∃ C1, lp_S_settleStale_2 n C (nI i) = some ((), C1) ∧ (∀ k, k ≠ 10 → C1.1 k = C.1 k) ∧ C1.2 = C.2 ∧ ∀ q, C1.1 10 q = if i ≤ q ∧ q < 48 then bI (stl T N q) else C.1 10 q := by
  intro m
  induction m with
  | zero =>
    intro n i C h hi hn
    obtain ⟨n, rfl⟩ := pred_n hn
    rw [le_S_settleStale_2, if_pos ((ni_48 (i := i) (by omega)).mpr (by omega))]
    exact ⟨C, rfl, fun _ _ => rfl, rfl, fun q => by rw [if_neg (by omega)]⟩
  | succ m ih =>
    intro n i C h hi hn
    obtain ⟨n, rfl⟩ := pred_n hn
    have hi48 : i < 48 := by omega
    have key : lp_S_settleStale_2 (n + 1) C (nI i) = lp_S_settleStale_2 n (up2 C.1 10 i (bI (stl T N i)), C.2) (nI (i + 1)) := by
      rw [le_S_settleStale_2, if_neg (fun z => by have := (ni_48 (i := i) (by omega)).mp z; omega), c_live h hi48, bd_s]
      simp only [gd_s (inb_n hi48 (by decide : 48 < 2 ^ 31)), st_s, ni_inc, wc_n (show i < 2 ^ 31 by omega)]
      unfold stl
      cases hl : lv T N i with
      | false => rw [bI_f, if_pos rfl]; rfl
      | true =>
        have hg := lv_pgm hl
        rw [bI_t, if_neg (by decide), c_succ h hi48 hg, bd_s]
        cases flB T N i with
        | true => rw [bI_t, if_neg (by decide)]; rfl
        | false =>
          rw [bI_f, if_pos rfl, c_beyond h hi48 hg, bd_s]
          cases over T N i with
          | true => rw [bI_t, if_neg (by decide)]; rfl
          | false => rw [bI_f, if_pos rfl]; rfl
    rw [key]
    obtain ⟨C1, a1, a2, a3, a4⟩ := ih n (i + 1) (up2 C.1 10 i (bI (stl T N i)), C.2) (CS10 h (fun k hk => up2_n hk)) (by omega) (by omega)
    refine ⟨C1, a1, fun k hk => (a2 k hk).trans (up2_n hk), a3, fun q => ?_⟩
    rw [a4 q]
    show (if i + 1 ≤ q ∧ q < 48 then _ else upd (C.1 10) i (bI (stl T N i)) q) = _
    by_cases w : q = i
    · rw [w, if_neg (by omega), upd_s, if_pos (by omega)]
    · rw [upd_n w]
      by_cases w2 : i + 1 ≤ q ∧ q < 48
      · rw [if_pos w2, if_pos (by omega)]
      · rw [if_neg w2, if_neg (by omega)]
