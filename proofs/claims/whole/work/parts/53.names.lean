/-! What the headers say, on both sides. -/
theorem hdx_k {T N : Nat → Nat} {o : Nat} (h1 : 1 ≤ o) (h7 : o ≤ 7) : hdx T N (nI o) = kyx T N o := by rw [hdx_n h1 h7]; rfl
theorem c_page0 {C : TC} {T N : Nat → Nat} {B : Nat → Bool} (h : CS C T N B) {o : Nat} (ho : o < 8) : fn_C_livePage C (nI o) 0 = some (ixI (kyx T N o), C) := c_livePage h ho (c := 0) (by decide)
def hT (T : Nat → Nat) (r : Option Nat) : Nat := match r with
  | none => 0
  | some p => T p
theorem c_htags {C : TC} {T N : Nat → Nat} {B : Nat → Bool} (h : CS C T N B) {o : Nat} (ho : o < 8) : fn_S_headerTags C (nI o) = some (nI (hT T (kyx T N o)), C) ∧ hT T (kyx T N o) < 65536 := by
  unfold fn_S_headerTags
  rw [c_page0 h ho, bd_s]
  cases e : kyx T N o with
  | none => rw [show ixI none = -1 from rfl, if_pos rfl]; exact ⟨rfl, (by decide : 0 < 65536)⟩
  | some p =>
    obtain ⟨hp, hl, -⟩ := kyx_some e
    have hc := h.2 p hp (lv_pgm hl)
    rw [show ixI (some p) = nI p from rfl, if_neg (ni_m1 (by omega)), gd_s (inb_n hp (by decide)), st_s, rc_n (by omega), hc.2]
    exact ⟨rfl, hc.1⟩
theorem c_isDir {C : TC} {T N : Nat → Nat} {B : Nat → Bool} (h : CS C T N B) {o : Nat} (h1 : 1 ≤ o) (ho : o < 8) : fn_S_isDirectory C (nI o) = some (bI (decide (hT T (kyx T N o) / 32768 % 2 = 1)), C) := by
  obtain ⟨e, hl⟩ := c_htags h ho
  unfold fn_S_isDirectory
  rw [if_neg (by rw [ni_n0 (by omega)]; omega), e, bd_s, ft_isOfDirectory C hl, bd_s]
  cases decide (hT T (kyx T N o) / 32768 % 2 = 1)
  · rw [bI_f, if_pos rfl]
  · rw [bI_t, if_neg (by decide)]
theorem c_isDir0 (C : TC) : fn_S_isDirectory C 0 = some (1, C) := by unfold fn_S_isDirectory; rw [if_pos rfl]
theorem c_there {C : TC} {T N : Nat → Nat} {B : Nat → Bool} (h : CS C T N B) {o : Nat} (h1 : 1 ≤ o) (ho : o ≤ 7) : fn_S_isThere C (nI o) = some (bI (kyx T N o).isSome, C) := by rw [c_isThere h, hdx_k h1 ho]
def inP (T N : Nat → Nat) (up : Int32) (o : Nat) : Bool := match kyx T N o with
  | none => false
  | some p => decide (nI (T p / 512 % 8) = up)
def nmP (T N : Nat → Nat) (R : TR) (up name : Int32) (o : Nat) : Bool := match kyx T N o with
  | none => false
  | some p => decide (nI (T p / 512 % 8) = up) && (decide (R 10 p < 0) && decide (R 5 p = name))
theorem c_isIn {C : TC} {T N : Nat → Nat} {B : Nat → Bool} (h : CS C T N B) {o : Nat} (h1 : 1 ≤ o) (h7 : o ≤ 7) (up : Int32) : fn_S_isIn C (nI o) up = some (bI (inP T N up o), C) := by
  unfold fn_S_isIn inP
  obtain ⟨e1, e2⟩ := c_htags h (show o < 8 by omega)
  rw [c_there h h1 h7, bd_s]
  cases e : kyx T N o with
  | none => rw [show bI (none : Option Nat).isSome = 0 from rfl, if_pos rfl]; rfl
  | some p =>
    rw [e] at e1 e2
    rw [show bI (some p).isSome = 1 from rfl, if_neg (by decide), e1, bd_s, ft_parent C e2, bd_s]
    show (if nI (T p / 512 % 8) = up then _ else _) = some (bI (decide (nI (T p / 512 % 8) = up)), C)
    by_cases w : nI (T p / 512 % 8) = up
    · rw [if_pos w, decide_eq_true w]; rfl
    · rw [if_neg w, decide_eq_false w]; rfl
def wdL (R : TR) (p : Nat) : Int64 := if R 10 p < 0 then (R 5 p).toInt64 else 4294967296
theorem c_word {C : TC} {R : TR} {p : Nat} (hp : p < 48) (h3 : C.1 3 p = R 5 p) (hf : flipOK (C.2 p) (R 9 p) (R 10 p)) : fn_C_wordRead C (nI p) = some (wdL R p, C) := by
  unfold fn_C_wordRead wdL
  rw [c_unread hp hf, bd_s]
  by_cases w : R 10 p < 0
  · rw [decide_eq_true w, show bI (!true) = 0 from rfl, if_pos rfl, gd_s (inb_n hp (by decide)), st_s, rc_n (by omega), h3, if_pos w]
  · rw [decide_eq_false w, show bI (!false) = 1 from rfl, if_neg (by decide), if_neg w]
theorem c_nameRead {C : TC} {R : TR} {T N : Nat → Nat} {B : Nat → Bool} (h : Sm C R T N B) {o p : Nat} (ho : o < 8) (e : kyx T N o = some p) : fn_S_nameRead C (nI o) = some (wdL R p, C) := by
  obtain ⟨hp, hl, -⟩ := kyx_some e
  have hq := h.2.2.1.1 p hp (lv_pgm hl)
  unfold fn_S_nameRead
  rw [c_page0 h.1 ho, bd_s, e, show ixI (some p) = nI p from rfl, if_neg (ni_m1 (by omega)), c_word hp hq.1 hq.2, bd_s]
theorem i64_lo (x : Int32) : ¬ (4294967296 : Int64) = x.toInt64 := fun e => by
  have h := congrArg Int64.toInt e
  rw [Int32.toInt_toInt64] at h
  have h2 : (4294967296 : Int64).toInt = 4294967296 := by decide
  have h3 := Int32.toInt_lt x
  omega
theorem i64_inj {x y : Int32} : x.toInt64 = y.toInt64 ↔ x = y := ⟨fun e => by
  have h := congrArg Int64.toInt e
  rw [Int32.toInt_toInt64, Int32.toInt_toInt64] at h
  exact Int32.toInt_inj.mp h, fun e => by rw [e]⟩
theorem cmp_0 {x y : Int64} : lg_cmp x y = 0 ↔ x = y := by
  unfold lg_cmp
  by_cases h1 : x > y
  · rw [if_pos h1]
    refine ⟨fun z => absurd z (by decide), fun z => ?_⟩
    subst z
    have h2 : x < x := h1
    rw [Int64.lt_iff_toInt_lt] at h2
    omega
  · rw [if_neg h1]
    by_cases h2 : x = y
    · rw [if_pos h2]; exact ⟨fun _ => h2, fun _ => rfl⟩
    · rw [if_neg h2]; exact ⟨fun z => absurd z (by decide), fun z => absurd z h2⟩
theorem wd_name {R : TR} {p : Nat} {name : Int32} : lg_cmp (wdL R p) name.toInt64 = 0 ↔ R 10 p < 0 ∧ R 5 p = name := by
  rw [cmp_0]
  unfold wdL
  by_cases w : R 10 p < 0
  · rw [if_pos w, i64_inj]; exact ⟨fun z => ⟨w, z⟩, fun z => z.2⟩
  · rw [if_neg w]; exact ⟨fun z => absurd z (i64_lo name), fun z => absurd z.1 w⟩
def ox (r : Option Nat) : Int32 := match r with
  | none => 0
  | some o => nI o
theorem ni_7 {i : Nat} (h : i < 2 ^ 31) : (7 : Int32) < nI i ↔ 7 < i := ni_lt rfl (by decide) h
theorem c_named_lp {C : TC} {R : TR} {T N : Nat → Nat} {B : Nat → Bool} (h : Sm C R T N B) (up name : Int32) : ∀ (m n i : Nat), 1 ≤ i → i + m = 8 → m < n → lp_S_objectNamed_2 n C up name (nI i) = some (ox (fx (nmP T N R up name) m i), C) := by
  intro m
  induction m with
  | zero =>
    intro n i h1 hi hn
    obtain ⟨n, rfl⟩ := pred_n hn
    rw [le_S_objectNamed_2, if_pos ((ni_7 (i := i) (by omega)).mpr (by omega))]; rfl
  | succ m ih =>
    intro n i h1 hi hn
    obtain ⟨n, rfl⟩ := pred_n hn
    have nx := ih n (i + 1) (by omega) (by omega) (by omega)
    rw [le_S_objectNamed_2, if_neg (fun z => by have := (ni_7 (i := i) (by omega)).mp z; omega), c_isIn h.1 h1 (by omega), bd_s]
    cases e : kyx T N i with
    | none =>
      rw [show inP T N up i = false by unfold inP; rw [e], bI_f, if_pos rfl, st_s, ni_inc, nx, fx_f (P := nmP T N R up name) (by unfold nmP; rw [e])]
    | some p =>
      have e1 : inP T N up i = decide (nI (T p / 512 % 8) = up) := by unfold inP; rw [e]
      have e2 : nmP T N R up name i = (decide (nI (T p / 512 % 8) = up) && (decide (R 10 p < 0) && decide (R 5 p = name))) := by unfold nmP; rw [e]
      by_cases w : nI (T p / 512 % 8) = up
      · rw [e1, decide_eq_true w, bI_t, if_neg (by decide), c_nameRead h (by omega) e, bd_s]
        by_cases w2 : lg_cmp (wdL R p) name.toInt64 = 0
        · have w3 := wd_name.mp w2
          rw [if_pos w2, fx_t (P := nmP T N R up name) (by rw [e2, decide_eq_true w, decide_eq_true w3.1, decide_eq_true w3.2]; rfl)]; rfl
        · rw [if_neg w2, st_s, ni_inc, nx, fx_f (P := nmP T N R up name) (by
            rw [e2]
            by_cases w4 : R 10 p < 0
            · rw [decide_eq_false (fun z => w2 (wd_name.mpr ⟨w4, z⟩)), Bool.and_false, Bool.and_false]
            · rw [decide_eq_false w4, Bool.false_and, Bool.and_false])]
      · rw [e1, decide_eq_false w, bI_f, if_pos rfl, st_s, ni_inc, nx, fx_f (P := nmP T N R up name) (by rw [e2, decide_eq_false w, Bool.false_and])]
theorem c_named {C : TC} {R : TR} {T N : Nat → Nat} {B : Nat → Bool} (h : Sm C R T N B) (up name : Int32) : fn_S_objectNamed C up name = some (ox (fx (nmP T N R up name) 7 1), C) :=
  c_named_lp h up name 7 64 1 (by decide) rfl (by decide)
def nbP (T N : Nat → Nat) (R : TR) (up name but : Int32) (o : Nat) : Bool := !decide (nI o = but) && nmP T N R up name o
theorem r_named_lp {R : TR} {T N : Nat → Nat} {B : Nat → Bool} (h : RS R T N B) (up name but : Int32) : ∀ (m n i : Nat), 1 ≤ i → i + m = 8 → m < n → lp_M_named_3 n R up name but (nI i) = some (ox (fx (nbP T N R up name but) m i), R) := by
  intro m
  induction m with
  | zero =>
    intro n i h1 hi hn
    obtain ⟨n, rfl⟩ := pred_n hn
    rw [le_M_named_3, if_pos ((ni_7 (i := i) (by omega)).mpr (by omega))]; rfl
  | succ m ih =>
    intro n i h1 hi hn
    obtain ⟨n, rfl⟩ := pred_n hn
    have nx := ih n (i + 1) (by omega) (by omega) (by omega)
    rw [le_M_named_3, if_neg (fun z => by have := (ni_7 (i := i) (by omega)).mp z; omega), r_header h, bd_s, hdx_k h1 (by omega)]
    simp only [st_s, ni_inc, nx]
    by_cases w0 : nI i = but
    · rw [if_pos w0, fx_f (P := nbP T N R up name but) (by unfold nbP; rw [decide_eq_true w0]; rfl)]
    · rw [if_neg w0]
      cases e : kyx T N i with
      | none => rw [show ixI none = -1 from rfl, if_pos (by decide), fx_f (P := nbP T N R up name but) (by unfold nbP nmP; rw [e]; exact Bool.and_false _)]
      | some p =>
        obtain ⟨hp, hl, -⟩ := kyx_some e
        have hr : PgR R p (T p) := h.2.2 p hp (lv_pgm hl)
        have p31 : p < 2 ^ 31 := by omega
        have e2 : nbP T N R up name but i = (decide (nI (T p / 512 % 8) = up) && (decide (R 10 p < 0) && decide (R 5 p = name))) := by unfold nbP nmP; rw [e, decide_eq_false w0]; rfl
        rw [show ixI (some p) = nI p from rfl, if_neg (ni_nn (by omega))]
        simp only [gd_s (inb_n hp (by decide : 48 < 2 ^ 31)), rr_n p31]
        rw [hr.2.2.2.2.2.1]
        by_cases w : nI (T p / 512 % 8) = up
        · rw [if_pos w]
          by_cases w4 : R 10 p < 0
          · rw [if_neg (fun z => by rw [Int32.lt_iff_toInt_lt] at w4; rw [Int32.le_iff_toInt_le] at z; omega)]
            by_cases w5 : R 5 p = name
            · rw [if_pos w5, fx_t (P := nbP T N R up name but) (by rw [e2, decide_eq_true w, decide_eq_true w4, decide_eq_true w5]; rfl)]; rfl
            · rw [if_neg w5, fx_f (P := nbP T N R up name but) (by rw [e2, decide_eq_false w5, Bool.and_false, Bool.and_false])]
          · rw [if_pos (by rw [Int32.lt_iff_toInt_lt] at w4; rw [Int32.le_iff_toInt_le]; omega), fx_f (P := nbP T N R up name but) (by rw [e2, decide_eq_false w4, Bool.false_and, Bool.and_false])]
        · rw [if_neg w, fx_f (P := nbP T N R up name but) (by rw [e2, decide_eq_false w, Bool.false_and])]
theorem r_named {R : TR} {T N : Nat → Nat} {B : Nat → Bool} (h : RS R T N B) (up name but : Int32) : fn_M_named R up name but = some (ox (fx (nbP T N R up name but) 7 1), R) :=
  r_named_lp h up name but 7 64 1 (by decide) rfl (by decide)
theorem c_inside_lp {C : TC} {T N : Nat → Nat} {B : Nat → Bool} (h : CS C T N B) (up : Int32) : ∀ (m n i k : Nat), 1 ≤ i → i + m = 8 → m < n → lp_S_objectsIn_4 n C up (nI k) (nI i) = some (nI (k + cn (inP T N up) m i), C) := by
  intro m
  induction m with
  | zero =>
    intro n i k h1 hi hn
    obtain ⟨n, rfl⟩ := pred_n hn
    rw [le_S_objectsIn_4, if_pos ((ni_7 (i := i) (by omega)).mpr (by omega))]; rfl
  | succ m ih =>
    intro n i k h1 hi hn
    obtain ⟨n, rfl⟩ := pred_n hn
    rw [le_S_objectsIn_4, if_neg (fun z => by have := (ni_7 (i := i) (by omega)).mp z; omega), c_isIn h h1 (by omega), bd_s]
    cases e : inP T N up i with
    | false => rw [bI_f, if_pos rfl, st_s, ni_inc, ih n (i + 1) k (by omega) (by omega) (by omega), cn_f e]
    | true => rw [bI_t, if_neg (by decide), st_s, st_s, ni_inc, ni_inc, ih n (i + 1) _ (by omega) (by omega) (by omega), cn_t e, Nat.add_assoc k 1]
theorem c_inside {C : TC} {T N : Nat → Nat} {B : Nat → Bool} (h : CS C T N B) (up : Int32) : fn_S_objectsIn C up = some (nI (cn (inP T N up) 7 1), C) := by
  have e := c_inside_lp h up 7 64 1 0 (by decide) rfl (by decide)
  rw [Nat.zero_add] at e
  exact e
theorem r_inside_lp {R : TR} {T N : Nat → Nat} {B : Nat → Bool} (h : RS R T N B) (up : Int32) : ∀ (m n i k : Nat), 1 ≤ i → i + m = 8 → m < n → lp_M_inside_4 n R up (nI k) (nI i) = some (nI (k + cn (inP T N up) m i), R) := by
  intro m
  induction m with
  | zero =>
    intro n i k h1 hi hn
    obtain ⟨n, rfl⟩ := pred_n hn
    rw [le_M_inside_4, if_pos ((ni_7 (i := i) (by omega)).mpr (by omega))]; rfl
  | succ m ih =>
    intro n i k h1 hi hn
    obtain ⟨n, rfl⟩ := pred_n hn
    rw [le_M_inside_4, if_neg (fun z => by have := (ni_7 (i := i) (by omega)).mp z; omega), r_header h, bd_s, hdx_k h1 (by omega)]
    cases e : kyx T N i with
    | none =>
      rw [show ixI none = -1 from rfl, if_pos (by decide), st_s, st_s, ni_inc, show nI k + (0 : Int32) = nI k from (nI_add k 0), ih n (i + 1) k (by omega) (by omega) (by omega), cn_f (P := inP T N up) (by unfold inP; rw [e])]
    | some p =>
      obtain ⟨hp, hl, -⟩ := kyx_some e
      have hr : PgR R p (T p) := h.2.2 p hp (lv_pgm hl)
      have e1 : inP T N up i = decide (nI (T p / 512 % 8) = up) := by unfold inP; rw [e]
      rw [show ixI (some p) = nI p from rfl, if_neg (ni_nn (by omega)), gd_s (inb_n hp (by decide)), st_s, rr_n (by omega), hr.2.2.2.2.2.1]
      by_cases w : nI (T p / 512 % 8) = up
      · rw [if_pos w, st_s, st_s, ni_inc, ni_inc, ih n (i + 1) _ (by omega) (by omega) (by omega), cn_t (P := inP T N up) (by rw [e1, decide_eq_true w]), Nat.add_assoc k 1]
      · rw [if_neg w, st_s, st_s, ni_inc, show nI k + (0 : Int32) = nI k from (nI_add k 0), ih n (i + 1) k (by omega) (by omega) (by omega), cn_f (P := inP T N up) (by rw [e1, decide_eq_false w])]
theorem r_inside {R : TR} {T N : Nat → Nat} {B : Nat → Bool} (h : RS R T N B) (up : Int32) : fn_M_inside R up = some (nI (cn (inP T N up) 7 1), R) := by
  have e := r_inside_lp h up 7 64 1 0 (by decide) rfl (by decide)
  rw [Nat.zero_add] at e
  exact e
