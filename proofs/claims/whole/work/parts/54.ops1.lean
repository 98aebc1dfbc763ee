/-! What holds between the two sides; the calls that only look. -/
def NU (A : Nat → Option Ab) : Prop := ∀ o o', 1 ≤ o → o ≤ 7 → 1 ≤ o' → o' ≤ 7 → o ≠ o' → ∀ (t : Nat) (w : Int32) (t' : Nat) (w' : Int32), A o = some (t, w, true) → A o' = some (t', w', true) → t % 8 = t' % 8 → w ≠ w'
def Jv (C : TC) (R : TR) (T N : Nat → Nat) (B : Nat → Bool) : Prop := Sm C R T N B ∧ Pr T N ∧ NU (at' T N R) ∧ C.1 0 0 = R 0 0 ∧ isB (R 0 0) ∧ (R 0 0 = 1 → Uq T N)
def Iv (C : TC) (R : TR) : Prop := ∃ (T N : Nat → Nat) (B : Nat → Bool), Jv C R T N B
def Op {α : Type} (f : Option (α × TC)) (g : Option (α × TR)) : Prop := ∃ (z : α) (C1 : TC) (R1 : TR), f = some (z, C1) ∧ g = some (z, R1) ∧ Iv C1 R1
theorem hdx_some {T N : Nat → Nat} {x : Int32} {p : Nat} (h : hdx T N x = some p) : ∃ o, 1 ≤ o ∧ o ≤ 7 ∧ x = nI o ∧ kyx T N o = some p := by
  rcases ob_case x with h1 | h1 | ⟨o, h1, h7, rfl⟩
  · rw [hdx_lo h1] at h; cases h
  · rw [hdx_hi h1] at h; cases h
  · exact ⟨o, h1, h7, rfl, by rw [← hdx_k h1 h7]; exact h⟩
theorem c_refO {C : TC} {T N : Nat → Nat} {B : Nat → Bool} (h : CS C T N B) (hon : C.1 0 0 = 1) (x : Int32) : fn_S_refusalOfObject C x = some (cond (hdx T N x).isSome 0 (-1), C) := by
  unfold fn_S_refusalOfObject
  rw [st_s, hon, if_neg (by decide), c_isThere h, bd_s]
  cases hdx T N x with
  | none => rw [show bI (none : Option Nat).isSome = 0 from rfl, if_pos rfl]; rfl
  | some p => rw [show bI (some p).isSome = 1 from rfl, if_neg (by decide)]; rfl
theorem c_refO0 {C : TC} (hon : C.1 0 0 = 0) (x : Int32) : fn_S_refusalOfObject C x = some (-9, C) := by
  unfold fn_S_refusalOfObject
  rw [st_s, hon, if_pos rfl]
def fld (T : Nat → Nat) (p : Nat) : Bool := decide (T p / 32768 % 2 = 1)
theorem c_refF {C : TC} {T N : Nat → Nat} {B : Nat → Bool} (h : CS C T N B) (hon : C.1 0 0 = 1) (x : Int32) : fn_S_refusalOfFile C x = some (match hdx T N x with
    | none => -1
    | some p => cond (fld T p) (-3) 0, C) := by
  unfold fn_S_refusalOfFile
  rw [c_refO h hon, bd_s]
  cases e : hdx T N x with
  | none => rw [show cond (none : Option Nat).isSome (0 : Int32) (-1) = -1 from rfl, if_neg (by decide)]
  | some p =>
    obtain ⟨o, h1, h7, rfl, e2⟩ := hdx_some e
    rw [show cond (some p).isSome (0 : Int32) (-1) = 0 from rfl, if_pos rfl, c_isDir h h1 (by omega), bd_s, e2]
    show (if bI (fld T p) = 0 then some (0, C) else some (-3, C)) = some (cond (fld T p) (-3) 0, C)
    cases fld T p
    · rw [bI_f, if_pos rfl]; rfl
    · rw [bI_t, if_neg (by decide)]; rfl
theorem c_refF0 {C : TC} (hon : C.1 0 0 = 0) (x : Int32) : fn_S_refusalOfFile C x = some (-9, C) := by
  unfold fn_S_refusalOfFile
  rw [c_refO0 hon, bd_s, if_neg (by decide)]
def dirA (T N : Nat → Nat) (x : Int32) : Int32 := if x = 0 then 0 else match hdx T N x with
    | none => -1
    | some p => cond (fld T p) 0 (-2)
theorem c_refD {C : TC} {T N : Nat → Nat} {B : Nat → Bool} (h : CS C T N B) (hon : C.1 0 0 = 1) (x : Int32) : fn_S_refusalOfDirectory C x = some (dirA T N x, C) := by
  unfold fn_S_refusalOfDirectory dirA
  rw [st_s, hon, if_neg (by decide)]
  by_cases w : x = 0
  · subst w; rw [if_pos rfl, if_pos rfl, c_isDir0, bd_s, if_neg (by decide)]
  · rw [if_neg w, if_neg w, c_isThere h, bd_s]
    cases e : hdx T N x with
    | none => rw [show bI (none : Option Nat).isSome = 0 from rfl, if_pos rfl]
    | some p =>
      obtain ⟨o, h1, h7, rfl, e2⟩ := hdx_some e
      rw [show bI (some p).isSome = 1 from rfl, if_neg (by decide), c_isDir h h1 (by omega), bd_s, e2]
      show (if bI (fld T p) = 0 then some (-2, C) else some (0, C)) = some (cond (fld T p) 0 (-2), C)
      cases fld T p
      · rw [bI_f, if_pos rfl]; rfl
      · rw [bI_t, if_neg (by decide)]; rfl
theorem c_refD0 {C : TC} (hon : C.1 0 0 = 0) (x : Int32) : fn_S_refusalOfDirectory C x = some (-9, C) := by
  unfold fn_S_refusalOfDirectory
  rw [st_s, hon, if_pos rfl]
theorem r_there {R : TR} {T N : Nat → Nat} {B : Nat → Bool} (h : RS R T N B) (x : Int32) : fn_M_there R x = some (if x = 0 then 1 else bI (hdx T N x).isSome, R) := by
  unfold fn_M_there
  by_cases w : x = 0
  · rw [if_pos w, if_pos w]
  · rw [if_neg w, if_neg w, r_header h, bd_s]
    cases e : hdx T N x with
    | none => rw [show ixI none = -1 from rfl, if_pos (by decide)]; rfl
    | some p =>
      obtain ⟨o, -, -, -, e2⟩ := hdx_some e
      have := (kyx_some e2).1
      rw [show ixI (some p) = nI p from rfl, if_neg (ni_nn (by omega))]; rfl
theorem r_fold {R : TR} {T N : Nat → Nat} {B : Nat → Bool} (h : RS R T N B) {p : Nat} (hp : p < 48) (hl : lv T N p = true) : R 8 p = bI (fld T p) := by
  have hr : PgR R p (T p) := h.2.2 p hp (lv_pgm hl)
  rw [hr.2.2.2.2.2.2.2]
  unfold fld
  by_cases w : T p / 32768 % 2 = 1
  · rw [w, decide_eq_true rfl]; rfl
  · rw [decide_eq_false w, show T p / 32768 % 2 = 0 by omega]; rfl
theorem r_dir {R : TR} {T N : Nat → Nat} {B : Nat → Bool} (h : RS R T N B) (x : Int32) : fn_M_directory R x = some (if x = 0 then 1 else match hdx T N x with
    | none => 0
    | some p => bI (fld T p), R) := by
  unfold fn_M_directory
  rw [r_header h, bd_s]
  by_cases w : x = 0
  · rw [if_pos w, if_pos w]
  · rw [if_neg w, if_neg w]
    cases e : hdx T N x with
    | none => rw [show ixI none = -1 from rfl, if_pos (by decide)]
    | some p =>
      obtain ⟨o, -, -, -, e2⟩ := hdx_some e
      obtain ⟨hp, hl, -⟩ := kyx_some e2
      rw [show ixI (some p) = nI p from rfl, if_neg (ni_nn (by omega)), gd_s (inb_n hp (by decide)), st_s, rr_n (by omega), r_fold h hp hl]
      show (if bI (fld T p) = 0 then some (0, R) else some (1, R)) = some (bI (fld T p), R)
      cases fld T p
      · rw [bI_f, if_pos rfl]
      · rw [bI_t, if_neg (by decide)]
theorem nb0 {T N : Nat → Nat} {R : TR} {up name : Int32} : fx (nbP T N R up name 0) 7 1 = fx (nmP T N R up name) 7 1 := fx_cong 7 1 (fun o h1 h2 => by
  unfold nbP; rw [decide_eq_false (by rw [ni_n0 (by omega)]; omega)]; rfl)
theorem op_find {C : TC} {R : TR} (h : Iv C R) (x y : Int32) : Op (fn_S_find C x y) (fn_M_find R x y) := by
  have h0 := h
  obtain ⟨T, N, B, hs, -, -, h4, h5, -⟩ := h
  unfold fn_S_find fn_M_find
  rw [st_s]
  rcases h5 with w | w
  · rw [c_refD0 (h4.trans w), bd_s, if_neg (by decide), w, if_pos rfl]; exact ⟨_, _, _, rfl, rfl, h0⟩
  · have n10 : ¬ (1 : Int32) = 0 := by decide
    rw [c_refD hs.1 (h4.trans w), bd_s, w, if_neg n10, r_there hs.2.1, bd_s, r_dir hs.2.1, bd_s]
    by_cases q : x = 0
    · rw [show dirA T N x = 0 from if_pos q, if_pos rfl, if_pos q, if_neg n10, if_pos q, if_neg n10, c_named hs, bd_s, r_named hs.2.1, bd_s, nb0]
      exact ⟨_, _, _, rfl, rfl, h0⟩
    · rw [if_neg q, if_neg q]
      cases e : hdx T N x with
      | none =>
        rw [show dirA T N x = -1 by unfold dirA; rw [if_neg q, e], if_neg (show ¬ (-1 : Int32) = 0 by decide), show bI (none : Option Nat).isSome = 0 from rfl, if_pos rfl]; exact ⟨_, _, _, rfl, rfl, h0⟩
      | some p =>
        rw [show dirA T N x = cond (fld T p) 0 (-2) by unfold dirA; rw [if_neg q, e], show bI (some p).isSome = 1 from rfl, if_neg n10]
        show Op (if cond (fld T p) (0 : Int32) (-2) = 0 then _ else _) (if bI (fld T p) = 0 then _ else _)
        cases fld T p
        · rw [show cond false (0 : Int32) (-2) = -2 from rfl, if_neg (show ¬ (-2 : Int32) = 0 by decide), bI_f, if_pos rfl]; exact ⟨_, _, _, rfl, rfl, h0⟩
        · rw [show cond true (0 : Int32) (-2) = 0 from rfl, if_pos rfl, bI_t, if_neg n10, c_named hs, bd_s, r_named hs.2.1, bd_s, nb0]
          exact ⟨_, _, _, rfl, rfl, h0⟩
theorem r_len {R : TR} {T N : Nat → Nat} {B : Nat → Bool} (h : RS R T N B) {p : Nat} (hp : p < 48) (hl : lv T N p = true) : R 7 p = nI (T p / 4096 % 8) := (h.2.2 p hp (lv_pgm hl)).2.2.2.2.2.2.1
theorem r_par {R : TR} {T N : Nat → Nat} {B : Nat → Bool} (h : RS R T N B) {p : Nat} (hp : p < 48) (hl : lv T N p = true) : R 6 p = nI (T p / 512 % 8) := (h.2.2 p hp (lv_pgm hl)).2.2.2.2.2.1
theorem op_size {C : TC} {R : TR} (h : Iv C R) (x : Int32) : Op (fn_S_size C x) (fn_M_size R x) := by
  have h0 := h
  obtain ⟨T, N, B, hs, -, -, h4, h5, -⟩ := h
  unfold fn_S_size fn_M_size
  rw [st_s, st_s, h4]
  rcases h5 with w | w
  · rw [w, if_pos rfl, if_pos rfl]; exact ⟨_, _, _, rfl, rfl, h0⟩
  · rw [w, if_neg (show ¬ (1 : Int32) = 0 by decide), if_neg (show ¬ (1 : Int32) = 0 by decide), r_there hs.2.1, bd_s, r_dir hs.2.1, bd_s]
    by_cases q : x = 0
    · subst q
      rw [if_pos rfl, if_pos rfl, if_neg (show ¬ (1 : Int32) = 0 by decide), if_pos rfl, if_neg (show ¬ (1 : Int32) = 0 by decide), c_isDir0, bd_s, if_neg (show ¬ (1 : Int32) = 0 by decide), c_inside hs.1, bd_s, r_inside hs.2.1, bd_s]
      exact ⟨_, _, _, rfl, rfl, h0⟩
    · rw [if_neg q, if_neg q, if_neg q, c_isThere hs.1, bd_s, r_header hs.2.1, bd_s]
      cases e : hdx T N x with
      | none => rw [show bI (none : Option Nat).isSome = 0 from rfl, if_pos rfl, if_pos rfl]; exact ⟨_, _, _, rfl, rfl, h0⟩
      | some p =>
        obtain ⟨o, h1, h7, rfl, e2⟩ := hdx_some e
        obtain ⟨hp, hl, -⟩ := kyx_some e2
        obtain ⟨t1, t2⟩ := c_htags hs.1 (show o < 8 by omega)
        rw [e2] at t1 t2
        rw [show bI (some p).isSome = 1 from rfl, if_neg (show ¬ (1 : Int32) = 0 by decide), if_neg (show ¬ (1 : Int32) = 0 by decide), c_isDir hs.1 h1 (by omega), bd_s, e2]
        show Op (if bI (fld T p) = 0 then _ else _) (if bI (fld T p) = 0 then _ else _)
        cases fld T p
        · rw [bI_f, if_pos rfl, if_pos rfl, t1, bd_s, ft_length C t2, bd_s, show ixI (some p) = nI p from rfl, gd_s (inb_n hp (by decide)), st_s, rr_n (by omega), r_len hs.2.1 hp hl]
          exact ⟨_, _, _, rfl, rfl, h0⟩
        · rw [bI_t, if_neg (show ¬ (1 : Int32) = 0 by decide), if_neg (show ¬ (1 : Int32) = 0 by decide), c_inside hs.1, bd_s, r_inside hs.2.1, bd_s]
          exact ⟨_, _, _, rfl, rfl, h0⟩
theorem op_parentOf {C : TC} {R : TR} (h : Iv C R) (x : Int32) : Op (fn_S_parentOf C x) (fn_M_parentOf R x) := by
  have h0 := h
  obtain ⟨T, N, B, hs, -, -, h4, h5, -⟩ := h
  unfold fn_S_parentOf fn_M_parentOf
  rw [st_s]
  rcases h5 with w | w
  · rw [c_refO0 (h4.trans w), bd_s, if_neg (by decide), w, if_pos rfl]; exact ⟨_, _, _, rfl, rfl, h0⟩
  · rw [c_refO hs.1 (h4.trans w), bd_s, w, if_neg (show ¬ (1 : Int32) = 0 by decide), r_header hs.2.1, bd_s]
    cases e : hdx T N x with
    | none => rw [show cond (none : Option Nat).isSome (0 : Int32) (-1) = -1 from rfl, if_neg (by decide), show ixI none = -1 from rfl, if_neg (by decide)]; exact ⟨_, _, _, rfl, rfl, h0⟩
    | some p =>
      obtain ⟨o, h1, h7, rfl, e2⟩ := hdx_some e
      obtain ⟨hp, hl, -⟩ := kyx_some e2
      obtain ⟨t1, t2⟩ := c_htags hs.1 (show o < 8 by omega)
      rw [e2] at t1 t2
      rw [show cond (some p).isSome (0 : Int32) (-1) = 0 from rfl, if_pos rfl, t1, bd_s, ft_parent C t2, bd_s, show ixI (some p) = nI p from rfl, if_pos (nI_pos' (by omega)), gd_s (inb_n hp (by decide)), st_s, rr_n (by omega), r_par hs.2.1 hp hl]
      exact ⟨_, _, _, rfl, rfl, h0⟩
theorem op_nameOf {C : TC} {R : TR} (h : Iv C R) (x : Int32) : Op (fn_S_nameOf C x) (fn_M_nameOf R x) := by
  have h0 := h
  obtain ⟨T, N, B, hs, -, -, h4, h5, -⟩ := h
  unfold fn_S_nameOf fn_M_nameOf
  rw [st_s]
  rcases h5 with w | w
  · rw [c_refO0 (h4.trans w), bd_s, if_neg (by decide), w, if_pos rfl]; exact ⟨_, _, _, rfl, rfl, h0⟩
  · rw [c_refO hs.1 (h4.trans w), bd_s, w, if_neg (show ¬ (1 : Int32) = 0 by decide), r_header hs.2.1, bd_s]
    cases e : hdx T N x with
    | none => rw [show cond (none : Option Nat).isSome (0 : Int32) (-1) = -1 from rfl, if_neg (by decide), show ixI none = -1 from rfl, if_neg (by decide)]; exact ⟨_, _, _, rfl, rfl, h0⟩
    | some p =>
      obtain ⟨o, h1, h7, rfl, e2⟩ := hdx_some e
      obtain ⟨hp, hl, -⟩ := kyx_some e2
      rw [show cond (some p).isSome (0 : Int32) (-1) = 0 from rfl, if_pos rfl, c_nameRead hs (by omega) e2, bd_s, show ixI (some p) = nI p from rfl, if_pos (nI_pos' (by omega)), gd_s (inb_n hp (by decide)), st_s, rr_n (by omega)]
      unfold wdL
      by_cases u : R 10 p < 0
      · rw [if_pos u, if_pos u, gd_s (inb_n hp (by decide)), st_s, rr_n (by omega)]; exact ⟨_, _, _, rfl, rfl, h0⟩
      · rw [if_neg u, if_neg u]; exact ⟨_, _, _, rfl, rfl, h0⟩
