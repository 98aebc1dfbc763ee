/-! mount: the reference's side, the marks, the call. -/
def lst (P : Nat → Bool) (f : Nat → Int32) : Nat → Nat → Int32 → Int32
  | 0, _, a => a
  | m + 1, i, a => lst P f m (i + 1) (cond (P i) (f i) a)
theorem lst_s {P : Nat → Bool} {f : Nat → Int32} {m i : Nat} {a : Int32} : lst P f (m + 1) i a = lst P f m (i + 1) (cond (P i) (f i) a) := rfl
theorem lst_no {P : Nat → Bool} {f : Nat → Int32} : ∀ (m i : Nat) (a : Int32), (∀ q, i ≤ q → q < i + m → P q = false) → lst P f m i a = a := by
  intro m
  induction m with
  | zero => intro i a _; rfl
  | succ m ih =>
    intro i a h
    rw [lst_s, h i (Nat.le_refl _) (by omega)]
    exact ih (i + 1) a (fun q h1 h2 => h q (by omega) (by omega))
theorem lst_one {P : Nat → Bool} {f : Nat → Int32} {p : Nat} (hp : P p = true) : ∀ (m i : Nat) (a : Int32), i ≤ p → p < i + m → (∀ q, i ≤ q → q < i + m → P q = true → q = p) → lst P f m i a = f p := by
  intro m
  induction m with
  | zero => intro i a h1 h2; omega
  | succ m ih =>
    intro i a h1 h2 h
    rw [lst_s]
    by_cases w : i = p
    · subst w
      rw [hp]
      refine lst_no m (i + 1) _ (fun q q1 q2 => ?_)
      cases e : P q with
      | false => rfl
      | true => have := h q (by omega) (by omega) e; omega
    · exact ih (i + 1) _ (by omega) (by omega) (fun q q1 q2 q3 => h q (by omega) (by omega) q3)
def szP (T N : Nat → Nat) (x : Int32) (i : Nat) : Bool := lv T N i && (decide (nI (T i % 8) = x) && (decide (T i / 8 % 8 = 0) && !flB T N i))
theorem r_size_lp {R : TR} {T N : Nat → Nat} {B : Nat → Bool} (h : RS R T N B) (x : Int32) : ∀ (m n i : Nat) (a : Int32), i + m = 48 → m < n → lp_M_sizeOf_4 n R x a (nI i) = some (lst (szP T N x) (R 7) m i a, R) := by
  intro m
  induction m with
  | zero =>
    intro n i a hi hn
    obtain ⟨n, rfl⟩ := pred_n hn
    rw [le_M_sizeOf_4, if_pos ((ni_48 (i := i) (by omega)).mpr (by omega))]; rfl
  | succ m ih =>
    intro n i a hi hn
    obtain ⟨n, rfl⟩ := pred_n hn
    have hi48 : i < 48 := by omega
    have nx := fun b => ih n (i + 1) b (by omega) (by omega)
    rw [le_M_sizeOf_4, if_neg (fun z => by have := (ni_48 (i := i) (by omega)).mp z; omega), lst_s]
    simp only [gd_s (inb_n hi48 (by decide : 48 < 2 ^ 31)), st_s, ni_inc, rr_n (show i < 2 ^ 31 by omega)]
    cases hl : lv T N i with
    | false => rw [if_neg (fun z => by rw [(r_live h hi48).mp z] at hl; cases hl), nx, show szP T N x i = false by unfold szP; rw [hl]; rfl]; rfl
    | true =>
      have hq : PgR R i (T i) := h.2.2 i hi48 (lv_pgm hl)
      rw [if_pos ((r_live h hi48).mpr hl), hq.2.2.1, hq.2.2.2.1]
      by_cases w1 : nI (T i % 8) = x
      · rw [if_pos w1]
        by_cases w2 : T i / 8 % 8 = 0
        · rw [if_pos (by rw [w2]; rfl), r_fol h hi48 (lv_pgm hl), bd_s]
          cases e : flB T N i with
          | false => rw [bI_f, if_pos rfl, nx, show szP T N x i = true by unfold szP; rw [hl, decide_eq_true w1, decide_eq_true w2, e]; rfl]; rfl
          | true => rw [bI_t, if_neg (by decide), nx, show szP T N x i = false by unfold szP; rw [e, Bool.not_true, Bool.and_false, Bool.and_false, Bool.and_false]]; rfl
        · rw [if_neg (by rw [ni_n0 (by omega)]; exact w2), nx, show szP T N x i = false by unfold szP; rw [decide_eq_false w2, Bool.false_and, Bool.and_false, Bool.and_false]]; rfl
      · rw [if_neg w1, nx, show szP T N x i = false by unfold szP; rw [decide_eq_false w1, Bool.false_and, Bool.and_false]]; rfl
theorem uf_uniq {T N : Nat → Nat} (h : Pr T N) {k p q : Nat} (hp : p < 48) (hq : q < 48) (h1 : ufP T N k p = true) (h2 : ufP T N k q = true) : p = q := by
  obtain ⟨a1, a2, a3⟩ := ufP_iff.mp h1
  obtain ⟨b1, b2, b3⟩ := ufP_iff.mp h2
  by_cases e : p = q
  · exact e
  · exfalso
    rcases h p q hp hq a1 b1 e (a2.trans b2.symm) with z | z
    · have y : flB T N p = true := flB_iff.mpr ⟨q, hq, b1, a2.trans b2.symm, z⟩
      rw [y] at a3; cases a3
    · have y : flB T N q = true := flB_iff.mpr ⟨p, hp, a1, b2.trans a2.symm, z⟩
      rw [y] at b3; cases b3
theorem sz_uf {T N : Nat → Nat} {o i : Nat} (ho : o < 8) : szP T N (nI o) i = ufP T N o i := by
  cases e : ufP T N o i with
  | true =>
    obtain ⟨a1, a2, a3⟩ := ufP_iff.mp e
    unfold szP
    rw [a1, a3, decide_eq_true (show nI (T i % 8) = nI o by congr 1; omega), decide_eq_true (show T i / 8 % 8 = 0 by omega)]; rfl
  | false =>
    cases e2 : szP T N (nI o) i with
    | false => rfl
    | true =>
      unfold szP at e2
      rw [Bool.and_eq_true, Bool.and_eq_true, Bool.and_eq_true, decide_eq_true_iff, decide_eq_true_iff, Bool.not_eq_true', nI_eq (by omega) (by omega)] at e2
      rw [ufP_iff.mpr ⟨e2.1, by omega, e2.2.2.2⟩] at e
      cases e
def szV (T N : Nat → Nat) (R : TR) (o : Nat) : Int32 := match ufx T N o with
  | none => -1
  | some q => R 7 q
theorem r_size {R : TR} {T N : Nat → Nat} {B : Nat → Bool} (h : RS R T N B) (hp : Pr T N) {o : Nat} (ho : o < 8) : fn_M_sizeOf R (nI o) = some (szV T N R o, R) := by
  rw [show fn_M_sizeOf R (nI o) = _ from r_size_lp h (nI o) 48 64 0 (-1) rfl (by decide)]
  unfold szV
  congr 2
  cases e : ufx T N o with
  | none => exact lst_no 48 0 _ (fun q q1 q2 => by rw [sz_uf ho]; exact fx_none 48 0 e q q1 q2)
  | some p =>
    have z := fx_some 48 0 p e
    exact lst_one (by rw [sz_uf ho]; exact z.2.2) 48 0 _ z.1 z.2.1 (fun q q1 q2 q3 => by rw [sz_uf ho] at q3; exact uf_uniq hp (by omega) (by omega) q3 z.2.2)
theorem RS11 {R R1 : TR} {T N : Nat → Nat} {B : Nat → Bool} (h : RS R T N B) (hR : ∀ k, k ≠ 11 → R1 k = R k) : RS R1 T N B := by
  unfold RS; rw [hR 12 (by decide), hR 1 (by decide), hR 2 (by decide), hR 3 (by decide), hR 4 (by decide), hR 6 (by decide), hR 7 (by decide), hR 8 (by decide)]; exact h
theorem r_settle_lp {T N : Nat → Nat} {B : Nat → Bool} (hpr : Pr T N) (z : Int32) : ∀ (m n i : Nat) (R : TR), RS R T N B → i + m = 48 → m < n → ∃ R1, lp_M_mount_84 n R z (nI i) = lp_M_mount_175 64 R1 z 0 ∧ (∀ k, k ≠ 11 → R1 k = R k) ∧ ∀ q, R1 11 q = if i ≤ q ∧ q < 48 then bI (stl T N q) else R 11 q := by
  intro m
  induction m with
  | zero =>
    intro n i R h hi hn
    obtain ⟨n, rfl⟩ := pred_n hn
    rw [le_M_mount_84, if_pos ((ni_48 (i := i) (by omega)).mpr (by omega))]
    exact ⟨R, rfl, fun _ _ => rfl, fun q => by rw [if_neg (by omega)]⟩
  | succ m ih =>
    intro n i R h hi hn
    obtain ⟨n, rfl⟩ := pred_n hn
    have hi48 : i < 48 := by omega
    have key : lp_M_mount_84 (n + 1) R z (nI i) = lp_M_mount_84 n (up2 R 11 i (bI (stl T N i))) z (nI (i + 1)) := by
      rw [le_M_mount_84, if_neg (fun z => by have := (ni_48 (i := i) (by omega)).mp z; omega)]
      have sz : ∀ x, fn_M_sizeOf R x = some (lst (szP T N x) (R 7) 48 0 (-1), R) := fun x => r_size_lp h x 48 64 0 (-1) rfl (by decide)
      simp only [sz, gd_s (inb_n hi48 (by decide : 48 < 2 ^ 31)), st_s, ni_inc, wr_n (show i < 2 ^ 31 by omega), rr_n (show i < 2 ^ 31 by omega), bd_s]
      cases hl : lv T N i with
      | false =>
        have n1 : ¬ R 1 i = 1 := fun z => by rw [(r_live h hi48).mp z] at hl; cases hl
        rw [if_neg n1, if_neg n1, show stl T N i = false by unfold stl; rw [hl]; rfl, bI_f]
        by_cases w : R 3 i = 0
        · rw [if_pos w]
        · rw [if_neg w]
          by_cases w2 : R 3 i ≤ lst (szP T N (R 2 i)) (R 7) 48 0 (-1)
          · rw [if_pos w2]
          · rw [if_neg w2]
      | true =>
        have hg := lv_pgm hl
        have hq : PgR R i (T i) := h.2.2 i hi48 hg
        have y1 : R 1 i = 1 := (r_live h hi48).mpr hl
        have es : stl T N i = (flB T N i || over T N i) := by unfold stl; rw [hl]; rfl
        rw [if_pos y1, if_pos y1, r_fol h hi48 hg, bd_s, bd_s, hq.2.2.1, hq.2.2.2.1]
        have sv : lst (szP T N (nI (T i % 8))) (R 7) 48 0 (-1) = szV T N R (T i % 8) := by
          have a1 := r_size_lp h (nI (T i % 8)) 48 64 0 (-1) rfl (by decide)
          have a2 := r_size h hpr (show T i % 8 < 8 by omega)
          have a3 := (show lp_M_sizeOf_4 64 R (nI (T i % 8)) (-1) (nI 0) = _ from a2).symm.trans a1
          exact (congrArg Prod.fst (Option.some.inj a3)).symm
        rw [sv]
        by_cases w : T i / 8 % 8 = 0
        · have eo : over T N i = false := by unfold over; rw [decide_eq_true w]; rfl
          rw [if_pos (by rw [w]; rfl), es, eo]
          cases flB T N i
          · rw [bI_f, if_pos rfl]; rfl
          · rw [bI_t, if_neg (by decide)]; rfl
        · rw [if_neg (by rw [ni_n0 (by omega)]; exact w)]
          have eo : nI (T i / 8 % 8) ≤ szV T N R (T i % 8) ↔ over T N i = false := by
            unfold szV over
            rw [decide_eq_false w]
            cases e : ufx T N (T i % 8) with
            | none =>
              refine ⟨fun q => ?_, fun q => by cases q⟩
              have q : nI (T i / 8 % 8) ≤ -1 := q
              rw [Int32.le_iff_toInt_le, nI_toInt (by omega)] at q
              have e1 : (-1 : Int32).toInt = -1 := by decide
              omega
            | some p =>
              obtain ⟨hp, hlp, -⟩ := ufx_some e
              show nI (T i / 8 % 8) ≤ R 7 p ↔ (true && decide (T p / 4096 % 8 < T i / 8 % 8)) = false
              rw [r_len h hp hlp, nI_leI (by omega) (by omega), Bool.true_and, decide_eq_false_iff_not]
              omega
          cases eov : over T N i with
          | false =>
            rw [if_pos (eo.mpr eov), es, eov]
            cases flB T N i
            · rw [bI_f, if_pos rfl]; rfl
            · rw [bI_t, if_neg (by decide)]; rfl
          | true =>
            rw [if_neg (fun q => by rw [eo.mp q] at eov; cases eov), es, eov]
            cases flB T N i
            · rw [bI_f, if_pos rfl]; rfl
            · rw [bI_t, if_neg (by decide)]; rfl
    rw [key]
    obtain ⟨R1, a1, a2, a3⟩ := ih n (i + 1) (up2 R 11 i (bI (stl T N i))) (RS11 h (fun k hk => up2_n hk)) (by omega) (by omega)
    refine ⟨R1, a1, fun k hk => (a2 k hk).trans (up2_n hk), fun q => ?_⟩
    rw [a3 q, up2_s]
    by_cases w : q = i
    · rw [w, if_neg (by omega), upd_s, if_pos (by omega)]
    · rw [upd_n w]
      by_cases w2 : i + 1 ≤ q ∧ q < 48
      · rw [if_pos w2, if_pos (by omega)]
      · rw [if_neg w2, if_neg (by omega)]
def Tj (T N : Nat → Nat) (j : Nat) : Nat → Nat := fun q => if q < j ∧ stl T N q = true then T q + 256 else T q
theorem stl_lv {T N : Nat → Nat} {q : Nat} (h : stl T N q = true) : lv T N q = true := by
  unfold stl at h; rw [Bool.and_eq_true] at h; exact h.1
theorem Tj_n {T N : Nat → Nat} {j q : Nat} (h : ¬ (q < j ∧ stl T N q = true)) : Tj T N j q = T q := if_neg h
theorem lv_Tj {T N : Nat → Nat} {j q : Nat} : lv (Tj T N j) N q = true ↔ lv T N q = true ∧ ¬ (q < j ∧ stl T N q = true) := by
  by_cases w : q < j ∧ stl T N q = true
  · refine ⟨fun h => ?_, fun h => absurd w h.2⟩
    have y := (lv_t h).2
    have z := (lv_t (stl_lv w.2)).2
    rw [show Tj T N j q = T q + 256 from if_pos w] at y
    omega
  · unfold lv; rw [Tj_n w]; exact ⟨fun h => ⟨h, w⟩, fun h => h.1⟩
theorem Pr_Tj {T N : Nat → Nat} (h : Pr T N) (j : Nat) : Pr (Tj T N j) N := by
  intro p q hp hq h1 h2 hne hk
  have a := lv_Tj.mp h1
  have b := lv_Tj.mp h2
  rw [Tj_n a.2, Tj_n b.2] at hk ⊢
  exact h p q hp hq a.1 b.1 hne hk
theorem Uq_Tj {T N : Nat → Nat} (h : Pr T N) : Uq (Tj T N 48) N := by
  intro p q hp hq h1 h2 hk
  have a := lv_Tj.mp h1
  have b := lv_Tj.mp h2
  rw [Tj_n a.2, Tj_n b.2] at hk
  have fl : ∀ x, x < 48 → lv T N x = true → ¬ (x < 48 ∧ stl T N x = true) → flB T N x = false := fun x hx hl hn => by
    cases e : flB T N x with
    | false => rfl
    | true => exact absurd ⟨hx, by unfold stl; rw [hl, e]; rfl⟩ hn
  exact uf_uniq h hp hq (ufP_iff.mpr ⟨a.1, rfl, fl p hp a.1 a.2⟩) (ufP_iff.mpr ⟨b.1, hk.symm, fl q hq b.1 b.2⟩)
theorem uf_Tj {T N : Nat → Nat} (h : Pr T N) {j o x : Nat} (ho : o ≤ 7) (hx : ufx (Tj T N j) N o = some x) : ufx T N o = some x ∧ Tj T N j x = T x := by
  obtain ⟨x1, x2, x3, x4⟩ := ufx_some hx
  have a := lv_Tj.mp x2
  have tx := Tj_n a.2
  rw [tx] at x3
  refine ⟨?_, tx⟩
  have fx0 : flB T N x = false := by
    cases e : flB T N x with
    | false => rfl
    | true =>
      exfalso
      obtain ⟨y, y1, y2, y3, y4⟩ := flB_iff.mp e
      have yf : flB T N y = false := flB_no (fun r r1 r2 r3 r4 => by
        by_cases w1 : r = x
        · subst w1; omega
        · rcases h x r x1 r1 a.1 r2 (fun z => w1 z.symm) (y3.trans r3) with q | q
          · omega
          · omega)
      have ys : stl T N y = false := by
        unfold stl over
        rw [y2, yf, decide_eq_true (show T y / 8 % 8 = 0 by omega)]; rfl
      have yl : ¬ (y < j ∧ stl T N y = true) := fun z => by rw [ys] at z; cases z.2
      have : flB (Tj T N j) N x = true := flB_iff.mpr ⟨y, y1, lv_Tj.mpr ⟨y2, yl⟩, by rw [tx, Tj_n yl]; exact y3, by rw [tx, Tj_n yl]; exact y4⟩
      rw [this] at x4
      cases x4
  exact fx_uniq x1 (ufP_iff.mpr ⟨a.1, x3, fx0⟩) (fun q hq hk => uf_uniq h hq x1 hk (ufP_iff.mpr ⟨a.1, x3, fx0⟩))
theorem NU_Tj {T N : Nat → Nat} {R R1 : TR} (h : Pr T N) (hn : NU (at' T N R)) (h5 : R1 5 = R 5) (h10 : R1 10 = R 10) (j : Nat) : NU (at' (Tj T N j) N R1) := by
  have key : ∀ o t w, o ≤ 7 → at' (Tj T N j) N R1 o = some (t, w, true) → at' T N R o = some (t, w, true) := fun o t w ho ha => by
    unfold at' at ha ⊢
    cases e : ufx (Tj T N j) N o with
    | none => rw [e] at ha; cases ha
    | some x =>
      obtain ⟨u1, u2⟩ := uf_Tj h ho e
      rw [e] at ha
      rw [u1, ← ha]
      show some (atp T R x) = some (atp (Tj T N j) R1 x)
      unfold atp
      rw [u2, h5, h10]
  exact fun o o' a b c d e t w t' w' x y z => hn o o' a b c d e t w t' w' (key o t w b x) (key o' t' w' d y) z
theorem s_stale_lp {T N : Nat → Nat} {B : Nat → Bool} (z : Int32) : ∀ (m n n' i : Nat) (C : TC) (R : TR), i + m = 48 → m < n → m < n' → Sm C R (Tj T N i) N B → (∀ q, q < 48 → C.1 10 q = bI (stl T N q)) → (∀ q, q < 48 → R 11 q = bI (stl T N q)) →
    ∃ (v : Bool) (C1 : TC) (R1 : TR) (j : Nat), lp_S_markStale_2 n C (nI i) = some (bI v, C1) ∧ lp_M_mount_175 n' R z (nI i) = some (cond v z (-9), R1) ∧ Sm C1 R1 (Tj T N j) N B ∧ R1 5 = R 5 ∧ R1 10 = R 10 ∧ R1 0 0 = cond v (R 0 0) 0 ∧ (v = true → j = 48) := by
  intro m
  induction m with
  | zero =>
    intro n n' i C R hi hn hn' h hc hr
    obtain ⟨n, rfl⟩ := pred_n hn
    obtain ⟨n', rfl⟩ := pred_n hn'
    rw [le_S_markStale_2, if_pos ((ni_48 (i := i) (by omega)).mpr (by omega)), le_M_mount_175, if_pos ((ni_48 (i := i) (by omega)).mpr (by omega))]
    exact ⟨true, C, R, i, rfl, rfl, h, rfl, rfl, rfl, fun _ => by omega⟩
  | succ m ih =>
    intro n n' i C R hi hn hn' h hc hr
    obtain ⟨n, rfl⟩ := pred_n hn
    obtain ⟨n', rfl⟩ := pred_n hn'
    have hi48 : i < 48 := by omega
    have i31 : i < 2 ^ 31 := by omega
    have eC : lp_S_markStale_2 (n + 1) C (nI i) = (if bI (stl T N i) = 0 then (lp_S_markStale_2 n C (nI (i + 1))) else (bd (fn_C_mark C (nI i)) fun x5 S3 => if x5 = 0 then (some ((0 : Int32), S3)) else (lp_S_markStale_2 n S3 (nI (i + 1))))) := by
      rw [le_S_markStale_2, if_neg (fun z => by have := (ni_48 (i := i) (by omega)).mp z; omega), gd_s (inb_n hi48 (by decide)), st_s, rc_n i31, hc i hi48]
      simp only [st_s, ni_inc]
    have eR : lp_M_mount_175 (n' + 1) R z (nI i) = (if bI (stl T N i) = 0 then (lp_M_mount_175 n' R z (nI (i + 1))) else (bd (fn_M_mark R (nI i)) fun x5 S3 => if x5 = 0 then (some ((-9 : Int32), S3)) else (lp_M_mount_175 n' S3 z (nI (i + 1))))) := by
      rw [le_M_mount_175, if_neg (fun z => by have := (ni_48 (i := i) (by omega)).mp z; omega), gd_s (inb_n hi48 (by decide)), st_s, rr_n i31, hr i hi48]
      simp only [st_s, ni_inc]
    rw [eC, eR]
    cases e : stl T N i with
    | false =>
      have et : Tj T N (i + 1) = Tj T N i := funext (fun q => by
        unfold Tj
        by_cases w : q = i
        · rw [w, e, if_neg (fun z => by cases z.2), if_neg (fun z => by cases z.2)]
        · by_cases w2 : q < i ∧ stl T N q = true
          · rw [if_pos w2, if_pos ⟨by omega, w2.2⟩]
          · rw [if_neg w2, if_neg (fun z => w2 ⟨by omega, z.2⟩)])
      rw [bI_f, if_pos rfl, if_pos rfl]
      exact ih n n' (i + 1) C R (by omega) (by omega) (by omega) (by rw [et]; exact h) hc hr
    | true =>
      have ni : ¬ (i < i ∧ stl T N i = true) := fun z => by omega
      have et : Tj T N (i + 1) = upN (Tj T N i) i (Tj T N i i + 256) := funext (fun q => by
        unfold upN
        by_cases w : q = i
        · rw [if_pos w, w, Tj_n ni]; exact if_pos ⟨by omega, e⟩
        · rw [if_neg w]
          unfold Tj
          by_cases w2 : q < i ∧ stl T N q = true
          · rw [if_pos w2, if_pos ⟨by omega, w2.2⟩]
          · rw [if_neg w2, if_neg (fun z => w2 ⟨by omega, z.2⟩)])
      rw [bI_t, if_neg (by decide), if_neg (by decide)]
      obtain ⟨v, C1, R1, m1, m2, m3, m4, m5, m6⟩ := s_mark h hi48 (lv_Tj.mpr ⟨stl_lv e, ni⟩)
      rw [m1, m2, bd_s, bd_s]
      cases v with
      | false =>
        rw [bI_f, if_pos rfl, if_pos rfl]
        exact ⟨false, C1, R1, i, rfl, rfl, m3, m5, m6, m4.2.2.2.1, fun z => by cases z⟩
      | true =>
        rw [bI_t, if_neg (by decide), if_neg (by decide)]
        have m3 : Sm C1 R1 (Tj T N (i + 1)) N B := by rw [et]; exact m3
        obtain ⟨v2, C2, R2, j, g1, g2, g3, g4, g5, g6, g7⟩ := ih n n' (i + 1) C1 R1 (by omega) (by omega) (by omega) m3 (fun q hq => by rw [m4.2.1]; exact hc q hq) (fun q hq => by rw [m4.2.2.1]; exact hr q hq)
        have f0 : R1 0 0 = R 0 0 := m4.2.2.2.1
        exact ⟨v2, C2, R2, j, g1, g2, g3, g4.trans m5, g5.trans m6, g6.trans (by rw [f0]), g7⟩
