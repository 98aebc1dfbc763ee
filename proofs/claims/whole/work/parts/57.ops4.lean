/-! Pieces of the calls that write. -/
theorem NU_put {A A1 : Nat → Option Ab} {o t : Nat} {w : Int32} {rd : Bool} (h : NU A) (ha : ∀ k, A1 k = if k = o then some (t, w, rd) else A k) (hn : rd = true → ∀ o', 1 ≤ o' → o' ≤ 7 → o' ≠ o → ∀ t' w', A o' = some (t', w', true) → t' % 8 = t % 8 → w' ≠ w) : NU A1 := by
  intro a b a1 a7 b1 b7 hne t1 w1 t2 w2 h1 h2 h3
  rw [ha a] at h1
  rw [ha b] at h2
  by_cases ea : a = o
  · rw [if_pos ea] at h1
    rw [if_neg (fun e => hne (ea.trans e.symm))] at h2
    have z := Option.some.inj h1
    have z1 : t = t1 := congrArg Prod.fst z
    have z2 : w = w1 := congrArg (fun q => q.2.1) z
    have z3 : rd = true := congrArg (fun q => q.2.2) z
    have := hn z3 b b1 b7 (fun e => hne (ea.trans e.symm)) t2 w2 h2 (by rw [z1]; exact h3.symm)
    rw [← z2]
    exact Ne.symm this
  · rw [if_neg ea] at h1
    by_cases eb : b = o
    · rw [if_pos eb] at h2
      have z := Option.some.inj h2
      have z1 : t = t2 := congrArg Prod.fst z
      have z2 : w = w2 := congrArg (fun q => q.2.1) z
      have z3 : rd = true := congrArg (fun q => q.2.2) z
      have := hn z3 a a1 a7 ea t1 w1 h1 (by rw [z1]; exact h3)
      rw [← z2]
      exact this
    · rw [if_neg eb] at h2
      exact h a b a1 a7 b1 b7 hne t1 w1 t2 w2 h1 h2 h3
theorem nm_at {T N : Nat → Nat} {R : TR} (hu : Uq T N) {up name : Int32} {o t : Nat} {w : Int32} (h : nmP T N R up name o = false) (ha : at' T N R o = some (t, w, true)) (ht : nI (t % 8) = up) : w ≠ name := by
  intro e
  rw [at_k hu] at ha
  unfold nmP at h
  cases q : kyx T N o with
  | none => rw [q] at ha; cases ha
  | some p =>
    rw [q] at ha h
    have z : atp T R p = (t, w, true) := Option.some.inj ha
    unfold atp at z
    have z1 : T p / 512 = t := congrArg Prod.fst z
    have z2 : R 5 p = w := congrArg (fun q => q.2.1) z
    have z3 : decide (R 10 p < 0) = true := congrArg (fun q => q.2.2) z
    have h : (decide (nI (T p / 512 % 8) = up) && (decide (R 10 p < 0) && decide (R 5 p = name))) = false := h
    rw [z3, decide_eq_true (show nI (T p / 512 % 8) = up by rw [z1]; exact ht), decide_eq_true (z2.trans e)] at h
    cases h
theorem Iv_on {C : TC} {R : TR} {T N : Nat → Nat} {B : Nat → Bool} (h : Sm C R T N B) (hu : Uq T N) (hn : NU (at' T N R)) (h1 : C.1 0 0 = 1) (h2 : R 0 0 = 1) : Iv C R :=
  ⟨T, N, B, h, hu.pr, hn, h1.trans h2.symm, Or.inr h2, fun _ => hu⟩
theorem Iv_off2 {C : TC} {R : TR} {T N : Nat → Nat} {B : Nat → Bool} (h : Sm C R T N B) (hp : Pr T N) (hn : NU (at' T N R)) (h1 : C.1 0 0 = 0) (h2 : R 0 0 = 0) : Iv C R :=
  ⟨T, N, B, h, hp, hn, h1.trans h2.symm, Or.inl h2, fun z => by rw [h2] at z; cases z⟩
theorem at_eq {T N T1 N1 : Nat → Nat} {R R1 : TR} (h : ∀ k, at' T1 N1 R1 k = at' T N R k) : at' T1 N1 R1 = at' T N R := funext h
/-- room was refused, or the power failed in it: both sides answer so -/
theorem room_no {C C1 : TC} {R R1 : TR} {T N : Nat → Nat} {B : Nat → Bool} {k : Nat} {z : Int32} (hs : Sm C1 R1 T N B) (hp : Pr T N) (hn : NU (at' T N R1)) (ro : RO C R C1 R1 T N B k z) (hz : z ≠ 0) (h1 : C.1 0 0 = 1) (h2 : R 0 0 = 1) : ¬ 0 ≤ z ∧ Iv C1 R1 := by
  rcases ro with ⟨a, -⟩ | ⟨a, b, c, d⟩ | ⟨a, b, c⟩
  · exact absurd a hz
  · exact ⟨by rw [a]; decide, Iv_on hs b hn (by rw [c]; exact h1) (d.trans h2)⟩
  · exact ⟨by rw [a]; decide, Iv_off2 hs hp hn b c⟩
theorem room_yes {C C1 : TC} {R R1 : TR} {T N : Nat → Nat} {B : Nat → Bool} {k : Nat} {z : Int32} (ro : RO C R C1 R1 T N B k z) (hz : z = 0) : Uq T N ∧ 8 + k ≤ free N B ∧ C1.1 0 = C.1 0 ∧ R1 0 0 = R 0 0 := by
  rcases ro with ⟨-, a⟩ | ⟨a, -⟩ | ⟨a, -⟩
  · exact a
  · rw [hz] at a; cases a
  · rw [hz] at a; cases a
/-- the end of a call that puts one page last -/
theorem put_end {C1 : TC} {R R1 : TR} {T N T1 N1 : Nat → Nat} {B : Nat → Bool} {b V : Nat} {w : Int32} {rd v : Bool} {old : Option Nat} {f : Option (Int32 × TC)} {g : Option (Int32 × TR)} (a : Int32) (ef : f = some (bI v, C1)) (eg : g = some (bI v, R1)) (po : PO C1 R R1 T N T1 N1 B b V w rd old v) (hn0 : NU (at' T N R)) (hn : ∀ A, (∀ k, A k = if k = V % 64 then some (V / 512, w, rd) else at' T N R k) → NU A) (h1 : C1.1 0 0 = 1) (h2 : R1 0 0 = cond v 1 0) :
    Op (bd f fun x S => if x = 0 then (bd (fn_S_switchOff S) fun y S2 => some (y, S2)) else some (a, S)) (bd g fun x S => if x = 0 then some (-9, S) else some (a, S)) := by
  obtain ⟨p1, p2, p3, p4⟩ := po
  have nu : NU (at' T1 N1 R1) := by
    rcases p3 with ⟨-, p3⟩ | p3
    · rw [at_eq p3]; exact hn0
    · exact hn _ p3
  rw [ef, eg, bd_s, bd_s]
  cases v with
  | false =>
    rw [bI_f, if_pos rfl, if_pos rfl]
    exact ⟨-9, fc C1 0 0 0, R1, rfl, rfl, Iv_off p1 p2 nu h2⟩
  | true =>
    rw [bI_t, if_neg (by decide), if_neg (by decide)]
    exact ⟨a, C1, R1, rfl, rfl, Iv_on p1 (p4 rfl).1 nu h1 h2⟩
theorem c_low_lp {C : TC} {T N : Nat → Nat} {B : Nat → Bool} (h : CS C T N B) : ∀ (m n i : Nat), 1 ≤ i → i + m = 8 → m < n → lp_S_lowestAbsentObject_2 n C (nI i) = some (ixI (fx (fun o => (kyx T N o).isNone) m i), C) := by
  intro m
  induction m with
  | zero =>
    intro n i h1 hi hn
    obtain ⟨n, rfl⟩ := pred_n hn
    rw [le_S_lowestAbsentObject_2, if_pos ((ni_7 (i := i) (by omega)).mpr (by omega))]; rfl
  | succ m ih =>
    intro n i h1 hi hn
    obtain ⟨n, rfl⟩ := pred_n hn
    rw [le_S_lowestAbsentObject_2, if_neg (fun z => by have := (ni_7 (i := i) (by omega)).mp z; omega), c_there h h1 (by omega), bd_s]
    cases e : kyx T N i with
    | none => rw [show bI (none : Option Nat).isSome = 0 from rfl, if_pos rfl, fx_t (P := fun o => (kyx T N o).isNone) (by rw [e]; rfl)]; rfl
    | some p => rw [show bI (some p).isSome = 1 from rfl, if_neg (by decide), st_s, ni_inc, ih n (i + 1) (by omega) (by omega) (by omega), fx_f (P := fun o => (kyx T N o).isNone) (by rw [e]; rfl)]
def crR (R : TR) (p1 p2 p3 p4 : Int32) : Option (Int32 × TR) := bd (fn_M_room R (1 : Int32)) fun x16 S14 => if 0 ≤ x16 then (bd (fn_M_fresh S14 p4 (0 : Int32) p2) fun _ S17 => st (fr S17 0 7 p1) fun S19 => gd (isB p3) <| st (fr S19 0 9 p3) fun S20 => bd (fn_M_put S20) fun x23 S21 => if x23 = 0 then (some ((-9 : Int32), S21)) else (some (p4, S21))) else (some (x16, S14))
theorem r_low_lp {R : TR} {T N : Nat → Nat} {B : Nat → Bool} (h : RS R T N B) (p1 p2 p3 : Int32) : ∀ (m n i : Nat), 1 ≤ i → i + m = 8 → m < n → lp_M_create_47 n R p1 p2 p3 (nI i) = match fx (fun o => (kyx T N o).isNone) m i with
    | none => some (-5, R)
    | some o => crR R p1 p2 p3 (nI o) := by
  intro m
  induction m with
  | zero =>
    intro n i h1 hi hn
    obtain ⟨n, rfl⟩ := pred_n hn
    rw [le_M_create_47, if_pos ((ni_7 (i := i) (by omega)).mpr (by omega)), if_neg (by rw [show (7 : Int32) = nI 7 from rfl, nI_leI (by omega) (by decide)]; omega)]; rfl
  | succ m ih =>
    intro n i h1 hi hn
    obtain ⟨n, rfl⟩ := pred_n hn
    rw [le_M_create_47, if_neg (fun z => by have := (ni_7 (i := i) (by omega)).mp z; omega), r_header h, bd_s, hdx_k h1 (by omega)]
    cases e : kyx T N i with
    | none =>
      rw [show ixI none = -1 from rfl, if_pos (by decide), if_pos (by rw [show (7 : Int32) = nI 7 from rfl, nI_leI (by omega) (by decide)]; omega), fx_t (P := fun o => (kyx T N o).isNone) (by rw [e]; rfl)]; rfl
    | some p =>
      have := (kyx_some e).1
      rw [show ixI (some p) = nI p from rfl, if_neg (ni_nn (by omega)), st_s, ni_inc, ih n (i + 1) (by omega) (by omega) (by omega), fx_f (P := fun o => (kyx T N o).isNone) (by rw [e]; rfl)]
theorem ky_none {T N T1 N1 : Nat → Nat} {R R1 : TR} (hu : Uq T N) (hu1 : Uq T1 N1) (ha : ∀ k, at' T1 N1 R1 k = at' T N R k) {k : Nat} (h : kyx T N k = none) : kyx T1 N1 k = none := by
  have z := ha k
  rw [at_k hu, at_k hu1, h] at z
  cases e : kyx T1 N1 k with
  | none => rfl
  | some p => rw [e] at z; cases z
theorem ky_some {T N T1 N1 : Nat → Nat} {R R1 : TR} (hu : Uq T N) (hu1 : Uq T1 N1) (ha : ∀ k, at' T1 N1 R1 k = at' T N R k) {k p : Nat} (h : kyx T N k = some p) : ∃ q, kyx T1 N1 k = some q ∧ atp T1 R1 q = atp T R p := by
  have z := ha k
  rw [at_k hu, at_k hu1, h] at z
  cases e : kyx T1 N1 k with
  | none => rw [e] at z; cases z
  | some q => rw [e] at z; exact ⟨q, rfl, Option.some.inj z⟩
theorem nx_of {C : TC} {R : TR} {T N : Nat → Nat} {B : Nat → Bool} (h : Sm C R T N B) (hf : 0 < free N B) : ∃ b, nxb N B = some b := nxb_ex (fun b hb => (h.1.1 b hb).1) hf
def dirB (T N : Nat → Nat) (x : Int32) : Int32 := if x = 0 then 1 else match hdx T N x with
    | none => 0
    | some p => bI (fld T p)
theorem r_dirB {R : TR} {T N : Nat → Nat} {B : Nat → Bool} (h : RS R T N B) (x : Int32) : fn_M_directory R x = some (dirB T N x, R) := (r_dir h x).trans rfl
theorem dirA_0 {T N : Nat → Nat} {x : Int32} (h : dirA T N x = 0) : ∃ u, u < 8 ∧ x = nI u := by
  unfold dirA at h
  by_cases q : x = 0
  · exact ⟨0, by decide, q⟩
  · rw [if_neg q] at h
    cases e : hdx T N x with
    | none => rw [e] at h; exact absurd (show (-1 : Int32) = 0 from h) (by decide)
    | some p => obtain ⟨o, -, h7, rfl, -⟩ := hdx_some e; exact ⟨o, by omega, rfl⟩
theorem fx_f1 {P : Nat → Bool} {o : Nat} (h : fx P 7 1 = none) (h1 : 1 ≤ o) (h7 : o ≤ 7) : P o = false := fx_none 7 1 h o h1 (by omega)
theorem ox_0 {P : Nat → Bool} : ox (fx P 7 1) = 0 ↔ fx P 7 1 = none := by
  cases e : fx P 7 1 with
  | none => exact ⟨fun _ => rfl, fun _ => rfl⟩
  | some o =>
    have z := fx_some 7 1 o e
    refine ⟨fun q => ?_, fun q => by cases q⟩
    have q : nI o = 0 := q
    rw [ni_n0 (by omega)] at q
    omega
theorem ox_le {P : Nat → Bool} : ox (fx P 7 1) ≤ 0 ↔ fx P 7 1 = none := by
  cases e : fx P 7 1 with
  | none => exact ⟨fun _ => rfl, fun _ => by decide⟩
  | some o =>
    have z := fx_some 7 1 o e
    refine ⟨fun q => ?_, fun q => by cases q⟩
    have q : nI o ≤ 0 := q
    rw [← nI_0, nI_leI (by omega) (by decide)] at q
    omega
theorem c_ofHeader (C : TC) {o u : Nat} {d : Int32} (ho : o < 8) (hu : u < 8) (hd : isB d) : fn_T_ofHeader C (nI o) (nI u) d = some (nI (o + 512 * u + 32768 * (if d = 0 then 0 else 1)), C) := by
  unfold fn_T_ofHeader
  rw [pk_shlN _ 9 (by decide) (by omega)]
  by_cases w : d = 0
  · rw [if_pos w, if_pos w, show (0 : Int32) = nI 0 from rfl, nI_add, nI_add, Nat.mul_comm u]
  · rw [if_neg w, if_neg w, show (32768 : Int32) = nI 32768 from rfl, nI_add, nI_add, Nat.mul_comm u]
theorem op_create {C : TC} {R : TR} (h : Iv C R) (x y d : Int32) (hd : isB d) : Op (fn_S_create C x y d) (fn_M_create R x y d) := by
  have h0 := h
  obtain ⟨T, N, B, hs, hpr, hnu, h4, h5, h6⟩ := h
  have n10 : ¬ (1 : Int32) = 0 := by decide
  unfold fn_S_create fn_M_create
  rw [st_s]
  rcases h5 with w | w
  · rw [c_refD0 (h4.trans w), bd_s, if_neg (by decide), w, if_pos rfl]; exact ⟨_, _, _, rfl, rfl, h0⟩
  have hu := h6 w
  rw [c_refD hs.1 (h4.trans w), bd_s, w, if_neg n10, r_there hs.2.1, bd_s, r_dirB hs.2.1, bd_s, c_named hs, bd_s, r_named hs.2.1, bd_s, nb0]
  by_cases q : dirA T N x = 0
  · have e1 : (if x = 0 then (1 : Int32) else bI (hdx T N x).isSome) = 1 ∧ dirB T N x = 1 := by
      unfold dirB
      unfold dirA at q
      by_cases q0 : x = 0
      · rw [if_pos q0, if_pos q0]; exact ⟨rfl, rfl⟩
      · rw [if_neg q0] at q
        rw [if_neg q0, if_neg q0]
        cases e : hdx T N x with
        | none => rw [e] at q; exact absurd (show (-1 : Int32) = 0 from q) (by decide)
        | some p =>
          rw [e] at q
          have q : cond (fld T p) (0 : Int32) (-2) = 0 := q
          refine ⟨rfl, ?_⟩
          show bI (fld T p) = 1
          cases e2 : fld T p with
          | true => rfl
          | false => rw [e2] at q; exact absurd q (by decide)
    rw [if_pos q, e1.1, if_neg n10, e1.2, if_neg n10]
    obtain ⟨u, hu8, rfl⟩ := dirA_0 q
    by_cases q1 : fx (nmP T N R (nI u) y) 7 1 = none
    · rw [if_pos (ox_0.mpr q1), if_pos (ox_le.mpr q1), show fn_S_lowestAbsentObject C = _ from c_low_lp hs.1 7 64 1 (by decide) rfl (by decide), bd_s, show lp_M_create_47 64 R (nI u) y d 1 = _ from r_low_lp hs.2.1 (nI u) y d 7 64 1 (by decide) rfl (by decide)]
      cases q2 : fx (fun o => (kyx T N o).isNone) 7 1 with
      | none =>
        rw [show ixI none = -1 from rfl, if_pos rfl]; exact ⟨_, _, _, rfl, rfl, h0⟩
      | some o =>
        have z := fx_some 7 1 o q2
        have ko : kyx T N o = none := by
          have z2 := z.2.2
          cases e : kyx T N o with
          | none => rfl
          | some p => rw [e] at z2; cases z2
        rw [show ixI (some o) = nI o from rfl, if_neg (ni_m1 (by omega))]
        show Op _ (crR R (nI u) y d (nI o))
        unfold crR
        obtain ⟨zz, C1, R1, T1, N1, B1, g1, g2, g3, g4, g5, g6⟩ := s_room (k := 1) (by decide) hs hu
        have nu1 : NU (at' T1 N1 R1) := by rw [at_eq g5]; exact hnu
        rw [show fn_S_makeRoom C 1 = _ from g1, bd_s, show fn_M_room R 1 = _ from g2, bd_s]
        by_cases q3 : zz = 0
        · obtain ⟨u1, f1, c1, r1⟩ := room_yes g6 q3
          rw [if_pos q3, q3, if_pos (show (0 : Int32) ≤ 0 by decide), c_ofHeader C1 (by omega) hu8 hd, bd_s]
          obtain ⟨R2, k1, k2, k3, k4, k5, k6, k7, k8, k9, k10, k11⟩ := r_fresh (R := R1) (nI o) 0 y
          rw [k1, bd_s, st_s, gd_s hd, st_s]
          have hF : (if d = 0 then 0 else 1) < 2 := by by_cases w9 : d = 0 <;> simp [w9]
          have hdn : d = nI (if d = 0 then 0 else 1) := by
            rcases hd with w9 | w9 <;> subst w9 <;> rfl
          generalize (if d = 0 then 0 else 1) = df at hF hdn ⊢
          obtain ⟨b, hx⟩ := nx_of g3 (by omega)
          have hV : (o + 512 * u + 32768 * df) % 64 = o := by omega
          have a2 : ∀ k, k ≠ 0 → fr (fr R2 0 7 (nI u)) 0 9 d k = R1 k := fun k hk => by rw [fr_k hk, fr_k hk]; exact k2 k hk
          have a3 : ∀ j, j < 4 → fr (fr R2 0 7 (nI u)) 0 9 d 0 j = R1 0 j := fun j hj => by rw [fr_n (by omega), fr_n (by omega)]; exact k3 j hj
          have hnw : NW (fr (fr R2 0 7 (nI u)) 0 9 d) (o + 512 * u + 32768 * df) y 0 := by
            refine ⟨?_, ?_, ?_, ?_, ?_, ?_, Or.inl ⟨?_, ?_, rfl⟩⟩
            · rw [fr_n (by decide), fr_n (by decide), k4]; congr 1; omega
            · rw [fr_n (by decide), fr_n (by decide), k5, show (o + 512 * u + 32768 * df) / 8 % 8 = 0 by omega]; rfl
            · rw [fr_n (by decide), fr_n (by decide), k6]
            · rw [fr_n (by decide), fr_s]; congr 1; omega
            · rw [fr_n (by decide), fr_n (by decide), k8, show (o + 512 * u + 32768 * df) / 4096 % 8 = 0 by omega]; rfl
            · rw [fr_s, hdn]; congr 1; omega
            · rw [fr_n (by decide), fr_n (by decide), k10]
            · rw [fr_n (by decide), fr_n (by decide), k11]
          obtain ⟨v, C3, R3, T3, N3, p1, p2, p3, p4⟩ := s_putI (g3.new a2 a3) u1 hx (show o + 512 * u + 32768 * df < 65536 by omega) (show (o + 512 * u + 32768 * df) / 256 % 2 = 0 by omega) hnw (old := none) (by rw [hV]; exact ky_none hu u1 g5 ko)
          have aR : ∀ k, at' T1 N1 (fr (fr R2 0 7 (nI u)) 0 9 d) k = at' T N R k := fun k => (at_R (a2 5 (by decide)) (a2 10 (by decide)) k).trans (g5 k)
          refine put_end (nI o) p1 p2 p4 (by rw [at_eq aR]; exact hnu) (fun A hA => ?_) (by rw [p3.1, c1]; exact h4.trans w) (by rw [p3.2.2.2.1, a3 0 (by decide), r1, w])
          rw [hV] at hA
          refine NU_put (A := at' T N R) hnu (fun k => by rw [hA k, aR k]) (fun _ o' o1 o7 hne t' w' ht hpar => ?_)
          refine nm_at hu (up := nI u) (fx_f1 q1 o1 o7) ht ?_
          rw [hpar]
          congr 1
          omega
        · obtain ⟨r1, r2⟩ := room_no g3 g4 nu1 g6 q3 (h4.trans w) w
          rw [if_neg q3, if_neg r1]
          exact ⟨_, _, _, rfl, rfl, r2⟩
    · rw [if_neg (fun z => q1 (ox_0.mp z)), if_neg (fun z => q1 (ox_le.mp z))]; exact ⟨_, _, _, rfl, rfl, h0⟩
  · rw [if_neg q]
    unfold dirB
    unfold dirA at q ⊢
    by_cases q0 : x = 0
    · exact absurd (if_pos q0) q
    · rw [if_neg q0] at q
      rw [if_neg q0, if_neg q0, if_neg q0]
      cases e : hdx T N x with
      | none => rw [show bI (none : Option Nat).isSome = 0 from rfl, if_pos rfl]; exact ⟨_, _, _, rfl, rfl, h0⟩
      | some p =>
        rw [e] at q
        have q : ¬ cond (fld T p) (0 : Int32) (-2) = 0 := q
        rw [show bI (some p).isSome = 1 from rfl, if_neg n10]
        show Op (some (cond (fld T p) (0 : Int32) (-2), C)) (if bI (fld T p) = 0 then _ else _)
        cases e2 : fld T p with
        | true => rw [e2] at q; exact absurd rfl q
        | false => rw [bI_f, if_pos rfl]; exact ⟨_, _, _, rfl, rfl, h0⟩
