/-! move. -/
theorem s_lies {C : TC} {R : TR} {T N : Nat → Nat} {B : Nat → Bool} (h : Sm C R T N B) (x : Int32) : ∀ (m n n' d j : Nat), d + m = 8 → m < n → m < n' → j < 8 → ∃ v : Bool, lp_S_liesIn_5 n C x (nI j) (nI d) = some (bI v, C) ∧ lp_M_lies_5 n' R x (nI j) (nI d) = some (bI v, R) := by
  intro m
  induction m with
  | zero =>
    intro n n' d j hd hn hn' hj
    obtain ⟨n, rfl⟩ := pred_n hn
    obtain ⟨n', rfl⟩ := pred_n hn'
    rw [le_S_liesIn_5, if_pos ((ni_7 (i := d) (by omega)).mpr (by omega)), le_M_lies_5, if_pos ((ni_8 (i := d) (by omega)).mpr (by omega))]
    exact ⟨false, rfl, rfl⟩
  | succ m ih =>
    intro n n' d j hd hn hn' hj
    obtain ⟨n, rfl⟩ := pred_n hn
    obtain ⟨n', rfl⟩ := pred_n hn'
    have c7 : ¬ (7 : Int32) < nI d := fun z => by have := (ni_7 (i := d) (by omega)).mp z; omega
    have c8 : ¬ (8 : Int32) ≤ nI d := fun z => by have := (ni_8 (i := d) (by omega)).mp z; omega
    rw [le_S_liesIn_5, if_neg c7, le_M_lies_5, if_neg c8]
    by_cases w : nI j = 0
    · rw [if_pos w, if_pos w]; exact ⟨false, rfl, rfl⟩
    rw [if_neg w, if_neg w]
    by_cases w2 : nI j = x
    · rw [if_pos w2, if_pos w2]; exact ⟨true, rfl, rfl⟩
    rw [if_neg w2, if_neg w2]
    have j0 : 1 ≤ j := by rw [ni_n0 (by omega)] at w; omega
    obtain ⟨t1, t2⟩ := c_htags h.1 hj
    rw [t1, bd_s, ft_parent C t2, bd_s, st_s, ni_inc, r_header h.2.1, bd_s, hdx_k j0 (by omega)]
    cases e : kyx T N j with
    | none =>
      rw [show ixI none = -1 from rfl, if_neg (by decide), st_s, show hT T none = 0 from rfl, show 0 / 512 % 8 = 0 from rfl]
      exact ih n n' (d + 1) 0 (by omega) (by omega) (by omega) (by decide)
    | some p =>
      obtain ⟨hp, hl, -⟩ := kyx_some e
      rw [show ixI (some p) = nI p from rfl, if_pos (nI_pos' (by omega)), gd_s (inb_n hp (by decide)), st_s, rr_n (by omega), r_par h.2.1 hp hl, st_s]
      exact ih n n' (d + 1) (T p / 512 % 8) (by omega) (by omega) (by omega) (by omega)
def parV (t u : Nat) : Nat := t % 512 + 512 * (u + 8 * (t / 4096))
theorem par_p {t : Nat} : ∃ a q r, a < 512 ∧ q < 8 ∧ t = a + 512 * q + 4096 * r ∧ t % 512 = a ∧ t / 4096 = r := ⟨t % 512, t / 512 % 8, t / 4096, by omega, by omega, by omega, rfl, rfl⟩
theorem par_ok {t u : Nat} (ht : t < 65536) (hu : u < 8) : parV t u < 65536 ∧ parV t u % 512 = t % 512 ∧ parV t u / 512 % 8 = u ∧ parV t u / 4096 = t / 4096 := by
  obtain ⟨a, q, r, ha, hq, e, e1, e2⟩ := par_p (t := t)
  have ev : parV t u = a + 512 * u + 4096 * r := by unfold parV; rw [e1, e2]; omega
  rw [ev]
  have r2 : r < 16 := by omega
  have d1 : (a + 512 * u + 4096 * r) % 512 = a % 512 := by omega
  have d2 : t % 512 = a % 512 := by omega
  have d3 : (a + 512 * u + 4096 * r) / 512 = u + 8 * r := by omega
  have d5 : (a + 512 * u + 4096 * r) / 4096 = r := by omega
  refine ⟨by omega, by rw [d1, d2], by rw [d3]; omega, by rw [d5, e2]⟩
theorem nm_t {T N : Nat → Nat} {R : TR} (hu : Uq T N) {up name : Int32} {o : Nat} (h : nmP T N R up name o = true) : ∃ t, at' T N R o = some (t, name, true) ∧ nI (t % 8) = up := by
  unfold nmP at h
  rw [at_k hu]
  cases q : kyx T N o with
  | none => rw [q] at h; cases h
  | some p =>
    rw [q] at h
    have h : (decide (nI (T p / 512 % 8) = up) && (decide (R 10 p < 0) && decide (R 5 p = name))) = true := h
    rw [Bool.and_eq_true, Bool.and_eq_true, decide_eq_true_iff, decide_eq_true_iff, decide_eq_true_iff] at h
    refine ⟨T p / 512, ?_, h.1⟩
    show some (atp T R p) = _
    unfold atp
    rw [h.2.2, decide_eq_true h.2.1]
theorem nb_iff {T N : Nat → Nat} {R : TR} (hu : Uq T N) (hnu : NU (at' T N R)) {up name : Int32} {o : Nat} (h1 : 1 ≤ o) (h7 : o ≤ 7) : fx (nbP T N R up name (nI o)) 7 1 = none ↔ fx (nmP T N R up name) 7 1 = none ∨ fx (nmP T N R up name) 7 1 = some o := by
  constructor
  · intro h
    cases e : fx (nmP T N R up name) 7 1 with
    | none => exact Or.inl rfl
    | some a =>
      right
      have z := fx_some 7 1 a e
      by_cases w : a = o
      · rw [w]
      · have y := fx_f1 h z.1 (by omega)
        unfold nbP at y
        rw [z.2.2, decide_eq_false (by rw [nI_eq (by omega) (by omega)]; exact w)] at y
        cases y
  · intro h
    cases e : fx (nbP T N R up name (nI o)) 7 1 with
    | none => rfl
    | some a =>
      exfalso
      have z := fx_some 7 1 a e
      have z2 := z.2.2
      unfold nbP at z2
      rw [Bool.and_eq_true, Bool.not_eq_true', decide_eq_false_iff_not] at z2
      have hne : a ≠ o := fun q => z2.1 (by rw [q])
      rcases h with h | h
      · rw [fx_f1 h z.1 (by omega)] at z2; cases z2.2
      · have y := fx_some 7 1 o h
        obtain ⟨t, a1, a2⟩ := nm_t hu z2.2
        obtain ⟨t', b1, b2⟩ := nm_t hu y.2.2
        have q3 : t % 8 = t' % 8 := (nI_eq (by omega) (by omega)).mp (a2.trans b2.symm)
        exact hnu a o z.1 (by omega) h1 h7 hne t name t' name a1 b1 q3 rfl
def mvC (C : TC) (p1 p2 p3 : Int32) : Option (Int32 × TC) := bd (fn_S_makeRoom C (1 : Int32)) fun x57 S55 => if x57 = 0 then (bd (fn_C_livePage S55 p1 (0 : Int32)) fun x60 S58 => bd (fn_S_headerTags S58 p1) fun x63 S61 => bd (fn_T_withParent S61 x63 p2) fun x66 S64 => bd (fn_S_put S64 x60 x66 p3 (0 : Int64)) fun x69 S67 => if x69 = 0 then (bd (fn_S_switchOff S67) fun x72 S70 => some (x72, S70)) else (some ((0 : Int32), S67))) else (some (x57, S55))
def mvR (R : TR) (p1 p2 p3 : Int32) : Option (Int32 × TR) := bd (fn_M_room R (1 : Int32)) fun x19 S17 => if 0 ≤ x19 then (bd (fn_M_header S17 p1) fun x22 S20 => bd (fn_M_like S20 x22) fun _ S23 => st (fr S23 0 7 p2) fun S25 => st (fr S25 0 6 p3) fun S26 => st (fr S26 0 10 (-1 : Int32)) fun S27 => st (fr S27 0 11 (-1 : Int32)) fun S28 => bd (fn_M_put S28) fun x31 S29 => if x31 = 0 then (some ((-9 : Int32), S29)) else (some ((0 : Int32), S29))) else (some (x19, S17))
theorem s_mv {C : TC} {R : TR} {T N : Nat → Nat} {B : Nat → Bool} (hs : Sm C R T N B) (hu : Uq T N) (hnu : NU (at' T N R)) (hc1 : C.1 0 0 = 1) (hr1 : R 0 0 = 1) {o u p : Nat} (h1 : 1 ≤ o) (h7 : o ≤ 7) (hu8 : u < 8) (e2 : kyx T N o = some p) (y : Int32) (hno : fx (nbP T N R (nI u) y (nI o)) 7 1 = none) : Op (mvC C (nI o) (nI u) y) (mvR R (nI o) (nI u) y) := by
  unfold mvC mvR
  obtain ⟨zz, C1, R1, T1, N1, B1, g1, g2, g3, g4, g5, g6⟩ := s_room (k := 1) (by decide) hs hu
  have nu1 : NU (at' T1 N1 R1) := by rw [at_eq g5]; exact hnu
  rw [show fn_S_makeRoom C 1 = _ from g1, bd_s, show fn_M_room R 1 = _ from g2, bd_s]
  by_cases q3 : zz = 0
  · obtain ⟨u1, f1, c1, r1⟩ := room_yes g6 q3
    obtain ⟨p1, ek, -⟩ := ky_some hu u1 g5 e2
    obtain ⟨hp, hl, hk⟩ := kyx_some ek
    obtain ⟨b, hx⟩ := nx_of g3 (by omega)
    have hg := lv_pgm hl
    have hc := g3.1.2 p1 hp hg
    have hr : PgR R1 p1 (T1 p1) := g3.2.1.2.2 p1 hp hg
    obtain ⟨t1, t2⟩ := c_htags g3.1 (show o < 8 by omega)
    rw [ek] at t1 t2
    have t1 : fn_S_headerTags C1 (nI o) = some (nI (T1 p1), C1) := t1
    obtain ⟨V1, V0, V4, V5⟩ := par_ok hc.1 hu8
    have ht := (lv_t hl).2
    have V2 : parV (T1 p1) u % 64 = T1 p1 % 64 := by rw [← Nat.mod_mod_of_dvd (parV (T1 p1) u) (show 64 ∣ 512 by decide), V0, Nat.mod_mod_of_dvd (T1 p1) (show 64 ∣ 512 by decide)]
    have V8 : parV (T1 p1) u % 8 = T1 p1 % 8 := by rw [← Nat.mod_mod_of_dvd (parV (T1 p1) u) (show 8 ∣ 512 by decide), V0, Nat.mod_mod_of_dvd (T1 p1) (show 8 ∣ 512 by decide)]
    have V9 : parV (T1 p1) u / 8 % 8 = T1 p1 / 8 % 8 := by
      have z1 : ∀ v : Nat, v / 8 % 8 = v % 64 / 8 := fun v => by omega
      rw [z1, z1, V2]
    have V3 : parV (T1 p1) u / 256 % 2 = 0 := by
      have z1 : ∀ v : Nat, v / 256 % 2 = v % 512 / 256 := fun v => by omega
      rw [z1, V0, ← z1]; exact ht
    have V6 : parV (T1 p1) u / 32768 = T1 p1 / 32768 := by rw [show 32768 = 4096 * 8 from rfl, ← Nat.div_div_eq_div_mul, V5, Nat.div_div_eq_div_mul]
    rw [if_pos q3, q3, if_pos (show (0 : Int32) ≤ 0 by decide), c_page0 g3.1 (by omega), bd_s, t1, bd_s, ft_withParent C1 hc.1 hu8, bd_s, r_header g3.2.1, bd_s, hdx_k h1 h7, ek]
    obtain ⟨R0, l1, l2, l3, l4, l5, l6, l7, l8, l9, l10, l11⟩ := r_like (R := R1) hp (by rw [hr.2.2.2.2.2.2.2]; exact nib2 (by omega))
    rw [show ixI (some p1) = nI p1 from rfl, l1, bd_s, st_s, st_s, st_s, st_s]
    have a2 : ∀ k, k ≠ 0 → fr (fr (fr (fr R0 0 7 (nI u)) 0 6 y) 0 10 (-1)) 0 11 (-1) k = R1 k := fun k hk => by rw [fr_k hk, fr_k hk, fr_k hk, fr_k hk]; exact l2 k hk
    have a3 : ∀ j, j < 4 → fr (fr (fr (fr R0 0 7 (nI u)) 0 6 y) 0 10 (-1)) 0 11 (-1) 0 j = R1 0 j := fun j hj => by rw [fr_n (by omega), fr_n (by omega), fr_n (by omega), fr_n (by omega)]; exact l3 j hj
    have hnw : NW (fr (fr (fr (fr R0 0 7 (nI u)) 0 6 y) 0 10 (-1)) 0 11 (-1)) (parV (T1 p1) u) y 0 := by
      refine ⟨?_, ?_, ?_, ?_, ?_, ?_, Or.inl ⟨?_, ?_, rfl⟩⟩
      · rw [fr_n (by decide), fr_n (by decide), fr_n (by decide), fr_n (by decide), l4, hr.2.2.1, V8]
      · rw [fr_n (by decide), fr_n (by decide), fr_n (by decide), fr_n (by decide), l5, hr.2.2.2.1, V9]
      · rw [fr_n (by decide), fr_n (by decide), fr_s]
      · rw [fr_n (by decide), fr_n (by decide), fr_n (by decide), fr_s, V4]
      · rw [fr_n (by decide), fr_n (by decide), fr_n (by decide), fr_n (by decide), l8, hr.2.2.2.2.2.2.1, V5]
      · rw [fr_n (by decide), fr_n (by decide), fr_n (by decide), fr_n (by decide), l9, hr.2.2.2.2.2.2.2, V6]
      · rw [fr_n (by decide), fr_s]
      · rw [fr_s]
    obtain ⟨v, C3, R3, T3, N3, p1', p2', p3', p4'⟩ := s_putI (g3.new a2 a3) u1 hx V1 V3 hnw (old := some p1) (by rw [V2, hk]; exact ek)
    have aR : ∀ k, at' T1 N1 (fr (fr (fr (fr R0 0 7 (nI u)) 0 6 y) 0 10 (-1)) 0 11 (-1)) k = at' T N R k := fun k => (at_R (a2 5 (by decide)) (a2 10 (by decide)) k).trans (g5 k)
    refine put_end 0 (f := fn_S_put C1 (nI p1) (nI (T1 p1 % 512 + 512 * (u + 8 * (T1 p1 / 4096)))) y 0) p1' p2' p4' (by rw [at_eq aR]; exact hnu) (fun A hA => ?_) (by rw [p3'.1, c1]; exact hc1) (by rw [p3'.2.2.2.1, a3 0 (by decide), r1, hr1])
    rw [V2, hk] at hA
    refine NU_put (A := at' T N R) hnu (fun k => by rw [hA k, aR k]) (fun _ o' o1 o7 hne t' w' ht' hpar => ?_)
    have nmf : nmP T N R (nI u) y o' = false := by
      have z := fx_f1 hno o1 o7
      unfold nbP at z
      rw [decide_eq_false (by rw [nI_eq (by omega) (by omega)]; exact hne)] at z
      exact z
    exact nm_at hu (up := nI u) nmf ht' (by rw [hpar, V4])
  · obtain ⟨r1, r2⟩ := room_no g3 g4 nu1 g6 q3 hc1 hr1
    rw [if_neg q3, if_neg r1]
    exact ⟨_, _, _, rfl, rfl, r2⟩
theorem op_move {C : TC} {R : TR} (h : Iv C R) (x z y : Int32) : Op (fn_S_move C x z y) (fn_M_move R x z y) := by
  have h0 := h
  obtain ⟨T, N, B, hs, hpr, hnu, h4, h5, h6⟩ := h
  have n10 : ¬ (1 : Int32) = 0 := by decide
  unfold fn_S_move fn_M_move
  rw [st_s]
  rcases h5 with w | w
  · rw [c_refO0 (h4.trans w), bd_s, if_neg (by decide), if_neg (by decide), w, if_pos rfl]; exact ⟨_, _, _, rfl, rfl, h0⟩
  have hu := h6 w
  rw [c_refO hs.1 (h4.trans w), bd_s, w, if_neg n10, r_header hs.2.1, bd_s]
  cases e : hdx T N x with
  | none => rw [show cond (none : Option Nat).isSome (0 : Int32) (-1) = -1 from rfl, if_neg (by decide), if_neg (by decide), show ixI none = -1 from rfl, if_pos (by decide)]; exact ⟨_, _, _, rfl, rfl, h0⟩
  | some p =>
    obtain ⟨o, h1, h7, rfl, e2⟩ := hdx_some e
    obtain ⟨hp, hl, -⟩ := kyx_some e2
    rw [show cond (some p).isSome (0 : Int32) (-1) = 0 from rfl, if_pos rfl, show ixI (some p) = nI p from rfl, if_neg (ni_nn (by omega)), c_refD hs.1 (h4.trans w), bd_s, r_there hs.2.1, bd_s, r_dirB hs.2.1, bd_s]
    by_cases q : dirA T N z = 0
    · have e1 : (if z = 0 then (1 : Int32) else bI (hdx T N z).isSome) = 1 ∧ dirB T N z = 1 := by
        unfold dirB
        unfold dirA at q
        by_cases q0 : z = 0
        · rw [if_pos q0, if_pos q0]; exact ⟨rfl, rfl⟩
        · rw [if_neg q0] at q
          rw [if_neg q0, if_neg q0]
          cases e : hdx T N z with
          | none => rw [e] at q; exact absurd (show (-1 : Int32) = 0 from q) (by decide)
          | some p =>
            rw [e] at q
            have q : cond (fld T p) (0 : Int32) (-2) = 0 := q
            refine ⟨rfl, ?_⟩
            show bI (fld T p) = 1
            cases e2 : fld T p with
            | true => rfl
            | false => rw [e2] at q; exact absurd q (by decide)
      rw [if_pos q, e1.1, if_neg n10, e1.2, if_neg n10]
      obtain ⟨u, hu8, rfl⟩ := dirA_0 q
      obtain ⟨v, l1, l2⟩ := s_lies hs (nI o) 8 64 64 0 u rfl (by decide) (by decide) hu8
      rw [show fn_S_liesIn C (nI u) (nI o) = _ from l1, bd_s, show fn_M_lies R (nI u) (nI o) = _ from l2, bd_s]
      cases v with
      | true => rw [bI_t, if_neg n10, if_neg n10]; exact ⟨_, _, _, rfl, rfl, h0⟩
      | false =>
        rw [bI_f, if_pos rfl, if_pos rfl, c_named hs, bd_s, r_named hs.2.1, bd_s]
        have go := s_mv hs hu hnu (h4.trans w) w h1 h7 hu8 e2 y
        by_cases q1 : fx (nbP T N R (nI u) y (nI o)) 7 1 = none
        · rw [if_pos (ox_le.mpr q1)]
          rcases (nb_iff hu hnu h1 h7).mp q1 with q2 | q2
          · rw [if_pos (ox_0.mpr q2)]; exact go q1
          · rw [q2, show ox (some o) = nI o from rfl, if_neg (by rw [ni_n0 (by omega)]; omega), if_pos rfl]; exact go q1
        · rw [if_neg (fun q2 => q1 (ox_le.mp q2)), if_neg (fun q2 => q1 ((nb_iff hu hnu h1 h7).mpr (Or.inl (ox_0.mp q2)))), if_neg (fun q2 => q1 ((nb_iff hu hnu h1 h7).mpr (by
            cases e5 : fx (nmP T N R (nI u) y) 7 1 with
            | none => exact Or.inl rfl
            | some a =>
              have z5 := fx_some 7 1 a e5
              rw [e5] at q2
              have q2 : nI a = nI o := q2
              rw [nI_eq (by omega) (by omega)] at q2
              rw [q2]
              exact Or.inr rfl)))]
          exact ⟨_, _, _, rfl, rfl, h0⟩
    · rw [if_neg q]
      unfold dirB
      unfold dirA at q ⊢
      by_cases q0 : z = 0
      · exact absurd (if_pos q0) q
      · rw [if_neg q0] at q
        rw [if_neg q0, if_neg q0, if_neg q0]
        cases e : hdx T N z with
        | none => rw [show bI (none : Option Nat).isSome = 0 from rfl, if_pos rfl]; exact ⟨_, _, _, rfl, rfl, h0⟩
        | some p =>
          rw [e] at q
          have q : ¬ cond (fld T p) (0 : Int32) (-2) = 0 := q
          rw [show bI (some p).isSome = 1 from rfl, if_neg n10]
          show Op (some (cond (fld T p) (0 : Int32) (-2), C)) (if bI (fld T p) = 0 then _ else _)
          cases e2 : fld T p with
          | true => rw [e2] at q; exact absurd rfl q
          | false => rw [bI_f, if_pos rfl]; exact ⟨_, _, _, rfl, rfl, h0⟩
