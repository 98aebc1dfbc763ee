/-! A put keeps what holds. -/
section PUTP
variable {T N : Nat → Nat} {b p V : Nat} {old : Option Nat}
theorem lv_lt48 {q : Nat} (hb : b < 6) (hp : p = 8 * b + N b) (hn : N b < 8) : p < 48 := by omega
theorem put_pair (h : Uq T N) (hp : p = 8 * b + N b) (hn : N b < 8) (hV : V / 256 % 2 = 0) (ho : kyx T N (V % 64) = old) {x y : Nat} (hx : x < 48) (hy : y < 48) (h1 : lv (upN T p V) (upN N b (N b + 1)) x = true) (h2 : lv (upN T p V) (upN N b (N b + 1)) y = true) (hk : upN T p V x % 64 = upN T p V y % 64) (hne : x ≠ y) : ∃ q0, old = some q0 ∧ ((x = p ∧ y = q0) ∨ (x = q0 ∧ y = p)) := by
  rcases (lv_put hp hn hV).mp h1 with e1 | e1
  · rcases (lv_put hp hn hV).mp h2 with e2 | e2
    · exact absurd (e1.trans e2.symm) hne
    · have ny := lv_ne hp hn e2
      rw [e1, upN_s, upN_n ny] at hk
      have z := kyx_of h hy e2
      rw [← hk, ho] at z
      exact ⟨y, z, Or.inl ⟨e1, rfl⟩⟩
  · have nx := lv_ne hp hn e1
    rcases (lv_put hp hn hV).mp h2 with e2 | e2
    · rw [e2, upN_s, upN_n nx] at hk
      have z := kyx_of h hx e1
      rw [hk, ho] at z
      exact ⟨x, z, Or.inr ⟨rfl, e2⟩⟩
    · have ny := lv_ne hp hn e2
      rw [upN_n nx, upN_n ny] at hk
      exact absurd (h x y hx hy e1 e2 hk) hne
theorem put_uq (h : Uq T N) (hp : p = 8 * b + N b) (hn : N b < 8) (hV : V / 256 % 2 = 0) (ho : kyx T N (V % 64) = old) : Uq (mkO (upN T p V) old) (upN N b (N b + 1)) := by
  intro x y hx hy h1 h2 hk
  by_cases hne : x = y
  · exact hne
  exfalso
  cases old with
  | none =>
    obtain ⟨q0, e, -⟩ := put_pair h hp hn hV ho hx hy h1 h2 hk hne
    cases e
  | some q0 =>
    have g0 := kyx_some ho
    have l0 : lv (upN T p V) (upN N b (N b + 1)) q0 = true := (lv_put hp hn hV).mpr (Or.inr g0.2.1)
    have g1 := (lv_mk l0).mp h1
    have g2 := (lv_mk l0).mp h2
    have k1 : mkO (upN T p V) (some q0) x = upN T p V x := upN_n g1.1
    have k2 : mkO (upN T p V) (some q0) y = upN T p V y := upN_n g2.1
    rw [k1, k2] at hk
    obtain ⟨q1, e, z⟩ := put_pair h hp hn hV ho hx hy g1.2 g2.2 hk hne
    cases e
    rcases z with z | z
    · exact g2.1 z.2
    · exact g1.1 z.1
theorem put_pr (h : Uq T N) (hp : p = 8 * b + N b) (hn : N b < 8) (hV : V / 256 % 2 = 0) (ho : kyx T N (V % 64) = old) (hs : V / 64 % 4 = ser T old) : Pr (upN T p V) (upN N b (N b + 1)) := by
  intro x y hx hy h1 h2 hne hk
  obtain ⟨q0, e, z⟩ := put_pair h hp hn hV ho hx hy h1 h2 hk hne
  subst e
  have g0 := kyx_some ho
  have n0 := lv_ne hp hn g0.2.1
  have e0 : ser T (some q0) = (T q0 / 64 + 1) % 4 := rfl
  rcases z with ⟨z1, z2⟩ | ⟨z1, z2⟩
  · right; rw [z1, z2, upN_s, upN_n n0, hs, e0]
  · left; rw [z1, z2, upN_s, upN_n n0, hs, e0]
theorem put_at2 (h : Uq T N) {R R1 : TR} {w x : Int32} (hb : b < 6) (hp : p = 8 * b + N b) (hn : N b < 8) (hV : V / 256 % 2 = 0) (ho : kyx T N (V % 64) = old) (h5 : R1 5 = upd (R 5) p w) (h10 : R1 10 = upd (R 10) p x) (k : Nat) : at' (mkO (upN T p V) old) (upN N b (N b + 1)) R1 k = if k = V % 64 then some (V / 512, w, decide (x < 0)) else at' T N R k := by
  have hu := put_uq h hp hn hV ho
  have p48 : p < 48 := by omega
  have lvp : lv (mkO (upN T p V) old) (upN N b (N b + 1)) p = true ∧ mkO (upN T p V) old p = V := by
    cases old with
    | none => exact ⟨(lv_put hp hn hV).mpr (Or.inl rfl), upN_s⟩
    | some q0 =>
      have g0 := kyx_some ho
      have n0 := lv_ne hp hn g0.2.1
      have l0 : lv (upN T p V) (upN N b (N b + 1)) q0 = true := (lv_put hp hn hV).mpr (Or.inr g0.2.1)
      exact ⟨(lv_mk l0).mpr ⟨Ne.symm n0, (lv_put hp hn hV).mpr (Or.inl rfl)⟩, (upN_n (Ne.symm n0)).trans upN_s⟩
  rw [at_k hu, at_k h]
  by_cases e : k = V % 64
  · rw [if_pos e]
    have z := kyx_of hu p48 lvp.1
    rw [lvp.2, ← e] at z
    rw [z]
    show some (atp _ _ p) = _
    unfold atp
    rw [lvp.2, h5, h10, upd_s, upd_s]
  · rw [if_neg e]
    have z : kyx (mkO (upN T p V) old) (upN N b (N b + 1)) k = kyx T N k := fx_cong 48 0 (fun q _ hq1 => by
      by_cases w : q = p
      · subst w
        have y : kyP T N k q = false := by unfold kyP lv; rw [pgm_new hp hn]; rfl
        have y2 : kyP (mkO (upN T q V) old) (upN N b (N b + 1)) k q = false := by
          cases w1 : kyP (mkO (upN T q V) old) (upN N b (N b + 1)) k q with
          | false => rfl
          | true => have g := (kyP_iff.mp w1).2; rw [lvp.2] at g; exact absurd g.symm e
        rw [y, y2]
      · cases old with
        | none =>
          show kyP (upN T p V) _ k q = _
          unfold kyP; rw [lv_up hp hn w, upN_n w]
        | some q0 =>
          have g0 := kyx_some ho
          have l0 : lv (upN T p V) (upN N b (N b + 1)) q0 = true := (lv_put hp hn hV).mpr (Or.inr g0.2.1)
          by_cases w2 : q = q0
          · subst w2
            have y : kyP T N k q = false := by
              cases w1 : kyP T N k q with
              | false => rfl
              | true => exact absurd ((kyP_iff.mp w1).2.symm.trans g0.2.2) e
            have y2 : kyP (mkO (upN T p V) (some q)) (upN N b (N b + 1)) k q = false := by
              cases w1 : kyP (mkO (upN T p V) (some q)) (upN N b (N b + 1)) k q with
              | false => rfl
              | true => exact absurd rfl ((lv_mk l0).mp (kyP_iff.mp w1).1).1
            rw [y, y2]
          · show kyP (upN (upN T p V) q0 _) _ k q = _
            have y1 : lv (upN (upN T p V) q0 (upN T p V q0 + 256)) (upN N b (N b + 1)) q = lv T N q := by
              rw [← lv_up (T := T) (V := V) hp hn w]
              unfold lv; rw [upN_n w2]
            unfold kyP; rw [y1, upN_n w2, upN_n w])
    rw [z]
    cases w : kyx T N k with
    | none => rfl
    | some q =>
      have g := kyx_some w
      have nq := lv_ne hp hn g.2.1
      have tq : mkO (upN T p V) old q = T q := by
        cases old with
        | none => exact upN_n nq
        | some q0 =>
          have g0 := kyx_some ho
          exact (upN_n (fun z2 => e (by rw [← g.2.2, z2]; exact g0.2.2))).trans (upN_n nq)
      show some (atp _ _ q) = some (atp _ _ q)
      unfold atp
      rw [tq, h5, h10, upd_n nq, upd_n nq]
theorem put_at1 (h : Uq T N) {R R1 : TR} {w x : Int32} (hb : b < 6) (hp : p = 8 * b + N b) (hn : N b < 8) (hV : V / 256 % 2 = 0) (ho : kyx T N (V % 64) = old) (hs : V / 64 % 4 = ser T old) (h5 : R1 5 = upd (R 5) p w) (h10 : R1 10 = upd (R 10) p x) (k : Nat) : at' (upN T p V) (upN N b (N b + 1)) R1 k = if k = V % 64 then some (V / 512, w, decide (x < 0)) else at' T N R k := by
  have p48 : p < 48 := by omega
  have lvp : lv (upN T p V) (upN N b (N b + 1)) p = true := (lv_put hp hn hV).mpr (Or.inl rfl)
  have hpr := put_pr h hp hn hV ho hs
  by_cases e : k = V % 64
  · rw [if_pos e]
    have z : ufx (upN T p V) (upN N b (N b + 1)) k = some p := fx_uniq p48 (ufP_iff.mpr ⟨lvp, by rw [upN_s, e], flB_no (fun q q1 q2 q3 q4 => by
        by_cases w : q = p
        · subst w; omega
        · obtain ⟨q0, e0, z0⟩ := put_pair h hp hn hV ho p48 q1 lvp q2 q3 (Ne.symm w)
          subst e0
          have g0 := kyx_some ho
          have n0 := lv_ne hp hn g0.2.1
          rcases z0 with ⟨-, z0⟩ | ⟨z0, -⟩
          · subst z0
            rw [upN_s, upN_n n0, ] at q4
            have e0 : ser T (some q) = (T q / 64 + 1) % 4 := rfl
            rw [e0] at hs
            omega
          · exact n0 z0.symm)⟩) (fun q hq hk => by
      obtain ⟨k1, k2, k3⟩ := ufP_iff.mp hk
      by_cases w : q = p
      · exact w
      · exfalso
        obtain ⟨q0, e0, z0⟩ := put_pair h hp hn hV ho p48 hq lvp k1 (by rw [upN_s, k2, e]) (Ne.symm w)
        subst e0
        have g0 := kyx_some ho
        have n0 := lv_ne hp hn g0.2.1
        rcases z0 with ⟨-, z0⟩ | ⟨z0, -⟩
        · subst z0
          have y : flB (upN T p V) (upN N b (N b + 1)) q = true := flB_iff.mpr ⟨p, p48, lvp, by rw [upN_s, k2, e], by rw [upN_s, upN_n n0, hs]; rfl⟩
          rw [y] at k3; cases k3
        · exact n0 z0.symm)
    unfold at'
    rw [z]
    show some (atp _ _ p) = _
    unfold atp
    rw [upN_s, h5, h10, upd_s, upd_s]
  · rw [if_neg e]
    have z : ufx (upN T p V) (upN N b (N b + 1)) k = ufx T N k := fx_cong 48 0 (fun q _ hq1 => by
      by_cases w : q = p
      · subst w
        have y : ufP T N k q = false := by unfold ufP kyP lv; rw [pgm_new hp hn]; rfl
        have y2 : ufP (upN T q V) (upN N b (N b + 1)) k q = false := by
          cases w1 : ufP (upN T q V) (upN N b (N b + 1)) k q with
          | false => rfl
          | true => have g := (ufP_iff.mp w1).2.1; rw [upN_s] at g; exact absurd g.symm e
        rw [y, y2]
      · have y1 : kyP (upN T p V) (upN N b (N b + 1)) k q = kyP T N k q := by unfold kyP; rw [lv_up hp hn w, upN_n w]
        unfold ufP
        rw [y1]
        cases w1 : kyP T N k q with
        | false => rfl
        | true =>
          obtain ⟨a1, a2⟩ := kyP_iff.mp w1
          rw [h.fl (by omega) a1, show flB (upN T p V) (upN N b (N b + 1)) q = false from flB_no (fun r r1 r2 r3 r4 => by
            rw [upN_n w] at r3 r4
            by_cases w3 : r = p
            · subst w3; rw [upN_s] at r3; exact e (by rw [← r3]; exact a2.symm)
            · rw [upN_n w3] at r3 r4
              rcases (lv_put hp hn hV).mp r2 with r5 | r5
              · exact w3 r5
              · have r6 := h q r (by omega) r1 a1 r5 r3
                subst r6
                omega)])
    unfold at'
    rw [z, h.uf]
    cases w : kyx T N k with
    | none => rfl
    | some q =>
      have g := kyx_some w
      have nq := lv_ne hp hn g.2.1
      show some (atp _ _ q) = some (atp _ _ q)
      unfold atp
      rw [upN_n nq, h5, h10, upd_n nq, upd_n nq]
end PUTP
