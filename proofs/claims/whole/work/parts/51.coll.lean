/-! A put with what it keeps; a block is collected. -/
def PO (C1 : TC) (R R1 : TR) (T N T1 N1 : Nat → Nat) (B : Nat → Bool) (b V : Nat) (w : Int32) (rd : Bool) (old : Option Nat) (v : Bool) : Prop :=
  Sm C1 R1 T1 N1 B ∧ Pr T1 N1 ∧ ((v = false ∧ ∀ k, at' T1 N1 R1 k = at' T N R k) ∨ ∀ k, at' T1 N1 R1 k = if k = V % 64 then some (V / 512, w, rd) else at' T N R k) ∧
  (v = true → Uq T1 N1 ∧ (∀ k, at' T1 N1 R1 k = if k = V % 64 then some (V / 512, w, rd) else at' T N R k) ∧ T1 = mkO (upN T (8 * b + N b) (Vs V (ser T old))) old ∧ N1 = upN N b (N b + 1))
def Fw (C : TC) (R : TR) (C1 : TC) (R1 : TR) (v : Bool) : Prop := C1.1 0 = C.1 0 ∧ R1 0 0 = cond v (R 0 0) 0
theorem at_R {T N : Nat → Nat} {R R1 : TR} (h5 : R1 5 = R 5) (h10 : R1 10 = R 10) (k : Nat) : at' T N R1 k = at' T N R k := by
  unfold at' atp; rw [h5, h10]
theorem s_putI {C : TC} {R : TR} {T N : Nat → Nat} {B : Nat → Bool} (h : Sm C R T N B) (hu : Uq T N) {b V : Nat} {w : Int32} {y : Int64} {old : Option Nat} (hx : nxb N B = some b) (hV : V < 65536) (hm : V / 256 % 2 = 0) (hw : NW R V w y) (hold : kyx T N (V % 64) = old) :
    ∃ (v : Bool) (C1 : TC) (R1 : TR) (T1 N1 : Nat → Nat), fn_S_put C (ixI old) (nI V) w y = some (bI v, C1) ∧ fn_M_put R = some (bI v, R1) ∧ Fr C R C1 R1 v ∧ PO C1 R R1 T N T1 N1 B b V w (decide (R 0 11 < 0)) old v := by
  have hold2 : pgx T N (V % 8) (V / 8 % 8) = old := by rw [pgx_k, show V % 8 + 8 * (V / 8 % 8) = V % 64 by omega]; exact hold
  obtain ⟨v, C1, R1, e1, e2, f, z⟩ := s_put h hx hV hm hw hold2
  obtain ⟨hb, hn, -⟩ := nxb_some hx (fun b hb => (h.1.1 b hb).1)
  obtain ⟨v1, v2, v3, v4⟩ := Vs_ok hV (ser_lt (T := T) (old := old))
  have k5 : Vs V (ser T old) / 512 = V / 512 := by rw [show 512 = 256 * 2 from rfl, ← Nat.div_div_eq_div_mul, v4, Nat.div_div_eq_div_mul]
  have vm : Vs V (ser T old) / 256 % 2 = 0 := by rw [v4]; exact hm
  have ho2 : kyx T N (Vs V (ser T old) % 64) = old := by rw [v2]; exact hold
  rcases z with ⟨zv, z1, z2, z3⟩ | ⟨z1, z2, z3, z4⟩
  · exact ⟨v, C1, R1, T, N, e1, e2, f, z1, hu.pr, Or.inl ⟨zv, at_R z2 z3⟩, fun q => by rw [zv] at q; cases q⟩
  · cases v with
    | true =>
      have a := put_at2 (R := R) (R1 := R1) hu hb rfl hn vm ho2 z2 z3
      rw [v2, k5] at a
      have u := put_uq hu rfl hn vm ho2
      exact ⟨true, C1, R1, _, _, e1, e2, f, z1, u.pr, Or.inr a, fun _ => ⟨u, a, rfl, rfl⟩⟩
    | false =>
      have a := put_at1 (R := R) (R1 := R1) hu hb rfl hn vm ho2 v3 z2 z3
      rw [v2, k5] at a
      exact ⟨false, C1, R1, _, _, e1, e2, f, z1, put_pr hu rfl hn vm ho2 v3, Or.inr a, fun q => by cases q⟩
theorem s_putW {C : TC} {R R0 : TR} {T N : Nat → Nat} {B : Nat → Bool} (h : Sm C R T N B) (hu : Uq T N) {p b V : Nat} (hp : p < 48) (hl : lv T N p = true) (hx : nxb N B = some b) (hV : V < 65536) (hk : V % 64 = T p % 64) (hm : V / 256 % 2 = 0) (hR : ∀ k, k ≠ 0 → R0 k = R k) (hj : ∀ j, j < 4 → R0 0 j = R 0 j)
    (h4 : R0 0 4 = R 2 p) (h5 : R0 0 5 = R 3 p) (h6 : R0 0 6 = R 5 p) (h7 : R0 0 7 = nI (V / 512 % 8)) (h8 : R0 0 8 = nI (V / 4096 % 8)) (h9 : R0 0 9 = nI (V / 32768 % 2)) (h10 : R0 0 10 = (if R 10 p < 0 then -1 else R 9 p)) (h11 : R0 0 11 = R 10 p) :
    ∃ (v : Bool) (C1 : TC) (R1 : TR) (T1 N1 : Nat → Nat), fn_S_putWordOf C (nI p) (nI V) = some (bI v, C1) ∧ fn_M_put R0 = some (bI v, R1) ∧ Fw C R C1 R1 v ∧ PO C1 R R1 T N T1 N1 B b V (R 5 p) (decide (R 10 p < 0)) (some p) v := by
  have hg := lv_pgm hl
  have hq := h.2.2.1.1 p hp hg
  obtain ⟨g0, g1, g2, g3, -⟩ : PgR R p (T p) := h.2.1.2.2 p hp hg
  have hw : NW R0 V (R 5 p) (if R 10 p < 0 then 0 else C.2 p) := ⟨by rw [h4, g2]; congr 1; omega, by rw [h5, g3]; congr 1; omega, h6, h7, h8, h9, by rw [h10, h11]; exact flip_new hq.2⟩
  have hold : kyx T N (V % 64) = some p := by rw [hk]; exact kyx_of hu hp hl
  obtain ⟨v, C1, R1, T1, N1, e1, e2, f, po⟩ := s_putI (h.new hR hj) hu hx hV hm hw hold
  have aR : ∀ k, at' T N R0 k = at' T N R k := at_R (hR 5 (by decide)) (hR 10 (by decide))
  refine ⟨v, C1, R1, T1, N1, ?_, e2, ?_, ?_⟩
  · rw [c_putWord hp hq.2, hq.1]
    have e1' : fn_S_put C (nI p) (nI V) (R 5 p) (if R 10 p < 0 then 0 else C.2 p) = some (bI v, C1) := e1
    rw [e1', bd_s, gd_s (bI_b v)]
  · exact ⟨f.1, f.2.2.2.1.trans (by rw [hj 0 (by decide)])⟩
  · obtain ⟨p1, p2, p3, p4⟩ := po
    rw [h11] at p3 p4
    simp only [aR] at p3 p4
    exact ⟨p1, p2, p3, p4⟩
theorem cn_cong {P Q : Nat → Bool} : ∀ (m i : Nat), (∀ p, i ≤ p → p < i + m → P p = Q p) → cn P m i = cn Q m i := by
  intro m
  induction m with
  | zero => intro i _; rfl
  | succ m ih =>
    intro i h
    have h1 := h i (Nat.le_refl _) (by omega)
    have h2 := ih (i + 1) (fun p a b => h p (by omega) (by omega))
    cases hp : P i with
    | true => rw [cn_t hp, cn_t (h1 ▸ hp), h2]
    | false => rw [cn_f hp, cn_f (h1 ▸ hp), h2]
/-- the same live pages: the same bearing -/
theorem at_lv {T N N1 : Nat → Nat} {R R1 : TR} (h : Uq T N) (hl : ∀ q, q < 48 → lv T N1 q = lv T N q) (h5 : R1 5 = R 5) (h10 : R1 10 = R 10) : Uq T N1 ∧ ∀ k, at' T N1 R1 k = at' T N R k := by
  have hu : Uq T N1 := fun p q hp hq h1 h2 hk => h p q hp hq (by rw [← hl p hp]; exact h1) (by rw [← hl q hq]; exact h2) hk
  refine ⟨hu, fun k => ?_⟩
  rw [at_R h5 h10, at_k hu, at_k h]
  have z : kyx T N1 k = kyx T N k := fx_cong 48 0 (fun q _ hq => by unfold kyP; rw [hl q (by omega)])
  rw [z]
theorem s_coll_lp {B : Nat → Bool} {d : Nat} (hd : d < 6) (hB : B d = false) : ∀ (m n n' i : Nat) (C : TC) (R : TR) (T N : Nat → Nat), i + m = 8 → m < n → m < n' → Sm C R T N B → Uq T N → N d = 8 → (∀ j, j < i → lv T N (8 * d + j) = false) → cn (lv T N) m (8 * d + i) ≤ free N B →
    ∃ (v : Bool) (C1 : TC) (R1 : TR) (T1 N1 : Nat → Nat) (B1 : Nat → Bool), lp_S_collect_7 n C (nI d) (nI (8 * d)) (nI (8 * d + i)) = some (bI v, C1) ∧ lp_M_collect_5 n' R (nI d) (nI (8 * d + i)) = some (bI v, R1) ∧ Fw C R C1 R1 v ∧ Sm C1 R1 T1 N1 B1 ∧ Pr T1 N1 ∧ (∀ k, at' T1 N1 R1 k = at' T N R k) ∧ (v = true → Uq T1 N1 ∧ psi N1 B1 + cn (lv T N) m (8 * d + i) = psi N B + 8) := by
  intro m
  have e8 : ((8 : Int32) * nI d) + (8 : Int32) = nI (8 * d + 8) := by rw [show (8 : Int32) = nI 8 from rfl, pk_mul, nI_add]
  have e8' : nI (8 * d) + (8 : Int32) = nI (8 * d + 8) := by rw [show (8 : Int32) = nI 8 from rfl, nI_add]
  induction m with
  | zero =>
    intro n n' i C R T N hi hn hn' h hu hN hlo hfr
    obtain ⟨n, rfl⟩ := pred_n hn
    obtain ⟨n', rfl⟩ := pred_n hn'
    have ei : i = 8 := by omega
    subst ei
    obtain ⟨v, C1, R1, N1, B1, e1, e2, f, z5, z10, hs, z⟩ := s_erase h hd hN hB
    have el : ∀ q, q < 48 → lv T N1 q = lv T N q := fun q hq => by
      rcases z with ⟨-, rfl, -⟩ | ⟨-, ⟨rfl, -⟩ | ⟨rfl, -⟩⟩
      · rfl
      · by_cases e : q / 8 = d
        · have q1 := hlo (q % 8) (by omega)
          rw [show 8 * d + q % 8 = q by omega] at q1
          rw [q1]
          unfold lv pgm
          rw [e, upN_s]
          rfl
        · unfold lv pgm; rw [upN_n e]
      · rfl
    obtain ⟨u1, a1⟩ := at_lv (R := R) (R1 := R1) hu el z5 z10
    refine ⟨v, C1, R1, T, N1, B1, ?_, e2 n', ⟨f.1, f.2.2.2.1⟩, hs, u1.pr, a1, fun hv => ⟨u1, ?_⟩⟩
    · rw [le_S_collect_7, e8', if_pos (by rw [nI_leI (by omega) (by omega)]; omega), e1, bd_s, gd_s (bI_b v)]
    · show psi N1 B1 + 0 = _
      rcases z with ⟨zv, -⟩ | ⟨-, ⟨rfl, rfl⟩ | ⟨rfl, rfl⟩⟩
      · rw [hv] at zv; cases zv
      · exact psi_er hd hN hB
      · exact psi_bad hd hN hB
  | succ m ih =>
    intro n n' i C R T N hi hn hn' h hu hN hlo hfr
    obtain ⟨n, rfl⟩ := pred_n hn
    obtain ⟨n', rfl⟩ := pred_n hn'
    have hp : 8 * d + i < 48 := by omega
    have eC0 : lp_S_collect_7 (n + 1) C (nI d) (nI (8 * d)) (nI (8 * d + i)) = if bI (lv T N (8 * d + i)) = 0 then lp_S_collect_7 n C (nI d) (nI (8 * d)) (nI (8 * d + i + 1)) else (gd (inB (nI (8 * d + i)) 48) <| st (rc C 2 (nI (8 * d + i))) fun x8 => bd (fn_S_putWordOf C (nI (8 * d + i)) x8) fun x11 S9 => if x11 = 0 then (some ((0 : Int32), S9)) else (st (nI (8 * d + i) + (1 : Int32)) fun x12 => lp_S_collect_7 n S9 (nI d) (nI (8 * d)) x12)) := by
      rw [le_S_collect_7, e8', if_neg (by rw [nI_leI (by omega) (by omega)]; omega), c_live h.1 hp, bd_s, st_s, ni_inc]
    have eR0 : lp_M_collect_5 (n' + 1) R (nI d) (nI (8 * d + i)) = if R 1 (8 * d + i) = 1 then (bd (fn_M_like R (nI (8 * d + i))) fun _ S12 => bd (fn_M_put S12) fun x16 S14 => if x16 = 0 then (some ((0 : Int32), S14)) else (st (nI (8 * d + i) + (1 : Int32)) fun x17 => lp_M_collect_5 n' S14 (nI d) x17)) else lp_M_collect_5 n' R (nI d) (nI (8 * d + i + 1)) := by
      rw [le_M_collect_5, e8, if_neg (by rw [nI_leI (by omega) (by omega)]; omega), gd_s (inb_n hp (by decide)), st_s, rr_n (by omega), st_s, ni_inc]
    cases hl : lv T N (8 * d + i) with
    | false =>
      rw [hl, bI_f, if_pos rfl] at eC0
      rw [if_neg (fun z => by rw [(r_live h.2.1 hp).mp z] at hl; cases hl)] at eR0
      rw [cn_f hl, eC0, eR0]
      rw [cn_f hl] at hfr
      exact ih n n' (i + 1) C R T N (by omega) (by omega) (by omega) h hu hN (fun j hj => by
        by_cases e : j = i
        · rw [e]; exact hl
        · exact hlo j (by omega)) hfr
    | true =>
      have hg := lv_pgm hl
      have hc := h.1.2 _ hp hg
      have hr : PgR R (8 * d + i) (T (8 * d + i)) := h.2.1.2.2 _ hp hg
      obtain ⟨R0, l1, l2, l3, l4, l5, l6, l7, l8, l9, l10, l11⟩ := r_like (R := R) hp (by rw [hr.2.2.2.2.2.2.2]; exact nib2 (by omega))
      rw [cn_t hl] at hfr ⊢
      obtain ⟨b, hx⟩ := nxb_ex (N := N) (B := B) (fun b hb => (h.1.1 b hb).1) (by omega)
      obtain ⟨hb, hn8, hBb⟩ := nxb_some hx (fun b hb => (h.1.1 b hb).1)
      obtain ⟨v, C1, R1, T1, N1, e1, e2, f, po⟩ := s_putW h hu hp hl hx hc.1 rfl (lv_t hl).2 l2 l3 l4 l5 l6 (l7.trans hr.2.2.2.2.2.1) (l8.trans hr.2.2.2.2.2.2.1) (l9.trans hr.2.2.2.2.2.2.2) l10 l11
      obtain ⟨p1, p2, p3, p4⟩ := po
      have hat : at' T N R (T (8 * d + i) % 64) = some (T (8 * d + i) / 512, R 5 (8 * d + i), decide (R 10 (8 * d + i) < 0)) := by
        rw [at_k hu, kyx_of hu hp hl]; rfl
      have ha : ∀ k, at' T1 N1 R1 k = at' T N R k := fun k => by
        rcases p3 with ⟨-, p3⟩ | p3
        · exact p3 k
        · rw [p3 k]
          by_cases e : k = T (8 * d + i) % 64
          · rw [if_pos e, e, hat]
          · rw [if_neg e]
      rw [hl, bI_t, if_neg (by decide), gd_s (inb_n hp (by decide)), st_s, rc_n (by omega), hc.2, e1, bd_s] at eC0
      rw [if_pos ((r_live h.2.1 hp).mpr hl), l1, bd_s, e2, bd_s] at eR0
      rw [eC0, eR0]
      cases v with
      | false =>
        rw [bI_f, if_pos rfl, if_pos rfl]
        exact ⟨false, C1, R1, T1, N1, B, rfl, rfl, f, p1, p2, ha, fun z => by cases z⟩
      | true =>
        rw [bI_t, if_neg (by decide), if_neg (by decide), st_s, st_s, ni_inc]
        obtain ⟨u1, a1, t1, n1⟩ := p4 rfl
        subst t1; subst n1
        have hbd : b ≠ d := fun e => by rw [e, hN] at hn8; omega
        have np := lv_ne rfl hn8 hl
        have vm : Vs (T (8 * d + i)) (ser T (some (8 * d + i))) / 256 % 2 = 0 := by
          rw [(Vs_ok hc.1 ser_lt).2.2.2]; exact (lv_t hl).2
        have l0 : lv (upN T (8 * b + N b) (Vs (T (8 * d + i)) (ser T (some (8 * d + i))))) (upN N b (N b + 1)) (8 * d + i) = true := (lv_put rfl hn8 vm).mpr (Or.inr hl)
        have lq : ∀ q, q / 8 = d → q ≠ 8 * d + i → lv (mkO (upN T (8 * b + N b) (Vs (T (8 * d + i)) (ser T (some (8 * d + i))))) (some (8 * d + i))) (upN N b (N b + 1)) q = lv T N q := fun q hq1 hq2 => by
          have nq : q ≠ 8 * b + N b := fun e => hbd (by omega)
          rw [← lv_up (T := T) (V := Vs (T (8 * d + i)) (ser T (some (8 * d + i)))) rfl hn8 nq]
          show lv (upN _ _ _) _ q = _
          unfold lv; rw [upN_n hq2]
        have li : lv (mkO (upN T (8 * b + N b) (Vs (T (8 * d + i)) (ser T (some (8 * d + i))))) (some (8 * d + i))) (upN N b (N b + 1)) (8 * d + i) = false := by
          cases w : lv (mkO (upN T (8 * b + N b) (Vs (T (8 * d + i)) (ser T (some (8 * d + i))))) (some (8 * d + i))) (upN N b (N b + 1)) (8 * d + i) with
          | false => rfl
          | true => exact absurd rfl ((lv_mk l0).mp w).1
        have ec : cn (lv (mkO (upN T (8 * b + N b) (Vs (T (8 * d + i)) (ser T (some (8 * d + i))))) (some (8 * d + i))) (upN N b (N b + 1))) m (8 * d + (i + 1)) = cn (lv T N) m (8 * d + i + 1) := cn_cong m _ (fun q q1 q2 => lq q (by omega) (by omega))
        have fp := free_put hb hn8 hBb
        have pp := psi_put hb hn8 hBb
        obtain ⟨v2, C2, R2, T2, N2, B2, g1, g2, g3, g4, g5, g6, g7⟩ := ih n n' (i + 1) C1 R1 _ _ (by omega) (by omega) (by omega) p1 u1 (by rw [upN_n (Ne.symm hbd)]; exact hN) (fun j hj => by
          by_cases e : j = i
          · rw [e]; exact li
          · rw [lq _ (by omega) (by omega)]; exact hlo j (by omega)) (by rw [ec]; omega)
        refine ⟨v2, C2, R2, T2, N2, B2, g1, g2, ⟨g3.1.trans f.1, g3.2.trans (by rw [f.2]; rfl)⟩, g4, g5, fun k => (g6 k).trans (ha k), fun hv => ⟨(g7 hv).1, ?_⟩⟩
        have := (g7 hv).2
        rw [ec] at this
        omega
theorem s_coll {C : TC} {R : TR} {T N : Nat → Nat} {B : Nat → Bool} {d : Nat} (hd : d < 6) (hB : B d = false) (h : Sm C R T N B) (hu : Uq T N) (hN : N d = 8) (hfr : cn (lv T N) 8 (8 * d) ≤ free N B) (h7 : cn (lv T N) 8 (8 * d) < 8) :
    ∃ (v : Bool) (C1 : TC) (R1 : TR) (T1 N1 : Nat → Nat) (B1 : Nat → Bool), fn_S_collect C (nI d) = some (bI v, C1) ∧ fn_M_collect R (nI d) = some (bI v, R1) ∧ Fw C R C1 R1 v ∧ Sm C1 R1 T1 N1 B1 ∧ Pr T1 N1 ∧ (∀ k, at' T1 N1 R1 k = at' T N R k) ∧ (v = true → Uq T1 N1 ∧ psi N B < psi N1 B1) := by
  obtain ⟨v, C1, R1, T1, N1, B1, g1, g2, g3, g4, g5, g6, g7⟩ := s_coll_lp hd hB 8 64 64 0 C R T N rfl (by decide) (by decide) h hu hN (fun j hj => by omega) hfr
  rw [Nat.add_zero] at g1 g2 g7
  refine ⟨v, C1, R1, T1, N1, B1, ?_, ?_, g3, g4, g5, g6, fun hv => ⟨(g7 hv).1, by have := (g7 hv).2; omega⟩⟩
  · unfold fn_S_collect
    rw [st_s, show (8 : Int32) = nI 8 from rfl, pk_mul, Nat.mul_comm d]
    exact g1
  · unfold fn_M_collect
    rw [st_s, show (8 : Int32) = nI 8 from rfl, pk_mul]
    exact g2
