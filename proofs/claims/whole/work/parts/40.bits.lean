/-! Bits of small numbers; the functions of Tags in numbers. -/
theorem bd_s {α σ β : Type} {x : α} {s : σ} {k : α → σ → Option β} : bd (some (x, s)) k = k x s := rfl
theorem st_s {α β : Type} {e : α} {k : α → β} : st e k = k e := rfl
theorem gd_s {β : Type} {c : Prop} [Decidable c] {k : Option β} (h : c) : gd c k = k := if_pos h
def bI (b : Bool) : Int32 := cond b 1 0
theorem bI_t : bI true = 1 := rfl
theorem bI_f : bI false = 0 := rfl
theorem bI_b (b : Bool) : isB (bI b) := by cases b <;> decide
theorem bI_0 {b : Bool} : bI b = 0 ↔ b = false := by cases b <;> decide
theorem an_split (k a b c d : Nat) (ha : a < 2 ^ k) (hc : c < 2 ^ k) : (a + 2 ^ k * b) &&& (c + 2 ^ k * d) = (a &&& c) + 2 ^ k * (b &&& d) := by
  apply Nat.eq_of_testBit_eq
  intro i
  have e1 : a &&& c < 2 ^ k := Nat.and_lt_two_pow _ hc
  rw [Nat.add_comm a, Nat.add_comm c, Nat.add_comm (a &&& c), Nat.testBit_and, Nat.testBit_two_pow_mul_add _ ha, Nat.testBit_two_pow_mul_add _ hc, Nat.testBit_two_pow_mul_add _ e1]
  by_cases h : i < k
  · simp [h]
  · simp [h]
theorem or_split (k a b c d : Nat) (ha : a < 2 ^ k) (hc : c < 2 ^ k) : (a + 2 ^ k * b) ||| (c + 2 ^ k * d) = (a ||| c) + 2 ^ k * (b ||| d) := by
  apply Nat.eq_of_testBit_eq
  intro i
  have e1 : a ||| c < 2 ^ k := Nat.or_lt_two_pow ha hc
  rw [Nat.add_comm a, Nat.add_comm c, Nat.add_comm (a ||| c), Nat.testBit_or, Nat.testBit_two_pow_mul_add _ ha, Nat.testBit_two_pow_mul_add _ hc, Nat.testBit_two_pow_mul_add _ e1]
  by_cases h : i < k
  · simp [h]
  · simp [h]
theorem ni_and (a b : Nat) : nI a &&& nI b = nI (a &&& b) := by
  apply Int32.toBitVec_inj.1
  show BitVec.ofNat 32 a &&& BitVec.ofNat 32 b = BitVec.ofNat 32 (a &&& b)
  apply BitVec.eq_of_getLsbD_eq
  intro i hi
  simp [hi]
theorem ni_or (a b : Nat) : nI a ||| nI b = nI (a ||| b) := by
  apply Int32.toBitVec_inj.1
  show BitVec.ofNat 32 a ||| BitVec.ofNat 32 b = BitVec.ofNat 32 (a ||| b)
  apply BitVec.eq_of_getLsbD_eq
  intro i hi
  simp [hi]
/-- a mask of w ones, k places up -/
theorem an_mid (k w T : Nat) : T &&& (2 ^ k * (2 ^ w - 1)) = 2 ^ k * (T / 2 ^ k % 2 ^ w) := by
  have h := an_split k (T % 2 ^ k) (T / 2 ^ k) 0 (2 ^ w - 1) (Nat.mod_lt _ (Nat.two_pow_pos k)) (Nat.two_pow_pos k)
  rw [Nat.mod_add_div, Nat.zero_add, Nat.and_zero, Nat.zero_add, Nat.and_two_pow_sub_one_eq_mod] at h
  exact h
/-- all but w ones, k places up, of 32 -/
theorem an_out (k w T : Nat) {M : Nat} (hM : M = (2 ^ k - 1) + 2 ^ k * (2 ^ w * (2 ^ (32 - k - w) - 1))) (hk : k + w ≤ 32) (hT : T < 2 ^ 32) : T &&& M = T % 2 ^ k + 2 ^ k * (2 ^ w * (T / 2 ^ k / 2 ^ w)) := by
  subst hM
  have hp := Nat.two_pow_pos k
  have h := an_split k (T % 2 ^ k) (T / 2 ^ k) (2 ^ k - 1) (2 ^ w * (2 ^ (32 - k - w) - 1)) (Nat.mod_lt _ hp) (Nat.sub_lt hp (by decide))
  rw [Nat.mod_add_div, Nat.and_two_pow_sub_one_eq_mod, Nat.mod_mod, an_mid w (32 - k - w) (T / 2 ^ k)] at h
  have h3 : T / 2 ^ k / 2 ^ w < 2 ^ (32 - k - w) := by
    rw [Nat.div_div_eq_div_mul, ← Nat.pow_add]
    apply (Nat.div_lt_iff_lt_mul (Nat.two_pow_pos _)).mpr
    rw [← Nat.pow_add, show 32 - k - w + (k + w) = 32 by omega]
    exact hT
  rw [Nat.mod_eq_of_lt h3] at h
  exact h
theorem or_mid (k w l s h : Nat) (hl : l < 2 ^ k) (hs : s < 2 ^ w) : (l + 2 ^ k * (2 ^ w * h)) ||| (2 ^ k * s) = l + 2 ^ k * (s + 2 ^ w * h) := by
  have e := or_split k l (2 ^ w * h) 0 s hl (Nat.two_pow_pos k)
  rw [Nat.zero_add, Nat.or_zero] at e
  rw [e]
  have e2 := or_split w 0 h s 0 (Nat.two_pow_pos w) hs
  rw [Nat.zero_add, Nat.mul_zero, Nat.add_zero, Nat.or_zero, Nat.zero_or] at e2
  rw [e2]
theorem tg_63 (T : Nat) : nI T &&& 63 = nI (T % 64) := by
  rw [show (63 : Int32) = nI 63 from rfl, ni_and, show (63 : Nat) = 2 ^ 6 - 1 from rfl, Nat.and_two_pow_sub_one_eq_mod]
theorem tg_7 (T : Nat) : nI T &&& 7 = nI (T % 8) := by
  rw [show (7 : Int32) = nI 7 from rfl, ni_and, show (7 : Nat) = 2 ^ 3 - 1 from rfl, Nat.and_two_pow_sub_one_eq_mod]
theorem tg_3 (T : Nat) : nI T &&& 3 = nI (T % 4) := by
  rw [show (3 : Int32) = nI 3 from rfl, ni_and, show (3 : Nat) = 2 ^ 2 - 1 from rfl, Nat.and_two_pow_sub_one_eq_mod]
theorem tg_mid (k w T : Nat) {m : Int32} (hm : m = nI (2 ^ k * (2 ^ w - 1))) : nI T &&& m = nI (2 ^ k * (T / 2 ^ k % 2 ^ w)) := by
  rw [hm, ni_and, an_mid]
theorem tg_put (k w T s : Nat) {m c : Int32} {M : Nat} (hm : m = nI M) (hM : M = (2 ^ k - 1) + 2 ^ k * (2 ^ w * (2 ^ (32 - k - w) - 1))) (hc : ((c &&& 31).toBitVec.smod 32).toNat = k) (hk : k + w ≤ 32) (hT : T < 2 ^ 32) (hs : s < 2 ^ w) :
    (nI T &&& m) ||| (nI s <<< (c &&& 31)) = nI (T % 2 ^ k + 2 ^ k * (s + 2 ^ w * (T / 2 ^ k / 2 ^ w))) := by
  have h2 : s * 2 ^ k < 2 ^ 32 := by
    have h1 : s * 2 ^ k < 2 ^ w * 2 ^ k := Nat.mul_lt_mul_of_pos_right hs (Nat.two_pow_pos k)
    rw [← Nat.pow_add] at h1
    exact Nat.lt_of_lt_of_le h1 (Nat.pow_le_pow_right (by decide) (by omega))
  rw [hm, ni_and, an_out k w T hM hk hT, pk_shlN _ k hc h2, ni_or, Nat.mul_comm s, or_mid k w _ s _ (Nat.mod_lt _ (Nat.two_pow_pos k)) hs]
theorem ft_object (S : TC) {T : Nat} : fn_T_object S (nI T) = some (nI (T % 8), S) := by
  unfold fn_T_object; rw [tg_7]
theorem ft_chunk (S : TC) {T : Nat} (hT : T < 65536) : fn_T_chunk S (nI T) = some (nI (T / 8 % 8), S) := by
  unfold fn_T_chunk; rw [pk_shrN (by omega) _ 3 (by decide), tg_7]
theorem ft_serialAfter (S : TC) {T : Nat} (hT : T < 65536) : fn_T_serialAfter S (nI T) = some (nI ((T / 64 + 1) % 4), S) := by
  unfold fn_T_serialAfter; rw [pk_shrN (by omega) _ 6 (by decide), nI_1, tg_3]
theorem ft_isMarked (S : TC) {T : Nat} (hT : T < 65536) : fn_T_isMarked S (nI T) = some (bI (decide (T / 256 % 2 = 1)), S) := by
  unfold fn_T_isMarked
  rw [tg_mid 8 1 T (by decide)]
  by_cases h : T / 256 % 2 = 1
  · have e : ¬ nI (2 ^ 8 * (T / 2 ^ 8 % 2 ^ 1)) = 0 := by rw [← nI_0, nI_eq (by omega) (by omega)]; omega
    rw [if_neg e, decide_eq_true h]; rfl
  · have e : nI (2 ^ 8 * (T / 2 ^ 8 % 2 ^ 1)) = 0 := by rw [← nI_0, nI_eq (by omega) (by omega)]; omega
    rw [if_pos e, decide_eq_false h]; rfl
theorem ft_parent (S : TC) {T : Nat} (hT : T < 65536) : fn_T_parent S (nI T) = some (nI (T / 512 % 8), S) := by
  unfold fn_T_parent
  rw [tg_mid 9 3 T (by decide), pk_shrN (by omega) _ 9 (by decide), Nat.mul_div_cancel_left _ (Nat.two_pow_pos 9)]
theorem ft_length (S : TC) {T : Nat} (hT : T < 65536) : fn_T_length S (nI T) = some (nI (T / 4096 % 8), S) := by
  unfold fn_T_length
  rw [tg_mid 12 3 T (by decide), pk_shrN (by omega) _ 12 (by decide), Nat.mul_div_cancel_left _ (Nat.two_pow_pos 12)]
theorem ft_isOfDirectory (S : TC) {T : Nat} (hT : T < 65536) : fn_T_isOfDirectory S (nI T) = some (bI (decide (T / 32768 % 2 = 1)), S) := by
  unfold fn_T_isOfDirectory
  rw [tg_mid 15 1 T (by decide)]
  by_cases h : T / 32768 % 2 = 1
  · have e : ¬ nI (2 ^ 15 * (T / 2 ^ 15 % 2 ^ 1)) = 0 := by rw [← nI_0, nI_eq (by omega) (by omega)]; omega
    rw [if_neg e, decide_eq_true h]; rfl
  · have e : nI (2 ^ 15 * (T / 2 ^ 15 % 2 ^ 1)) = 0 := by rw [← nI_0, nI_eq (by omega) (by omega)]; omega
    rw [if_pos e, decide_eq_false h]; rfl
theorem ft_withSerial (S : TC) {T s : Nat} (hT : T < 65536) (hs : s < 4) : fn_T_withSerial S (nI T) (nI s) = some (nI (T % 64 + 64 * (s + 4 * (T / 256))), S) := by
  unfold fn_T_withSerial
  rw [tg_put 6 2 T s (M := 4294967103) (by decide) (by decide) (by decide) (by decide) (by omega) hs, show T / 2 ^ 6 / 2 ^ 2 = T / 256 by omega]
theorem ft_withParent (S : TC) {T s : Nat} (hT : T < 65536) (hs : s < 8) : fn_T_withParent S (nI T) (nI s) = some (nI (T % 512 + 512 * (s + 8 * (T / 4096))), S) := by
  unfold fn_T_withParent
  rw [tg_put 9 3 T s (M := 4294963711) (by decide) (by decide) (by decide) (by decide) (by omega) hs, show T / 2 ^ 9 / 2 ^ 3 = T / 4096 by omega]
theorem ft_withLength (S : TC) {T s : Nat} (hT : T < 65536) (hs : s < 8) : fn_T_withLength S (nI T) (nI s) = some (nI (T % 4096 + 4096 * (s + 8 * (T / 32768))), S) := by
  unfold fn_T_withLength
  rw [tg_put 12 3 T s (M := 4294938623) (by decide) (by decide) (by decide) (by decide) (by omega) hs, show T / 2 ^ 12 / 2 ^ 3 = T / 32768 by omega]
theorem ft_ofChunk (S : TC) {o c : Nat} : fn_T_ofChunk S (nI o) (nI c) = some (nI (o + 8 * c), S) := by
  unfold fn_T_ofChunk
  rw [show (8 : Int32) = nI 8 from rfl, pk_mul, nI_add]
theorem ft_areOf (S : TC) {T o c : Nat} (hT : T < 65536) (ho : o < 65536) (hc : c < 65536) : fn_T_areOf S (nI T) (nI o) (nI c) = some (bI (decide (T % 64 = o + 8 * c)), S) := by
  unfold fn_T_areOf
  rw [ft_ofChunk, bd_s, tg_63]
  by_cases h : T % 64 = o + 8 * c
  · have e : nI (T % 64) = nI (o + 8 * c) := by rw [h]
    rw [if_pos e, decide_eq_true h]; rfl
  · have e : ¬ nI (T % 64) = nI (o + 8 * c) := by rw [nI_eq (by omega) (by omega)]; exact h
    rw [if_neg e, decide_eq_false h]; rfl
theorem ft_follow (S : TC) {T V : Nat} (hT : T < 65536) (hV : V < 65536) : fn_T_follow S (nI T) (nI V) = some (bI (decide (T % 64 = V % 64 ∧ (T / 64 + 1) % 4 = V / 64 % 4)), S) := by
  unfold fn_T_follow
  rw [tg_63, tg_63]
  by_cases h : T % 64 = V % 64
  · have e : nI (T % 64) = nI (V % 64) := by rw [h]
    rw [if_pos e, ft_serialAfter S hT, bd_s, tg_mid 6 2 V (by decide), pk_shrN (by omega) _ 6 (by decide), Nat.mul_div_cancel_left _ (Nat.two_pow_pos 6)]
    by_cases h2 : (T / 64 + 1) % 4 = V / 64 % 4
    · have e2 : nI ((T / 64 + 1) % 4) = nI (V / 2 ^ 6 % 2 ^ 2) := congrArg nI h2
      rw [if_pos e2, decide_eq_true ⟨h, h2⟩]; rfl
    · have e2 : ¬ nI ((T / 64 + 1) % 4) = nI (V / 2 ^ 6 % 2 ^ 2) := by rw [nI_eq (by omega) (by omega)]; exact h2
      rw [if_neg e2, decide_eq_false (fun q => h2 q.2)]; rfl
  · have e : ¬ nI (T % 64) = nI (V % 64) := by rw [nI_eq (by omega) (by omega)]; exact h
    rw [if_neg e, decide_eq_false (fun q => h q.1)]; rfl
