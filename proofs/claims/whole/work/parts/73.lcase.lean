theorem law_gt {L i : Nat} (hL : L ≤ 2048) (hi2 : i ≤ 2052) (h : L < i + 4) : nI L - (4 : Int32) < nI i := by
  rw [Int32.lt_iff_toInt_lt, show (4 : Int32) = nI 4 from rfl, pk_sub_toInt (by omega) (by omega), nI_toInt (by omega)]
  omega
section LCASE
variable {l : Launch} {D : va_G} {g g2 : Nat → ClassId} {a r : Nat → Nat} {b L : Nat} {xs : Nat → Int32} {i : Nat} {C : TC} {R : TR}
set_option maxRecDepth 20000 in
set_option maxHeartbeats 4000000 in
theorem ls_0 (hL : L ≤ 2048) (hi : i + 4 ≤ L) (hI : Iv C R) (ih : ∀ C R, Iv C R → Lg l D g g2 a r b L xs C R 18 [(0, .ref b), (1, .ref (a 0)), (2, .ref (r 0)), (3, .int (nI (i + 4)))] []) : Lg l D g g2 a r b L xs C R 124 [(0, .ref b), (1, .ref (a 0)), (2, .ref (r 0)), (3, .int (nI i))] [] := by
  refine ok_aload_n (q := 125) 1 d_L_law_124 rfl rfl rfl ?_
  refine ok_aload_n (q := 126) 0 d_L_law_125 rfl rfl rfl ?_
  refine ok_iload_n (q := 127) 3 d_L_law_126 rfl rfl rfl ?_
  refine ok_iconst (v := (1 : Int32)) (q := 128) d_L_law_127 (by decide) rfl ?_
  refine ok_iadd (q := 129) d_L_law_128 rfl ?_
  refine lk_sld (j := i + 1) (q := 130) (nI_add i 1) (by omega) hL d_L_law_129 rfl ?_
  refine ok_aload_n (q := 131) 0 d_L_law_130 rfl rfl rfl ?_
  refine ok_iload_n (q := 132) 3 d_L_law_131 rfl rfl rfl ?_
  refine ok_iconst (v := (2 : Int32)) (q := 133) d_L_law_132 (by decide) rfl ?_
  refine ok_iadd (q := 134) d_L_law_133 rfl ?_
  refine lk_sld (j := i + 2) (q := 135) (nI_add i 2) (by omega) hL d_L_law_134 rfl ?_
  refine ok_aload_n (q := 136) 0 d_L_law_135 rfl rfl rfl ?_
  refine ok_iload_n (q := 137) 3 d_L_law_136 rfl rfl rfl ?_
  refine ok_iconst (v := (3 : Int32)) (q := 138) d_L_law_137 (by decide) rfl ?_
  refine ok_iadd (q := 139) d_L_law_138 rfl ?_
  refine lk_sld (j := i + 3) (q := 140) (nI_add i 3) (by omega) hL d_L_law_139 rfl ?_
  refine ok_if_eq (q := 143) (t := 147) d_L_law_140 (by decide) rfl (fun hz => ?_) (fun hz => ?_)
  · refine ok_iconst (v := (0 : Int32)) (q := 148) d_L_law_147 (by decide) rfl ?_
    obtain ⟨z, C1, R1, e1, e2, hI⟩ := op_create hI (xs (i + 1)) (xs (i + 2)) (0 : Int32) (by decide)
    refine lc_S_create (q := 151) e1 d_L_law_148 rfl (Nat.le_of_ble_eq_true rfl) ?_
    refine ok_aload_n (q := 152) 2 d_L_law_151 rfl rfl rfl ?_
    refine ok_aload_n (q := 153) 0 d_L_law_152 rfl rfl rfl ?_
    refine ok_iload_n (q := 154) 3 d_L_law_153 rfl rfl rfl ?_
    refine ok_iconst (v := (1 : Int32)) (q := 155) d_L_law_154 (by decide) rfl ?_
    refine ok_iadd (q := 156) d_L_law_155 rfl ?_
    refine lk_sld (j := i + 1) (q := 157) (nI_add i 1) (by omega) hL d_L_law_156 rfl ?_
    refine ok_aload_n (q := 158) 0 d_L_law_157 rfl rfl rfl ?_
    refine ok_iload_n (q := 159) 3 d_L_law_158 rfl rfl rfl ?_
    refine ok_iconst (v := (2 : Int32)) (q := 160) d_L_law_159 (by decide) rfl ?_
    refine ok_iadd (q := 161) d_L_law_160 rfl ?_
    refine lk_sld (j := i + 2) (q := 162) (nI_add i 2) (by omega) hL d_L_law_161 rfl ?_
    refine ok_aload_n (q := 163) 0 d_L_law_162 rfl rfl rfl ?_
    refine ok_iload_n (q := 164) 3 d_L_law_163 rfl rfl rfl ?_
    refine ok_iconst (v := (3 : Int32)) (q := 165) d_L_law_164 (by decide) rfl ?_
    refine ok_iadd (q := 166) d_L_law_165 rfl ?_
    refine lk_sld (j := i + 3) (q := 167) (nI_add i 3) (by omega) hL d_L_law_166 rfl ?_
    refine ok_if_eq (q := 170) (t := 174) d_L_law_167 (by decide) rfl (fun _ => ?_) (fun hn => absurd hz hn)
    refine ok_iconst (v := (0 : Int32)) (q := 175) d_L_law_174 (by decide) rfl ?_
    refine lc_M_create (q := 178) e2 d_L_law_175 rfl (Nat.le_of_ble_eq_true rfl) ?_
    refine ok_icmp_eq (q := 181) (t := 683) d_L_law_178 (by decide) rfl (fun _ => ?_) (fun hn => absurd rfl hn)
    refine ok_iinc (v := nI (i + 4)) (d := (4 : Int32)) (q := 686) (lv := [(3, .int (nI (i + 4))), (0, .ref b), (1, .ref (a 0)), (2, .ref (r 0))]) 3 d_L_law_683 rfl (by decide) (nI_add i 4).symm (by decide) rfl rfl ?_
    refine ok_goto (q := 18) d_L_law_686 (by decide) ?_
    exact ok_sub [1, 2, 3, 0] rfl (ih C1 R1 hI)
  · refine ok_iconst (v := (1 : Int32)) (q := 144) d_L_law_143 (by decide) rfl ?_
    refine ok_goto (q := 148) d_L_law_144 (by decide) ?_
    obtain ⟨z, C1, R1, e1, e2, hI⟩ := op_create hI (xs (i + 1)) (xs (i + 2)) (1 : Int32) (by decide)
    refine lc_S_create (q := 151) e1 d_L_law_148 rfl (Nat.le_of_ble_eq_true rfl) ?_
    refine ok_aload_n (q := 152) 2 d_L_law_151 rfl rfl rfl ?_
    refine ok_aload_n (q := 153) 0 d_L_law_152 rfl rfl rfl ?_
    refine ok_iload_n (q := 154) 3 d_L_law_153 rfl rfl rfl ?_
    refine ok_iconst (v := (1 : Int32)) (q := 155) d_L_law_154 (by decide) rfl ?_
    refine ok_iadd (q := 156) d_L_law_155 rfl ?_
    refine lk_sld (j := i + 1) (q := 157) (nI_add i 1) (by omega) hL d_L_law_156 rfl ?_
    refine ok_aload_n (q := 158) 0 d_L_law_157 rfl rfl rfl ?_
    refine ok_iload_n (q := 159) 3 d_L_law_158 rfl rfl rfl ?_
    refine ok_iconst (v := (2 : Int32)) (q := 160) d_L_law_159 (by decide) rfl ?_
    refine ok_iadd (q := 161) d_L_law_160 rfl ?_
    refine lk_sld (j := i + 2) (q := 162) (nI_add i 2) (by omega) hL d_L_law_161 rfl ?_
    refine ok_aload_n (q := 163) 0 d_L_law_162 rfl rfl rfl ?_
    refine ok_iload_n (q := 164) 3 d_L_law_163 rfl rfl rfl ?_
    refine ok_iconst (v := (3 : Int32)) (q := 165) d_L_law_164 (by decide) rfl ?_
    refine ok_iadd (q := 166) d_L_law_165 rfl ?_
    refine lk_sld (j := i + 3) (q := 167) (nI_add i 3) (by omega) hL d_L_law_166 rfl ?_
    refine ok_if_eq (q := 170) (t := 174) d_L_law_167 (by decide) rfl (fun hn => absurd hn hz) (fun _ => ?_)
    refine ok_iconst (v := (1 : Int32)) (q := 171) d_L_law_170 (by decide) rfl ?_
    refine ok_goto (q := 175) d_L_law_171 (by decide) ?_
    refine lc_M_create (q := 178) e2 d_L_law_175 rfl (Nat.le_of_ble_eq_true rfl) ?_
    refine ok_icmp_eq (q := 181) (t := 683) d_L_law_178 (by decide) rfl (fun _ => ?_) (fun hn => absurd rfl hn)
    refine ok_iinc (v := nI (i + 4)) (d := (4 : Int32)) (q := 686) (lv := [(3, .int (nI (i + 4))), (0, .ref b), (1, .ref (a 0)), (2, .ref (r 0))]) 3 d_L_law_683 rfl (by decide) (nI_add i 4).symm (by decide) rfl rfl ?_
    refine ok_goto (q := 18) d_L_law_686 (by decide) ?_
    exact ok_sub [1, 2, 3, 0] rfl (ih C1 R1 hI)
set_option maxRecDepth 20000 in
set_option maxHeartbeats 4000000 in
theorem ls_1 (hL : L ≤ 2048) (hi : i + 4 ≤ L) (hI : Iv C R) (ih : ∀ C R, Iv C R → Lg l D g g2 a r b L xs C R 18 [(0, .ref b), (1, .ref (a 0)), (2, .ref (r 0)), (3, .int (nI (i + 4)))] []) : Lg l D g g2 a r b L xs C R 183 [(0, .ref b), (1, .ref (a 0)), (2, .ref (r 0)), (3, .int (nI i))] [] := by
  refine ok_aload_n (q := 184) 1 d_L_law_183 rfl rfl rfl ?_
  refine ok_aload_n (q := 185) 0 d_L_law_184 rfl rfl rfl ?_
  refine ok_iload_n (q := 186) 3 d_L_law_185 rfl rfl rfl ?_
  refine ok_iconst (v := (1 : Int32)) (q := 187) d_L_law_186 (by decide) rfl ?_
  refine ok_iadd (q := 188) d_L_law_187 rfl ?_
  refine lk_sld (j := i + 1) (q := 189) (nI_add i 1) (by omega) hL d_L_law_188 rfl ?_
  refine ok_aload_n (q := 190) 0 d_L_law_189 rfl rfl rfl ?_
  refine ok_iload_n (q := 191) 3 d_L_law_190 rfl rfl rfl ?_
  refine ok_iconst (v := (2 : Int32)) (q := 192) d_L_law_191 (by decide) rfl ?_
  refine ok_iadd (q := 193) d_L_law_192 rfl ?_
  refine lk_sld (j := i + 2) (q := 194) (nI_add i 2) (by omega) hL d_L_law_193 rfl ?_
  refine ok_aload_n (q := 195) 0 d_L_law_194 rfl rfl rfl ?_
  refine ok_iload_n (q := 196) 3 d_L_law_195 rfl rfl rfl ?_
  refine ok_iconst (v := (3 : Int32)) (q := 197) d_L_law_196 (by decide) rfl ?_
  refine ok_iadd (q := 198) d_L_law_197 rfl ?_
  refine lk_sld (j := i + 3) (q := 199) (nI_add i 3) (by omega) hL d_L_law_198 rfl ?_
  obtain ⟨z, C1, R1, e1, e2, hI⟩ := op_write hI (xs (i + 1)) (xs (i + 2)) (xs (i + 3))
  refine lc_S_write (q := 202) e1 d_L_law_199 rfl (Nat.le_of_ble_eq_true rfl) ?_
  refine ok_aload_n (q := 203) 2 d_L_law_202 rfl rfl rfl ?_
  refine ok_aload_n (q := 204) 0 d_L_law_203 rfl rfl rfl ?_
  refine ok_iload_n (q := 205) 3 d_L_law_204 rfl rfl rfl ?_
  refine ok_iconst (v := (1 : Int32)) (q := 206) d_L_law_205 (by decide) rfl ?_
  refine ok_iadd (q := 207) d_L_law_206 rfl ?_
  refine lk_sld (j := i + 1) (q := 208) (nI_add i 1) (by omega) hL d_L_law_207 rfl ?_
  refine ok_aload_n (q := 209) 0 d_L_law_208 rfl rfl rfl ?_
  refine ok_iload_n (q := 210) 3 d_L_law_209 rfl rfl rfl ?_
  refine ok_iconst (v := (2 : Int32)) (q := 211) d_L_law_210 (by decide) rfl ?_
  refine ok_iadd (q := 212) d_L_law_211 rfl ?_
  refine lk_sld (j := i + 2) (q := 213) (nI_add i 2) (by omega) hL d_L_law_212 rfl ?_
  refine ok_aload_n (q := 214) 0 d_L_law_213 rfl rfl rfl ?_
  refine ok_iload_n (q := 215) 3 d_L_law_214 rfl rfl rfl ?_
  refine ok_iconst (v := (3 : Int32)) (q := 216) d_L_law_215 (by decide) rfl ?_
  refine ok_iadd (q := 217) d_L_law_216 rfl ?_
  refine lk_sld (j := i + 3) (q := 218) (nI_add i 3) (by omega) hL d_L_law_217 rfl ?_
  refine lc_M_write (q := 221) e2 d_L_law_218 rfl (Nat.le_of_ble_eq_true rfl) ?_
  refine ok_icmp_eq (q := 224) (t := 683) d_L_law_221 (by decide) rfl (fun _ => ?_) (fun hn => absurd rfl hn)
  refine ok_iinc (v := nI (i + 4)) (d := (4 : Int32)) (q := 686) (lv := [(3, .int (nI (i + 4))), (0, .ref b), (1, .ref (a 0)), (2, .ref (r 0))]) 3 d_L_law_683 rfl (by decide) (nI_add i 4).symm (by decide) rfl rfl ?_
  refine ok_goto (q := 18) d_L_law_686 (by decide) ?_
  exact ok_sub [1, 2, 3, 0] rfl (ih C1 R1 hI)
set_option maxRecDepth 20000 in
set_option maxHeartbeats 4000000 in
theorem ls_2 (hL : L ≤ 2048) (hi : i + 4 ≤ L) (hI : Iv C R) (ih : ∀ C R, Iv C R → Lg l D g g2 a r b L xs C R 18 [(0, .ref b), (1, .ref (a 0)), (2, .ref (r 0)), (3, .int (nI (i + 4)))] []) : Lg l D g g2 a r b L xs C R 226 [(0, .ref b), (1, .ref (a 0)), (2, .ref (r 0)), (3, .int (nI i))] [] := by
  refine ok_aload_n (q := 227) 1 d_L_law_226 rfl rfl rfl ?_
  refine ok_aload_n (q := 228) 0 d_L_law_227 rfl rfl rfl ?_
  refine ok_iload_n (q := 229) 3 d_L_law_228 rfl rfl rfl ?_
  refine ok_iconst (v := (1 : Int32)) (q := 230) d_L_law_229 (by decide) rfl ?_
  refine ok_iadd (q := 231) d_L_law_230 rfl ?_
  refine lk_sld (j := i + 1) (q := 232) (nI_add i 1) (by omega) hL d_L_law_231 rfl ?_
  refine ok_aload_n (q := 233) 0 d_L_law_232 rfl rfl rfl ?_
  refine ok_iload_n (q := 234) 3 d_L_law_233 rfl rfl rfl ?_
  refine ok_iconst (v := (2 : Int32)) (q := 235) d_L_law_234 (by decide) rfl ?_
  refine ok_iadd (q := 236) d_L_law_235 rfl ?_
  refine lk_sld (j := i + 2) (q := 237) (nI_add i 2) (by omega) hL d_L_law_236 rfl ?_
  obtain ⟨z, C1, R1, e1, e2, hI⟩ := op_read hI (xs (i + 1)) (xs (i + 2))
  refine lc_S_read (q := 240) e1 d_L_law_237 rfl (Nat.le_of_ble_eq_true rfl) ?_
  refine ok_aload_n (q := 241) 2 d_L_law_240 rfl rfl rfl ?_
  refine ok_aload_n (q := 242) 0 d_L_law_241 rfl rfl rfl ?_
  refine ok_iload_n (q := 243) 3 d_L_law_242 rfl rfl rfl ?_
  refine ok_iconst (v := (1 : Int32)) (q := 244) d_L_law_243 (by decide) rfl ?_
  refine ok_iadd (q := 245) d_L_law_244 rfl ?_
  refine lk_sld (j := i + 1) (q := 246) (nI_add i 1) (by omega) hL d_L_law_245 rfl ?_
  refine ok_aload_n (q := 247) 0 d_L_law_246 rfl rfl rfl ?_
  refine ok_iload_n (q := 248) 3 d_L_law_247 rfl rfl rfl ?_
  refine ok_iconst (v := (2 : Int32)) (q := 249) d_L_law_248 (by decide) rfl ?_
  refine ok_iadd (q := 250) d_L_law_249 rfl ?_
  refine lk_sld (j := i + 2) (q := 251) (nI_add i 2) (by omega) hL d_L_law_250 rfl ?_
  refine lc_M_read (q := 254) e2 d_L_law_251 rfl (Nat.le_of_ble_eq_true rfl) ?_
  refine ok_lcmp (q := 255) d_L_law_254 rfl ?_
  refine ok_if_eq (q := 258) (t := 683) d_L_law_255 (by decide) rfl (fun _ => ?_) (fun hn => absurd ((cmp_0.mpr rfl)) hn)
  refine ok_iinc (v := nI (i + 4)) (d := (4 : Int32)) (q := 686) (lv := [(3, .int (nI (i + 4))), (0, .ref b), (1, .ref (a 0)), (2, .ref (r 0))]) 3 d_L_law_683 rfl (by decide) (nI_add i 4).symm (by decide) rfl rfl ?_
  refine ok_goto (q := 18) d_L_law_686 (by decide) ?_
  exact ok_sub [1, 2, 3, 0] rfl (ih C1 R1 hI)
set_option maxRecDepth 20000 in
set_option maxHeartbeats 4000000 in
theorem ls_3 (hL : L ≤ 2048) (hi : i + 4 ≤ L) (hI : Iv C R) (ih : ∀ C R, Iv C R → Lg l D g g2 a r b L xs C R 18 [(0, .ref b), (1, .ref (a 0)), (2, .ref (r 0)), (3, .int (nI (i + 4)))] []) : Lg l D g g2 a r b L xs C R 260 [(0, .ref b), (1, .ref (a 0)), (2, .ref (r 0)), (3, .int (nI i))] [] := by
  refine ok_aload_n (q := 261) 1 d_L_law_260 rfl rfl rfl ?_
  refine ok_aload_n (q := 262) 0 d_L_law_261 rfl rfl rfl ?_
  refine ok_iload_n (q := 263) 3 d_L_law_262 rfl rfl rfl ?_
  refine ok_iconst (v := (1 : Int32)) (q := 264) d_L_law_263 (by decide) rfl ?_
  refine ok_iadd (q := 265) d_L_law_264 rfl ?_
  refine lk_sld (j := i + 1) (q := 266) (nI_add i 1) (by omega) hL d_L_law_265 rfl ?_
  refine ok_aload_n (q := 267) 0 d_L_law_266 rfl rfl rfl ?_
  refine ok_iload_n (q := 268) 3 d_L_law_267 rfl rfl rfl ?_
  refine ok_iconst (v := (2 : Int32)) (q := 269) d_L_law_268 (by decide) rfl ?_
  refine ok_iadd (q := 270) d_L_law_269 rfl ?_
  refine lk_sld (j := i + 2) (q := 271) (nI_add i 2) (by omega) hL d_L_law_270 rfl ?_
  obtain ⟨z, C1, R1, e1, e2, hI⟩ := op_truncate hI (xs (i + 1)) (xs (i + 2))
  refine lc_S_truncate (q := 274) e1 d_L_law_271 rfl (Nat.le_of_ble_eq_true rfl) ?_
  refine ok_aload_n (q := 275) 2 d_L_law_274 rfl rfl rfl ?_
  refine ok_aload_n (q := 276) 0 d_L_law_275 rfl rfl rfl ?_
  refine ok_iload_n (q := 277) 3 d_L_law_276 rfl rfl rfl ?_
  refine ok_iconst (v := (1 : Int32)) (q := 278) d_L_law_277 (by decide) rfl ?_
  refine ok_iadd (q := 279) d_L_law_278 rfl ?_
  refine lk_sld (j := i + 1) (q := 280) (nI_add i 1) (by omega) hL d_L_law_279 rfl ?_
  refine ok_aload_n (q := 281) 0 d_L_law_280 rfl rfl rfl ?_
  refine ok_iload_n (q := 282) 3 d_L_law_281 rfl rfl rfl ?_
  refine ok_iconst (v := (2 : Int32)) (q := 283) d_L_law_282 (by decide) rfl ?_
  refine ok_iadd (q := 284) d_L_law_283 rfl ?_
  refine lk_sld (j := i + 2) (q := 285) (nI_add i 2) (by omega) hL d_L_law_284 rfl ?_
  refine lc_M_truncate (q := 288) e2 d_L_law_285 rfl (Nat.le_of_ble_eq_true rfl) ?_
  refine ok_icmp_eq (q := 291) (t := 683) d_L_law_288 (by decide) rfl (fun _ => ?_) (fun hn => absurd rfl hn)
  refine ok_iinc (v := nI (i + 4)) (d := (4 : Int32)) (q := 686) (lv := [(3, .int (nI (i + 4))), (0, .ref b), (1, .ref (a 0)), (2, .ref (r 0))]) 3 d_L_law_683 rfl (by decide) (nI_add i 4).symm (by decide) rfl rfl ?_
  refine ok_goto (q := 18) d_L_law_686 (by decide) ?_
  exact ok_sub [1, 2, 3, 0] rfl (ih C1 R1 hI)
set_option maxRecDepth 20000 in
set_option maxHeartbeats 4000000 in
theorem ls_4 (hL : L ≤ 2048) (hi : i + 4 ≤ L) (hI : Iv C R) (ih : ∀ C R, Iv C R → Lg l D g g2 a r b L xs C R 18 [(0, .ref b), (1, .ref (a 0)), (2, .ref (r 0)), (3, .int (nI (i + 4)))] []) : Lg l D g g2 a r b L xs C R 293 [(0, .ref b), (1, .ref (a 0)), (2, .ref (r 0)), (3, .int (nI i))] [] := by
  refine ok_aload_n (q := 294) 1 d_L_law_293 rfl rfl rfl ?_
  refine ok_aload_n (q := 295) 0 d_L_law_294 rfl rfl rfl ?_
  refine ok_iload_n (q := 296) 3 d_L_law_295 rfl rfl rfl ?_
  refine ok_iconst (v := (1 : Int32)) (q := 297) d_L_law_296 (by decide) rfl ?_
  refine ok_iadd (q := 298) d_L_law_297 rfl ?_
  refine lk_sld (j := i + 1) (q := 299) (nI_add i 1) (by omega) hL d_L_law_298 rfl ?_
  refine ok_aload_n (q := 300) 0 d_L_law_299 rfl rfl rfl ?_
  refine ok_iload_n (q := 301) 3 d_L_law_300 rfl rfl rfl ?_
  refine ok_iconst (v := (2 : Int32)) (q := 302) d_L_law_301 (by decide) rfl ?_
  refine ok_iadd (q := 303) d_L_law_302 rfl ?_
  refine lk_sld (j := i + 2) (q := 304) (nI_add i 2) (by omega) hL d_L_law_303 rfl ?_
  refine ok_aload_n (q := 305) 0 d_L_law_304 rfl rfl rfl ?_
  refine ok_iload_n (q := 306) 3 d_L_law_305 rfl rfl rfl ?_
  refine ok_iconst (v := (3 : Int32)) (q := 307) d_L_law_306 (by decide) rfl ?_
  refine ok_iadd (q := 308) d_L_law_307 rfl ?_
  refine lk_sld (j := i + 3) (q := 309) (nI_add i 3) (by omega) hL d_L_law_308 rfl ?_
  obtain ⟨z, C1, R1, e1, e2, hI⟩ := op_move hI (xs (i + 1)) (xs (i + 2)) (xs (i + 3))
  refine lc_S_move (q := 312) e1 d_L_law_309 rfl (Nat.le_of_ble_eq_true rfl) ?_
  refine ok_aload_n (q := 313) 2 d_L_law_312 rfl rfl rfl ?_
  refine ok_aload_n (q := 314) 0 d_L_law_313 rfl rfl rfl ?_
  refine ok_iload_n (q := 315) 3 d_L_law_314 rfl rfl rfl ?_
  refine ok_iconst (v := (1 : Int32)) (q := 316) d_L_law_315 (by decide) rfl ?_
  refine ok_iadd (q := 317) d_L_law_316 rfl ?_
  refine lk_sld (j := i + 1) (q := 318) (nI_add i 1) (by omega) hL d_L_law_317 rfl ?_
  refine ok_aload_n (q := 319) 0 d_L_law_318 rfl rfl rfl ?_
  refine ok_iload_n (q := 320) 3 d_L_law_319 rfl rfl rfl ?_
  refine ok_iconst (v := (2 : Int32)) (q := 321) d_L_law_320 (by decide) rfl ?_
  refine ok_iadd (q := 322) d_L_law_321 rfl ?_
  refine lk_sld (j := i + 2) (q := 323) (nI_add i 2) (by omega) hL d_L_law_322 rfl ?_
  refine ok_aload_n (q := 324) 0 d_L_law_323 rfl rfl rfl ?_
  refine ok_iload_n (q := 325) 3 d_L_law_324 rfl rfl rfl ?_
  refine ok_iconst (v := (3 : Int32)) (q := 326) d_L_law_325 (by decide) rfl ?_
  refine ok_iadd (q := 327) d_L_law_326 rfl ?_
  refine lk_sld (j := i + 3) (q := 328) (nI_add i 3) (by omega) hL d_L_law_327 rfl ?_
  refine lc_M_move (q := 331) e2 d_L_law_328 rfl (Nat.le_of_ble_eq_true rfl) ?_
  refine ok_icmp_eq (q := 334) (t := 683) d_L_law_331 (by decide) rfl (fun _ => ?_) (fun hn => absurd rfl hn)
  refine ok_iinc (v := nI (i + 4)) (d := (4 : Int32)) (q := 686) (lv := [(3, .int (nI (i + 4))), (0, .ref b), (1, .ref (a 0)), (2, .ref (r 0))]) 3 d_L_law_683 rfl (by decide) (nI_add i 4).symm (by decide) rfl rfl ?_
  refine ok_goto (q := 18) d_L_law_686 (by decide) ?_
  exact ok_sub [1, 2, 3, 0] rfl (ih C1 R1 hI)
set_option maxRecDepth 20000 in
set_option maxHeartbeats 4000000 in
theorem ls_5 (hL : L ≤ 2048) (hi : i + 4 ≤ L) (hI : Iv C R) (ih : ∀ C R, Iv C R → Lg l D g g2 a r b L xs C R 18 [(0, .ref b), (1, .ref (a 0)), (2, .ref (r 0)), (3, .int (nI (i + 4)))] []) : Lg l D g g2 a r b L xs C R 336 [(0, .ref b), (1, .ref (a 0)), (2, .ref (r 0)), (3, .int (nI i))] [] := by
  refine ok_aload_n (q := 337) 1 d_L_law_336 rfl rfl rfl ?_
  refine ok_aload_n (q := 338) 0 d_L_law_337 rfl rfl rfl ?_
  refine ok_iload_n (q := 339) 3 d_L_law_338 rfl rfl rfl ?_
  refine ok_iconst (v := (1 : Int32)) (q := 340) d_L_law_339 (by decide) rfl ?_
  refine ok_iadd (q := 341) d_L_law_340 rfl ?_
  refine lk_sld (j := i + 1) (q := 342) (nI_add i 1) (by omega) hL d_L_law_341 rfl ?_
  obtain ⟨z, C1, R1, e1, e2, hI⟩ := op_remove hI (xs (i + 1))
  refine lc_S_remove (q := 345) e1 d_L_law_342 rfl (Nat.le_of_ble_eq_true rfl) ?_
  refine ok_aload_n (q := 346) 2 d_L_law_345 rfl rfl rfl ?_
  refine ok_aload_n (q := 347) 0 d_L_law_346 rfl rfl rfl ?_
  refine ok_iload_n (q := 348) 3 d_L_law_347 rfl rfl rfl ?_
  refine ok_iconst (v := (1 : Int32)) (q := 349) d_L_law_348 (by decide) rfl ?_
  refine ok_iadd (q := 350) d_L_law_349 rfl ?_
  refine lk_sld (j := i + 1) (q := 351) (nI_add i 1) (by omega) hL d_L_law_350 rfl ?_
  refine lc_M_remove (q := 354) e2 d_L_law_351 rfl (Nat.le_of_ble_eq_true rfl) ?_
  refine ok_icmp_eq (q := 357) (t := 683) d_L_law_354 (by decide) rfl (fun _ => ?_) (fun hn => absurd rfl hn)
  refine ok_iinc (v := nI (i + 4)) (d := (4 : Int32)) (q := 686) (lv := [(3, .int (nI (i + 4))), (0, .ref b), (1, .ref (a 0)), (2, .ref (r 0))]) 3 d_L_law_683 rfl (by decide) (nI_add i 4).symm (by decide) rfl rfl ?_
  refine ok_goto (q := 18) d_L_law_686 (by decide) ?_
  exact ok_sub [1, 2, 3, 0] rfl (ih C1 R1 hI)
set_option maxRecDepth 20000 in
set_option maxHeartbeats 4000000 in
theorem ls_6 (hL : L ≤ 2048) (hi : i + 4 ≤ L) (hI : Iv C R) (ih : ∀ C R, Iv C R → Lg l D g g2 a r b L xs C R 18 [(0, .ref b), (1, .ref (a 0)), (2, .ref (r 0)), (3, .int (nI (i + 4)))] []) : Lg l D g g2 a r b L xs C R 359 [(0, .ref b), (1, .ref (a 0)), (2, .ref (r 0)), (3, .int (nI i))] [] := by
  refine ok_aload_n (q := 360) 1 d_L_law_359 rfl rfl rfl ?_
  refine ok_aload_n (q := 361) 0 d_L_law_360 rfl rfl rfl ?_
  refine ok_iload_n (q := 362) 3 d_L_law_361 rfl rfl rfl ?_
  refine ok_iconst (v := (1 : Int32)) (q := 363) d_L_law_362 (by decide) rfl ?_
  refine ok_iadd (q := 364) d_L_law_363 rfl ?_
  refine lk_sld (j := i + 1) (q := 365) (nI_add i 1) (by omega) hL d_L_law_364 rfl ?_
  refine ok_aload_n (q := 366) 0 d_L_law_365 rfl rfl rfl ?_
  refine ok_iload_n (q := 367) 3 d_L_law_366 rfl rfl rfl ?_
  refine ok_iconst (v := (2 : Int32)) (q := 368) d_L_law_367 (by decide) rfl ?_
  refine ok_iadd (q := 369) d_L_law_368 rfl ?_
  refine lk_sld (j := i + 2) (q := 370) (nI_add i 2) (by omega) hL d_L_law_369 rfl ?_
  obtain ⟨z, C1, R1, e1, e2, hI⟩ := op_find hI (xs (i + 1)) (xs (i + 2))
  refine lc_S_find (q := 373) e1 d_L_law_370 rfl (Nat.le_of_ble_eq_true rfl) ?_
  refine ok_aload_n (q := 374) 2 d_L_law_373 rfl rfl rfl ?_
  refine ok_aload_n (q := 375) 0 d_L_law_374 rfl rfl rfl ?_
  refine ok_iload_n (q := 376) 3 d_L_law_375 rfl rfl rfl ?_
  refine ok_iconst (v := (1 : Int32)) (q := 377) d_L_law_376 (by decide) rfl ?_
  refine ok_iadd (q := 378) d_L_law_377 rfl ?_
  refine lk_sld (j := i + 1) (q := 379) (nI_add i 1) (by omega) hL d_L_law_378 rfl ?_
  refine ok_aload_n (q := 380) 0 d_L_law_379 rfl rfl rfl ?_
  refine ok_iload_n (q := 381) 3 d_L_law_380 rfl rfl rfl ?_
  refine ok_iconst (v := (2 : Int32)) (q := 382) d_L_law_381 (by decide) rfl ?_
  refine ok_iadd (q := 383) d_L_law_382 rfl ?_
  refine lk_sld (j := i + 2) (q := 384) (nI_add i 2) (by omega) hL d_L_law_383 rfl ?_
  refine lc_M_find (q := 387) e2 d_L_law_384 rfl (Nat.le_of_ble_eq_true rfl) ?_
  refine ok_icmp_eq (q := 390) (t := 683) d_L_law_387 (by decide) rfl (fun _ => ?_) (fun hn => absurd rfl hn)
  refine ok_iinc (v := nI (i + 4)) (d := (4 : Int32)) (q := 686) (lv := [(3, .int (nI (i + 4))), (0, .ref b), (1, .ref (a 0)), (2, .ref (r 0))]) 3 d_L_law_683 rfl (by decide) (nI_add i 4).symm (by decide) rfl rfl ?_
  refine ok_goto (q := 18) d_L_law_686 (by decide) ?_
  exact ok_sub [1, 2, 3, 0] rfl (ih C1 R1 hI)
set_option maxRecDepth 20000 in
set_option maxHeartbeats 4000000 in
theorem ls_7 (hL : L ≤ 2048) (hi : i + 4 ≤ L) (hI : Iv C R) (ih : ∀ C R, Iv C R → Lg l D g g2 a r b L xs C R 18 [(0, .ref b), (1, .ref (a 0)), (2, .ref (r 0)), (3, .int (nI (i + 4)))] []) : Lg l D g g2 a r b L xs C R 392 [(0, .ref b), (1, .ref (a 0)), (2, .ref (r 0)), (3, .int (nI i))] [] := by
  refine ok_aload_n (q := 393) 1 d_L_law_392 rfl rfl rfl ?_
  refine ok_aload_n (q := 394) 0 d_L_law_393 rfl rfl rfl ?_
  refine ok_iload_n (q := 395) 3 d_L_law_394 rfl rfl rfl ?_
  refine ok_iconst (v := (1 : Int32)) (q := 396) d_L_law_395 (by decide) rfl ?_
  refine ok_iadd (q := 397) d_L_law_396 rfl ?_
  refine lk_sld (j := i + 1) (q := 398) (nI_add i 1) (by omega) hL d_L_law_397 rfl ?_
  obtain ⟨z, C1, R1, e1, e2, hI⟩ := op_size hI (xs (i + 1))
  refine lc_S_size (q := 401) e1 d_L_law_398 rfl (Nat.le_of_ble_eq_true rfl) ?_
  refine ok_aload_n (q := 402) 2 d_L_law_401 rfl rfl rfl ?_
  refine ok_aload_n (q := 403) 0 d_L_law_402 rfl rfl rfl ?_
  refine ok_iload_n (q := 404) 3 d_L_law_403 rfl rfl rfl ?_
  refine ok_iconst (v := (1 : Int32)) (q := 405) d_L_law_404 (by decide) rfl ?_
  refine ok_iadd (q := 406) d_L_law_405 rfl ?_
  refine lk_sld (j := i + 1) (q := 407) (nI_add i 1) (by omega) hL d_L_law_406 rfl ?_
  refine lc_M_size (q := 410) e2 d_L_law_407 rfl (Nat.le_of_ble_eq_true rfl) ?_
  refine ok_icmp_eq (q := 413) (t := 683) d_L_law_410 (by decide) rfl (fun _ => ?_) (fun hn => absurd rfl hn)
  refine ok_iinc (v := nI (i + 4)) (d := (4 : Int32)) (q := 686) (lv := [(3, .int (nI (i + 4))), (0, .ref b), (1, .ref (a 0)), (2, .ref (r 0))]) 3 d_L_law_683 rfl (by decide) (nI_add i 4).symm (by decide) rfl rfl ?_
  refine ok_goto (q := 18) d_L_law_686 (by decide) ?_
  exact ok_sub [1, 2, 3, 0] rfl (ih C1 R1 hI)
set_option maxRecDepth 20000 in
set_option maxHeartbeats 4000000 in
theorem ls_8 (hL : L ≤ 2048) (hi : i + 4 ≤ L) (hI : Iv C R) (ih : ∀ C R, Iv C R → Lg l D g g2 a r b L xs C R 18 [(0, .ref b), (1, .ref (a 0)), (2, .ref (r 0)), (3, .int (nI (i + 4)))] []) : Lg l D g g2 a r b L xs C R 415 [(0, .ref b), (1, .ref (a 0)), (2, .ref (r 0)), (3, .int (nI i))] [] := by
  refine ok_aload_n (q := 416) 1 d_L_law_415 rfl rfl rfl ?_
  refine ok_aload_n (q := 417) 0 d_L_law_416 rfl rfl rfl ?_
  refine ok_iload_n (q := 418) 3 d_L_law_417 rfl rfl rfl ?_
  refine ok_iconst (v := (1 : Int32)) (q := 419) d_L_law_418 (by decide) rfl ?_
  refine ok_iadd (q := 420) d_L_law_419 rfl ?_
  refine lk_sld (j := i + 1) (q := 421) (nI_add i 1) (by omega) hL d_L_law_420 rfl ?_
  obtain ⟨z, C1, R1, e1, e2, hI⟩ := op_parentOf hI (xs (i + 1))
  refine lc_S_parentOf (q := 424) e1 d_L_law_421 rfl (Nat.le_of_ble_eq_true rfl) ?_
  refine ok_aload_n (q := 425) 2 d_L_law_424 rfl rfl rfl ?_
  refine ok_aload_n (q := 426) 0 d_L_law_425 rfl rfl rfl ?_
  refine ok_iload_n (q := 427) 3 d_L_law_426 rfl rfl rfl ?_
  refine ok_iconst (v := (1 : Int32)) (q := 428) d_L_law_427 (by decide) rfl ?_
  refine ok_iadd (q := 429) d_L_law_428 rfl ?_
  refine lk_sld (j := i + 1) (q := 430) (nI_add i 1) (by omega) hL d_L_law_429 rfl ?_
  refine lc_M_parentOf (q := 433) e2 d_L_law_430 rfl (Nat.le_of_ble_eq_true rfl) ?_
  refine ok_icmp_eq (q := 436) (t := 683) d_L_law_433 (by decide) rfl (fun _ => ?_) (fun hn => absurd rfl hn)
  refine ok_iinc (v := nI (i + 4)) (d := (4 : Int32)) (q := 686) (lv := [(3, .int (nI (i + 4))), (0, .ref b), (1, .ref (a 0)), (2, .ref (r 0))]) 3 d_L_law_683 rfl (by decide) (nI_add i 4).symm (by decide) rfl rfl ?_
  refine ok_goto (q := 18) d_L_law_686 (by decide) ?_
  exact ok_sub [1, 2, 3, 0] rfl (ih C1 R1 hI)
set_option maxRecDepth 20000 in
set_option maxHeartbeats 4000000 in
theorem ls_9 (hL : L ≤ 2048) (hi : i + 4 ≤ L) (hI : Iv C R) (ih : ∀ C R, Iv C R → Lg l D g g2 a r b L xs C R 18 [(0, .ref b), (1, .ref (a 0)), (2, .ref (r 0)), (3, .int (nI (i + 4)))] []) : Lg l D g g2 a r b L xs C R 438 [(0, .ref b), (1, .ref (a 0)), (2, .ref (r 0)), (3, .int (nI i))] [] := by
  refine ok_aload_n (q := 439) 1 d_L_law_438 rfl rfl rfl ?_
  refine ok_aload_n (q := 440) 0 d_L_law_439 rfl rfl rfl ?_
  refine ok_iload_n (q := 441) 3 d_L_law_440 rfl rfl rfl ?_
  refine ok_iconst (v := (1 : Int32)) (q := 442) d_L_law_441 (by decide) rfl ?_
  refine ok_iadd (q := 443) d_L_law_442 rfl ?_
  refine lk_sld (j := i + 1) (q := 444) (nI_add i 1) (by omega) hL d_L_law_443 rfl ?_
  obtain ⟨z, C1, R1, e1, e2, hI⟩ := op_nameOf hI (xs (i + 1))
  refine lc_S_nameOf (q := 447) e1 d_L_law_444 rfl (Nat.le_of_ble_eq_true rfl) ?_
  refine ok_aload_n (q := 448) 2 d_L_law_447 rfl rfl rfl ?_
  refine ok_aload_n (q := 449) 0 d_L_law_448 rfl rfl rfl ?_
  refine ok_iload_n (q := 450) 3 d_L_law_449 rfl rfl rfl ?_
  refine ok_iconst (v := (1 : Int32)) (q := 451) d_L_law_450 (by decide) rfl ?_
  refine ok_iadd (q := 452) d_L_law_451 rfl ?_
  refine lk_sld (j := i + 1) (q := 453) (nI_add i 1) (by omega) hL d_L_law_452 rfl ?_
  refine lc_M_nameOf (q := 456) e2 d_L_law_453 rfl (Nat.le_of_ble_eq_true rfl) ?_
  refine ok_lcmp (q := 457) d_L_law_456 rfl ?_
  refine ok_if_eq (q := 460) (t := 683) d_L_law_457 (by decide) rfl (fun _ => ?_) (fun hn => absurd ((cmp_0.mpr rfl)) hn)
  refine ok_iinc (v := nI (i + 4)) (d := (4 : Int32)) (q := 686) (lv := [(3, .int (nI (i + 4))), (0, .ref b), (1, .ref (a 0)), (2, .ref (r 0))]) 3 d_L_law_683 rfl (by decide) (nI_add i 4).symm (by decide) rfl rfl ?_
  refine ok_goto (q := 18) d_L_law_686 (by decide) ?_
  exact ok_sub [1, 2, 3, 0] rfl (ih C1 R1 hI)
set_option maxRecDepth 20000 in
set_option maxHeartbeats 4000000 in
theorem ls_10 (hL : L ≤ 2048) (hi : i + 4 ≤ L) (hI : Iv C R) (ih : ∀ C R, Iv C R → Lg l D g g2 a r b L xs C R 18 [(0, .ref b), (1, .ref (a 0)), (2, .ref (r 0)), (3, .int (nI (i + 4)))] []) : Lg l D g g2 a r b L xs C R 462 [(0, .ref b), (1, .ref (a 0)), (2, .ref (r 0)), (3, .int (nI i))] [] := by
  refine ok_aload_n (q := 463) 1 d_L_law_462 rfl rfl rfl ?_
  obtain ⟨z, C1, R1, e1, e2, hI⟩ := op_checkpoint hI
  refine lc_S_checkpoint (q := 466) e1 d_L_law_463 rfl (Nat.le_of_ble_eq_true rfl) ?_
  refine ok_aload_n (q := 467) 2 d_L_law_466 rfl rfl rfl ?_
  refine lc_M_checkpoint (q := 470) e2 d_L_law_467 rfl (Nat.le_of_ble_eq_true rfl) ?_
  refine ok_icmp_eq (q := 473) (t := 683) d_L_law_470 (by decide) rfl (fun _ => ?_) (fun hn => absurd rfl hn)
  refine ok_iinc (v := nI (i + 4)) (d := (4 : Int32)) (q := 686) (lv := [(3, .int (nI (i + 4))), (0, .ref b), (1, .ref (a 0)), (2, .ref (r 0))]) 3 d_L_law_683 rfl (by decide) (nI_add i 4).symm (by decide) rfl rfl ?_
  refine ok_goto (q := 18) d_L_law_686 (by decide) ?_
  exact ok_sub [1, 2, 3, 0] rfl (ih C1 R1 hI)
set_option maxRecDepth 20000 in
set_option maxHeartbeats 4000000 in
theorem ls_11 (hL : L ≤ 2048) (hi : i + 4 ≤ L) (hI : Iv C R) (ih : ∀ C R, Iv C R → Lg l D g g2 a r b L xs C R 18 [(0, .ref b), (1, .ref (a 0)), (2, .ref (r 0)), (3, .int (nI (i + 4)))] []) : Lg l D g g2 a r b L xs C R 475 [(0, .ref b), (1, .ref (a 0)), (2, .ref (r 0)), (3, .int (nI i))] [] := by
  refine ok_aload_n (q := 476) 1 d_L_law_475 rfl rfl rfl ?_
  refine ok_aload_n (q := 477) 0 d_L_law_476 rfl rfl rfl ?_
  refine ok_iload_n (q := 478) 3 d_L_law_477 rfl rfl rfl ?_
  refine ok_iconst (v := (1 : Int32)) (q := 479) d_L_law_478 (by decide) rfl ?_
  refine ok_iadd (q := 480) d_L_law_479 rfl ?_
  refine lk_sld (j := i + 1) (q := 481) (nI_add i 1) (by omega) hL d_L_law_480 rfl ?_
  refine ok_if_eq (q := 484) (t := 488) d_L_law_481 (by decide) rfl (fun hz => ?_) (fun hz => ?_)
  · refine ok_iconst (v := (0 : Int32)) (q := 489) d_L_law_488 (by decide) rfl ?_
    obtain ⟨z, C1, R1, e1, e2, hI⟩ := op_mount hI (0 : Int32)
    refine lc_S_mount (q := 492) e1 d_L_law_489 rfl (Nat.le_of_ble_eq_true rfl) ?_
    refine ok_aload_n (q := 493) 2 d_L_law_492 rfl rfl rfl ?_
    refine ok_aload_n (q := 494) 0 d_L_law_493 rfl rfl rfl ?_
    refine ok_iload_n (q := 495) 3 d_L_law_494 rfl rfl rfl ?_
    refine ok_iconst (v := (1 : Int32)) (q := 496) d_L_law_495 (by decide) rfl ?_
    refine ok_iadd (q := 497) d_L_law_496 rfl ?_
    refine lk_sld (j := i + 1) (q := 498) (nI_add i 1) (by omega) hL d_L_law_497 rfl ?_
    refine ok_if_eq (q := 501) (t := 505) d_L_law_498 (by decide) rfl (fun _ => ?_) (fun hn => absurd hz hn)
    refine ok_iconst (v := (0 : Int32)) (q := 506) d_L_law_505 (by decide) rfl ?_
    refine lc_M_mount (q := 509) e2 d_L_law_506 rfl (Nat.le_of_ble_eq_true rfl) ?_
    refine ok_icmp_eq (q := 512) (t := 683) d_L_law_509 (by decide) rfl (fun _ => ?_) (fun hn => absurd rfl hn)
    refine ok_iinc (v := nI (i + 4)) (d := (4 : Int32)) (q := 686) (lv := [(3, .int (nI (i + 4))), (0, .ref b), (1, .ref (a 0)), (2, .ref (r 0))]) 3 d_L_law_683 rfl (by decide) (nI_add i 4).symm (by decide) rfl rfl ?_
    refine ok_goto (q := 18) d_L_law_686 (by decide) ?_
    exact ok_sub [1, 2, 3, 0] rfl (ih C1 R1 hI)
  · refine ok_iconst (v := (1 : Int32)) (q := 485) d_L_law_484 (by decide) rfl ?_
    refine ok_goto (q := 489) d_L_law_485 (by decide) ?_
    obtain ⟨z, C1, R1, e1, e2, hI⟩ := op_mount hI (1 : Int32)
    refine lc_S_mount (q := 492) e1 d_L_law_489 rfl (Nat.le_of_ble_eq_true rfl) ?_
    refine ok_aload_n (q := 493) 2 d_L_law_492 rfl rfl rfl ?_
    refine ok_aload_n (q := 494) 0 d_L_law_493 rfl rfl rfl ?_
    refine ok_iload_n (q := 495) 3 d_L_law_494 rfl rfl rfl ?_
    refine ok_iconst (v := (1 : Int32)) (q := 496) d_L_law_495 (by decide) rfl ?_
    refine ok_iadd (q := 497) d_L_law_496 rfl ?_
    refine lk_sld (j := i + 1) (q := 498) (nI_add i 1) (by omega) hL d_L_law_497 rfl ?_
    refine ok_if_eq (q := 501) (t := 505) d_L_law_498 (by decide) rfl (fun hn => absurd hn hz) (fun _ => ?_)
    refine ok_iconst (v := (1 : Int32)) (q := 502) d_L_law_501 (by decide) rfl ?_
    refine ok_goto (q := 506) d_L_law_502 (by decide) ?_
    refine lc_M_mount (q := 509) e2 d_L_law_506 rfl (Nat.le_of_ble_eq_true rfl) ?_
    refine ok_icmp_eq (q := 512) (t := 683) d_L_law_509 (by decide) rfl (fun _ => ?_) (fun hn => absurd rfl hn)
    refine ok_iinc (v := nI (i + 4)) (d := (4 : Int32)) (q := 686) (lv := [(3, .int (nI (i + 4))), (0, .ref b), (1, .ref (a 0)), (2, .ref (r 0))]) 3 d_L_law_683 rfl (by decide) (nI_add i 4).symm (by decide) rfl rfl ?_
    refine ok_goto (q := 18) d_L_law_686 (by decide) ?_
    exact ok_sub [1, 2, 3, 0] rfl (ih C1 R1 hI)
set_option maxRecDepth 20000 in
set_option maxHeartbeats 4000000 in
theorem ls_12 (hL : L ≤ 2048) (hi : i + 4 ≤ L) (hI : Iv C R) (ih : ∀ C R, Iv C R → Lg l D g g2 a r b L xs C R 18 [(0, .ref b), (1, .ref (a 0)), (2, .ref (r 0)), (3, .int (nI (i + 4)))] []) : Lg l D g g2 a r b L xs C R 514 [(0, .ref b), (1, .ref (a 0)), (2, .ref (r 0)), (3, .int (nI i))] [] := by
  refine ok_aload_n (q := 515) 1 d_L_law_514 rfl rfl rfl ?_
  refine ok_aload_n (q := 516) 0 d_L_law_515 rfl rfl rfl ?_
  refine ok_iload_n (q := 517) 3 d_L_law_516 rfl rfl rfl ?_
  refine ok_iconst (v := (1 : Int32)) (q := 518) d_L_law_517 (by decide) rfl ?_
  refine ok_iadd (q := 519) d_L_law_518 rfl ?_
  refine lk_sld (j := i + 1) (q := 520) (nI_add i 1) (by omega) hL d_L_law_519 rfl ?_
  obtain ⟨z, C1, R1, e1, e2, hI⟩ := op_cut hI (xs (i + 1))
  refine lc_S_cut (q := 523) e1 d_L_law_520 rfl (Nat.le_of_ble_eq_true rfl) ?_
  refine ok_aload_n (q := 524) 2 d_L_law_523 rfl rfl rfl ?_
  refine ok_aload_n (q := 525) 0 d_L_law_524 rfl rfl rfl ?_
  refine ok_iload_n (q := 526) 3 d_L_law_525 rfl rfl rfl ?_
  refine ok_iconst (v := (1 : Int32)) (q := 527) d_L_law_526 (by decide) rfl ?_
  refine ok_iadd (q := 528) d_L_law_527 rfl ?_
  refine lk_sld (j := i + 1) (q := 529) (nI_add i 1) (by omega) hL d_L_law_528 rfl ?_
  refine lc_M_cut (q := 532) e2 d_L_law_529 rfl (Nat.le_of_ble_eq_true rfl) ?_
  refine ok_goto (q := 683) d_L_law_532 (by decide) ?_
  refine ok_iinc (v := nI (i + 4)) (d := (4 : Int32)) (q := 686) (lv := [(3, .int (nI (i + 4))), (0, .ref b), (1, .ref (a 0)), (2, .ref (r 0))]) 3 d_L_law_683 rfl (by decide) (nI_add i 4).symm (by decide) rfl rfl ?_
  refine ok_goto (q := 18) d_L_law_686 (by decide) ?_
  exact ok_sub [1, 2, 3, 0] rfl (ih C1 R1 hI)
set_option maxRecDepth 20000 in
set_option maxHeartbeats 4000000 in
theorem ls_13 (hL : L ≤ 2048) (hi : i + 4 ≤ L) (hI : Iv C R) (ih : ∀ C R, Iv C R → Lg l D g g2 a r b L xs C R 18 [(0, .ref b), (1, .ref (a 0)), (2, .ref (r 0)), (3, .int (nI (i + 4)))] []) : Lg l D g g2 a r b L xs C R 535 [(0, .ref b), (1, .ref (a 0)), (2, .ref (r 0)), (3, .int (nI i))] [] := by
  refine ok_aload_n (q := 536) 1 d_L_law_535 rfl rfl rfl ?_
  refine ok_aload_n (q := 537) 0 d_L_law_536 rfl rfl rfl ?_
  refine ok_iload_n (q := 538) 3 d_L_law_537 rfl rfl rfl ?_
  refine ok_iconst (v := (1 : Int32)) (q := 539) d_L_law_538 (by decide) rfl ?_
  refine ok_iadd (q := 540) d_L_law_539 rfl ?_
  refine lk_sld (j := i + 1) (q := 541) (nI_add i 1) (by omega) hL d_L_law_540 rfl ?_
  refine ok_aload_n (q := 542) 0 d_L_law_541 rfl rfl rfl ?_
  refine ok_iload_n (q := 543) 3 d_L_law_542 rfl rfl rfl ?_
  refine ok_iconst (v := (2 : Int32)) (q := 544) d_L_law_543 (by decide) rfl ?_
  refine ok_iadd (q := 545) d_L_law_544 rfl ?_
  refine lk_sld (j := i + 2) (q := 546) (nI_add i 2) (by omega) hL d_L_law_545 rfl ?_
  refine ok_aload_n (q := 547) 0 d_L_law_546 rfl rfl rfl ?_
  refine ok_iload_n (q := 548) 3 d_L_law_547 rfl rfl rfl ?_
  refine ok_iconst (v := (3 : Int32)) (q := 549) d_L_law_548 (by decide) rfl ?_
  refine ok_iadd (q := 550) d_L_law_549 rfl ?_
  refine lk_sld (j := i + 3) (q := 551) (nI_add i 3) (by omega) hL d_L_law_550 rfl ?_
  obtain ⟨z, C1, R1, e1, e2, hI⟩ := op_flip hI (xs (i + 1)) (xs (i + 2)) (xs (i + 3))
  refine lc_S_flip (q := 554) e1 d_L_law_551 rfl (Nat.le_of_ble_eq_true rfl) ?_
  refine ok_aload_n (q := 555) 2 d_L_law_554 rfl rfl rfl ?_
  refine ok_aload_n (q := 556) 0 d_L_law_555 rfl rfl rfl ?_
  refine ok_iload_n (q := 557) 3 d_L_law_556 rfl rfl rfl ?_
  refine ok_iconst (v := (1 : Int32)) (q := 558) d_L_law_557 (by decide) rfl ?_
  refine ok_iadd (q := 559) d_L_law_558 rfl ?_
  refine lk_sld (j := i + 1) (q := 560) (nI_add i 1) (by omega) hL d_L_law_559 rfl ?_
  refine ok_aload_n (q := 561) 0 d_L_law_560 rfl rfl rfl ?_
  refine ok_iload_n (q := 562) 3 d_L_law_561 rfl rfl rfl ?_
  refine ok_iconst (v := (2 : Int32)) (q := 563) d_L_law_562 (by decide) rfl ?_
  refine ok_iadd (q := 564) d_L_law_563 rfl ?_
  refine lk_sld (j := i + 2) (q := 565) (nI_add i 2) (by omega) hL d_L_law_564 rfl ?_
  refine ok_aload_n (q := 566) 0 d_L_law_565 rfl rfl rfl ?_
  refine ok_iload_n (q := 567) 3 d_L_law_566 rfl rfl rfl ?_
  refine ok_iconst (v := (3 : Int32)) (q := 568) d_L_law_567 (by decide) rfl ?_
  refine ok_iadd (q := 569) d_L_law_568 rfl ?_
  refine lk_sld (j := i + 3) (q := 570) (nI_add i 3) (by omega) hL d_L_law_569 rfl ?_
  refine lc_M_flip (q := 573) e2 d_L_law_570 rfl (Nat.le_of_ble_eq_true rfl) ?_
  refine ok_icmp_eq (q := 576) (t := 683) d_L_law_573 (by decide) rfl (fun _ => ?_) (fun hn => absurd rfl hn)
  refine ok_iinc (v := nI (i + 4)) (d := (4 : Int32)) (q := 686) (lv := [(3, .int (nI (i + 4))), (0, .ref b), (1, .ref (a 0)), (2, .ref (r 0))]) 3 d_L_law_683 rfl (by decide) (nI_add i 4).symm (by decide) rfl rfl ?_
  refine ok_goto (q := 18) d_L_law_686 (by decide) ?_
  exact ok_sub [1, 2, 3, 0] rfl (ih C1 R1 hI)
set_option maxRecDepth 20000 in
set_option maxHeartbeats 4000000 in
theorem ls_14 (hL : L ≤ 2048) (hi : i + 4 ≤ L) (hI : Iv C R) (ih : ∀ C R, Iv C R → Lg l D g g2 a r b L xs C R 18 [(0, .ref b), (1, .ref (a 0)), (2, .ref (r 0)), (3, .int (nI (i + 4)))] []) : Lg l D g g2 a r b L xs C R 578 [(0, .ref b), (1, .ref (a 0)), (2, .ref (r 0)), (3, .int (nI i))] [] := by
  refine ok_aload_n (q := 579) 1 d_L_law_578 rfl rfl rfl ?_
  refine ok_aload_n (q := 580) 0 d_L_law_579 rfl rfl rfl ?_
  refine ok_iload_n (q := 581) 3 d_L_law_580 rfl rfl rfl ?_
  refine ok_iconst (v := (1 : Int32)) (q := 582) d_L_law_581 (by decide) rfl ?_
  refine ok_iadd (q := 583) d_L_law_582 rfl ?_
  refine lk_sld (j := i + 1) (q := 584) (nI_add i 1) (by omega) hL d_L_law_583 rfl ?_
  obtain ⟨z, C1, R1, e1, e2, hI⟩ := op_wear hI (xs (i + 1))
  refine lc_S_wear (q := 587) e1 d_L_law_584 rfl (Nat.le_of_ble_eq_true rfl) ?_
  refine ok_aload_n (q := 588) 2 d_L_law_587 rfl rfl rfl ?_
  refine ok_aload_n (q := 589) 0 d_L_law_588 rfl rfl rfl ?_
  refine ok_iload_n (q := 590) 3 d_L_law_589 rfl rfl rfl ?_
  refine ok_iconst (v := (1 : Int32)) (q := 591) d_L_law_590 (by decide) rfl ?_
  refine ok_iadd (q := 592) d_L_law_591 rfl ?_
  refine lk_sld (j := i + 1) (q := 593) (nI_add i 1) (by omega) hL d_L_law_592 rfl ?_
  refine lc_M_wear (q := 596) e2 d_L_law_593 rfl (Nat.le_of_ble_eq_true rfl) ?_
  refine ok_icmp_eq (q := 599) (t := 683) d_L_law_596 (by decide) rfl (fun _ => ?_) (fun hn => absurd rfl hn)
  refine ok_iinc (v := nI (i + 4)) (d := (4 : Int32)) (q := 686) (lv := [(3, .int (nI (i + 4))), (0, .ref b), (1, .ref (a 0)), (2, .ref (r 0))]) 3 d_L_law_683 rfl (by decide) (nI_add i 4).symm (by decide) rfl rfl ?_
  refine ok_goto (q := 18) d_L_law_686 (by decide) ?_
  exact ok_sub [1, 2, 3, 0] rfl (ih C1 R1 hI)
set_option maxRecDepth 20000 in
set_option maxHeartbeats 4000000 in
theorem ls_15 (hL : L ≤ 2048) (hi : i + 4 ≤ L) (hI : Iv C R) (ih : ∀ C R, Iv C R → Lg l D g g2 a r b L xs C R 18 [(0, .ref b), (1, .ref (a 0)), (2, .ref (r 0)), (3, .int (nI (i + 4)))] []) : Lg l D g g2 a r b L xs C R 601 [(0, .ref b), (1, .ref (a 0)), (2, .ref (r 0)), (3, .int (nI i))] [] := by
  refine ok_aload_n (q := 602) 1 d_L_law_601 rfl rfl rfl ?_
  refine ok_aload_n (q := 603) 0 d_L_law_602 rfl rfl rfl ?_
  refine ok_iload_n (q := 604) 3 d_L_law_603 rfl rfl rfl ?_
  refine ok_iconst (v := (1 : Int32)) (q := 605) d_L_law_604 (by decide) rfl ?_
  refine ok_iadd (q := 606) d_L_law_605 rfl ?_
  refine lk_sld (j := i + 1) (q := 607) (nI_add i 1) (by omega) hL d_L_law_606 rfl ?_
  refine ok_aload_n (q := 608) 0 d_L_law_607 rfl rfl rfl ?_
  refine ok_iload_n (q := 609) 3 d_L_law_608 rfl rfl rfl ?_
  refine ok_iconst (v := (2 : Int32)) (q := 610) d_L_law_609 (by decide) rfl ?_
  refine ok_iadd (q := 611) d_L_law_610 rfl ?_
  refine lk_sld (j := i + 2) (q := 612) (nI_add i 2) (by omega) hL d_L_law_611 rfl ?_
  obtain ⟨z, C1, R1, e1, e2, hI⟩ := op_tags hI (xs (i + 1)) (xs (i + 2))
  refine lc_S_tags (q := 615) e1 d_L_law_612 rfl (Nat.le_of_ble_eq_true rfl) ?_
  refine ok_aload_n (q := 616) 2 d_L_law_615 rfl rfl rfl ?_
  refine ok_aload_n (q := 617) 0 d_L_law_616 rfl rfl rfl ?_
  refine ok_iload_n (q := 618) 3 d_L_law_617 rfl rfl rfl ?_
  refine ok_iconst (v := (1 : Int32)) (q := 619) d_L_law_618 (by decide) rfl ?_
  refine ok_iadd (q := 620) d_L_law_619 rfl ?_
  refine lk_sld (j := i + 1) (q := 621) (nI_add i 1) (by omega) hL d_L_law_620 rfl ?_
  refine ok_aload_n (q := 622) 0 d_L_law_621 rfl rfl rfl ?_
  refine ok_iload_n (q := 623) 3 d_L_law_622 rfl rfl rfl ?_
  refine ok_iconst (v := (2 : Int32)) (q := 624) d_L_law_623 (by decide) rfl ?_
  refine ok_iadd (q := 625) d_L_law_624 rfl ?_
  refine lk_sld (j := i + 2) (q := 626) (nI_add i 2) (by omega) hL d_L_law_625 rfl ?_
  refine lc_M_tags (q := 629) e2 d_L_law_626 rfl (Nat.le_of_ble_eq_true rfl) ?_
  refine ok_icmp_eq (q := 632) (t := 683) d_L_law_629 (by decide) rfl (fun _ => ?_) (fun hn => absurd rfl hn)
  refine ok_iinc (v := nI (i + 4)) (d := (4 : Int32)) (q := 686) (lv := [(3, .int (nI (i + 4))), (0, .ref b), (1, .ref (a 0)), (2, .ref (r 0))]) 3 d_L_law_683 rfl (by decide) (nI_add i 4).symm (by decide) rfl rfl ?_
  refine ok_goto (q := 18) d_L_law_686 (by decide) ?_
  exact ok_sub [1, 2, 3, 0] rfl (ih C1 R1 hI)
set_option maxRecDepth 20000 in
set_option maxHeartbeats 4000000 in
theorem ls_16 (hL : L ≤ 2048) (hi : i + 4 ≤ L) (hI : Iv C R) (ih : ∀ C R, Iv C R → Lg l D g g2 a r b L xs C R 18 [(0, .ref b), (1, .ref (a 0)), (2, .ref (r 0)), (3, .int (nI (i + 4)))] []) : Lg l D g g2 a r b L xs C R 634 [(0, .ref b), (1, .ref (a 0)), (2, .ref (r 0)), (3, .int (nI i))] [] := by
  refine ok_aload_n (q := 635) 1 d_L_law_634 rfl rfl rfl ?_
  obtain ⟨z, C1, R1, e1, e2, hI⟩ := op_free hI
  refine lc_S_free (q := 638) e1 d_L_law_635 rfl (Nat.le_of_ble_eq_true rfl) ?_
  refine ok_aload_n (q := 639) 2 d_L_law_638 rfl rfl rfl ?_
  refine lc_M_free (q := 642) e2 d_L_law_639 rfl (Nat.le_of_ble_eq_true rfl) ?_
  refine ok_icmp_eq (q := 645) (t := 683) d_L_law_642 (by decide) rfl (fun _ => ?_) (fun hn => absurd rfl hn)
  refine ok_iinc (v := nI (i + 4)) (d := (4 : Int32)) (q := 686) (lv := [(3, .int (nI (i + 4))), (0, .ref b), (1, .ref (a 0)), (2, .ref (r 0))]) 3 d_L_law_683 rfl (by decide) (nI_add i 4).symm (by decide) rfl rfl ?_
  refine ok_goto (q := 18) d_L_law_686 (by decide) ?_
  exact ok_sub [1, 2, 3, 0] rfl (ih C1 R1 hI)
set_option maxRecDepth 20000 in
set_option maxHeartbeats 4000000 in
theorem ls_17 (hL : L ≤ 2048) (hi : i + 4 ≤ L) (hI : Iv C R) (ih : ∀ C R, Iv C R → Lg l D g g2 a r b L xs C R 18 [(0, .ref b), (1, .ref (a 0)), (2, .ref (r 0)), (3, .int (nI (i + 4)))] []) : Lg l D g g2 a r b L xs C R 647 [(0, .ref b), (1, .ref (a 0)), (2, .ref (r 0)), (3, .int (nI i))] [] := by
  refine ok_aload_n (q := 648) 1 d_L_law_647 rfl rfl rfl ?_
  refine ok_aload_n (q := 649) 0 d_L_law_648 rfl rfl rfl ?_
  refine ok_iload_n (q := 650) 3 d_L_law_649 rfl rfl rfl ?_
  refine ok_iconst (v := (1 : Int32)) (q := 651) d_L_law_650 (by decide) rfl ?_
  refine ok_iadd (q := 652) d_L_law_651 rfl ?_
  refine lk_sld (j := i + 1) (q := 653) (nI_add i 1) (by omega) hL d_L_law_652 rfl ?_
  obtain ⟨z, C1, R1, e1, e2, hI⟩ := op_erases hI (xs (i + 1))
  refine lc_S_erases (q := 656) e1 d_L_law_653 rfl (Nat.le_of_ble_eq_true rfl) ?_
  refine ok_aload_n (q := 657) 2 d_L_law_656 rfl rfl rfl ?_
  refine ok_aload_n (q := 658) 0 d_L_law_657 rfl rfl rfl ?_
  refine ok_iload_n (q := 659) 3 d_L_law_658 rfl rfl rfl ?_
  refine ok_iconst (v := (1 : Int32)) (q := 660) d_L_law_659 (by decide) rfl ?_
  refine ok_iadd (q := 661) d_L_law_660 rfl ?_
  refine lk_sld (j := i + 1) (q := 662) (nI_add i 1) (by omega) hL d_L_law_661 rfl ?_
  refine lc_M_erases (q := 665) e2 d_L_law_662 rfl (Nat.le_of_ble_eq_true rfl) ?_
  refine ok_icmp_eq (q := 668) (t := 683) d_L_law_665 (by decide) rfl (fun _ => ?_) (fun hn => absurd rfl hn)
  refine ok_iinc (v := nI (i + 4)) (d := (4 : Int32)) (q := 686) (lv := [(3, .int (nI (i + 4))), (0, .ref b), (1, .ref (a 0)), (2, .ref (r 0))]) 3 d_L_law_683 rfl (by decide) (nI_add i 4).symm (by decide) rfl rfl ?_
  refine ok_goto (q := 18) d_L_law_686 (by decide) ?_
  exact ok_sub [1, 2, 3, 0] rfl (ih C1 R1 hI)
set_option maxRecDepth 20000 in
set_option maxHeartbeats 4000000 in
theorem ls_18 (hL : L ≤ 2048) (hi : i + 4 ≤ L) (hI : Iv C R) (ih : ∀ C R, Iv C R → Lg l D g g2 a r b L xs C R 18 [(0, .ref b), (1, .ref (a 0)), (2, .ref (r 0)), (3, .int (nI (i + 4)))] []) : Lg l D g g2 a r b L xs C R 670 [(0, .ref b), (1, .ref (a 0)), (2, .ref (r 0)), (3, .int (nI i))] [] := by
  refine ok_aload_n (q := 671) 1 d_L_law_670 rfl rfl rfl ?_
  obtain ⟨z, C1, R1, e1, e2, hI⟩ := op_steps hI
  refine lc_S_steps (q := 674) e1 d_L_law_671 rfl (Nat.le_of_ble_eq_true rfl) ?_
  refine ok_aload_n (q := 675) 2 d_L_law_674 rfl rfl rfl ?_
  refine lc_M_steps (q := 678) e2 d_L_law_675 rfl (Nat.le_of_ble_eq_true rfl) ?_
  refine ok_icmp_eq (q := 681) (t := 683) d_L_law_678 (by decide) rfl (fun _ => ?_) (fun hn => absurd rfl hn)
  refine ok_iinc (v := nI (i + 4)) (d := (4 : Int32)) (q := 686) (lv := [(3, .int (nI (i + 4))), (0, .ref b), (1, .ref (a 0)), (2, .ref (r 0))]) 3 d_L_law_683 rfl (by decide) (nI_add i 4).symm (by decide) rfl rfl ?_
  refine ok_goto (q := 18) d_L_law_686 (by decide) ?_
  exact ok_sub [1, 2, 3, 0] rfl (ih C1 R1 hI)
theorem ls_d (hI : Iv C R) (ih : ∀ C R, Iv C R → Lg l D g g2 a r b L xs C R 18 [(0, .ref b), (1, .ref (a 0)), (2, .ref (r 0)), (3, .int (nI (i + 4)))] []) : Lg l D g g2 a r b L xs C R 683 [(0, .ref b), (1, .ref (a 0)), (2, .ref (r 0)), (3, .int (nI i))] [] := by
  refine ok_iinc (v := nI (i + 4)) (d := (4 : Int32)) (q := 686) (lv := [(3, .int (nI (i + 4))), (0, .ref b), (1, .ref (a 0)), (2, .ref (r 0))]) 3 d_L_law_683 rfl (by decide) (nI_add i 4).symm (by decide) rfl rfl ?_
  refine ok_goto (q := 18) d_L_law_686 (by decide) ?_
  exact ok_sub [1, 2, 3, 0] rfl (ih C R hI)
theorem law_lp (hL : L ≤ 2048) : ∀ (m i : Nat) (C : TC) (R : TR), L + 4 ≤ i + m * 4 + 3 → i ≤ 2052 → Iv C R → Lg l D g g2 a r b L xs C R 18 [(0, .ref b), (1, .ref (a 0)), (2, .ref (r 0)), (3, .int (nI i))] [] := by
  intro m
  induction m with
  | zero =>
    intro i C R hm hi2 hI
    refine ok_iload_n (q := 19) 3 d_L_law_18 rfl rfl rfl ?_
    refine ok_aload_n (q := 20) 0 d_L_law_19 rfl rfl rfl ?_
    refine lk_slen (q := 21) d_L_law_20 rfl ?_
    refine ok_iconst (v := (4 : Int32)) (q := 22) d_L_law_21 (by decide) rfl ?_
    refine ok_isub (q := 23) d_L_law_22 rfl ?_
    refine ok_icmp_gt (q := 26) (t := 689) d_L_law_23 (by decide) rfl (fun _ => ?_) (fun hn => absurd (law_gt hL hi2 (by omega)) hn)
    refine ok_iconst (v := (1 : Int32)) (q := 690) d_L_law_689 (by decide) rfl ?_
    exact lk_ret d_L_law_690
  | succ m ih =>
    intro i C R hm hi2 hI
    refine ok_iload_n (q := 19) 3 d_L_law_18 rfl rfl rfl ?_
    refine ok_aload_n (q := 20) 0 d_L_law_19 rfl rfl rfl ?_
    refine lk_slen (q := 21) d_L_law_20 rfl ?_
    refine ok_iconst (v := (4 : Int32)) (q := 22) d_L_law_21 (by decide) rfl ?_
    refine ok_isub (q := 23) d_L_law_22 rfl ?_
    refine ok_icmp_gt (q := 26) (t := 689) d_L_law_23 (by decide) rfl (fun _ => ?_) (fun hn => ?_)
    · refine ok_iconst (v := (1 : Int32)) (q := 690) d_L_law_689 (by decide) rfl ?_
      exact lk_ret d_L_law_690
    · have hi : i + 4 ≤ L := by
        by_cases w : i + 4 ≤ L
        · exact w
        · exact absurd (law_gt hL hi2 (by omega)) hn
      have ih4 : ∀ C R, Iv C R → Lg l D g g2 a r b L xs C R 18 [(0, .ref b), (1, .ref (a 0)), (2, .ref (r 0)), (3, .int (nI (i + 4)))] [] := fun C R hI => ih (i + 4) C R (by omega) (by omega) hI
      refine ok_aload_n (q := 27) 0 d_L_law_26 rfl rfl rfl ?_
      refine ok_iload_n (q := 28) 3 d_L_law_27 rfl rfl rfl ?_
      refine lk_sld (j := i) (q := 29) rfl (by omega) hL d_L_law_28 rfl ?_
      refine ok_bipush (v := (31 : Int32)) (q := 31) d_L_law_29 (by decide) rfl ?_
      refine ok_iand (q := 32) d_L_law_31 rfl ?_
      obtain ⟨k, hk, ek⟩ := pk_andE (xs i) (m := 31) 5 (by decide)
      rw [ek]
      have ti : (nI k).toInt = (k : Int) := nI_toInt (by omega)
      by_cases w : 19 ≤ k
      · exact lk_tabOut (t := 683) d_L_law_32 (Or.inr (by rw [ti]; omega)) (by decide) (ls_d hI ih4)
      · have n1 : ¬ (nI k).toInt < 0 := by rw [ti]; omega
        have n2 : ¬ 18 < (nI k).toInt := by rw [ti]; omega
        have hk2 : k = 0 ∨ k = 1 ∨ k = 2 ∨ k = 3 ∨ k = 4 ∨ k = 5 ∨ k = 6 ∨ k = 7 ∨ k = 8 ∨ k = 9 ∨ k = 10 ∨ k = 11 ∨ k = 12 ∨ k = 13 ∨ k = 14 ∨ k = 15 ∨ k = 16 ∨ k = 17 ∨ k = 18 := by omega
        rcases hk2 with w | w | w | w | w | w | w | w | w | w | w | w | w | w | w | w | w | w | w <;> subst w
        · exact lk_tabIn (off := 92) (t := 124) d_L_law_32 n1 n2 (by rw [ti]; rfl) (by decide) (ls_0 hL hi hI ih4)
        · exact lk_tabIn (off := 151) (t := 183) d_L_law_32 n1 n2 (by rw [ti]; rfl) (by decide) (ls_1 hL hi hI ih4)
        · exact lk_tabIn (off := 194) (t := 226) d_L_law_32 n1 n2 (by rw [ti]; rfl) (by decide) (ls_2 hL hi hI ih4)
        · exact lk_tabIn (off := 228) (t := 260) d_L_law_32 n1 n2 (by rw [ti]; rfl) (by decide) (ls_3 hL hi hI ih4)
        · exact lk_tabIn (off := 261) (t := 293) d_L_law_32 n1 n2 (by rw [ti]; rfl) (by decide) (ls_4 hL hi hI ih4)
        · exact lk_tabIn (off := 304) (t := 336) d_L_law_32 n1 n2 (by rw [ti]; rfl) (by decide) (ls_5 hL hi hI ih4)
        · exact lk_tabIn (off := 327) (t := 359) d_L_law_32 n1 n2 (by rw [ti]; rfl) (by decide) (ls_6 hL hi hI ih4)
        · exact lk_tabIn (off := 360) (t := 392) d_L_law_32 n1 n2 (by rw [ti]; rfl) (by decide) (ls_7 hL hi hI ih4)
        · exact lk_tabIn (off := 383) (t := 415) d_L_law_32 n1 n2 (by rw [ti]; rfl) (by decide) (ls_8 hL hi hI ih4)
        · exact lk_tabIn (off := 406) (t := 438) d_L_law_32 n1 n2 (by rw [ti]; rfl) (by decide) (ls_9 hL hi hI ih4)
        · exact lk_tabIn (off := 430) (t := 462) d_L_law_32 n1 n2 (by rw [ti]; rfl) (by decide) (ls_10 hL hi hI ih4)
        · exact lk_tabIn (off := 443) (t := 475) d_L_law_32 n1 n2 (by rw [ti]; rfl) (by decide) (ls_11 hL hi hI ih4)
        · exact lk_tabIn (off := 482) (t := 514) d_L_law_32 n1 n2 (by rw [ti]; rfl) (by decide) (ls_12 hL hi hI ih4)
        · exact lk_tabIn (off := 503) (t := 535) d_L_law_32 n1 n2 (by rw [ti]; rfl) (by decide) (ls_13 hL hi hI ih4)
        · exact lk_tabIn (off := 546) (t := 578) d_L_law_32 n1 n2 (by rw [ti]; rfl) (by decide) (ls_14 hL hi hI ih4)
        · exact lk_tabIn (off := 569) (t := 601) d_L_law_32 n1 n2 (by rw [ti]; rfl) (by decide) (ls_15 hL hi hI ih4)
        · exact lk_tabIn (off := 602) (t := 634) d_L_law_32 n1 n2 (by rw [ti]; rfl) (by decide) (ls_16 hL hi hI ih4)
        · exact lk_tabIn (off := 615) (t := 647) d_L_law_32 n1 n2 (by rw [ti]; rfl) (by decide) (ls_17 hL hi hI ih4)
        · exact lk_tabIn (off := 638) (t := 670) d_L_law_32 n1 n2 (by rw [ti]; rfl) (by decide) (ls_18 hL hi hI ih4)
end LCASE
