section WALK
variable {l : Launch} {D : va_G} {g : Nat → ClassId} {a r : Nat → Nat}
set_option maxRecDepth 20000 in
set_option maxHeartbeats 4000000 in
theorem wl_M_mount_175 (n : Nat) : ∀ (p3 : Int32) (p4 : Int32) (S : TR) (z : Int32) (Sz : TR), lp_M_mount_175 n S p3 p4 = some (z, Sz) → Ok (wR g r) D (tyR g) l rm_M_mount R_M b_M_mount 6 (some .int) S 175 [(0, .ref (r 0)), (3, .int p3), (4, .int p4)] [] (pI z Sz) := by
  induction n with
  | zero => intro p3 p4 S z Sz h; exact absurd h (fun h => by cases h)
  | succ n ih =>
    intro p3 p4 S z Sz h
    rw [le_M_mount_175] at h
    refine ok_iload (q := 177) 2 d_M_mount_175 rfl rfl ?_
    refine ok_bipush (v := (48 : Int32)) (q := 179) d_M_mount_177 (by decide) rfl ?_
    refine ok_icmp_ge (q := 182) (t := 210) d_M_mount_179 (by decide) rfl (fun hc => ?_) (fun hc => ?_)
    · replace h := if_t hc h
      refine ok_iload_n (q := 211) 1 d_M_mount_210 rfl rfl rfl ?_
      obtain ⟨rfl, rfl⟩ := so_e h
      exact ok_iret d_M_mount_211 ⟨rfl, rfl⟩
    · replace h := if_f hc h
      refine ok_aload_n (q := 183) 0 d_M_mount_182 rfl rfl rfl ?_
      refine gf_M_41 (q := 186) d_M_mount_183 rfl ?_
      refine ok_iload (q := 188) 2 d_M_mount_186 rfl rfl ?_
      obtain ⟨hg, h⟩ := gd_e h
      obtain ⟨x1, e_x1, h⟩ := st_e h
      refine al_M_11 (q := 189) hg e_x1 d_M_mount_188 rfl ?_
      refine ok_if_eq (q := 192) (t := 204) d_M_mount_189 (by decide) rfl (fun hc => ?_) (fun hc => ?_)
      · replace h := if_t hc h
        obtain ⟨x2, e_x2, h⟩ := st_e h
        refine ok_iinc (d := (1 : Int32)) (q := 207) (lv := [(4, .int x2), (0, .ref (r 0)), (3, .int p3)]) 2 d_M_mount_204 rfl (by decide) e_x2 (by decide) rfl rfl ?_
        refine ok_goto (q := 175) d_M_mount_207 (by decide) ?_
        exact ok_sub [1, 2, 0] rfl (ih p3 x2 _ _ _ h)
      · replace h := if_f hc h
        refine ok_aload_n (q := 193) 0 d_M_mount_192 rfl rfl rfl ?_
        refine ok_iload (q := 195) 2 d_M_mount_193 rfl rfl ?_
        obtain ⟨x5, S3, hk, h⟩ := bd_e h
        refine cs_M_107 (q := 198) hk d_M_mount_195 rfl (by decide) (Nat.le_of_ble_eq_true rfl) ?_
        refine ok_if_ne (q := 201) (t := 204) d_M_mount_198 (by decide) rfl (fun hc => ?_) (fun hc => ?_)
        · replace h := if_f hc h
          obtain ⟨x6, e_x6, h⟩ := st_e h
          refine ok_iinc (d := (1 : Int32)) (q := 207) (lv := [(4, .int x6), (0, .ref (r 0)), (3, .int p3)]) 2 d_M_mount_204 rfl (by decide) e_x6 (by decide) rfl rfl ?_
          refine ok_goto (q := 175) d_M_mount_207 (by decide) ?_
          exact ok_sub [1, 2, 0] rfl (ih p3 x6 _ _ _ h)
        · replace h := if_t hc h
          refine ok_bipush (v := (-9 : Int32)) (q := 203) d_M_mount_201 (by decide) rfl ?_
          obtain ⟨rfl, rfl⟩ := so_e h
          exact ok_iret d_M_mount_203 ⟨rfl, rfl⟩
set_option maxRecDepth 20000 in
set_option maxHeartbeats 4000000 in
theorem wl_M_mount_84 (n : Nat) : ∀ (p3 : Int32) (p4 : Int32) (S : TR) (z : Int32) (Sz : TR), lp_M_mount_84 n S p3 p4 = some (z, Sz) → Ok (wR g r) D (tyR g) l rm_M_mount R_M b_M_mount 6 (some .int) S 84 [(0, .ref (r 0)), (3, .int p3), (4, .int p4)] [] (pI z Sz) := by
  induction n with
  | zero => intro p3 p4 S z Sz h; exact absurd h (fun h => by cases h)
  | succ n ih =>
    intro p3 p4 S z Sz h
    rw [le_M_mount_84] at h
    refine ok_iload (q := 86) 2 d_M_mount_84 rfl rfl ?_
    refine ok_bipush (v := (48 : Int32)) (q := 88) d_M_mount_86 (by decide) rfl ?_
    refine ok_icmp_ge (q := 91) (t := 172) d_M_mount_88 (by decide) rfl (fun hc => ?_) (fun hc => ?_)
    · replace h := if_t hc h
      refine ok_iconst (v := (0 : Int32)) (q := 173) d_M_mount_172 (by decide) rfl ?_
      refine ok_istore (q := 175) (lv := [(4, .int (0 : Int32)), (0, .ref (r 0)), (3, .int p3)]) d_M_mount_173 (by decide) rfl rfl ?_
      exact ok_sub [1, 2, 0] rfl (wl_M_mount_175 64 p3 (0 : Int32) _ _ _ h)
    · replace h := if_f hc h
      refine ok_aload_n (q := 92) 0 d_M_mount_91 rfl rfl rfl ?_
      refine gf_M_16 (q := 95) d_M_mount_92 rfl ?_
      refine ok_iload (q := 97) 2 d_M_mount_95 rfl rfl ?_
      obtain ⟨hg, h⟩ := gd_e h
      obtain ⟨x1, e_x1, h⟩ := st_e h
      refine al_M_3 (q := 98) hg e_x1 d_M_mount_97 rfl ?_
      refine ok_if_eq (q := 101) (t := 126) d_M_mount_98 (by decide) rfl (fun hc => ?_) (fun hc => ?_)
      · replace h := if_t hc h
        refine ok_iconst (v := (0 : Int32)) (q := 127) d_M_mount_126 (by decide) rfl ?_
        refine ok_istore (q := 129) (lv := [(5, .int (0 : Int32)), (0, .ref (r 0)), (3, .int p3), (4, .int p4)]) d_M_mount_127 (by decide) rfl rfl ?_
        refine ok_aload_n (q := 130) 1 d_M_mount_129 rfl rfl rfl ?_
        refine gf_M_41 (q := 133) d_M_mount_130 rfl ?_
        refine ok_iload (q := 135) 3 d_M_mount_133 rfl rfl ?_
        refine ok_aload_n (q := 136) 1 d_M_mount_135 rfl rfl rfl ?_
        refine gf_M_7 (q := 139) d_M_mount_136 rfl ?_
        refine ok_iload (q := 141) 3 d_M_mount_139 rfl rfl ?_
        obtain ⟨hg, h⟩ := gd_e h
        obtain ⟨x2, e_x2, h⟩ := st_e h
        refine al_M_1 (q := 142) hg e_x2 d_M_mount_141 rfl ?_
        refine ok_iconst (v := (1 : Int32)) (q := 143) d_M_mount_142 (by decide) rfl ?_
        refine ok_icmp_ne (q := 146) (t := 164) d_M_mount_143 (by decide) rfl (fun hc => ?_) (fun hc => ?_)
        · replace h := if_f hc h
          refine ok_iconst (v := (0 : Int32)) (q := 165) d_M_mount_164 (by decide) rfl ?_
          obtain ⟨hi, h⟩ := gd_e h
          obtain ⟨S3, e_S3, h⟩ := st_e h
          refine as_M_11 (q := 166) hi e_S3 (by decide) d_M_mount_165 rfl ?_
          obtain ⟨x4, e_x4, h⟩ := st_e h
          refine ok_iinc (d := (1 : Int32)) (q := 169) (lv := [(4, .int x4), (5, .int (0 : Int32)), (0, .ref (r 0)), (3, .int p3)]) 3 d_M_mount_166 rfl (by decide) e_x4 (by decide) rfl rfl ?_
          refine ok_goto (q := 84) d_M_mount_169 (by decide) ?_
          exact ok_sub [2, 3, 0] rfl (ih p3 x4 _ _ _ h)
        · replace h := if_t hc h
          refine ok_aload_n (q := 147) 1 d_M_mount_146 rfl rfl rfl ?_
          refine ok_iload (q := 149) 3 d_M_mount_147 rfl rfl ?_
          obtain ⟨x7, S5, hk, h⟩ := bd_e h
          refine cs_M_173 (q := 152) hk d_M_mount_149 rfl (by decide) (Nat.le_of_ble_eq_true rfl) ?_
          refine ok_if_ne (q := 155) (t := 160) d_M_mount_152 (by decide) rfl (fun hc => ?_) (fun hc => ?_)
          · replace h := if_f hc h
            refine ok_iconst (v := (1 : Int32)) (q := 161) d_M_mount_160 (by decide) rfl ?_
            refine ok_goto (q := 165) d_M_mount_161 (by decide) ?_
            obtain ⟨hi, h⟩ := gd_e h
            obtain ⟨S8, e_S8, h⟩ := st_e h
            refine as_M_11 (q := 166) hi e_S8 (by decide) d_M_mount_165 rfl ?_
            obtain ⟨x9, e_x9, h⟩ := st_e h
            refine ok_iinc (d := (1 : Int32)) (q := 169) (lv := [(4, .int x9), (5, .int (0 : Int32)), (0, .ref (r 0)), (3, .int p3)]) 3 d_M_mount_166 rfl (by decide) e_x9 (by decide) rfl rfl ?_
            refine ok_goto (q := 84) d_M_mount_169 (by decide) ?_
            exact ok_sub [2, 3, 0] rfl (ih p3 x9 _ _ _ h)
          · replace h := if_t hc h
            refine ok_iload (q := 157) 0 d_M_mount_155 rfl rfl ?_
            refine ok_if_eq (q := 160) (t := 164) d_M_mount_157 (by decide) rfl (fun _ => ?_) (fun hn => absurd hn (by decide))
            refine ok_iconst (v := (0 : Int32)) (q := 165) d_M_mount_164 (by decide) rfl ?_
            obtain ⟨hi, h⟩ := gd_e h
            obtain ⟨S10, e_S10, h⟩ := st_e h
            refine as_M_11 (q := 166) hi e_S10 (by decide) d_M_mount_165 rfl ?_
            obtain ⟨x11, e_x11, h⟩ := st_e h
            refine ok_iinc (d := (1 : Int32)) (q := 169) (lv := [(4, .int x11), (5, .int (0 : Int32)), (0, .ref (r 0)), (3, .int p3)]) 3 d_M_mount_166 rfl (by decide) e_x11 (by decide) rfl rfl ?_
            refine ok_goto (q := 84) d_M_mount_169 (by decide) ?_
            exact ok_sub [2, 3, 0] rfl (ih p3 x11 _ _ _ h)
      · replace h := if_f hc h
        refine ok_aload_n (q := 102) 0 d_M_mount_101 rfl rfl rfl ?_
        refine gf_M_16 (q := 105) d_M_mount_102 rfl ?_
        refine ok_iload (q := 107) 2 d_M_mount_105 rfl rfl ?_
        obtain ⟨hg, h⟩ := gd_e h
        obtain ⟨x12, e_x12, h⟩ := st_e h
        refine al_M_3 (q := 108) hg e_x12 d_M_mount_107 rfl ?_
        refine ok_aload_n (q := 109) 0 d_M_mount_108 rfl rfl rfl ?_
        refine ok_aload_n (q := 110) 0 d_M_mount_109 rfl rfl rfl ?_
        refine gf_M_13 (q := 113) d_M_mount_110 rfl ?_
        refine ok_iload (q := 115) 2 d_M_mount_113 rfl rfl ?_
        obtain ⟨hg, h⟩ := gd_e h
        obtain ⟨x13, e_x13, h⟩ := st_e h
        refine al_M_2 (q := 116) hg e_x13 d_M_mount_115 rfl ?_
        obtain ⟨x16, S14, hk, h⟩ := bd_e h
        refine cs_M_176 (q := 119) hk d_M_mount_116 rfl (by decide) (Nat.le_of_ble_eq_true rfl) ?_
        refine ok_icmp_le (q := 122) (t := 126) d_M_mount_119 (by decide) rfl (fun hc => ?_) (fun hc => ?_)
        · replace h := if_t hc h
          refine ok_iconst (v := (0 : Int32)) (q := 127) d_M_mount_126 (by decide) rfl ?_
          refine ok_istore (q := 129) (lv := [(5, .int (0 : Int32)), (0, .ref (r 0)), (3, .int p3), (4, .int p4)]) d_M_mount_127 (by decide) rfl rfl ?_
          refine ok_aload_n (q := 130) 1 d_M_mount_129 rfl rfl rfl ?_
          refine gf_M_41 (q := 133) d_M_mount_130 rfl ?_
          refine ok_iload (q := 135) 3 d_M_mount_133 rfl rfl ?_
          refine ok_aload_n (q := 136) 1 d_M_mount_135 rfl rfl rfl ?_
          refine gf_M_7 (q := 139) d_M_mount_136 rfl ?_
          refine ok_iload (q := 141) 3 d_M_mount_139 rfl rfl ?_
          obtain ⟨hg, h⟩ := gd_e h
          obtain ⟨x17, e_x17, h⟩ := st_e h
          refine al_M_1 (q := 142) hg e_x17 d_M_mount_141 rfl ?_
          refine ok_iconst (v := (1 : Int32)) (q := 143) d_M_mount_142 (by decide) rfl ?_
          refine ok_icmp_ne (q := 146) (t := 164) d_M_mount_143 (by decide) rfl (fun hc => ?_) (fun hc => ?_)
          · replace h := if_f hc h
            refine ok_iconst (v := (0 : Int32)) (q := 165) d_M_mount_164 (by decide) rfl ?_
            obtain ⟨hi, h⟩ := gd_e h
            obtain ⟨S18, e_S18, h⟩ := st_e h
            refine as_M_11 (q := 166) hi e_S18 (by decide) d_M_mount_165 rfl ?_
            obtain ⟨x19, e_x19, h⟩ := st_e h
            refine ok_iinc (d := (1 : Int32)) (q := 169) (lv := [(4, .int x19), (5, .int (0 : Int32)), (0, .ref (r 0)), (3, .int p3)]) 3 d_M_mount_166 rfl (by decide) e_x19 (by decide) rfl rfl ?_
            refine ok_goto (q := 84) d_M_mount_169 (by decide) ?_
            exact ok_sub [2, 3, 0] rfl (ih p3 x19 _ _ _ h)
          · replace h := if_t hc h
            refine ok_aload_n (q := 147) 1 d_M_mount_146 rfl rfl rfl ?_
            refine ok_iload (q := 149) 3 d_M_mount_147 rfl rfl ?_
            obtain ⟨x22, S20, hk, h⟩ := bd_e h
            refine cs_M_173 (q := 152) hk d_M_mount_149 rfl (by decide) (Nat.le_of_ble_eq_true rfl) ?_
            refine ok_if_ne (q := 155) (t := 160) d_M_mount_152 (by decide) rfl (fun hc => ?_) (fun hc => ?_)
            · replace h := if_f hc h
              refine ok_iconst (v := (1 : Int32)) (q := 161) d_M_mount_160 (by decide) rfl ?_
              refine ok_goto (q := 165) d_M_mount_161 (by decide) ?_
              obtain ⟨hi, h⟩ := gd_e h
              obtain ⟨S23, e_S23, h⟩ := st_e h
              refine as_M_11 (q := 166) hi e_S23 (by decide) d_M_mount_165 rfl ?_
              obtain ⟨x24, e_x24, h⟩ := st_e h
              refine ok_iinc (d := (1 : Int32)) (q := 169) (lv := [(4, .int x24), (5, .int (0 : Int32)), (0, .ref (r 0)), (3, .int p3)]) 3 d_M_mount_166 rfl (by decide) e_x24 (by decide) rfl rfl ?_
              refine ok_goto (q := 84) d_M_mount_169 (by decide) ?_
              exact ok_sub [2, 3, 0] rfl (ih p3 x24 _ _ _ h)
            · replace h := if_t hc h
              refine ok_iload (q := 157) 0 d_M_mount_155 rfl rfl ?_
              refine ok_if_eq (q := 160) (t := 164) d_M_mount_157 (by decide) rfl (fun _ => ?_) (fun hn => absurd hn (by decide))
              refine ok_iconst (v := (0 : Int32)) (q := 165) d_M_mount_164 (by decide) rfl ?_
              obtain ⟨hi, h⟩ := gd_e h
              obtain ⟨S25, e_S25, h⟩ := st_e h
              refine as_M_11 (q := 166) hi e_S25 (by decide) d_M_mount_165 rfl ?_
              obtain ⟨x26, e_x26, h⟩ := st_e h
              refine ok_iinc (d := (1 : Int32)) (q := 169) (lv := [(4, .int x26), (5, .int (0 : Int32)), (0, .ref (r 0)), (3, .int p3)]) 3 d_M_mount_166 rfl (by decide) e_x26 (by decide) rfl rfl ?_
              refine ok_goto (q := 84) d_M_mount_169 (by decide) ?_
              exact ok_sub [2, 3, 0] rfl (ih p3 x26 _ _ _ h)
        · replace h := if_f hc h
          refine ok_iconst (v := (1 : Int32)) (q := 123) d_M_mount_122 (by decide) rfl ?_
          refine ok_goto (q := 127) d_M_mount_123 (by decide) ?_
          refine ok_istore (q := 129) (lv := [(5, .int (1 : Int32)), (0, .ref (r 0)), (3, .int p3), (4, .int p4)]) d_M_mount_127 (by decide) rfl rfl ?_
          refine ok_aload_n (q := 130) 1 d_M_mount_129 rfl rfl rfl ?_
          refine gf_M_41 (q := 133) d_M_mount_130 rfl ?_
          refine ok_iload (q := 135) 3 d_M_mount_133 rfl rfl ?_
          refine ok_aload_n (q := 136) 1 d_M_mount_135 rfl rfl rfl ?_
          refine gf_M_7 (q := 139) d_M_mount_136 rfl ?_
          refine ok_iload (q := 141) 3 d_M_mount_139 rfl rfl ?_
          obtain ⟨hg, h⟩ := gd_e h
          obtain ⟨x27, e_x27, h⟩ := st_e h
          refine al_M_1 (q := 142) hg e_x27 d_M_mount_141 rfl ?_
          refine ok_iconst (v := (1 : Int32)) (q := 143) d_M_mount_142 (by decide) rfl ?_
          refine ok_icmp_ne (q := 146) (t := 164) d_M_mount_143 (by decide) rfl (fun hc => ?_) (fun hc => ?_)
          · replace h := if_f hc h
            refine ok_iconst (v := (0 : Int32)) (q := 165) d_M_mount_164 (by decide) rfl ?_
            obtain ⟨hi, h⟩ := gd_e h
            obtain ⟨S28, e_S28, h⟩ := st_e h
            refine as_M_11 (q := 166) hi e_S28 (by decide) d_M_mount_165 rfl ?_
            obtain ⟨x29, e_x29, h⟩ := st_e h
            refine ok_iinc (d := (1 : Int32)) (q := 169) (lv := [(4, .int x29), (5, .int (1 : Int32)), (0, .ref (r 0)), (3, .int p3)]) 3 d_M_mount_166 rfl (by decide) e_x29 (by decide) rfl rfl ?_
            refine ok_goto (q := 84) d_M_mount_169 (by decide) ?_
            exact ok_sub [2, 3, 0] rfl (ih p3 x29 _ _ _ h)
          · replace h := if_t hc h
            refine ok_aload_n (q := 147) 1 d_M_mount_146 rfl rfl rfl ?_
            refine ok_iload (q := 149) 3 d_M_mount_147 rfl rfl ?_
            obtain ⟨x32, S30, hk, h⟩ := bd_e h
            refine cs_M_173 (q := 152) hk d_M_mount_149 rfl (by decide) (Nat.le_of_ble_eq_true rfl) ?_
            refine ok_if_ne (q := 155) (t := 160) d_M_mount_152 (by decide) rfl (fun hc => ?_) (fun hc => ?_)
            · replace h := if_f hc h
              refine ok_iconst (v := (1 : Int32)) (q := 161) d_M_mount_160 (by decide) rfl ?_
              refine ok_goto (q := 165) d_M_mount_161 (by decide) ?_
              obtain ⟨hi, h⟩ := gd_e h
              obtain ⟨S33, e_S33, h⟩ := st_e h
              refine as_M_11 (q := 166) hi e_S33 (by decide) d_M_mount_165 rfl ?_
              obtain ⟨x34, e_x34, h⟩ := st_e h
              refine ok_iinc (d := (1 : Int32)) (q := 169) (lv := [(4, .int x34), (5, .int (1 : Int32)), (0, .ref (r 0)), (3, .int p3)]) 3 d_M_mount_166 rfl (by decide) e_x34 (by decide) rfl rfl ?_
              refine ok_goto (q := 84) d_M_mount_169 (by decide) ?_
              exact ok_sub [2, 3, 0] rfl (ih p3 x34 _ _ _ h)
            · replace h := if_t hc h
              refine ok_iload (q := 157) 0 d_M_mount_155 rfl rfl ?_
              refine ok_if_eq (q := 160) (t := 164) d_M_mount_157 (by decide) rfl (fun hn => absurd hn (by decide)) (fun _ => ?_)
              refine ok_iconst (v := (1 : Int32)) (q := 161) d_M_mount_160 (by decide) rfl ?_
              refine ok_goto (q := 165) d_M_mount_161 (by decide) ?_
              obtain ⟨hi, h⟩ := gd_e h
              obtain ⟨S35, e_S35, h⟩ := st_e h
              refine as_M_11 (q := 166) hi e_S35 (by decide) d_M_mount_165 rfl ?_
              obtain ⟨x36, e_x36, h⟩ := st_e h
              refine ok_iinc (d := (1 : Int32)) (q := 169) (lv := [(4, .int x36), (5, .int (1 : Int32)), (0, .ref (r 0)), (3, .int p3)]) 3 d_M_mount_166 rfl (by decide) e_x36 (by decide) rfl rfl ?_
              refine ok_goto (q := 84) d_M_mount_169 (by decide) ?_
              exact ok_sub [2, 3, 0] rfl (ih p3 x36 _ _ _ h)
set_option maxRecDepth 20000 in
set_option maxHeartbeats 4000000 in
theorem wl_M_mount_35 (n : Nat) : ∀ (p2 : Int32) (p3 : Int32) (p4 : Int32) (S : TR) (z : Int32) (Sz : TR), lp_M_mount_35 n S p2 p3 p4 = some (z, Sz) → Ok (wR g r) D (tyR g) l rm_M_mount R_M b_M_mount 6 (some .int) S 35 [(0, .ref (r 0)), (2, .int p2), (3, .int p3), (4, .int p4)] [] (pI z Sz) := by
  induction n with
  | zero => intro p2 p3 p4 S z Sz h; exact absurd h (fun h => by cases h)
  | succ n ih =>
    intro p2 p3 p4 S z Sz h
    rw [le_M_mount_35] at h
    refine ok_iload (q := 37) 3 d_M_mount_35 rfl rfl ?_
    refine ok_bipush (v := (6 : Int32)) (q := 39) d_M_mount_37 (by decide) rfl ?_
    refine ok_icmp_ge (q := 42) (t := 81) d_M_mount_39 (by decide) rfl (fun hc => ?_) (fun hc => ?_)
    · replace h := if_t hc h
      refine ok_iconst (v := (0 : Int32)) (q := 82) d_M_mount_81 (by decide) rfl ?_
      refine ok_istore (q := 84) (lv := [(4, .int (0 : Int32)), (0, .ref (r 0)), (2, .int p2), (3, .int p3)]) d_M_mount_82 (by decide) rfl rfl ?_
      exact ok_sub [1, 3, 0] rfl (wl_M_mount_84 64 p3 (0 : Int32) _ _ _ h)
    · replace h := if_f hc h
      refine ok_iload_n (q := 43) 2 d_M_mount_42 rfl rfl rfl ?_
      refine ok_aload_n (q := 44) 0 d_M_mount_43 rfl rfl rfl ?_
      refine gf_M_44 (q := 47) d_M_mount_44 rfl ?_
      refine ok_iload (q := 49) 3 d_M_mount_47 rfl rfl ?_
      obtain ⟨hg, h⟩ := gd_e h
      obtain ⟨x1, e_x1, h⟩ := st_e h
      refine al_M_12 (q := 50) hg e_x1 d_M_mount_49 rfl ?_
      refine ok_if_ne (q := 53) (t := 72) d_M_mount_50 (by decide) rfl (fun hc => ?_) (fun hc => ?_)
      · replace h := if_f hc h
        refine ok_iconst (v := (0 : Int32)) (q := 73) d_M_mount_72 (by decide) rfl ?_
        refine ok_iadd (q := 74) d_M_mount_73 rfl ?_
        obtain ⟨x2, e_x2, h⟩ := st_e h
        refine ok_topi e_x2 ?_
        refine ok_istore_n (q := 75) (lv := [(3, .int x2), (0, .ref (r 0)), (2, .int p2), (4, .int p4)]) d_M_mount_74 rfl (by decide) rfl rfl ?_
        obtain ⟨x3, e_x3, h⟩ := st_e h
        refine ok_iinc (d := (1 : Int32)) (q := 78) (lv := [(4, .int x3), (3, .int x2), (0, .ref (r 0)), (2, .int p2)]) 3 d_M_mount_75 rfl (by decide) e_x3 (by decide) rfl rfl ?_
        refine ok_goto (q := 35) d_M_mount_78 (by decide) ?_
        exact ok_sub [2, 3, 1, 0] rfl (ih p2 x2 x3 _ _ _ h)
      · replace h := if_t hc h
        refine ok_iload_n (q := 54) 1 d_M_mount_53 rfl rfl rfl ?_
        refine ok_if_ne (q := 57) (t := 67) d_M_mount_54 (by decide) rfl (fun hc => ?_) (fun hc => ?_)
        · replace h := if_f hc h
          refine ok_bipush (v := (8 : Int32)) (q := 69) d_M_mount_67 (by decide) rfl ?_
          refine ok_goto (q := 73) d_M_mount_69 (by decide) ?_
          refine ok_iadd (q := 74) d_M_mount_73 rfl ?_
          obtain ⟨x4, e_x4, h⟩ := st_e h
          refine ok_topi e_x4 ?_
          refine ok_istore_n (q := 75) (lv := [(3, .int x4), (0, .ref (r 0)), (2, .int p2), (4, .int p4)]) d_M_mount_74 rfl (by decide) rfl rfl ?_
          obtain ⟨x5, e_x5, h⟩ := st_e h
          refine ok_iinc (d := (1 : Int32)) (q := 78) (lv := [(4, .int x5), (3, .int x4), (0, .ref (r 0)), (2, .int p2)]) 3 d_M_mount_75 rfl (by decide) e_x5 (by decide) rfl rfl ?_
          refine ok_goto (q := 35) d_M_mount_78 (by decide) ?_
          exact ok_sub [2, 3, 1, 0] rfl (ih p2 x4 x5 _ _ _ h)
        · replace h := if_t hc h
          refine ok_aload_n (q := 58) 0 d_M_mount_57 rfl rfl rfl ?_
          refine gf_M_50 (q := 61) d_M_mount_58 rfl ?_
          refine ok_iload (q := 63) 3 d_M_mount_61 rfl rfl ?_
          obtain ⟨hg, h⟩ := gd_e h
          obtain ⟨x6, e_x6, h⟩ := st_e h
          refine al_M_14 (q := 64) hg e_x6 d_M_mount_63 rfl ?_
          refine ok_if_eq (q := 67) (t := 72) d_M_mount_64 (by decide) rfl (fun hc => ?_) (fun hc => ?_)
          · replace h := if_t hc h
            refine ok_iconst (v := (0 : Int32)) (q := 73) d_M_mount_72 (by decide) rfl ?_
            refine ok_iadd (q := 74) d_M_mount_73 rfl ?_
            obtain ⟨x7, e_x7, h⟩ := st_e h
            refine ok_topi e_x7 ?_
            refine ok_istore_n (q := 75) (lv := [(3, .int x7), (0, .ref (r 0)), (2, .int p2), (4, .int p4)]) d_M_mount_74 rfl (by decide) rfl rfl ?_
            obtain ⟨x8, e_x8, h⟩ := st_e h
            refine ok_iinc (d := (1 : Int32)) (q := 78) (lv := [(4, .int x8), (3, .int x7), (0, .ref (r 0)), (2, .int p2)]) 3 d_M_mount_75 rfl (by decide) e_x8 (by decide) rfl rfl ?_
            refine ok_goto (q := 35) d_M_mount_78 (by decide) ?_
            exact ok_sub [2, 3, 1, 0] rfl (ih p2 x7 x8 _ _ _ h)
          · replace h := if_f hc h
            refine ok_bipush (v := (8 : Int32)) (q := 69) d_M_mount_67 (by decide) rfl ?_
            refine ok_goto (q := 73) d_M_mount_69 (by decide) ?_
            refine ok_iadd (q := 74) d_M_mount_73 rfl ?_
            obtain ⟨x9, e_x9, h⟩ := st_e h
            refine ok_topi e_x9 ?_
            refine ok_istore_n (q := 75) (lv := [(3, .int x9), (0, .ref (r 0)), (2, .int p2), (4, .int p4)]) d_M_mount_74 rfl (by decide) rfl rfl ?_
            obtain ⟨x10, e_x10, h⟩ := st_e h
            refine ok_iinc (d := (1 : Int32)) (q := 78) (lv := [(4, .int x10), (3, .int x9), (0, .ref (r 0)), (2, .int p2)]) 3 d_M_mount_75 rfl (by decide) e_x10 (by decide) rfl rfl ?_
            refine ok_goto (q := 35) d_M_mount_78 (by decide) ?_
            exact ok_sub [2, 3, 1, 0] rfl (ih p2 x9 x10 _ _ _ h)
set_option maxRecDepth 20000 in
set_option maxHeartbeats 4000000 in
theorem wk_M_mount (p1 : Int32) (S : TR) (z : Int32) (Sz : TR) (h : fn_M_mount S p1 = some (z, Sz)) : Ok (wR g r) D (tyR g) l rm_M_mount R_M b_M_mount 6 (some .int) S 0 [(0, .ref (r 0)), (1, .int p1)] [] (pI z Sz) := by
  unfold fn_M_mount at h
  refine ok_aload_n (q := 1) 0 d_M_mount_0 rfl rfl rfl ?_
  refine ok_iconst (v := (1 : Int32)) (q := 2) d_M_mount_1 (by decide) rfl ?_
  obtain ⟨S1, e_S1, h⟩ := st_e h
  refine pf_M_56 (q := 5) e_S1 (by decide) d_M_mount_2 rfl ?_
  refine ok_iload_n (q := 6) 1 d_M_mount_5 rfl rfl rfl ?_
  refine ok_if_ne (q := 9) (t := 16) d_M_mount_6 (by decide) rfl (fun hc => ?_) (fun hc => ?_)
  · replace h := if_f hc h
    refine ok_iconst (v := (1 : Int32)) (q := 17) d_M_mount_16 (by decide) rfl ?_
    refine ok_goto (q := 21) d_M_mount_17 (by decide) ?_
    refine ok_istore_n (q := 22) (lv := [(2, .int (1 : Int32)), (0, .ref (r 0)), (1, .int p1)]) d_M_mount_21 rfl (by decide) rfl rfl ?_
    refine ok_iload_n (q := 23) 0 d_M_mount_22 rfl rfl rfl ?_
    refine ok_if_eq (q := 26) (t := 30) d_M_mount_23 (by decide) rfl (fun hn => absurd hn (by decide)) (fun _ => ?_)
    refine ok_iconst (v := (0 : Int32)) (q := 27) d_M_mount_26 (by decide) rfl ?_
    refine ok_goto (q := 31) d_M_mount_27 (by decide) ?_
    refine ok_istore_n (q := 32) (lv := [(3, .int (0 : Int32)), (2, .int (1 : Int32)), (0, .ref (r 0)), (1, .int p1)]) d_M_mount_31 rfl (by decide) rfl rfl ?_
    refine ok_iconst (v := (0 : Int32)) (q := 33) d_M_mount_32 (by decide) rfl ?_
    refine ok_istore (q := 35) (lv := [(4, .int (0 : Int32)), (3, .int (0 : Int32)), (2, .int (1 : Int32)), (0, .ref (r 0)), (1, .int p1)]) d_M_mount_33 (by decide) rfl rfl ?_
    exact ok_sub [3, 2, 1, 0] rfl (wl_M_mount_35 64 (1 : Int32) (0 : Int32) (0 : Int32) _ _ _ h)
  · replace h := if_t hc h
    refine ok_aload_n (q := 10) 0 d_M_mount_9 rfl rfl rfl ?_
    obtain ⟨x2, e_x2, h⟩ := st_e h
    refine gf_M_170 (q := 13) e_x2 d_M_mount_10 rfl ?_
    refine ok_if_ne (q := 16) (t := 20) d_M_mount_13 (by decide) rfl (fun hc => ?_) (fun hc => ?_)
    · replace h := if_f hc h
      refine ok_iconst (v := (0 : Int32)) (q := 21) d_M_mount_20 (by decide) rfl ?_
      refine ok_istore_n (q := 22) (lv := [(2, .int (0 : Int32)), (0, .ref (r 0)), (1, .int p1)]) d_M_mount_21 rfl (by decide) rfl rfl ?_
      refine ok_iload_n (q := 23) 0 d_M_mount_22 rfl rfl rfl ?_
      refine ok_if_eq (q := 26) (t := 30) d_M_mount_23 (by decide) rfl (fun _ => ?_) (fun hn => absurd hn (by decide))
      refine ok_iconst (v := (1 : Int32)) (q := 31) d_M_mount_30 (by decide) rfl ?_
      refine ok_istore_n (q := 32) (lv := [(3, .int (1 : Int32)), (2, .int (0 : Int32)), (0, .ref (r 0)), (1, .int p1)]) d_M_mount_31 rfl (by decide) rfl rfl ?_
      refine ok_iconst (v := (0 : Int32)) (q := 33) d_M_mount_32 (by decide) rfl ?_
      refine ok_istore (q := 35) (lv := [(4, .int (0 : Int32)), (3, .int (1 : Int32)), (2, .int (0 : Int32)), (0, .ref (r 0)), (1, .int p1)]) d_M_mount_33 (by decide) rfl rfl ?_
      exact ok_sub [3, 2, 1, 0] rfl (wl_M_mount_35 64 (0 : Int32) (1 : Int32) (0 : Int32) _ _ _ h)
    · replace h := if_t hc h
      refine ok_iconst (v := (1 : Int32)) (q := 17) d_M_mount_16 (by decide) rfl ?_
      refine ok_goto (q := 21) d_M_mount_17 (by decide) ?_
      refine ok_istore_n (q := 22) (lv := [(2, .int (1 : Int32)), (0, .ref (r 0)), (1, .int p1)]) d_M_mount_21 rfl (by decide) rfl rfl ?_
      refine ok_iload_n (q := 23) 0 d_M_mount_22 rfl rfl rfl ?_
      refine ok_if_eq (q := 26) (t := 30) d_M_mount_23 (by decide) rfl (fun hn => absurd hn (by decide)) (fun _ => ?_)
      refine ok_iconst (v := (0 : Int32)) (q := 27) d_M_mount_26 (by decide) rfl ?_
      refine ok_goto (q := 31) d_M_mount_27 (by decide) ?_
      refine ok_istore_n (q := 32) (lv := [(3, .int (0 : Int32)), (2, .int (1 : Int32)), (0, .ref (r 0)), (1, .int p1)]) d_M_mount_31 rfl (by decide) rfl rfl ?_
      refine ok_iconst (v := (0 : Int32)) (q := 33) d_M_mount_32 (by decide) rfl ?_
      refine ok_istore (q := 35) (lv := [(4, .int (0 : Int32)), (3, .int (0 : Int32)), (2, .int (1 : Int32)), (0, .ref (r 0)), (1, .int p1)]) d_M_mount_33 (by decide) rfl rfl ?_
      exact ok_sub [3, 2, 1, 0] rfl (wl_M_mount_35 64 (1 : Int32) (0 : Int32) (0 : Int32) _ _ _ h)
set_option maxRecDepth 20000 in
set_option maxHeartbeats 4000000 in
theorem ct_M_mount (p1 : Int32) (S : TR) (z : Int32) (Sz : TR) (h : fn_M_mount S p1 = some (z, Sz)) : Ct (wR g r) D (tyR g) l y_M_mount b_M_mount 6 (some .int) rm_M_mount [.ref (r 0), .int p1] S (pI z Sz) := ct_of (by decide) (Nat.le_of_ble_eq_true rfl) rfl (wk_M_mount p1 S z Sz h)

set_option maxRecDepth 20000 in
set_option maxHeartbeats 4000000 in
theorem wk_M_cut (p1 : Int32) (S : TR) (z : Unit) (Sz : TR) (h : fn_M_cut S p1 = some (z, Sz)) : Ok (wR g r) D (tyR g) l rm_M_cut R_M b_M_cut 2 none S 0 [(0, .ref (r 0)), (1, .int p1)] [] (pV z Sz) := by
  unfold fn_M_cut at h
  refine ok_aload_n (q := 1) 0 d_M_cut_0 rfl rfl rfl ?_
  refine ok_iload_n (q := 2) 1 d_M_cut_1 rfl rfl rfl ?_
  refine ok_if_lt (q := 5) (t := 16) d_M_cut_2 (by decide) rfl (fun hc => ?_) (fun hc => ?_)
  · replace h := if_t hc h
    refine ok_iconst (v := (-1 : Int32)) (q := 17) d_M_cut_16 (by decide) rfl ?_
    obtain ⟨S1, e_S1, h⟩ := st_e h
    refine pf_M_60 (q := 20) e_S1 d_M_cut_17 rfl ?_
    obtain ⟨-, rfl⟩ := so_e h
    exact ok_vret d_M_cut_20 ⟨rfl, rfl⟩
  · replace h := if_f hc h
    refine ok_iload_n (q := 6) 1 d_M_cut_5 rfl rfl rfl ?_
    refine ok_sipush (v := (1000 : Int32)) (q := 9) d_M_cut_6 (by decide) rfl ?_
    refine ok_icmp_gt (q := 12) (t := 16) d_M_cut_9 (by decide) rfl (fun hc => ?_) (fun hc => ?_)
    · replace h := if_t hc h
      refine ok_iconst (v := (-1 : Int32)) (q := 17) d_M_cut_16 (by decide) rfl ?_
      obtain ⟨S2, e_S2, h⟩ := st_e h
      refine pf_M_60 (q := 20) e_S2 d_M_cut_17 rfl ?_
      obtain ⟨-, rfl⟩ := so_e h
      exact ok_vret d_M_cut_20 ⟨rfl, rfl⟩
    · replace h := if_f hc h
      refine ok_iload_n (q := 13) 1 d_M_cut_12 rfl rfl rfl ?_
      refine ok_goto (q := 17) d_M_cut_13 (by decide) ?_
      obtain ⟨S3, e_S3, h⟩ := st_e h
      refine pf_M_60 (q := 20) e_S3 d_M_cut_17 rfl ?_
      obtain ⟨-, rfl⟩ := so_e h
      exact ok_vret d_M_cut_20 ⟨rfl, rfl⟩
set_option maxRecDepth 20000 in
set_option maxHeartbeats 4000000 in
theorem ct_M_cut (p1 : Int32) (S : TR) (z : Unit) (Sz : TR) (h : fn_M_cut S p1 = some (z, Sz)) : Ct (wR g r) D (tyR g) l y_M_cut b_M_cut 2 none rm_M_cut [.ref (r 0), .int p1] S (pV z Sz) := ct_of (by decide) (Nat.le_of_ble_eq_true rfl) rfl (wk_M_cut p1 S z Sz h)

set_option maxRecDepth 20000 in
set_option maxHeartbeats 4000000 in
theorem wk_M_outside (p0 : Int32) (p1 : Int32) (S : TR) (z : Int32) (Sz : TR) (h : fn_M_outside S p0 p1 = some (z, Sz)) : Ok (wR g r) D (tyR g) l rm_M_outside R_M b_M_outside 2 (some .boolean) S 0 [(0, .int p0), (1, .int p1)] [] (pI z Sz) := by
  unfold fn_M_outside at h
  refine ok_iload_n (q := 1) 0 d_M_outside_0 rfl rfl rfl ?_
  refine ok_if_lt (q := 4) (t := 19) d_M_outside_1 (by decide) rfl (fun hc => ?_) (fun hc => ?_)
  · replace h := if_t hc h
    refine ok_iconst (v := (1 : Int32)) (q := 20) d_M_outside_19 (by decide) rfl ?_
    refine ok_goto (q := 24) d_M_outside_20 (by decide) ?_
    obtain ⟨rfl, rfl⟩ := so_e h
    exact ok_zret d_M_outside_24 (by decide) ⟨rfl, rfl⟩
  · replace h := if_f hc h
    refine ok_iload_n (q := 5) 0 d_M_outside_4 rfl rfl rfl ?_
    refine ok_iconst (v := (5 : Int32)) (q := 6) d_M_outside_5 (by decide) rfl ?_
    refine ok_icmp_gt (q := 9) (t := 19) d_M_outside_6 (by decide) rfl (fun hc => ?_) (fun hc => ?_)
    · replace h := if_t hc h
      refine ok_iconst (v := (1 : Int32)) (q := 20) d_M_outside_19 (by decide) rfl ?_
      refine ok_goto (q := 24) d_M_outside_20 (by decide) ?_
      obtain ⟨rfl, rfl⟩ := so_e h
      exact ok_zret d_M_outside_24 (by decide) ⟨rfl, rfl⟩
    · replace h := if_f hc h
      refine ok_iload_n (q := 10) 1 d_M_outside_9 rfl rfl rfl ?_
      refine ok_if_lt (q := 13) (t := 19) d_M_outside_10 (by decide) rfl (fun hc => ?_) (fun hc => ?_)
      · replace h := if_t hc h
        refine ok_iconst (v := (1 : Int32)) (q := 20) d_M_outside_19 (by decide) rfl ?_
        refine ok_goto (q := 24) d_M_outside_20 (by decide) ?_
        obtain ⟨rfl, rfl⟩ := so_e h
        exact ok_zret d_M_outside_24 (by decide) ⟨rfl, rfl⟩
      · replace h := if_f hc h
        refine ok_iload_n (q := 14) 1 d_M_outside_13 rfl rfl rfl ?_
        refine ok_bipush (v := (7 : Int32)) (q := 16) d_M_outside_14 (by decide) rfl ?_
        refine ok_icmp_le (q := 19) (t := 23) d_M_outside_16 (by decide) rfl (fun hc => ?_) (fun hc => ?_)
        · replace h := if_t hc h
          refine ok_iconst (v := (0 : Int32)) (q := 24) d_M_outside_23 (by decide) rfl ?_
          obtain ⟨rfl, rfl⟩ := so_e h
          exact ok_zret d_M_outside_24 (by decide) ⟨rfl, rfl⟩
        · replace h := if_f hc h
          refine ok_iconst (v := (1 : Int32)) (q := 20) d_M_outside_19 (by decide) rfl ?_
          refine ok_goto (q := 24) d_M_outside_20 (by decide) ?_
          obtain ⟨rfl, rfl⟩ := so_e h
          exact ok_zret d_M_outside_24 (by decide) ⟨rfl, rfl⟩
set_option maxRecDepth 20000 in
set_option maxHeartbeats 4000000 in
theorem ct_M_outside (p0 : Int32) (p1 : Int32) (S : TR) (z : Int32) (Sz : TR) (h : fn_M_outside S p0 p1 = some (z, Sz)) : Ct (wR g r) D (tyR g) l y_M_outside b_M_outside 2 (some .boolean) rm_M_outside [.int p0, .int p1] S (pI z Sz) := ct_of (by decide) (Nat.le_of_ble_eq_true rfl) rfl (wk_M_outside p0 p1 S z Sz h)
theorem cs_M_179 {l : Launch} {D : va_G} {g : Nat → ClassId} {r : Nat → Nat} {rm : Room} {b : ByteArray} {nL : Nat} {ret : Option FieldType} {pc q : Nat} {Lc : List (Nat × Value)} {St : List Value} {S S2 : TR} {Post : Option Value → TR → Prop} {p0 : Int32} {p1 : Int32} {z : Int32} (hk : fn_M_outside S p0 p1 = some (z, S2)) (hd : decode b pc = .ok (.invokestatic 179, 3)) (hq : pc + 3 = q) (hrm : rm_M_outside.frames + 1 ≤ rm.frames ∧ 8 + (2 + 11) + rm_M_outside.locals ≤ rm.locals) (hroom : (St.map fun v => v.category).sum ≤ 8) (k : Ok (wR g r) D (tyR g) l rm R_M b nL ret S2 q Lc (.int z :: St) Post) : Ok (wR g r) D (tyR g) l rm R_M b nL ret S pc Lc (.int p1 :: .int p0 :: St) Post := by
  subst hq
  exact ok_cS (As := [.int p0, .int p1]) (n := 2) (ct_M_outside p0 p1 S z S2 hk) hd wm_197 ⟨wm_198, wm_199, wm_112⟩ (by decide +kernel) ⟨⟨rfl, rfl⟩, hrm⟩ rfl rfl hroom ⟨Nat.zero_le _, Nat.zero_le _⟩ (fun v u h => by obtain ⟨rfl, rfl⟩ := h; exact k)
set_option maxRecDepth 20000 in
set_option maxHeartbeats 4000000 in
theorem wk_M_flip (p1 : Int32) (p2 : Int32) (p3 : Int32) (S : TR) (z : Int32) (Sz : TR) (h : fn_M_flip S p1 p2 p3 = some (z, Sz)) : Ok (wR g r) D (tyR g) l rm_M_flip R_M b_M_flip 5 (some .boolean) S 0 [(0, .ref (r 0)), (1, .int p1), (2, .int p2), (3, .int p3)] [] (pI z Sz) := by
  unfold fn_M_flip at h
  refine ok_iload_n (q := 1) 1 d_M_flip_0 rfl rfl rfl ?_
  refine ok_iload_n (q := 2) 2 d_M_flip_1 rfl rfl rfl ?_
  obtain ⟨x3, S1, hk, h⟩ := bd_e h
  refine cs_M_179 (q := 5) hk d_M_flip_2 rfl (by decide) (Nat.le_of_ble_eq_true rfl) ?_
  refine ok_if_ne (q := 8) (t := 18) d_M_flip_5 (by decide) rfl (fun hc => ?_) (fun hc => ?_)
  · replace h := if_f hc h
    refine ok_iconst (v := (0 : Int32)) (q := 19) d_M_flip_18 (by decide) rfl ?_
    obtain ⟨rfl, rfl⟩ := so_e h
    exact ok_zret d_M_flip_19 (by decide) ⟨rfl, rfl⟩
  · replace h := if_t hc h
    refine ok_iload_n (q := 9) 3 d_M_flip_8 rfl rfl rfl ?_
    refine ok_if_lt (q := 12) (t := 18) d_M_flip_9 (by decide) rfl (fun hc => ?_) (fun hc => ?_)
    · replace h := if_t hc h
      refine ok_iconst (v := (0 : Int32)) (q := 19) d_M_flip_18 (by decide) rfl ?_
      obtain ⟨rfl, rfl⟩ := so_e h
      exact ok_zret d_M_flip_19 (by decide) ⟨rfl, rfl⟩
    · replace h := if_f hc h
      refine ok_iload_n (q := 13) 3 d_M_flip_12 rfl rfl rfl ?_
      refine ok_bipush (v := (38 : Int32)) (q := 15) d_M_flip_13 (by decide) rfl ?_
      refine ok_icmp_le (q := 18) (t := 20) d_M_flip_15 (by decide) rfl (fun hc => ?_) (fun hc => ?_)
      · replace h := if_t hc h
        refine ok_bipush (v := (8 : Int32)) (q := 22) d_M_flip_20 (by decide) rfl ?_
        refine ok_iload_n (q := 23) 1 d_M_flip_22 rfl rfl rfl ?_
        refine ok_imul (q := 24) d_M_flip_23 rfl ?_
        refine ok_iload_n (q := 25) 2 d_M_flip_24 rfl rfl rfl ?_
        refine ok_iadd (q := 26) d_M_flip_25 rfl ?_
        obtain ⟨x4, e_x4, h⟩ := st_e h
        refine ok_topi e_x4 ?_
        refine ok_istore (q := 28) (lv := [(4, .int x4), (0, .ref (r 0)), (1, .int p1), (2, .int p2), (3, .int p3)]) d_M_flip_26 (by decide) rfl rfl ?_
        refine ok_aload_n (q := 29) 1 d_M_flip_28 rfl rfl rfl ?_
        refine gf_M_44 (q := 32) d_M_flip_29 rfl ?_
        refine ok_iload_n (q := 33) 2 d_M_flip_32 rfl rfl rfl ?_
        obtain ⟨hg, h⟩ := gd_e h
        obtain ⟨x5, e_x5, h⟩ := st_e h
        refine al_M_12 (q := 34) hg e_x5 d_M_flip_33 rfl ?_
        refine ok_if_ne (q := 37) (t := 57) d_M_flip_34 (by decide) rfl (fun hc => ?_) (fun hc => ?_)
        · replace h := if_f hc h
          refine ok_iconst (v := (0 : Int32)) (q := 58) d_M_flip_57 (by decide) rfl ?_
          obtain ⟨rfl, rfl⟩ := so_e h
          exact ok_zret d_M_flip_58 (by decide) ⟨rfl, rfl⟩
        · replace h := if_t hc h
          refine ok_aload_n (q := 38) 1 d_M_flip_37 rfl rfl rfl ?_
          refine gf_M_7 (q := 41) d_M_flip_38 rfl ?_
          refine ok_iload (q := 43) 0 d_M_flip_41 rfl rfl ?_
          obtain ⟨hg, h⟩ := gd_e h
          obtain ⟨x6, e_x6, h⟩ := st_e h
          refine al_M_1 (q := 44) hg e_x6 d_M_flip_43 rfl ?_
          refine ok_if_eq (q := 47) (t := 57) d_M_flip_44 (by decide) rfl (fun hc => ?_) (fun hc => ?_)
          · replace h := if_t hc h
            refine ok_iconst (v := (0 : Int32)) (q := 58) d_M_flip_57 (by decide) rfl ?_
            obtain ⟨rfl, rfl⟩ := so_e h
            exact ok_zret d_M_flip_58 (by decide) ⟨rfl, rfl⟩
          · replace h := if_f hc h
            refine ok_aload_n (q := 48) 1 d_M_flip_47 rfl rfl rfl ?_
            refine gf_M_38 (q := 51) d_M_flip_48 rfl ?_
            refine ok_iload (q := 53) 0 d_M_flip_51 rfl rfl ?_
            obtain ⟨hg, h⟩ := gd_e h
            obtain ⟨x7, e_x7, h⟩ := st_e h
            refine al_M_10 (q := 54) hg e_x7 d_M_flip_53 rfl ?_
            refine ok_if_lt (q := 57) (t := 59) d_M_flip_54 (by decide) rfl (fun hc => ?_) (fun hc => ?_)
            · replace h := if_t hc h
              refine ok_aload_n (q := 60) 1 d_M_flip_59 rfl rfl rfl ?_
              refine gf_M_35 (q := 63) d_M_flip_60 rfl ?_
              refine ok_iload (q := 65) 0 d_M_flip_63 rfl rfl ?_
              obtain ⟨hg, h⟩ := gd_e h
              obtain ⟨x8, e_x8, h⟩ := st_e h
              refine al_M_9 (q := 66) hg e_x8 d_M_flip_65 rfl ?_
              refine ok_if_ge (q := 69) (t := 80) d_M_flip_66 (by decide) rfl (fun hc => ?_) (fun hc => ?_)
              · replace h := if_t hc h
                refine ok_aload_n (q := 81) 1 d_M_flip_80 rfl rfl rfl ?_
                refine gf_M_35 (q := 84) d_M_flip_81 rfl ?_
                refine ok_iload (q := 86) 0 d_M_flip_84 rfl rfl ?_
                obtain ⟨hg, h⟩ := gd_e h
                obtain ⟨x9, e_x9, h⟩ := st_e h
                refine al_M_9 (q := 87) hg e_x9 d_M_flip_86 rfl ?_
                refine ok_iload_n (q := 88) 4 d_M_flip_87 rfl rfl rfl ?_
                refine ok_icmp_ne (q := 91) (t := 102) d_M_flip_88 (by decide) rfl (fun hc => ?_) (fun hc => ?_)
                · replace h := if_f hc h
                  refine ok_aload_n (q := 103) 1 d_M_flip_102 rfl rfl rfl ?_
                  refine gf_M_38 (q := 106) d_M_flip_103 rfl ?_
                  refine ok_iload (q := 108) 0 d_M_flip_106 rfl rfl ?_
                  refine ok_iload_n (q := 109) 4 d_M_flip_108 rfl rfl rfl ?_
                  obtain ⟨hi, h⟩ := gd_e h
                  obtain ⟨S10, e_S10, h⟩ := st_e h
                  refine as_M_10 (q := 110) hi e_S10 d_M_flip_109 rfl ?_
                  refine ok_iconst (v := (1 : Int32)) (q := 111) d_M_flip_110 (by decide) rfl ?_
                  obtain ⟨rfl, rfl⟩ := so_e h
                  exact ok_zret d_M_flip_111 (by decide) ⟨rfl, rfl⟩
                · replace h := if_t hc h
                  refine ok_aload_n (q := 92) 1 d_M_flip_91 rfl rfl rfl ?_
                  refine gf_M_35 (q := 95) d_M_flip_92 rfl ?_
                  refine ok_iload (q := 97) 0 d_M_flip_95 rfl rfl ?_
                  refine ok_iconst (v := (-1 : Int32)) (q := 98) d_M_flip_97 (by decide) rfl ?_
                  obtain ⟨hi, h⟩ := gd_e h
                  obtain ⟨S11, e_S11, h⟩ := st_e h
                  refine as_M_9 (q := 99) hi e_S11 d_M_flip_98 rfl ?_
                  refine ok_goto (q := 110) d_M_flip_99 (by decide) ?_
                  refine ok_iconst (v := (1 : Int32)) (q := 111) d_M_flip_110 (by decide) rfl ?_
                  obtain ⟨rfl, rfl⟩ := so_e h
                  exact ok_zret d_M_flip_111 (by decide) ⟨rfl, rfl⟩
              · replace h := if_f hc h
                refine ok_aload_n (q := 70) 1 d_M_flip_69 rfl rfl rfl ?_
                refine gf_M_35 (q := 73) d_M_flip_70 rfl ?_
                refine ok_iload (q := 75) 0 d_M_flip_73 rfl rfl ?_
                refine ok_iload_n (q := 76) 4 d_M_flip_75 rfl rfl rfl ?_
                obtain ⟨hi, h⟩ := gd_e h
                obtain ⟨S12, e_S12, h⟩ := st_e h
                refine as_M_9 (q := 77) hi e_S12 d_M_flip_76 rfl ?_
                refine ok_goto (q := 110) d_M_flip_77 (by decide) ?_
                refine ok_iconst (v := (1 : Int32)) (q := 111) d_M_flip_110 (by decide) rfl ?_
                obtain ⟨rfl, rfl⟩ := so_e h
                exact ok_zret d_M_flip_111 (by decide) ⟨rfl, rfl⟩
            · replace h := if_f hc h
              refine ok_iconst (v := (0 : Int32)) (q := 58) d_M_flip_57 (by decide) rfl ?_
              obtain ⟨rfl, rfl⟩ := so_e h
              exact ok_zret d_M_flip_58 (by decide) ⟨rfl, rfl⟩
      · replace h := if_f hc h
        refine ok_iconst (v := (0 : Int32)) (q := 19) d_M_flip_18 (by decide) rfl ?_
        obtain ⟨rfl, rfl⟩ := so_e h
        exact ok_zret d_M_flip_19 (by decide) ⟨rfl, rfl⟩
set_option maxRecDepth 20000 in
set_option maxHeartbeats 4000000 in
theorem ct_M_flip (p1 : Int32) (p2 : Int32) (p3 : Int32) (S : TR) (z : Int32) (Sz : TR) (h : fn_M_flip S p1 p2 p3 = some (z, Sz)) : Ct (wR g r) D (tyR g) l y_M_flip b_M_flip 5 (some .boolean) rm_M_flip [.ref (r 0), .int p1, .int p2, .int p3] S (pI z Sz) := ct_of (by decide) (Nat.le_of_ble_eq_true rfl) rfl (wk_M_flip p1 p2 p3 S z Sz h)

set_option maxRecDepth 20000 in
set_option maxHeartbeats 4000000 in
theorem wk_M_wear (p1 : Int32) (S : TR) (z : Int32) (Sz : TR) (h : fn_M_wear S p1 = some (z, Sz)) : Ok (wR g r) D (tyR g) l rm_M_wear R_M b_M_wear 2 (some .boolean) S 0 [(0, .ref (r 0)), (1, .int p1)] [] (pI z Sz) := by
  unfold fn_M_wear at h
  refine ok_iload_n (q := 1) 1 d_M_wear_0 rfl rfl rfl ?_
  refine ok_iconst (v := (0 : Int32)) (q := 2) d_M_wear_1 (by decide) rfl ?_
  obtain ⟨x3, S1, hk, h⟩ := bd_e h
  refine cs_M_179 (q := 5) hk d_M_wear_2 rfl (by decide) (Nat.le_of_ble_eq_true rfl) ?_
  refine ok_if_ne (q := 8) (t := 26) d_M_wear_5 (by decide) rfl (fun hc => ?_) (fun hc => ?_)
  · replace h := if_f hc h
    refine ok_iconst (v := (0 : Int32)) (q := 27) d_M_wear_26 (by decide) rfl ?_
    obtain ⟨rfl, rfl⟩ := so_e h
    exact ok_zret d_M_wear_27 (by decide) ⟨rfl, rfl⟩
  · replace h := if_t hc h
    refine ok_aload_n (q := 9) 0 d_M_wear_8 rfl rfl rfl ?_
    refine gf_M_44 (q := 12) d_M_wear_9 rfl ?_
    refine ok_iload_n (q := 13) 1 d_M_wear_12 rfl rfl rfl ?_
    obtain ⟨hg, h⟩ := gd_e h
    obtain ⟨x4, e_x4, h⟩ := st_e h
    refine al_M_12 (q := 14) hg e_x4 d_M_wear_13 rfl ?_
    refine ok_if_ne (q := 17) (t := 26) d_M_wear_14 (by decide) rfl (fun hc => ?_) (fun hc => ?_)
    · replace h := if_f hc h
      refine ok_iconst (v := (0 : Int32)) (q := 27) d_M_wear_26 (by decide) rfl ?_
      obtain ⟨rfl, rfl⟩ := so_e h
      exact ok_zret d_M_wear_27 (by decide) ⟨rfl, rfl⟩
    · replace h := if_t hc h
      refine ok_aload_n (q := 18) 0 d_M_wear_17 rfl rfl rfl ?_
      refine gf_M_47 (q := 21) d_M_wear_18 rfl ?_
      refine ok_iload_n (q := 22) 1 d_M_wear_21 rfl rfl rfl ?_
      obtain ⟨hg, h⟩ := gd_e h
      obtain ⟨x5, e_x5, h⟩ := st_e h
      refine al_M_13 (q := 23) hg e_x5 d_M_wear_22 rfl ?_
      refine ok_if_eq (q := 26) (t := 28) d_M_wear_23 (by decide) rfl (fun hc => ?_) (fun hc => ?_)
      · replace h := if_t hc h
        refine ok_aload_n (q := 29) 0 d_M_wear_28 rfl rfl rfl ?_
        refine gf_M_47 (q := 32) d_M_wear_29 rfl ?_
        refine ok_iload_n (q := 33) 1 d_M_wear_32 rfl rfl rfl ?_
        refine ok_iconst (v := (1 : Int32)) (q := 34) d_M_wear_33 (by decide) rfl ?_
        obtain ⟨hi, h⟩ := gd_e h
        obtain ⟨S6, e_S6, h⟩ := st_e h
        refine as_M_13 (q := 35) hi e_S6 (by decide) d_M_wear_34 rfl ?_
        refine ok_iconst (v := (1 : Int32)) (q := 36) d_M_wear_35 (by decide) rfl ?_
        obtain ⟨rfl, rfl⟩ := so_e h
        exact ok_zret d_M_wear_36 (by decide) ⟨rfl, rfl⟩
      · replace h := if_f hc h
        refine ok_iconst (v := (0 : Int32)) (q := 27) d_M_wear_26 (by decide) rfl ?_
        obtain ⟨rfl, rfl⟩ := so_e h
        exact ok_zret d_M_wear_27 (by decide) ⟨rfl, rfl⟩
set_option maxRecDepth 20000 in
set_option maxHeartbeats 4000000 in
theorem ct_M_wear (p1 : Int32) (S : TR) (z : Int32) (Sz : TR) (h : fn_M_wear S p1 = some (z, Sz)) : Ct (wR g r) D (tyR g) l y_M_wear b_M_wear 2 (some .boolean) rm_M_wear [.ref (r 0), .int p1] S (pI z Sz) := ct_of (by decide) (Nat.le_of_ble_eq_true rfl) rfl (wk_M_wear p1 S z Sz h)

set_option maxRecDepth 20000 in
set_option maxHeartbeats 4000000 in
theorem wk_M_tags (p1 : Int32) (p2 : Int32) (S : TR) (z : Int32) (Sz : TR) (h : fn_M_tags S p1 p2 = some (z, Sz)) : Ok (wR g r) D (tyR g) l rm_M_tags R_M b_M_tags 5 (some .int) S 0 [(0, .ref (r 0)), (1, .int p1), (2, .int p2)] [] (pI z Sz) := by
  unfold fn_M_tags at h
  refine ok_iload_n (q := 1) 1 d_M_tags_0 rfl rfl rfl ?_
  refine ok_iload_n (q := 2) 2 d_M_tags_1 rfl rfl rfl ?_
  obtain ⟨x3, S1, hk, h⟩ := bd_e h
  refine cs_M_179 (q := 5) hk d_M_tags_2 rfl (by decide) (Nat.le_of_ble_eq_true rfl) ?_
  refine ok_if_eq (q := 8) (t := 10) d_M_tags_5 (by decide) rfl (fun hc => ?_) (fun hc => ?_)
  · replace h := if_t hc h
    refine ok_bipush (v := (8 : Int32)) (q := 12) d_M_tags_10 (by decide) rfl ?_
    refine ok_iload_n (q := 13) 1 d_M_tags_12 rfl rfl rfl ?_
    refine ok_imul (q := 14) d_M_tags_13 rfl ?_
    refine ok_iload_n (q := 15) 2 d_M_tags_14 rfl rfl rfl ?_
    refine ok_iadd (q := 16) d_M_tags_15 rfl ?_
    obtain ⟨x4, e_x4, h⟩ := st_e h
    refine ok_topi e_x4 ?_
    refine ok_istore_n (q := 17) (lv := [(3, .int x4), (0, .ref (r 0)), (1, .int p1), (2, .int p2)]) d_M_tags_16 rfl (by decide) rfl rfl ?_
    refine ok_aload_n (q := 18) 1 d_M_tags_17 rfl rfl rfl ?_
    refine gf_M_7 (q := 21) d_M_tags_18 rfl ?_
    refine ok_iload_n (q := 22) 0 d_M_tags_21 rfl rfl rfl ?_
    obtain ⟨hg, h⟩ := gd_e h
    obtain ⟨x5, e_x5, h⟩ := st_e h
    refine al_M_1 (q := 23) hg e_x5 d_M_tags_22 rfl ?_
    refine ok_if_ne (q := 26) (t := 29) d_M_tags_23 (by decide) rfl (fun hc => ?_) (fun hc => ?_)
    · replace h := if_f hc h
      refine ok_aload_n (q := 30) 1 d_M_tags_29 rfl rfl rfl ?_
      refine gf_M_13 (q := 33) d_M_tags_30 rfl ?_
      refine ok_iload_n (q := 34) 0 d_M_tags_33 rfl rfl rfl ?_
      obtain ⟨hg, h⟩ := gd_e h
      obtain ⟨x6, e_x6, h⟩ := st_e h
      refine al_M_2 (q := 35) hg e_x6 d_M_tags_34 rfl ?_
      refine ok_bipush (v := (8 : Int32)) (q := 37) d_M_tags_35 (by decide) rfl ?_
      refine ok_aload_n (q := 38) 1 d_M_tags_37 rfl rfl rfl ?_
      refine gf_M_16 (q := 41) d_M_tags_38 rfl ?_
      refine ok_iload_n (q := 42) 0 d_M_tags_41 rfl rfl rfl ?_
      obtain ⟨hg, h⟩ := gd_e h
      obtain ⟨x7, e_x7, h⟩ := st_e h
      refine al_M_3 (q := 43) hg e_x7 d_M_tags_42 rfl ?_
      refine ok_imul (q := 44) d_M_tags_43 rfl ?_
      refine ok_iadd (q := 45) d_M_tags_44 rfl ?_
      refine ok_bipush (v := (64 : Int32)) (q := 47) d_M_tags_45 (by decide) rfl ?_
      refine ok_aload_n (q := 48) 1 d_M_tags_47 rfl rfl rfl ?_
      refine gf_M_19 (q := 51) d_M_tags_48 rfl ?_
      refine ok_iload_n (q := 52) 0 d_M_tags_51 rfl rfl rfl ?_
      obtain ⟨hg, h⟩ := gd_e h
      obtain ⟨x8, e_x8, h⟩ := st_e h
      refine al_M_4 (q := 53) hg e_x8 d_M_tags_52 rfl ?_
      refine ok_imul (q := 54) d_M_tags_53 rfl ?_
      refine ok_iadd (q := 55) d_M_tags_54 rfl ?_
      refine ok_sipush (v := (512 : Int32)) (q := 58) d_M_tags_55 (by decide) rfl ?_
      refine ok_aload_n (q := 59) 1 d_M_tags_58 rfl rfl rfl ?_
      refine gf_M_25 (q := 62) d_M_tags_59 rfl ?_
      refine ok_iload_n (q := 63) 0 d_M_tags_62 rfl rfl rfl ?_
      obtain ⟨hg, h⟩ := gd_e h
      obtain ⟨x9, e_x9, h⟩ := st_e h
      refine al_M_6 (q := 64) hg e_x9 d_M_tags_63 rfl ?_
      refine ok_imul (q := 65) d_M_tags_64 rfl ?_
      refine ok_iadd (q := 66) d_M_tags_65 rfl ?_
      refine ok_sipush (v := (4096 : Int32)) (q := 69) d_M_tags_66 (by decide) rfl ?_
      refine ok_aload_n (q := 70) 1 d_M_tags_69 rfl rfl rfl ?_
      refine gf_M_28 (q := 73) d_M_tags_70 rfl ?_
      refine ok_iload_n (q := 74) 0 d_M_tags_73 rfl rfl rfl ?_
      obtain ⟨hg, h⟩ := gd_e h
      obtain ⟨x10, e_x10, h⟩ := st_e h
      refine al_M_7 (q := 75) hg e_x10 d_M_tags_74 rfl ?_
      refine ok_imul (q := 76) d_M_tags_75 rfl ?_
      refine ok_iadd (q := 77) d_M_tags_76 rfl ?_
      obtain ⟨x11, e_x11, h⟩ := st_e h
      refine ok_topi e_x11 ?_
      refine ok_istore (q := 79) (lv := [(4, .int x11), (3, .int x4), (0, .ref (r 0)), (1, .int p1), (2, .int p2)]) d_M_tags_77 (by decide) rfl rfl ?_
      refine ok_iload (q := 81) 0 d_M_tags_79 rfl rfl ?_
      refine ok_aload_n (q := 82) 2 d_M_tags_81 rfl rfl rfl ?_
      refine gf_M_7 (q := 85) d_M_tags_82 rfl ?_
      refine ok_iload_n (q := 86) 1 d_M_tags_85 rfl rfl rfl ?_
      obtain ⟨hg, h⟩ := gd_e h
      obtain ⟨x12, e_x12, h⟩ := st_e h
      refine al_M_1 (q := 87) hg e_x12 d_M_tags_86 rfl ?_
      refine ok_iconst (v := (2 : Int32)) (q := 88) d_M_tags_87 (by decide) rfl ?_
      refine ok_icmp_ne (q := 91) (t := 97) d_M_tags_88 (by decide) rfl (fun hc => ?_) (fun hc => ?_)
      · replace h := if_f hc h
        refine ok_iconst (v := (0 : Int32)) (q := 98) d_M_tags_97 (by decide) rfl ?_
        refine ok_iadd (q := 99) d_M_tags_98 rfl ?_
        refine ok_aload_n (q := 100) 2 d_M_tags_99 rfl rfl rfl ?_
        refine gf_M_31 (q := 103) d_M_tags_100 rfl ?_
        refine ok_iload_n (q := 104) 1 d_M_tags_103 rfl rfl rfl ?_
        obtain ⟨hg, h⟩ := gd_e h
        obtain ⟨x13, e_x13, h⟩ := st_e h
        refine al_M_8 (q := 105) hg e_x13 d_M_tags_104 rfl ?_
        refine ok_if_eq (q := 108) (t := 113) d_M_tags_105 (by decide) rfl (fun hc => ?_) (fun hc => ?_)
        · replace h := if_t hc h
          refine ok_iconst (v := (0 : Int32)) (q := 114) d_M_tags_113 (by decide) rfl ?_
          refine ok_iadd (q := 115) d_M_tags_114 rfl ?_
          obtain ⟨rfl, rfl⟩ := so_e h
          exact ok_iret d_M_tags_115 ⟨rfl, rfl⟩
        · replace h := if_f hc h
          refine ok_ldc (q := 110) wm_13 d_M_tags_108 rfl ?_
          refine ok_goto (q := 114) d_M_tags_110 (by decide) ?_
          refine ok_iadd (q := 115) d_M_tags_114 rfl ?_
          obtain ⟨rfl, rfl⟩ := so_e h
          exact ok_iret d_M_tags_115 ⟨rfl, rfl⟩
      · replace h := if_t hc h
        refine ok_sipush (v := (256 : Int32)) (q := 94) d_M_tags_91 (by decide) rfl ?_
        refine ok_goto (q := 98) d_M_tags_94 (by decide) ?_
        refine ok_iadd (q := 99) d_M_tags_98 rfl ?_
        refine ok_aload_n (q := 100) 2 d_M_tags_99 rfl rfl rfl ?_
        refine gf_M_31 (q := 103) d_M_tags_100 rfl ?_
        refine ok_iload_n (q := 104) 1 d_M_tags_103 rfl rfl rfl ?_
        obtain ⟨hg, h⟩ := gd_e h
        obtain ⟨x14, e_x14, h⟩ := st_e h
        refine al_M_8 (q := 105) hg e_x14 d_M_tags_104 rfl ?_
        refine ok_if_eq (q := 108) (t := 113) d_M_tags_105 (by decide) rfl (fun hc => ?_) (fun hc => ?_)
        · replace h := if_t hc h
          refine ok_iconst (v := (0 : Int32)) (q := 114) d_M_tags_113 (by decide) rfl ?_
          refine ok_iadd (q := 115) d_M_tags_114 rfl ?_
          obtain ⟨rfl, rfl⟩ := so_e h
          exact ok_iret d_M_tags_115 ⟨rfl, rfl⟩
        · replace h := if_f hc h
          refine ok_ldc (q := 110) wm_13 d_M_tags_108 rfl ?_
          refine ok_goto (q := 114) d_M_tags_110 (by decide) ?_
          refine ok_iadd (q := 115) d_M_tags_114 rfl ?_
          obtain ⟨rfl, rfl⟩ := so_e h
          exact ok_iret d_M_tags_115 ⟨rfl, rfl⟩
    · replace h := if_t hc h
      refine ok_bipush (v := (-2 : Int32)) (q := 28) d_M_tags_26 (by decide) rfl ?_
      obtain ⟨rfl, rfl⟩ := so_e h
      exact ok_iret d_M_tags_28 ⟨rfl, rfl⟩
  · replace h := if_f hc h
    refine ok_iconst (v := (-1 : Int32)) (q := 9) d_M_tags_8 (by decide) rfl ?_
    obtain ⟨rfl, rfl⟩ := so_e h
    exact ok_iret d_M_tags_9 ⟨rfl, rfl⟩
set_option maxRecDepth 20000 in
set_option maxHeartbeats 4000000 in
theorem ct_M_tags (p1 : Int32) (p2 : Int32) (S : TR) (z : Int32) (Sz : TR) (h : fn_M_tags S p1 p2 = some (z, Sz)) : Ct (wR g r) D (tyR g) l y_M_tags b_M_tags 5 (some .int) rm_M_tags [.ref (r 0), .int p1, .int p2] S (pI z Sz) := ct_of (by decide) (Nat.le_of_ble_eq_true rfl) rfl (wk_M_tags p1 p2 S z Sz h)

set_option maxRecDepth 20000 in
set_option maxHeartbeats 4000000 in
theorem wk_M_erases (p1 : Int32) (S : TR) (z : Int32) (Sz : TR) (h : fn_M_erases S p1 = some (z, Sz)) : Ok (wR g r) D (tyR g) l rm_M_erases R_M b_M_erases 2 (some .int) S 0 [(0, .ref (r 0)), (1, .int p1)] [] (pI z Sz) := by
  unfold fn_M_erases at h
  refine ok_iload_n (q := 1) 1 d_M_erases_0 rfl rfl rfl ?_
  refine ok_iconst (v := (0 : Int32)) (q := 2) d_M_erases_1 (by decide) rfl ?_
  obtain ⟨x3, S1, hk, h⟩ := bd_e h
  refine cs_M_179 (q := 5) hk d_M_erases_2 rfl (by decide) (Nat.le_of_ble_eq_true rfl) ?_
  refine ok_if_eq (q := 8) (t := 12) d_M_erases_5 (by decide) rfl (fun hc => ?_) (fun hc => ?_)
  · replace h := if_t hc h
    refine ok_iconst (v := (2 : Int32)) (q := 13) d_M_erases_12 (by decide) rfl ?_
    refine ok_aload_n (q := 14) 0 d_M_erases_13 rfl rfl rfl ?_
    refine gf_M_53 (q := 17) d_M_erases_14 rfl ?_
    refine ok_iload_n (q := 18) 1 d_M_erases_17 rfl rfl rfl ?_
    obtain ⟨hg, h⟩ := gd_e h
    obtain ⟨x4, e_x4, h⟩ := st_e h
    refine al_M_15 (q := 19) hg e_x4 d_M_erases_18 rfl ?_
    refine ok_imul (q := 20) d_M_erases_19 rfl ?_
    refine ok_aload_n (q := 21) 0 d_M_erases_20 rfl rfl rfl ?_
    refine gf_M_44 (q := 24) d_M_erases_21 rfl ?_
    refine ok_iload_n (q := 25) 1 d_M_erases_24 rfl rfl rfl ?_
    obtain ⟨hg, h⟩ := gd_e h
    obtain ⟨x5, e_x5, h⟩ := st_e h
    refine al_M_12 (q := 26) hg e_x5 d_M_erases_25 rfl ?_
    refine ok_if_eq (q := 29) (t := 33) d_M_erases_26 (by decide) rfl (fun hc => ?_) (fun hc => ?_)
    · replace h := if_t hc h
      refine ok_iconst (v := (0 : Int32)) (q := 34) d_M_erases_33 (by decide) rfl ?_
      refine ok_iadd (q := 35) d_M_erases_34 rfl ?_
      obtain ⟨rfl, rfl⟩ := so_e h
      exact ok_iret d_M_erases_35 ⟨rfl, rfl⟩
    · replace h := if_f hc h
      refine ok_iconst (v := (1 : Int32)) (q := 30) d_M_erases_29 (by decide) rfl ?_
      refine ok_goto (q := 34) d_M_erases_30 (by decide) ?_
      refine ok_iadd (q := 35) d_M_erases_34 rfl ?_
      obtain ⟨rfl, rfl⟩ := so_e h
      exact ok_iret d_M_erases_35 ⟨rfl, rfl⟩
  · replace h := if_f hc h
    refine ok_iconst (v := (-1 : Int32)) (q := 9) d_M_erases_8 (by decide) rfl ?_
    refine ok_goto (q := 35) d_M_erases_9 (by decide) ?_
    obtain ⟨rfl, rfl⟩ := so_e h
    exact ok_iret d_M_erases_35 ⟨rfl, rfl⟩
set_option maxRecDepth 20000 in
set_option maxHeartbeats 4000000 in
theorem ct_M_erases (p1 : Int32) (S : TR) (z : Int32) (Sz : TR) (h : fn_M_erases S p1 = some (z, Sz)) : Ct (wR g r) D (tyR g) l y_M_erases b_M_erases 2 (some .int) rm_M_erases [.ref (r 0), .int p1] S (pI z Sz) := ct_of (by decide) (Nat.le_of_ble_eq_true rfl) rfl (wk_M_erases p1 S z Sz h)

set_option maxRecDepth 20000 in
set_option maxHeartbeats 4000000 in
theorem wk_M_steps (S : TR) (z : Int32) (Sz : TR) (h : fn_M_steps S = some (z, Sz)) : Ok (wR g r) D (tyR g) l rm_M_steps R_M b_M_steps 1 (some .int) S 0 [(0, .ref (r 0))] [] (pI z Sz) := by
  unfold fn_M_steps at h
  refine ok_aload_n (q := 1) 0 d_M_steps_0 rfl rfl rfl ?_
  obtain ⟨x1, e_x1, h⟩ := st_e h
  refine gf_M_64 (q := 4) e_x1 d_M_steps_1 rfl ?_
  obtain ⟨rfl, rfl⟩ := so_e h
  exact ok_iret d_M_steps_4 ⟨rfl, rfl⟩
set_option maxRecDepth 20000 in
set_option maxHeartbeats 4000000 in
theorem ct_M_steps (S : TR) (z : Int32) (Sz : TR) (h : fn_M_steps S = some (z, Sz)) : Ct (wR g r) D (tyR g) l y_M_steps b_M_steps 1 (some .int) rm_M_steps [.ref (r 0)] S (pI z Sz) := ct_of (by decide) (Nat.le_of_ble_eq_true rfl) rfl (wk_M_steps S z Sz h)

end WALK
