abbrev wC (g : Nat → ClassId) (a : Nat → Nat) (S : TC) : va_W := [(a 0, .inr (0, [.ref (a 1), .ref (a 10), .int (S.1 0 0)])), (a 1, .inr (1, [.ref (a 2), .ref (a 3), .ref (a 4), .ref (a 5), .ref (a 6), .ref (a 7), .ref (a 8), .ref (a 9), .int (S.1 1 0), .int (S.1 1 1), .int (S.1 1 2)])), (a 2, .inl (g 2, 48, .inl (S.1 2))), (a 3, .inl (g 3, 48, .inl (S.1 3))), (a 4, .inl (g 4, 48, .inr (.inl S.2))), (a 5, .inl (g 5, 6, .inl (S.1 5))), (a 6, .inl (g 6, 6, .inl (S.1 6))), (a 7, .inl (g 7, 6, .inl (S.1 7))), (a 8, .inl (g 8, 6, .inl (S.1 8))), (a 9, .inl (g 9, 6, .inl (S.1 9))), (a 10, .inl (g 10, 48, .inl (S.1 10)))]
abbrev tyC (g : Nat → ClassId) : List (ClassId × FieldType) := [(g 2, .int), (g 3, .int), (g 4, .long), (g 5, .int), (g 6, .int), (g 7, .boolean), (g 8, .boolean), (g 9, .boolean), (g 10, .boolean)]
abbrev wR (g : Nat → ClassId) (r : Nat → Nat) (S : TR) : va_W := [(r 0, .inr (2, [.ref (r 1), .ref (r 2), .ref (r 3), .ref (r 4), .ref (r 5), .ref (r 6), .ref (r 7), .ref (r 8), .ref (r 9), .ref (r 10), .ref (r 11), .ref (r 12), .ref (r 13), .ref (r 14), .ref (r 15), .int (S 0 0), .int (S 0 1), .int (S 0 2), .int (S 0 3), .int (S 0 4), .int (S 0 5), .int (S 0 6), .int (S 0 7), .int (S 0 8), .int (S 0 9), .int (S 0 10), .int (S 0 11)])), (r 1, .inl (g 1, 48, .inl (S 1))), (r 2, .inl (g 2, 48, .inl (S 2))), (r 3, .inl (g 3, 48, .inl (S 3))), (r 4, .inl (g 4, 48, .inl (S 4))), (r 5, .inl (g 5, 48, .inl (S 5))), (r 6, .inl (g 6, 48, .inl (S 6))), (r 7, .inl (g 7, 48, .inl (S 7))), (r 8, .inl (g 8, 48, .inl (S 8))), (r 9, .inl (g 9, 48, .inl (S 9))), (r 10, .inl (g 10, 48, .inl (S 10))), (r 11, .inl (g 11, 48, .inl (S 11))), (r 12, .inl (g 12, 6, .inl (S 12))), (r 13, .inl (g 13, 6, .inl (S 13))), (r 14, .inl (g 14, 6, .inl (S 14))), (r 15, .inl (g 15, 6, .inl (S 15)))]
abbrev tyR (g : Nat → ClassId) : List (ClassId × FieldType) := [(g 1, .int), (g 2, .int), (g 3, .int), (g 4, .int), (g 5, .int), (g 6, .int), (g 7, .int), (g 8, .boolean), (g 9, .int), (g 10, .int), (g 11, .boolean), (g 12, .boolean), (g 13, .boolean), (g 14, .boolean), (g 15, .int)]
section ROWS
variable {l : Launch} {D : va_G} {g : Nat → ClassId} {a r : Nat → Nat} {rm : Room} {b : ByteArray} {nL : Nat} {ret : Option FieldType} {pc q : Nat} {Lc : List (Nat × Value)} {St : List Value}
section ROWSC
variable {S S1 : TC} {Post : Option Value → TC → Prop}
theorem gf_C_9 (hd : decode b pc = .ok (.getfield 9, 3)) (hq : pc + 3 = q) (k : Ok (wC g a) D (tyC g) l rm R_C b nL ret S q Lc (.ref (a 2) :: St) Post) : Ok (wC g a) D (tyC g) l rm R_C b nL ret S pc Lc (.ref (a 1) :: St) Post := by
  subst hq
  intro p e s m args below meth c A H locs ls hF hY
  exact va_get (D := D) (ci := 1) (v := .ref (a 2)) (C := R_C) (T := F_C) (N := 11) hF.1.1 hF.1.2.1 hF.1.2.2.2.2.2.2.1 us_C hF.1.2.2.2.2.2.1 hF.1.2.2.2.2.2.2.2 hY.1 1 rfl rfl 0 (by decide) (hF.1.2.2.2.2.2.2.1 _ wm_14) (fun _ h9 => h9) rfl hd (k p e s m args below meth c A H locs ls hF hY)
theorem gf_C_15 (hd : decode b pc = .ok (.getfield 15, 3)) (hq : pc + 3 = q) (k : Ok (wC g a) D (tyC g) l rm R_C b nL ret S q Lc (.ref (a 3) :: St) Post) : Ok (wC g a) D (tyC g) l rm R_C b nL ret S pc Lc (.ref (a 1) :: St) Post := by
  subst hq
  intro p e s m args below meth c A H locs ls hF hY
  exact va_get (D := D) (ci := 1) (v := .ref (a 3)) (C := R_C) (T := F_C) (N := 11) hF.1.1 hF.1.2.1 hF.1.2.2.2.2.2.2.1 us_C hF.1.2.2.2.2.2.1 hF.1.2.2.2.2.2.2.2 hY.1 1 rfl rfl 1 (by decide) (hF.1.2.2.2.2.2.2.1 _ wm_15) (fun _ h9 => h9) rfl hd (k p e s m args below meth c A H locs ls hF hY)
theorem gf_C_18 (hd : decode b pc = .ok (.getfield 18, 3)) (hq : pc + 3 = q) (k : Ok (wC g a) D (tyC g) l rm R_C b nL ret S q Lc (.ref (a 4) :: St) Post) : Ok (wC g a) D (tyC g) l rm R_C b nL ret S pc Lc (.ref (a 1) :: St) Post := by
  subst hq
  intro p e s m args below meth c A H locs ls hF hY
  exact va_get (D := D) (ci := 1) (v := .ref (a 4)) (C := R_C) (T := F_C) (N := 11) hF.1.1 hF.1.2.1 hF.1.2.2.2.2.2.2.1 us_C hF.1.2.2.2.2.2.1 hF.1.2.2.2.2.2.2.2 hY.1 1 rfl rfl 2 (by decide) (hF.1.2.2.2.2.2.2.1 _ wm_16) (fun _ h9 => h9) rfl hd (k p e s m args below meth c A H locs ls hF hY)
theorem gf_C_22 (hd : decode b pc = .ok (.getfield 22, 3)) (hq : pc + 3 = q) (k : Ok (wC g a) D (tyC g) l rm R_C b nL ret S q Lc (.ref (a 5) :: St) Post) : Ok (wC g a) D (tyC g) l rm R_C b nL ret S pc Lc (.ref (a 1) :: St) Post := by
  subst hq
  intro p e s m args below meth c A H locs ls hF hY
  exact va_get (D := D) (ci := 1) (v := .ref (a 5)) (C := R_C) (T := F_C) (N := 11) hF.1.1 hF.1.2.1 hF.1.2.2.2.2.2.2.1 us_C hF.1.2.2.2.2.2.1 hF.1.2.2.2.2.2.2.2 hY.1 1 rfl rfl 3 (by decide) (hF.1.2.2.2.2.2.2.1 _ wm_17) (fun _ h9 => h9) rfl hd (k p e s m args below meth c A H locs ls hF hY)
theorem gf_C_25 (hd : decode b pc = .ok (.getfield 25, 3)) (hq : pc + 3 = q) (k : Ok (wC g a) D (tyC g) l rm R_C b nL ret S q Lc (.ref (a 6) :: St) Post) : Ok (wC g a) D (tyC g) l rm R_C b nL ret S pc Lc (.ref (a 1) :: St) Post := by
  subst hq
  intro p e s m args below meth c A H locs ls hF hY
  exact va_get (D := D) (ci := 1) (v := .ref (a 6)) (C := R_C) (T := F_C) (N := 11) hF.1.1 hF.1.2.1 hF.1.2.2.2.2.2.2.1 us_C hF.1.2.2.2.2.2.1 hF.1.2.2.2.2.2.2.2 hY.1 1 rfl rfl 4 (by decide) (hF.1.2.2.2.2.2.2.1 _ wm_18) (fun _ h9 => h9) rfl hd (k p e s m args below meth c A H locs ls hF hY)
theorem gf_C_28 (hd : decode b pc = .ok (.getfield 28, 3)) (hq : pc + 3 = q) (k : Ok (wC g a) D (tyC g) l rm R_C b nL ret S q Lc (.ref (a 7) :: St) Post) : Ok (wC g a) D (tyC g) l rm R_C b nL ret S pc Lc (.ref (a 1) :: St) Post := by
  subst hq
  intro p e s m args below meth c A H locs ls hF hY
  exact va_get (D := D) (ci := 1) (v := .ref (a 7)) (C := R_C) (T := F_C) (N := 11) hF.1.1 hF.1.2.1 hF.1.2.2.2.2.2.2.1 us_C hF.1.2.2.2.2.2.1 hF.1.2.2.2.2.2.2.2 hY.1 1 rfl rfl 5 (by decide) (hF.1.2.2.2.2.2.2.1 _ wm_19) (fun _ h9 => h9) rfl hd (k p e s m args below meth c A H locs ls hF hY)
theorem gf_C_32 (hd : decode b pc = .ok (.getfield 32, 3)) (hq : pc + 3 = q) (k : Ok (wC g a) D (tyC g) l rm R_C b nL ret S q Lc (.ref (a 8) :: St) Post) : Ok (wC g a) D (tyC g) l rm R_C b nL ret S pc Lc (.ref (a 1) :: St) Post := by
  subst hq
  intro p e s m args below meth c A H locs ls hF hY
  exact va_get (D := D) (ci := 1) (v := .ref (a 8)) (C := R_C) (T := F_C) (N := 11) hF.1.1 hF.1.2.1 hF.1.2.2.2.2.2.2.1 us_C hF.1.2.2.2.2.2.1 hF.1.2.2.2.2.2.2.2 hY.1 1 rfl rfl 6 (by decide) (hF.1.2.2.2.2.2.2.1 _ wm_20) (fun _ h9 => h9) rfl hd (k p e s m args below meth c A H locs ls hF hY)
theorem gf_C_35 (hd : decode b pc = .ok (.getfield 35, 3)) (hq : pc + 3 = q) (k : Ok (wC g a) D (tyC g) l rm R_C b nL ret S q Lc (.ref (a 9) :: St) Post) : Ok (wC g a) D (tyC g) l rm R_C b nL ret S pc Lc (.ref (a 1) :: St) Post := by
  subst hq
  intro p e s m args below meth c A H locs ls hF hY
  exact va_get (D := D) (ci := 1) (v := .ref (a 9)) (C := R_C) (T := F_C) (N := 11) hF.1.1 hF.1.2.1 hF.1.2.2.2.2.2.2.1 us_C hF.1.2.2.2.2.2.1 hF.1.2.2.2.2.2.2.2 hY.1 1 rfl rfl 7 (by decide) (hF.1.2.2.2.2.2.2.1 _ wm_21) (fun _ h9 => h9) rfl hd (k p e s m args below meth c A H locs ls hF hY)
theorem gf_C_42 {x : Int32} (hx : x = S.1 1 1) (hd : decode b pc = .ok (.getfield 42, 3)) (hq : pc + 3 = q) (k : Ok (wC g a) D (tyC g) l rm R_C b nL ret S q Lc (.int x :: St) Post) : Ok (wC g a) D (tyC g) l rm R_C b nL ret S pc Lc (.ref (a 1) :: St) Post := by
  subst hq; subst hx
  intro p e s m args below meth c A H locs ls hF hY
  exact va_get (D := D) (ci := 1) (v := .int (S.1 1 1)) (C := R_C) (T := F_C) (N := 11) hF.1.1 hF.1.2.1 hF.1.2.2.2.2.2.2.1 us_C hF.1.2.2.2.2.2.1 hF.1.2.2.2.2.2.2.2 hY.1 1 rfl rfl 9 (by decide) (hF.1.2.2.2.2.2.2.1 _ wm_22) (fun _ h9 => h9) rfl hd (k p e s m args below meth c A H locs ls hF hY)
theorem gf_C_46 {x : Int32} (hx : x = S.1 1 2) (hd : decode b pc = .ok (.getfield 46, 3)) (hq : pc + 3 = q) (k : Ok (wC g a) D (tyC g) l rm R_C b nL ret S q Lc (.int x :: St) Post) : Ok (wC g a) D (tyC g) l rm R_C b nL ret S pc Lc (.ref (a 1) :: St) Post := by
  subst hq; subst hx
  intro p e s m args below meth c A H locs ls hF hY
  exact va_get (D := D) (ci := 1) (v := .int (S.1 1 2)) (C := R_C) (T := F_C) (N := 11) hF.1.1 hF.1.2.1 hF.1.2.2.2.2.2.2.1 us_C hF.1.2.2.2.2.2.1 hF.1.2.2.2.2.2.2.2 hY.1 1 rfl rfl 10 (by decide) (hF.1.2.2.2.2.2.2.1 _ wm_23) (fun _ h9 => h9) rfl hd (k p e s m args below meth c A H locs ls hF hY)
theorem gf_S_12 (hd : decode b pc = .ok (.getfield 12, 3)) (hq : pc + 3 = q) (k : Ok (wC g a) D (tyC g) l rm R_S b nL ret S q Lc (.ref (a 1) :: St) Post) : Ok (wC g a) D (tyC g) l rm R_S b nL ret S pc Lc (.ref (a 0) :: St) Post := by
  subst hq
  intro p e s m args below meth c A H locs ls hF hY
  exact va_get (D := D) (ci := 0) (v := .ref (a 1)) (C := R_S) (T := F_S) (N := 3) hF.1.1 hF.1.2.1 hF.1.2.2.2.2.2.2.1 us_S hF.1.2.2.2.2.2.1 hF.1.2.2.2.2.2.2.2 hY.1 0 rfl rfl 0 (by decide) (hF.1.2.2.2.2.2.2.1 _ wm_24) (fun _ h9 => h9) rfl hd (k p e s m args below meth c A H locs ls hF hY)
theorem gf_S_16 (hd : decode b pc = .ok (.getfield 16, 3)) (hq : pc + 3 = q) (k : Ok (wC g a) D (tyC g) l rm R_S b nL ret S q Lc (.ref (a 10) :: St) Post) : Ok (wC g a) D (tyC g) l rm R_S b nL ret S pc Lc (.ref (a 0) :: St) Post := by
  subst hq
  intro p e s m args below meth c A H locs ls hF hY
  exact va_get (D := D) (ci := 0) (v := .ref (a 10)) (C := R_S) (T := F_S) (N := 3) hF.1.1 hF.1.2.1 hF.1.2.2.2.2.2.2.1 us_S hF.1.2.2.2.2.2.1 hF.1.2.2.2.2.2.2.2 hY.1 0 rfl rfl 1 (by decide) (hF.1.2.2.2.2.2.2.1 _ wm_25) (fun _ h9 => h9) rfl hd (k p e s m args below meth c A H locs ls hF hY)
theorem gf_S_20 {x : Int32} (hx : x = S.1 0 0) (hd : decode b pc = .ok (.getfield 20, 3)) (hq : pc + 3 = q) (k : Ok (wC g a) D (tyC g) l rm R_S b nL ret S q Lc (.int x :: St) Post) : Ok (wC g a) D (tyC g) l rm R_S b nL ret S pc Lc (.ref (a 0) :: St) Post := by
  subst hq; subst hx
  intro p e s m args below meth c A H locs ls hF hY
  exact va_get (D := D) (ci := 0) (v := .int (S.1 0 0)) (C := R_S) (T := F_S) (N := 3) hF.1.1 hF.1.2.1 hF.1.2.2.2.2.2.2.1 us_S hF.1.2.2.2.2.2.1 hF.1.2.2.2.2.2.2.2 hY.1 0 rfl rfl 2 (by decide) (hF.1.2.2.2.2.2.2.1 _ wm_26) (fun _ h9 => h9) rfl hd (k p e s m args below meth c A H locs ls hF hY)
theorem gf_S_117 {x : Int32} (hx : x = S.1 1 0) (hd : decode b pc = .ok (.getfield 117, 3)) (hq : pc + 3 = q) (k : Ok (wC g a) D (tyC g) l rm R_S b nL ret S q Lc (.int x :: St) Post) : Ok (wC g a) D (tyC g) l rm R_S b nL ret S pc Lc (.ref (a 1) :: St) Post := by
  subst hq; subst hx
  intro p e s m args below meth c A H locs ls hF hY
  exact va_get (D := D) (ci := 1) (v := .int (S.1 1 0)) (C := R_C) (T := F_C) (N := 11) hF.1.1 hF.1.2.1 hF.1.2.2.2.2.2.2.1 us_C hF.1.2.2.2.2.2.1 hF.1.2.2.2.2.2.2.2 hY.1 1 rfl rfl 8 (by decide) (hF.1.2.2.2.2.2.2.1 _ wm_27) (fun _ h9 => h9) rfl hd (k p e s m args below meth c A H locs ls hF hY)
theorem gf_S_145 (hd : decode b pc = .ok (.getfield 145, 3)) (hq : pc + 3 = q) (k : Ok (wC g a) D (tyC g) l rm R_S b nL ret S q Lc (.ref (a 8) :: St) Post) : Ok (wC g a) D (tyC g) l rm R_S b nL ret S pc Lc (.ref (a 1) :: St) Post := by
  subst hq
  intro p e s m args below meth c A H locs ls hF hY
  exact va_get (D := D) (ci := 1) (v := .ref (a 8)) (C := R_C) (T := F_C) (N := 11) hF.1.1 hF.1.2.1 hF.1.2.2.2.2.2.2.1 us_C hF.1.2.2.2.2.2.1 hF.1.2.2.2.2.2.2.2 hY.1 1 rfl rfl 6 (by decide) (hF.1.2.2.2.2.2.2.1 _ wm_28) (fun _ h9 => h9) rfl hd (k p e s m args below meth c A H locs ls hF hY)
theorem gf_S_148 (hd : decode b pc = .ok (.getfield 148, 3)) (hq : pc + 3 = q) (k : Ok (wC g a) D (tyC g) l rm R_S b nL ret S q Lc (.ref (a 7) :: St) Post) : Ok (wC g a) D (tyC g) l rm R_S b nL ret S pc Lc (.ref (a 1) :: St) Post := by
  subst hq
  intro p e s m args below meth c A H locs ls hF hY
  exact va_get (D := D) (ci := 1) (v := .ref (a 7)) (C := R_C) (T := F_C) (N := 11) hF.1.1 hF.1.2.1 hF.1.2.2.2.2.2.2.1 us_C hF.1.2.2.2.2.2.1 hF.1.2.2.2.2.2.2.2 hY.1 1 rfl rfl 5 (by decide) (hF.1.2.2.2.2.2.2.1 _ wm_29) (fun _ h9 => h9) rfl hd (k p e s m args below meth c A H locs ls hF hY)
theorem gf_S_154 (hd : decode b pc = .ok (.getfield 154, 3)) (hq : pc + 3 = q) (k : Ok (wC g a) D (tyC g) l rm R_S b nL ret S q Lc (.ref (a 2) :: St) Post) : Ok (wC g a) D (tyC g) l rm R_S b nL ret S pc Lc (.ref (a 1) :: St) Post := by
  subst hq
  intro p e s m args below meth c A H locs ls hF hY
  exact va_get (D := D) (ci := 1) (v := .ref (a 2)) (C := R_C) (T := F_C) (N := 11) hF.1.1 hF.1.2.1 hF.1.2.2.2.2.2.2.1 us_C hF.1.2.2.2.2.2.1 hF.1.2.2.2.2.2.2.2 hY.1 1 rfl rfl 0 (by decide) (hF.1.2.2.2.2.2.2.1 _ wm_30) (fun _ h9 => h9) rfl hd (k p e s m args below meth c A H locs ls hF hY)
theorem gf_S_161 (hd : decode b pc = .ok (.getfield 161, 3)) (hq : pc + 3 = q) (k : Ok (wC g a) D (tyC g) l rm R_S b nL ret S q Lc (.ref (a 6) :: St) Post) : Ok (wC g a) D (tyC g) l rm R_S b nL ret S pc Lc (.ref (a 1) :: St) Post := by
  subst hq
  intro p e s m args below meth c A H locs ls hF hY
  exact va_get (D := D) (ci := 1) (v := .ref (a 6)) (C := R_C) (T := F_C) (N := 11) hF.1.1 hF.1.2.1 hF.1.2.2.2.2.2.2.1 us_C hF.1.2.2.2.2.2.1 hF.1.2.2.2.2.2.2.2 hY.1 1 rfl rfl 4 (by decide) (hF.1.2.2.2.2.2.2.1 _ wm_31) (fun _ h9 => h9) rfl hd (k p e s m args below meth c A H locs ls hF hY)
theorem gf_S_164 {x : Int32} (hx : x = S.1 1 1) (hd : decode b pc = .ok (.getfield 164, 3)) (hq : pc + 3 = q) (k : Ok (wC g a) D (tyC g) l rm R_S b nL ret S q Lc (.int x :: St) Post) : Ok (wC g a) D (tyC g) l rm R_S b nL ret S pc Lc (.ref (a 1) :: St) Post := by
  subst hq; subst hx
  intro p e s m args below meth c A H locs ls hF hY
  exact va_get (D := D) (ci := 1) (v := .int (S.1 1 1)) (C := R_C) (T := F_C) (N := 11) hF.1.1 hF.1.2.1 hF.1.2.2.2.2.2.2.1 us_C hF.1.2.2.2.2.2.1 hF.1.2.2.2.2.2.2.2 hY.1 1 rfl rfl 9 (by decide) (hF.1.2.2.2.2.2.2.1 _ wm_32) (fun _ h9 => h9) rfl hd (k p e s m args below meth c A H locs ls hF hY)
theorem gf_S_191 (hd : decode b pc = .ok (.getfield 191, 3)) (hq : pc + 3 = q) (k : Ok (wC g a) D (tyC g) l rm R_S b nL ret S q Lc (.ref (a 4) :: St) Post) : Ok (wC g a) D (tyC g) l rm R_S b nL ret S pc Lc (.ref (a 1) :: St) Post := by
  subst hq
  intro p e s m args below meth c A H locs ls hF hY
  exact va_get (D := D) (ci := 1) (v := .ref (a 4)) (C := R_C) (T := F_C) (N := 11) hF.1.1 hF.1.2.1 hF.1.2.2.2.2.2.2.1 us_C hF.1.2.2.2.2.2.1 hF.1.2.2.2.2.2.2.2 hY.1 1 rfl rfl 2 (by decide) (hF.1.2.2.2.2.2.2.1 _ wm_33) (fun _ h9 => h9) rfl hd (k p e s m args below meth c A H locs ls hF hY)
theorem gf_S_195 (hd : decode b pc = .ok (.getfield 195, 3)) (hq : pc + 3 = q) (k : Ok (wC g a) D (tyC g) l rm R_S b nL ret S q Lc (.ref (a 3) :: St) Post) : Ok (wC g a) D (tyC g) l rm R_S b nL ret S pc Lc (.ref (a 1) :: St) Post := by
  subst hq
  intro p e s m args below meth c A H locs ls hF hY
  exact va_get (D := D) (ci := 1) (v := .ref (a 3)) (C := R_C) (T := F_C) (N := 11) hF.1.1 hF.1.2.1 hF.1.2.2.2.2.2.2.1 us_C hF.1.2.2.2.2.2.1 hF.1.2.2.2.2.2.2.2 hY.1 1 rfl rfl 1 (by decide) (hF.1.2.2.2.2.2.2.1 _ wm_34) (fun _ h9 => h9) rfl hd (k p e s m args below meth c A H locs ls hF hY)
theorem gf_S_210 (hd : decode b pc = .ok (.getfield 210, 3)) (hq : pc + 3 = q) (k : Ok (wC g a) D (tyC g) l rm R_S b nL ret S q Lc (.ref (a 5) :: St) Post) : Ok (wC g a) D (tyC g) l rm R_S b nL ret S pc Lc (.ref (a 1) :: St) Post := by
  subst hq
  intro p e s m args below meth c A H locs ls hF hY
  exact va_get (D := D) (ci := 1) (v := .ref (a 5)) (C := R_C) (T := F_C) (N := 11) hF.1.1 hF.1.2.1 hF.1.2.2.2.2.2.2.1 us_C hF.1.2.2.2.2.2.1 hF.1.2.2.2.2.2.2.2 hY.1 1 rfl rfl 3 (by decide) (hF.1.2.2.2.2.2.2.1 _ wm_35) (fun _ h9 => h9) rfl hd (k p e s m args below meth c A H locs ls hF hY)
theorem pf_C_38 {x : Int32} (hx : S1 = fc S 1 0 x) (hb : isB x) (hd : decode b pc = .ok (.putfield 38, 3)) (hq : pc + 3 = q) (k : Ok (wC g a) D (tyC g) l rm R_C b nL ret S1 q Lc (St) Post) : Ok (wC g a) D (tyC g) l rm R_C b nL ret S pc Lc (.int x :: .ref (a 1) :: St) Post := by
  subst hq; subst hx
  intro p e s m args below meth c A H locs ls hF hY
  exact va_put (D := D) (ci := 1) (v := .int x) (ty := .boolean) (C := R_C) (T := F_C) (N := 11) hF.1.1 hF.1.2.1 hF.1.2.2.2.2.2.2.1 us_C t_C t_C_ok n_C hF.1.2.2.2.2.2.1 hF.1.2.2.2.2.2.2.2 hY.1 hY.2.1 hY.2.2.1 1 rfl rfl 8 (by decide) (hF.1.2.2.2.2.2.2.1 _ wm_36) (fun _ h9 => h9) rfl (by decide +kernel) (ib_nar hb) (ib_fit hb) (Nat.le_of_ble_eq_true rfl) hd (fun H1 locs1 hP1 hD1 hS1 => k p e s m args below meth c A H1 locs1 ls hF ⟨hP1, hD1, hS1, hY.2.2.2⟩)
theorem pf_C_42 {x : Int32} (hx : S1 = fc S 1 1 x) (hd : decode b pc = .ok (.putfield 42, 3)) (hq : pc + 3 = q) (k : Ok (wC g a) D (tyC g) l rm R_C b nL ret S1 q Lc (St) Post) : Ok (wC g a) D (tyC g) l rm R_C b nL ret S pc Lc (.int x :: .ref (a 1) :: St) Post := by
  subst hq; subst hx
  intro p e s m args below meth c A H locs ls hF hY
  exact va_put (D := D) (ci := 1) (v := .int x) (ty := .int) (C := R_C) (T := F_C) (N := 11) hF.1.1 hF.1.2.1 hF.1.2.2.2.2.2.2.1 us_C t_C t_C_ok n_C hF.1.2.2.2.2.2.1 hF.1.2.2.2.2.2.2.2 hY.1 hY.2.1 hY.2.2.1 1 rfl rfl 9 (by decide) (hF.1.2.2.2.2.2.2.1 _ wm_22) (fun _ h9 => h9) rfl (by decide +kernel) rfl rfl (Nat.le_of_ble_eq_true rfl) hd (fun H1 locs1 hP1 hD1 hS1 => k p e s m args below meth c A H1 locs1 ls hF ⟨hP1, hD1, hS1, hY.2.2.2⟩)
theorem pf_C_46 {x : Int32} (hx : S1 = fc S 1 2 x) (hd : decode b pc = .ok (.putfield 46, 3)) (hq : pc + 3 = q) (k : Ok (wC g a) D (tyC g) l rm R_C b nL ret S1 q Lc (St) Post) : Ok (wC g a) D (tyC g) l rm R_C b nL ret S pc Lc (.int x :: .ref (a 1) :: St) Post := by
  subst hq; subst hx
  intro p e s m args below meth c A H locs ls hF hY
  exact va_put (D := D) (ci := 1) (v := .int x) (ty := .int) (C := R_C) (T := F_C) (N := 11) hF.1.1 hF.1.2.1 hF.1.2.2.2.2.2.2.1 us_C t_C t_C_ok n_C hF.1.2.2.2.2.2.1 hF.1.2.2.2.2.2.2.2 hY.1 hY.2.1 hY.2.2.1 1 rfl rfl 10 (by decide) (hF.1.2.2.2.2.2.2.1 _ wm_23) (fun _ h9 => h9) rfl (by decide +kernel) rfl rfl (Nat.le_of_ble_eq_true rfl) hd (fun H1 locs1 hP1 hD1 hS1 => k p e s m args below meth c A H1 locs1 ls hF ⟨hP1, hD1, hS1, hY.2.2.2⟩)
theorem pf_S_20 {x : Int32} (hx : S1 = fc S 0 0 x) (hb : isB x) (hd : decode b pc = .ok (.putfield 20, 3)) (hq : pc + 3 = q) (k : Ok (wC g a) D (tyC g) l rm R_S b nL ret S1 q Lc (St) Post) : Ok (wC g a) D (tyC g) l rm R_S b nL ret S pc Lc (.int x :: .ref (a 0) :: St) Post := by
  subst hq; subst hx
  intro p e s m args below meth c A H locs ls hF hY
  exact va_put (D := D) (ci := 0) (v := .int x) (ty := .boolean) (C := R_S) (T := F_S) (N := 3) hF.1.1 hF.1.2.1 hF.1.2.2.2.2.2.2.1 us_S t_S t_S_ok n_S hF.1.2.2.2.2.2.1 hF.1.2.2.2.2.2.2.2 hY.1 hY.2.1 hY.2.2.1 0 rfl rfl 2 (by decide) (hF.1.2.2.2.2.2.2.1 _ wm_26) (fun _ h9 => h9) rfl (by decide +kernel) (ib_nar hb) (ib_fit hb) (Nat.le_of_ble_eq_true rfl) hd (fun H1 locs1 hP1 hD1 hS1 => k p e s m args below meth c A H1 locs1 ls hF ⟨hP1, hD1, hS1, hY.2.2.2⟩)
theorem pf_S_132 {x : Int32} (hx : S1 = fc S 1 2 x) (hd : decode b pc = .ok (.putfield 132, 3)) (hq : pc + 3 = q) (k : Ok (wC g a) D (tyC g) l rm R_S b nL ret S1 q Lc (St) Post) : Ok (wC g a) D (tyC g) l rm R_S b nL ret S pc Lc (.int x :: .ref (a 1) :: St) Post := by
  subst hq; subst hx
  intro p e s m args below meth c A H locs ls hF hY
  exact va_put (D := D) (ci := 1) (v := .int x) (ty := .int) (C := R_C) (T := F_C) (N := 11) hF.1.1 hF.1.2.1 hF.1.2.2.2.2.2.2.1 us_C t_C t_C_ok n_C hF.1.2.2.2.2.2.1 hF.1.2.2.2.2.2.2.2 hY.1 hY.2.1 hY.2.2.1 1 rfl rfl 10 (by decide) (hF.1.2.2.2.2.2.2.1 _ wm_37) (fun _ h9 => h9) rfl (by decide +kernel) rfl rfl (Nat.le_of_ble_eq_true rfl) hd (fun H1 locs1 hP1 hD1 hS1 => k p e s m args below meth c A H1 locs1 ls hF ⟨hP1, hD1, hS1, hY.2.2.2⟩)
theorem al_C_2 {own : String} {j : Int32} {x : Int32} (hj : inB j 48) (hx : x = rc S 2 j) (hd : decode b pc = .ok (.iaload, 1)) (hq : pc + 1 = q) (k : Ok (wC g a) D (tyC g) l rm own b nL ret S q Lc (.int x :: St) Post) : Ok (wC g a) D (tyC g) l rm own b nL ret S pc Lc (.int j :: .ref (a 2) :: St) Post := by
  subst hq; subst hx
  intro p e s m args below meth c A H locs ls hF hY
  exact va_iald (D := D) hF.1.1 hF.1.2.1 hF.1.2.2.2.2.2.2.2 hY.1 2 0 rfl rfl (ib_in hj) hd (k p e s m args below meth c A H locs ls hF hY)
theorem as_C_2 {own : String} {j : Int32} {x : Int32} (hj : inB j 48) (hx : S1 = wc S 2 j x) (hd : decode b pc = .ok (.iastore, 1)) (hq : pc + 1 = q) (k : Ok (wC g a) D (tyC g) l rm own b nL ret S1 q Lc (St) Post) : Ok (wC g a) D (tyC g) l rm own b nL ret S pc Lc (.int x :: .int j :: .ref (a 2) :: St) Post := by
  subst hq; subst hx
  intro p e s m args below meth c A H locs ls hF hY
  exact va_iast (D := D) hF.1.1 hF.1.2.1 hF.1.2.2.2.2.2.2.2 hY.1 hY.2.1 hY.2.2.1 2 0 rfl rfl (ib_in hj) hd (fun H1 locs1 hP1 hD1 hS1 => k p e s m args below meth c A H1 locs1 ls hF ⟨hP1, hD1, hS1, hY.2.2.2⟩)
theorem al_C_3 {own : String} {j : Int32} {x : Int32} (hj : inB j 48) (hx : x = rc S 3 j) (hd : decode b pc = .ok (.iaload, 1)) (hq : pc + 1 = q) (k : Ok (wC g a) D (tyC g) l rm own b nL ret S q Lc (.int x :: St) Post) : Ok (wC g a) D (tyC g) l rm own b nL ret S pc Lc (.int j :: .ref (a 3) :: St) Post := by
  subst hq; subst hx
  intro p e s m args below meth c A H locs ls hF hY
  exact va_iald (D := D) hF.1.1 hF.1.2.1 hF.1.2.2.2.2.2.2.2 hY.1 3 1 rfl rfl (ib_in hj) hd (k p e s m args below meth c A H locs ls hF hY)
theorem as_C_3 {own : String} {j : Int32} {x : Int32} (hj : inB j 48) (hx : S1 = wc S 3 j x) (hd : decode b pc = .ok (.iastore, 1)) (hq : pc + 1 = q) (k : Ok (wC g a) D (tyC g) l rm own b nL ret S1 q Lc (St) Post) : Ok (wC g a) D (tyC g) l rm own b nL ret S pc Lc (.int x :: .int j :: .ref (a 3) :: St) Post := by
  subst hq; subst hx
  intro p e s m args below meth c A H locs ls hF hY
  exact va_iast (D := D) hF.1.1 hF.1.2.1 hF.1.2.2.2.2.2.2.2 hY.1 hY.2.1 hY.2.2.1 3 1 rfl rfl (ib_in hj) hd (fun H1 locs1 hP1 hD1 hS1 => k p e s m args below meth c A H1 locs1 ls hF ⟨hP1, hD1, hS1, hY.2.2.2⟩)
theorem al_C_4 {own : String} {j : Int32} {x : Int64} (hj : inB j 48) (hx : x = rl S j) (hd : decode b pc = .ok (.laload, 1)) (hq : pc + 1 = q) (k : Ok (wC g a) D (tyC g) l rm own b nL ret S q Lc (.long x :: St) Post) : Ok (wC g a) D (tyC g) l rm own b nL ret S pc Lc (.int j :: .ref (a 4) :: St) Post := by
  subst hq; subst hx
  intro p e s m args below meth c A H locs ls hF hY
  exact va_lald (D := D) hF.1.1 hF.1.2.1 hF.1.2.2.2.2.2.2.2 hY.1 4 2 rfl rfl (ib_in hj) hd (k p e s m args below meth c A H locs ls hF hY)
theorem as_C_4 {own : String} {j : Int32} {x : Int64} (hj : inB j 48) (hx : S1 = wl S j x) (hd : decode b pc = .ok (.lastore, 1)) (hq : pc + 1 = q) (k : Ok (wC g a) D (tyC g) l rm own b nL ret S1 q Lc (St) Post) : Ok (wC g a) D (tyC g) l rm own b nL ret S pc Lc (.long x :: .int j :: .ref (a 4) :: St) Post := by
  subst hq; subst hx
  intro p e s m args below meth c A H locs ls hF hY
  exact va_last (D := D) hF.1.1 hF.1.2.1 hF.1.2.2.2.2.2.2.2 hY.1 hY.2.1 hY.2.2.1 4 2 rfl rfl (ib_in hj) hd (fun H1 locs1 hP1 hD1 hS1 => k p e s m args below meth c A H1 locs1 ls hF ⟨hP1, hD1, hS1, hY.2.2.2⟩)
theorem al_C_5 {own : String} {j : Int32} {x : Int32} (hj : inB j 6) (hx : x = rc S 5 j) (hd : decode b pc = .ok (.iaload, 1)) (hq : pc + 1 = q) (k : Ok (wC g a) D (tyC g) l rm own b nL ret S q Lc (.int x :: St) Post) : Ok (wC g a) D (tyC g) l rm own b nL ret S pc Lc (.int j :: .ref (a 5) :: St) Post := by
  subst hq; subst hx
  intro p e s m args below meth c A H locs ls hF hY
  exact va_iald (D := D) hF.1.1 hF.1.2.1 hF.1.2.2.2.2.2.2.2 hY.1 5 3 rfl rfl (ib_in hj) hd (k p e s m args below meth c A H locs ls hF hY)
theorem as_C_5 {own : String} {j : Int32} {x : Int32} (hj : inB j 6) (hx : S1 = wc S 5 j x) (hd : decode b pc = .ok (.iastore, 1)) (hq : pc + 1 = q) (k : Ok (wC g a) D (tyC g) l rm own b nL ret S1 q Lc (St) Post) : Ok (wC g a) D (tyC g) l rm own b nL ret S pc Lc (.int x :: .int j :: .ref (a 5) :: St) Post := by
  subst hq; subst hx
  intro p e s m args below meth c A H locs ls hF hY
  exact va_iast (D := D) hF.1.1 hF.1.2.1 hF.1.2.2.2.2.2.2.2 hY.1 hY.2.1 hY.2.2.1 5 3 rfl rfl (ib_in hj) hd (fun H1 locs1 hP1 hD1 hS1 => k p e s m args below meth c A H1 locs1 ls hF ⟨hP1, hD1, hS1, hY.2.2.2⟩)
theorem al_C_6 {own : String} {j : Int32} {x : Int32} (hj : inB j 6) (hx : x = rc S 6 j) (hd : decode b pc = .ok (.iaload, 1)) (hq : pc + 1 = q) (k : Ok (wC g a) D (tyC g) l rm own b nL ret S q Lc (.int x :: St) Post) : Ok (wC g a) D (tyC g) l rm own b nL ret S pc Lc (.int j :: .ref (a 6) :: St) Post := by
  subst hq; subst hx
  intro p e s m args below meth c A H locs ls hF hY
  exact va_iald (D := D) hF.1.1 hF.1.2.1 hF.1.2.2.2.2.2.2.2 hY.1 6 4 rfl rfl (ib_in hj) hd (k p e s m args below meth c A H locs ls hF hY)
theorem as_C_6 {own : String} {j : Int32} {x : Int32} (hj : inB j 6) (hx : S1 = wc S 6 j x) (hd : decode b pc = .ok (.iastore, 1)) (hq : pc + 1 = q) (k : Ok (wC g a) D (tyC g) l rm own b nL ret S1 q Lc (St) Post) : Ok (wC g a) D (tyC g) l rm own b nL ret S pc Lc (.int x :: .int j :: .ref (a 6) :: St) Post := by
  subst hq; subst hx
  intro p e s m args below meth c A H locs ls hF hY
  exact va_iast (D := D) hF.1.1 hF.1.2.1 hF.1.2.2.2.2.2.2.2 hY.1 hY.2.1 hY.2.2.1 6 4 rfl rfl (ib_in hj) hd (fun H1 locs1 hP1 hD1 hS1 => k p e s m args below meth c A H1 locs1 ls hF ⟨hP1, hD1, hS1, hY.2.2.2⟩)
theorem al_C_7 {own : String} {j : Int32} {x : Int32} (hj : inB j 6) (hx : x = rc S 7 j) (hd : decode b pc = .ok (.baload, 1)) (hq : pc + 1 = q) (k : Ok (wC g a) D (tyC g) l rm own b nL ret S q Lc (.int x :: St) Post) : Ok (wC g a) D (tyC g) l rm own b nL ret S pc Lc (.int j :: .ref (a 7) :: St) Post := by
  subst hq; subst hx
  intro p e s m args below meth c A H locs ls hF hY
  exact va_zald (D := D) hF.1.1 hF.1.2.1 hF.1.2.2.2.2.2.2.2 hY.1 7 5 rfl rfl (ib_in hj) hd (k p e s m args below meth c A H locs ls hF hY)
theorem as_C_7 {own : String} {j : Int32} {x : Int32} (hj : inB j 6) (hx : S1 = wc S 7 j x) (hb : isB x) (hd : decode b pc = .ok (.bastore, 1)) (hq : pc + 1 = q) (k : Ok (wC g a) D (tyC g) l rm own b nL ret S1 q Lc (St) Post) : Ok (wC g a) D (tyC g) l rm own b nL ret S pc Lc (.int x :: .int j :: .ref (a 7) :: St) Post := by
  subst hq; subst hx
  intro p e s m args below meth c A H locs ls hF hY
  exact va_zast (D := D) hF.1.1 hF.1.2.1 hF.1.2.2.2.2.2.2.2 hY.1 hY.2.1 hY.2.2.1 7 5 rfl rfl (ib_in hj) hd (fun H1 locs1 hP1 hD1 hS1 => by rw [ib_vp hb] at hP1 hD1; exact k p e s m args below meth c A H1 locs1 ls hF ⟨hP1, hD1, hS1, hY.2.2.2⟩)
theorem al_C_8 {own : String} {j : Int32} {x : Int32} (hj : inB j 6) (hx : x = rc S 8 j) (hd : decode b pc = .ok (.baload, 1)) (hq : pc + 1 = q) (k : Ok (wC g a) D (tyC g) l rm own b nL ret S q Lc (.int x :: St) Post) : Ok (wC g a) D (tyC g) l rm own b nL ret S pc Lc (.int j :: .ref (a 8) :: St) Post := by
  subst hq; subst hx
  intro p e s m args below meth c A H locs ls hF hY
  exact va_zald (D := D) hF.1.1 hF.1.2.1 hF.1.2.2.2.2.2.2.2 hY.1 8 6 rfl rfl (ib_in hj) hd (k p e s m args below meth c A H locs ls hF hY)
theorem as_C_8 {own : String} {j : Int32} {x : Int32} (hj : inB j 6) (hx : S1 = wc S 8 j x) (hb : isB x) (hd : decode b pc = .ok (.bastore, 1)) (hq : pc + 1 = q) (k : Ok (wC g a) D (tyC g) l rm own b nL ret S1 q Lc (St) Post) : Ok (wC g a) D (tyC g) l rm own b nL ret S pc Lc (.int x :: .int j :: .ref (a 8) :: St) Post := by
  subst hq; subst hx
  intro p e s m args below meth c A H locs ls hF hY
  exact va_zast (D := D) hF.1.1 hF.1.2.1 hF.1.2.2.2.2.2.2.2 hY.1 hY.2.1 hY.2.2.1 8 6 rfl rfl (ib_in hj) hd (fun H1 locs1 hP1 hD1 hS1 => by rw [ib_vp hb] at hP1 hD1; exact k p e s m args below meth c A H1 locs1 ls hF ⟨hP1, hD1, hS1, hY.2.2.2⟩)
theorem al_C_9 {own : String} {j : Int32} {x : Int32} (hj : inB j 6) (hx : x = rc S 9 j) (hd : decode b pc = .ok (.baload, 1)) (hq : pc + 1 = q) (k : Ok (wC g a) D (tyC g) l rm own b nL ret S q Lc (.int x :: St) Post) : Ok (wC g a) D (tyC g) l rm own b nL ret S pc Lc (.int j :: .ref (a 9) :: St) Post := by
  subst hq; subst hx
  intro p e s m args below meth c A H locs ls hF hY
  exact va_zald (D := D) hF.1.1 hF.1.2.1 hF.1.2.2.2.2.2.2.2 hY.1 9 7 rfl rfl (ib_in hj) hd (k p e s m args below meth c A H locs ls hF hY)
theorem as_C_9 {own : String} {j : Int32} {x : Int32} (hj : inB j 6) (hx : S1 = wc S 9 j x) (hb : isB x) (hd : decode b pc = .ok (.bastore, 1)) (hq : pc + 1 = q) (k : Ok (wC g a) D (tyC g) l rm own b nL ret S1 q Lc (St) Post) : Ok (wC g a) D (tyC g) l rm own b nL ret S pc Lc (.int x :: .int j :: .ref (a 9) :: St) Post := by
  subst hq; subst hx
  intro p e s m args below meth c A H locs ls hF hY
  exact va_zast (D := D) hF.1.1 hF.1.2.1 hF.1.2.2.2.2.2.2.2 hY.1 hY.2.1 hY.2.2.1 9 7 rfl rfl (ib_in hj) hd (fun H1 locs1 hP1 hD1 hS1 => by rw [ib_vp hb] at hP1 hD1; exact k p e s m args below meth c A H1 locs1 ls hF ⟨hP1, hD1, hS1, hY.2.2.2⟩)
theorem al_C_10 {own : String} {j : Int32} {x : Int32} (hj : inB j 48) (hx : x = rc S 10 j) (hd : decode b pc = .ok (.baload, 1)) (hq : pc + 1 = q) (k : Ok (wC g a) D (tyC g) l rm own b nL ret S q Lc (.int x :: St) Post) : Ok (wC g a) D (tyC g) l rm own b nL ret S pc Lc (.int j :: .ref (a 10) :: St) Post := by
  subst hq; subst hx
  intro p e s m args below meth c A H locs ls hF hY
  exact va_zald (D := D) hF.1.1 hF.1.2.1 hF.1.2.2.2.2.2.2.2 hY.1 10 8 rfl rfl (ib_in hj) hd (k p e s m args below meth c A H locs ls hF hY)
theorem as_C_10 {own : String} {j : Int32} {x : Int32} (hj : inB j 48) (hx : S1 = wc S 10 j x) (hb : isB x) (hd : decode b pc = .ok (.bastore, 1)) (hq : pc + 1 = q) (k : Ok (wC g a) D (tyC g) l rm own b nL ret S1 q Lc (St) Post) : Ok (wC g a) D (tyC g) l rm own b nL ret S pc Lc (.int x :: .int j :: .ref (a 10) :: St) Post := by
  subst hq; subst hx
  intro p e s m args below meth c A H locs ls hF hY
  exact va_zast (D := D) hF.1.1 hF.1.2.1 hF.1.2.2.2.2.2.2.2 hY.1 hY.2.1 hY.2.2.1 10 8 rfl rfl (ib_in hj) hd (fun H1 locs1 hP1 hD1 hS1 => by rw [ib_vp hb] at hP1 hD1; exact k p e s m args below meth c A H1 locs1 ls hF ⟨hP1, hD1, hS1, hY.2.2.2⟩)
end ROWSC
section ROWSM
variable {S S1 : TR} {Post : Option Value → TR → Prop}
theorem gf_M_7 (hd : decode b pc = .ok (.getfield 7, 3)) (hq : pc + 3 = q) (k : Ok (wR g r) D (tyR g) l rm R_M b nL ret S q Lc (.ref (r 1) :: St) Post) : Ok (wR g r) D (tyR g) l rm R_M b nL ret S pc Lc (.ref (r 0) :: St) Post := by
  subst hq
  intro p e s m args below meth c A H locs ls hF hY
  exact va_get (D := D) (ci := 2) (v := .ref (r 1)) (C := R_M) (T := F_M) (N := 27) hF.1.1 hF.1.2.1 hF.1.2.2.2.2.2.2.1 us_M hF.1.2.2.2.2.2.1 hF.1.2.2.2.2.2.2.2 hY.1 0 rfl rfl 0 (by decide) (hF.1.2.2.2.2.2.2.1 _ wm_38) (fun _ h9 => h9) rfl hd (k p e s m args below meth c A H locs ls hF hY)
theorem gf_M_13 (hd : decode b pc = .ok (.getfield 13, 3)) (hq : pc + 3 = q) (k : Ok (wR g r) D (tyR g) l rm R_M b nL ret S q Lc (.ref (r 2) :: St) Post) : Ok (wR g r) D (tyR g) l rm R_M b nL ret S pc Lc (.ref (r 0) :: St) Post := by
  subst hq
  intro p e s m args below meth c A H locs ls hF hY
  exact va_get (D := D) (ci := 2) (v := .ref (r 2)) (C := R_M) (T := F_M) (N := 27) hF.1.1 hF.1.2.1 hF.1.2.2.2.2.2.2.1 us_M hF.1.2.2.2.2.2.1 hF.1.2.2.2.2.2.2.2 hY.1 0 rfl rfl 1 (by decide) (hF.1.2.2.2.2.2.2.1 _ wm_39) (fun _ h9 => h9) rfl hd (k p e s m args below meth c A H locs ls hF hY)
theorem gf_M_16 (hd : decode b pc = .ok (.getfield 16, 3)) (hq : pc + 3 = q) (k : Ok (wR g r) D (tyR g) l rm R_M b nL ret S q Lc (.ref (r 3) :: St) Post) : Ok (wR g r) D (tyR g) l rm R_M b nL ret S pc Lc (.ref (r 0) :: St) Post := by
  subst hq
  intro p e s m args below meth c A H locs ls hF hY
  exact va_get (D := D) (ci := 2) (v := .ref (r 3)) (C := R_M) (T := F_M) (N := 27) hF.1.1 hF.1.2.1 hF.1.2.2.2.2.2.2.1 us_M hF.1.2.2.2.2.2.1 hF.1.2.2.2.2.2.2.2 hY.1 0 rfl rfl 2 (by decide) (hF.1.2.2.2.2.2.2.1 _ wm_40) (fun _ h9 => h9) rfl hd (k p e s m args below meth c A H locs ls hF hY)
theorem gf_M_19 (hd : decode b pc = .ok (.getfield 19, 3)) (hq : pc + 3 = q) (k : Ok (wR g r) D (tyR g) l rm R_M b nL ret S q Lc (.ref (r 4) :: St) Post) : Ok (wR g r) D (tyR g) l rm R_M b nL ret S pc Lc (.ref (r 0) :: St) Post := by
  subst hq
  intro p e s m args below meth c A H locs ls hF hY
  exact va_get (D := D) (ci := 2) (v := .ref (r 4)) (C := R_M) (T := F_M) (N := 27) hF.1.1 hF.1.2.1 hF.1.2.2.2.2.2.2.1 us_M hF.1.2.2.2.2.2.1 hF.1.2.2.2.2.2.2.2 hY.1 0 rfl rfl 3 (by decide) (hF.1.2.2.2.2.2.2.1 _ wm_41) (fun _ h9 => h9) rfl hd (k p e s m args below meth c A H locs ls hF hY)
theorem gf_M_22 (hd : decode b pc = .ok (.getfield 22, 3)) (hq : pc + 3 = q) (k : Ok (wR g r) D (tyR g) l rm R_M b nL ret S q Lc (.ref (r 5) :: St) Post) : Ok (wR g r) D (tyR g) l rm R_M b nL ret S pc Lc (.ref (r 0) :: St) Post := by
  subst hq
  intro p e s m args below meth c A H locs ls hF hY
  exact va_get (D := D) (ci := 2) (v := .ref (r 5)) (C := R_M) (T := F_M) (N := 27) hF.1.1 hF.1.2.1 hF.1.2.2.2.2.2.2.1 us_M hF.1.2.2.2.2.2.1 hF.1.2.2.2.2.2.2.2 hY.1 0 rfl rfl 4 (by decide) (hF.1.2.2.2.2.2.2.1 _ wm_42) (fun _ h9 => h9) rfl hd (k p e s m args below meth c A H locs ls hF hY)
theorem gf_M_25 (hd : decode b pc = .ok (.getfield 25, 3)) (hq : pc + 3 = q) (k : Ok (wR g r) D (tyR g) l rm R_M b nL ret S q Lc (.ref (r 6) :: St) Post) : Ok (wR g r) D (tyR g) l rm R_M b nL ret S pc Lc (.ref (r 0) :: St) Post := by
  subst hq
  intro p e s m args below meth c A H locs ls hF hY
  exact va_get (D := D) (ci := 2) (v := .ref (r 6)) (C := R_M) (T := F_M) (N := 27) hF.1.1 hF.1.2.1 hF.1.2.2.2.2.2.2.1 us_M hF.1.2.2.2.2.2.1 hF.1.2.2.2.2.2.2.2 hY.1 0 rfl rfl 5 (by decide) (hF.1.2.2.2.2.2.2.1 _ wm_43) (fun _ h9 => h9) rfl hd (k p e s m args below meth c A H locs ls hF hY)
theorem gf_M_28 (hd : decode b pc = .ok (.getfield 28, 3)) (hq : pc + 3 = q) (k : Ok (wR g r) D (tyR g) l rm R_M b nL ret S q Lc (.ref (r 7) :: St) Post) : Ok (wR g r) D (tyR g) l rm R_M b nL ret S pc Lc (.ref (r 0) :: St) Post := by
  subst hq
  intro p e s m args below meth c A H locs ls hF hY
  exact va_get (D := D) (ci := 2) (v := .ref (r 7)) (C := R_M) (T := F_M) (N := 27) hF.1.1 hF.1.2.1 hF.1.2.2.2.2.2.2.1 us_M hF.1.2.2.2.2.2.1 hF.1.2.2.2.2.2.2.2 hY.1 0 rfl rfl 6 (by decide) (hF.1.2.2.2.2.2.2.1 _ wm_44) (fun _ h9 => h9) rfl hd (k p e s m args below meth c A H locs ls hF hY)
theorem gf_M_31 (hd : decode b pc = .ok (.getfield 31, 3)) (hq : pc + 3 = q) (k : Ok (wR g r) D (tyR g) l rm R_M b nL ret S q Lc (.ref (r 8) :: St) Post) : Ok (wR g r) D (tyR g) l rm R_M b nL ret S pc Lc (.ref (r 0) :: St) Post := by
  subst hq
  intro p e s m args below meth c A H locs ls hF hY
  exact va_get (D := D) (ci := 2) (v := .ref (r 8)) (C := R_M) (T := F_M) (N := 27) hF.1.1 hF.1.2.1 hF.1.2.2.2.2.2.2.1 us_M hF.1.2.2.2.2.2.1 hF.1.2.2.2.2.2.2.2 hY.1 0 rfl rfl 7 (by decide) (hF.1.2.2.2.2.2.2.1 _ wm_45) (fun _ h9 => h9) rfl hd (k p e s m args below meth c A H locs ls hF hY)
theorem gf_M_35 (hd : decode b pc = .ok (.getfield 35, 3)) (hq : pc + 3 = q) (k : Ok (wR g r) D (tyR g) l rm R_M b nL ret S q Lc (.ref (r 9) :: St) Post) : Ok (wR g r) D (tyR g) l rm R_M b nL ret S pc Lc (.ref (r 0) :: St) Post := by
  subst hq
  intro p e s m args below meth c A H locs ls hF hY
  exact va_get (D := D) (ci := 2) (v := .ref (r 9)) (C := R_M) (T := F_M) (N := 27) hF.1.1 hF.1.2.1 hF.1.2.2.2.2.2.2.1 us_M hF.1.2.2.2.2.2.1 hF.1.2.2.2.2.2.2.2 hY.1 0 rfl rfl 8 (by decide) (hF.1.2.2.2.2.2.2.1 _ wm_46) (fun _ h9 => h9) rfl hd (k p e s m args below meth c A H locs ls hF hY)
theorem gf_M_38 (hd : decode b pc = .ok (.getfield 38, 3)) (hq : pc + 3 = q) (k : Ok (wR g r) D (tyR g) l rm R_M b nL ret S q Lc (.ref (r 10) :: St) Post) : Ok (wR g r) D (tyR g) l rm R_M b nL ret S pc Lc (.ref (r 0) :: St) Post := by
  subst hq
  intro p e s m args below meth c A H locs ls hF hY
  exact va_get (D := D) (ci := 2) (v := .ref (r 10)) (C := R_M) (T := F_M) (N := 27) hF.1.1 hF.1.2.1 hF.1.2.2.2.2.2.2.1 us_M hF.1.2.2.2.2.2.1 hF.1.2.2.2.2.2.2.2 hY.1 0 rfl rfl 9 (by decide) (hF.1.2.2.2.2.2.2.1 _ wm_47) (fun _ h9 => h9) rfl hd (k p e s m args below meth c A H locs ls hF hY)
theorem gf_M_41 (hd : decode b pc = .ok (.getfield 41, 3)) (hq : pc + 3 = q) (k : Ok (wR g r) D (tyR g) l rm R_M b nL ret S q Lc (.ref (r 11) :: St) Post) : Ok (wR g r) D (tyR g) l rm R_M b nL ret S pc Lc (.ref (r 0) :: St) Post := by
  subst hq
  intro p e s m args below meth c A H locs ls hF hY
  exact va_get (D := D) (ci := 2) (v := .ref (r 11)) (C := R_M) (T := F_M) (N := 27) hF.1.1 hF.1.2.1 hF.1.2.2.2.2.2.2.1 us_M hF.1.2.2.2.2.2.1 hF.1.2.2.2.2.2.2.2 hY.1 0 rfl rfl 10 (by decide) (hF.1.2.2.2.2.2.2.1 _ wm_48) (fun _ h9 => h9) rfl hd (k p e s m args below meth c A H locs ls hF hY)
theorem gf_M_44 (hd : decode b pc = .ok (.getfield 44, 3)) (hq : pc + 3 = q) (k : Ok (wR g r) D (tyR g) l rm R_M b nL ret S q Lc (.ref (r 12) :: St) Post) : Ok (wR g r) D (tyR g) l rm R_M b nL ret S pc Lc (.ref (r 0) :: St) Post := by
  subst hq
  intro p e s m args below meth c A H locs ls hF hY
  exact va_get (D := D) (ci := 2) (v := .ref (r 12)) (C := R_M) (T := F_M) (N := 27) hF.1.1 hF.1.2.1 hF.1.2.2.2.2.2.2.1 us_M hF.1.2.2.2.2.2.1 hF.1.2.2.2.2.2.2.2 hY.1 0 rfl rfl 11 (by decide) (hF.1.2.2.2.2.2.2.1 _ wm_49) (fun _ h9 => h9) rfl hd (k p e s m args below meth c A H locs ls hF hY)
theorem gf_M_47 (hd : decode b pc = .ok (.getfield 47, 3)) (hq : pc + 3 = q) (k : Ok (wR g r) D (tyR g) l rm R_M b nL ret S q Lc (.ref (r 13) :: St) Post) : Ok (wR g r) D (tyR g) l rm R_M b nL ret S pc Lc (.ref (r 0) :: St) Post := by
  subst hq
  intro p e s m args below meth c A H locs ls hF hY
  exact va_get (D := D) (ci := 2) (v := .ref (r 13)) (C := R_M) (T := F_M) (N := 27) hF.1.1 hF.1.2.1 hF.1.2.2.2.2.2.2.1 us_M hF.1.2.2.2.2.2.1 hF.1.2.2.2.2.2.2.2 hY.1 0 rfl rfl 12 (by decide) (hF.1.2.2.2.2.2.2.1 _ wm_50) (fun _ h9 => h9) rfl hd (k p e s m args below meth c A H locs ls hF hY)
theorem gf_M_50 (hd : decode b pc = .ok (.getfield 50, 3)) (hq : pc + 3 = q) (k : Ok (wR g r) D (tyR g) l rm R_M b nL ret S q Lc (.ref (r 14) :: St) Post) : Ok (wR g r) D (tyR g) l rm R_M b nL ret S pc Lc (.ref (r 0) :: St) Post := by
  subst hq
  intro p e s m args below meth c A H locs ls hF hY
  exact va_get (D := D) (ci := 2) (v := .ref (r 14)) (C := R_M) (T := F_M) (N := 27) hF.1.1 hF.1.2.1 hF.1.2.2.2.2.2.2.1 us_M hF.1.2.2.2.2.2.1 hF.1.2.2.2.2.2.2.2 hY.1 0 rfl rfl 13 (by decide) (hF.1.2.2.2.2.2.2.1 _ wm_51) (fun _ h9 => h9) rfl hd (k p e s m args below meth c A H locs ls hF hY)
theorem gf_M_53 (hd : decode b pc = .ok (.getfield 53, 3)) (hq : pc + 3 = q) (k : Ok (wR g r) D (tyR g) l rm R_M b nL ret S q Lc (.ref (r 15) :: St) Post) : Ok (wR g r) D (tyR g) l rm R_M b nL ret S pc Lc (.ref (r 0) :: St) Post := by
  subst hq
  intro p e s m args below meth c A H locs ls hF hY
  exact va_get (D := D) (ci := 2) (v := .ref (r 15)) (C := R_M) (T := F_M) (N := 27) hF.1.1 hF.1.2.1 hF.1.2.2.2.2.2.2.1 us_M hF.1.2.2.2.2.2.1 hF.1.2.2.2.2.2.2.2 hY.1 0 rfl rfl 14 (by decide) (hF.1.2.2.2.2.2.2.1 _ wm_52) (fun _ h9 => h9) rfl hd (k p e s m args below meth c A H locs ls hF hY)
theorem gf_M_56 {x : Int32} (hx : x = S 0 0) (hd : decode b pc = .ok (.getfield 56, 3)) (hq : pc + 3 = q) (k : Ok (wR g r) D (tyR g) l rm R_M b nL ret S q Lc (.int x :: St) Post) : Ok (wR g r) D (tyR g) l rm R_M b nL ret S pc Lc (.ref (r 0) :: St) Post := by
  subst hq; subst hx
  intro p e s m args below meth c A H locs ls hF hY
  exact va_get (D := D) (ci := 2) (v := .int (S 0 0)) (C := R_M) (T := F_M) (N := 27) hF.1.1 hF.1.2.1 hF.1.2.2.2.2.2.2.1 us_M hF.1.2.2.2.2.2.1 hF.1.2.2.2.2.2.2.2 hY.1 0 rfl rfl 15 (by decide) (hF.1.2.2.2.2.2.2.1 _ wm_53) (fun _ h9 => h9) rfl hd (k p e s m args below meth c A H locs ls hF hY)
theorem gf_M_60 {x : Int32} (hx : x = S 0 2) (hd : decode b pc = .ok (.getfield 60, 3)) (hq : pc + 3 = q) (k : Ok (wR g r) D (tyR g) l rm R_M b nL ret S q Lc (.int x :: St) Post) : Ok (wR g r) D (tyR g) l rm R_M b nL ret S pc Lc (.ref (r 0) :: St) Post := by
  subst hq; subst hx
  intro p e s m args below meth c A H locs ls hF hY
  exact va_get (D := D) (ci := 2) (v := .int (S 0 2)) (C := R_M) (T := F_M) (N := 27) hF.1.1 hF.1.2.1 hF.1.2.2.2.2.2.2.1 us_M hF.1.2.2.2.2.2.1 hF.1.2.2.2.2.2.2.2 hY.1 0 rfl rfl 17 (by decide) (hF.1.2.2.2.2.2.2.1 _ wm_54) (fun _ h9 => h9) rfl hd (k p e s m args below meth c A H locs ls hF hY)
theorem gf_M_64 {x : Int32} (hx : x = S 0 3) (hd : decode b pc = .ok (.getfield 64, 3)) (hq : pc + 3 = q) (k : Ok (wR g r) D (tyR g) l rm R_M b nL ret S q Lc (.int x :: St) Post) : Ok (wR g r) D (tyR g) l rm R_M b nL ret S pc Lc (.ref (r 0) :: St) Post := by
  subst hq; subst hx
  intro p e s m args below meth c A H locs ls hF hY
  exact va_get (D := D) (ci := 2) (v := .int (S 0 3)) (C := R_M) (T := F_M) (N := 27) hF.1.1 hF.1.2.1 hF.1.2.2.2.2.2.2.1 us_M hF.1.2.2.2.2.2.1 hF.1.2.2.2.2.2.2.2 hY.1 0 rfl rfl 18 (by decide) (hF.1.2.2.2.2.2.2.1 _ wm_55) (fun _ h9 => h9) rfl hd (k p e s m args below meth c A H locs ls hF hY)
theorem gf_M_75 {x : Int32} (hx : x = S 0 4) (hd : decode b pc = .ok (.getfield 75, 3)) (hq : pc + 3 = q) (k : Ok (wR g r) D (tyR g) l rm R_M b nL ret S q Lc (.int x :: St) Post) : Ok (wR g r) D (tyR g) l rm R_M b nL ret S pc Lc (.ref (r 0) :: St) Post := by
  subst hq; subst hx
  intro p e s m args below meth c A H locs ls hF hY
  exact va_get (D := D) (ci := 2) (v := .int (S 0 4)) (C := R_M) (T := F_M) (N := 27) hF.1.1 hF.1.2.1 hF.1.2.2.2.2.2.2.1 us_M hF.1.2.2.2.2.2.1 hF.1.2.2.2.2.2.2.2 hY.1 0 rfl rfl 19 (by decide) (hF.1.2.2.2.2.2.2.1 _ wm_56) (fun _ h9 => h9) rfl hd (k p e s m args below meth c A H locs ls hF hY)
theorem gf_M_78 {x : Int32} (hx : x = S 0 5) (hd : decode b pc = .ok (.getfield 78, 3)) (hq : pc + 3 = q) (k : Ok (wR g r) D (tyR g) l rm R_M b nL ret S q Lc (.int x :: St) Post) : Ok (wR g r) D (tyR g) l rm R_M b nL ret S pc Lc (.ref (r 0) :: St) Post := by
  subst hq; subst hx
  intro p e s m args below meth c A H locs ls hF hY
  exact va_get (D := D) (ci := 2) (v := .int (S 0 5)) (C := R_M) (T := F_M) (N := 27) hF.1.1 hF.1.2.1 hF.1.2.2.2.2.2.2.1 us_M hF.1.2.2.2.2.2.1 hF.1.2.2.2.2.2.2.2 hY.1 0 rfl rfl 20 (by decide) (hF.1.2.2.2.2.2.2.1 _ wm_57) (fun _ h9 => h9) rfl hd (k p e s m args below meth c A H locs ls hF hY)
theorem gf_M_89 {x : Int32} (hx : x = S 0 6) (hd : decode b pc = .ok (.getfield 89, 3)) (hq : pc + 3 = q) (k : Ok (wR g r) D (tyR g) l rm R_M b nL ret S q Lc (.int x :: St) Post) : Ok (wR g r) D (tyR g) l rm R_M b nL ret S pc Lc (.ref (r 0) :: St) Post := by
  subst hq; subst hx
  intro p e s m args below meth c A H locs ls hF hY
  exact va_get (D := D) (ci := 2) (v := .int (S 0 6)) (C := R_M) (T := F_M) (N := 27) hF.1.1 hF.1.2.1 hF.1.2.2.2.2.2.2.1 us_M hF.1.2.2.2.2.2.1 hF.1.2.2.2.2.2.2.2 hY.1 0 rfl rfl 21 (by decide) (hF.1.2.2.2.2.2.2.1 _ wm_58) (fun _ h9 => h9) rfl hd (k p e s m args below meth c A H locs ls hF hY)
theorem gf_M_92 {x : Int32} (hx : x = S 0 7) (hd : decode b pc = .ok (.getfield 92, 3)) (hq : pc + 3 = q) (k : Ok (wR g r) D (tyR g) l rm R_M b nL ret S q Lc (.int x :: St) Post) : Ok (wR g r) D (tyR g) l rm R_M b nL ret S pc Lc (.ref (r 0) :: St) Post := by
  subst hq; subst hx
  intro p e s m args below meth c A H locs ls hF hY
  exact va_get (D := D) (ci := 2) (v := .int (S 0 7)) (C := R_M) (T := F_M) (N := 27) hF.1.1 hF.1.2.1 hF.1.2.2.2.2.2.2.1 us_M hF.1.2.2.2.2.2.1 hF.1.2.2.2.2.2.2.2 hY.1 0 rfl rfl 22 (by decide) (hF.1.2.2.2.2.2.2.1 _ wm_59) (fun _ h9 => h9) rfl hd (k p e s m args below meth c A H locs ls hF hY)
theorem gf_M_95 {x : Int32} (hx : x = S 0 8) (hd : decode b pc = .ok (.getfield 95, 3)) (hq : pc + 3 = q) (k : Ok (wR g r) D (tyR g) l rm R_M b nL ret S q Lc (.int x :: St) Post) : Ok (wR g r) D (tyR g) l rm R_M b nL ret S pc Lc (.ref (r 0) :: St) Post := by
  subst hq; subst hx
  intro p e s m args below meth c A H locs ls hF hY
  exact va_get (D := D) (ci := 2) (v := .int (S 0 8)) (C := R_M) (T := F_M) (N := 27) hF.1.1 hF.1.2.1 hF.1.2.2.2.2.2.2.1 us_M hF.1.2.2.2.2.2.1 hF.1.2.2.2.2.2.2.2 hY.1 0 rfl rfl 23 (by decide) (hF.1.2.2.2.2.2.2.1 _ wm_60) (fun _ h9 => h9) rfl hd (k p e s m args below meth c A H locs ls hF hY)
theorem gf_M_98 {x : Int32} (hx : x = S 0 9) (hd : decode b pc = .ok (.getfield 98, 3)) (hq : pc + 3 = q) (k : Ok (wR g r) D (tyR g) l rm R_M b nL ret S q Lc (.int x :: St) Post) : Ok (wR g r) D (tyR g) l rm R_M b nL ret S pc Lc (.ref (r 0) :: St) Post := by
  subst hq; subst hx
  intro p e s m args below meth c A H locs ls hF hY
  exact va_get (D := D) (ci := 2) (v := .int (S 0 9)) (C := R_M) (T := F_M) (N := 27) hF.1.1 hF.1.2.1 hF.1.2.2.2.2.2.2.1 us_M hF.1.2.2.2.2.2.1 hF.1.2.2.2.2.2.2.2 hY.1 0 rfl rfl 24 (by decide) (hF.1.2.2.2.2.2.2.1 _ wm_61) (fun _ h9 => h9) rfl hd (k p e s m args below meth c A H locs ls hF hY)
theorem gf_M_101 {x : Int32} (hx : x = S 0 10) (hd : decode b pc = .ok (.getfield 101, 3)) (hq : pc + 3 = q) (k : Ok (wR g r) D (tyR g) l rm R_M b nL ret S q Lc (.int x :: St) Post) : Ok (wR g r) D (tyR g) l rm R_M b nL ret S pc Lc (.ref (r 0) :: St) Post := by
  subst hq; subst hx
  intro p e s m args below meth c A H locs ls hF hY
  exact va_get (D := D) (ci := 2) (v := .int (S 0 10)) (C := R_M) (T := F_M) (N := 27) hF.1.1 hF.1.2.1 hF.1.2.2.2.2.2.2.1 us_M hF.1.2.2.2.2.2.1 hF.1.2.2.2.2.2.2.2 hY.1 0 rfl rfl 25 (by decide) (hF.1.2.2.2.2.2.2.1 _ wm_62) (fun _ h9 => h9) rfl hd (k p e s m args below meth c A H locs ls hF hY)
theorem gf_M_104 {x : Int32} (hx : x = S 0 11) (hd : decode b pc = .ok (.getfield 104, 3)) (hq : pc + 3 = q) (k : Ok (wR g r) D (tyR g) l rm R_M b nL ret S q Lc (.int x :: St) Post) : Ok (wR g r) D (tyR g) l rm R_M b nL ret S pc Lc (.ref (r 0) :: St) Post := by
  subst hq; subst hx
  intro p e s m args below meth c A H locs ls hF hY
  exact va_get (D := D) (ci := 2) (v := .int (S 0 11)) (C := R_M) (T := F_M) (N := 27) hF.1.1 hF.1.2.1 hF.1.2.2.2.2.2.2.1 us_M hF.1.2.2.2.2.2.1 hF.1.2.2.2.2.2.2.2 hY.1 0 rfl rfl 26 (by decide) (hF.1.2.2.2.2.2.2.1 _ wm_63) (fun _ h9 => h9) rfl hd (k p e s m args below meth c A H locs ls hF hY)
theorem gf_M_170 {x : Int32} (hx : x = S 0 1) (hd : decode b pc = .ok (.getfield 170, 3)) (hq : pc + 3 = q) (k : Ok (wR g r) D (tyR g) l rm R_M b nL ret S q Lc (.int x :: St) Post) : Ok (wR g r) D (tyR g) l rm R_M b nL ret S pc Lc (.ref (r 0) :: St) Post := by
  subst hq; subst hx
  intro p e s m args below meth c A H locs ls hF hY
  exact va_get (D := D) (ci := 2) (v := .int (S 0 1)) (C := R_M) (T := F_M) (N := 27) hF.1.1 hF.1.2.1 hF.1.2.2.2.2.2.2.1 us_M hF.1.2.2.2.2.2.1 hF.1.2.2.2.2.2.2.2 hY.1 0 rfl rfl 16 (by decide) (hF.1.2.2.2.2.2.2.1 _ wm_64) (fun _ h9 => h9) rfl hd (k p e s m args below meth c A H locs ls hF hY)
theorem pf_M_56 {x : Int32} (hx : S1 = fr S 0 0 x) (hb : isB x) (hd : decode b pc = .ok (.putfield 56, 3)) (hq : pc + 3 = q) (k : Ok (wR g r) D (tyR g) l rm R_M b nL ret S1 q Lc (St) Post) : Ok (wR g r) D (tyR g) l rm R_M b nL ret S pc Lc (.int x :: .ref (r 0) :: St) Post := by
  subst hq; subst hx
  intro p e s m args below meth c A H locs ls hF hY
  exact va_put (D := D) (ci := 2) (v := .int x) (ty := .boolean) (C := R_M) (T := F_M) (N := 27) hF.1.1 hF.1.2.1 hF.1.2.2.2.2.2.2.1 us_M t_M t_M_ok n_M hF.1.2.2.2.2.2.1 hF.1.2.2.2.2.2.2.2 hY.1 hY.2.1 hY.2.2.1 0 rfl rfl 15 (by decide) (hF.1.2.2.2.2.2.2.1 _ wm_53) (fun _ h9 => h9) rfl (by decide +kernel) (ib_nar hb) (ib_fit hb) (Nat.le_of_ble_eq_true rfl) hd (fun H1 locs1 hP1 hD1 hS1 => k p e s m args below meth c A H1 locs1 ls hF ⟨hP1, hD1, hS1, hY.2.2.2⟩)
theorem pf_M_60 {x : Int32} (hx : S1 = fr S 0 2 x) (hd : decode b pc = .ok (.putfield 60, 3)) (hq : pc + 3 = q) (k : Ok (wR g r) D (tyR g) l rm R_M b nL ret S1 q Lc (St) Post) : Ok (wR g r) D (tyR g) l rm R_M b nL ret S pc Lc (.int x :: .ref (r 0) :: St) Post := by
  subst hq; subst hx
  intro p e s m args below meth c A H locs ls hF hY
  exact va_put (D := D) (ci := 2) (v := .int x) (ty := .int) (C := R_M) (T := F_M) (N := 27) hF.1.1 hF.1.2.1 hF.1.2.2.2.2.2.2.1 us_M t_M t_M_ok n_M hF.1.2.2.2.2.2.1 hF.1.2.2.2.2.2.2.2 hY.1 hY.2.1 hY.2.2.1 0 rfl rfl 17 (by decide) (hF.1.2.2.2.2.2.2.1 _ wm_54) (fun _ h9 => h9) rfl (by decide +kernel) rfl rfl (Nat.le_of_ble_eq_true rfl) hd (fun H1 locs1 hP1 hD1 hS1 => k p e s m args below meth c A H1 locs1 ls hF ⟨hP1, hD1, hS1, hY.2.2.2⟩)
theorem pf_M_64 {x : Int32} (hx : S1 = fr S 0 3 x) (hd : decode b pc = .ok (.putfield 64, 3)) (hq : pc + 3 = q) (k : Ok (wR g r) D (tyR g) l rm R_M b nL ret S1 q Lc (St) Post) : Ok (wR g r) D (tyR g) l rm R_M b nL ret S pc Lc (.int x :: .ref (r 0) :: St) Post := by
  subst hq; subst hx
  intro p e s m args below meth c A H locs ls hF hY
  exact va_put (D := D) (ci := 2) (v := .int x) (ty := .int) (C := R_M) (T := F_M) (N := 27) hF.1.1 hF.1.2.1 hF.1.2.2.2.2.2.2.1 us_M t_M t_M_ok n_M hF.1.2.2.2.2.2.1 hF.1.2.2.2.2.2.2.2 hY.1 hY.2.1 hY.2.2.1 0 rfl rfl 18 (by decide) (hF.1.2.2.2.2.2.2.1 _ wm_55) (fun _ h9 => h9) rfl (by decide +kernel) rfl rfl (Nat.le_of_ble_eq_true rfl) hd (fun H1 locs1 hP1 hD1 hS1 => k p e s m args below meth c A H1 locs1 ls hF ⟨hP1, hD1, hS1, hY.2.2.2⟩)
theorem pf_M_75 {x : Int32} (hx : S1 = fr S 0 4 x) (hd : decode b pc = .ok (.putfield 75, 3)) (hq : pc + 3 = q) (k : Ok (wR g r) D (tyR g) l rm R_M b nL ret S1 q Lc (St) Post) : Ok (wR g r) D (tyR g) l rm R_M b nL ret S pc Lc (.int x :: .ref (r 0) :: St) Post := by
  subst hq; subst hx
  intro p e s m args below meth c A H locs ls hF hY
  exact va_put (D := D) (ci := 2) (v := .int x) (ty := .int) (C := R_M) (T := F_M) (N := 27) hF.1.1 hF.1.2.1 hF.1.2.2.2.2.2.2.1 us_M t_M t_M_ok n_M hF.1.2.2.2.2.2.1 hF.1.2.2.2.2.2.2.2 hY.1 hY.2.1 hY.2.2.1 0 rfl rfl 19 (by decide) (hF.1.2.2.2.2.2.2.1 _ wm_56) (fun _ h9 => h9) rfl (by decide +kernel) rfl rfl (Nat.le_of_ble_eq_true rfl) hd (fun H1 locs1 hP1 hD1 hS1 => k p e s m args below meth c A H1 locs1 ls hF ⟨hP1, hD1, hS1, hY.2.2.2⟩)
theorem pf_M_78 {x : Int32} (hx : S1 = fr S 0 5 x) (hd : decode b pc = .ok (.putfield 78, 3)) (hq : pc + 3 = q) (k : Ok (wR g r) D (tyR g) l rm R_M b nL ret S1 q Lc (St) Post) : Ok (wR g r) D (tyR g) l rm R_M b nL ret S pc Lc (.int x :: .ref (r 0) :: St) Post := by
  subst hq; subst hx
  intro p e s m args below meth c A H locs ls hF hY
  exact va_put (D := D) (ci := 2) (v := .int x) (ty := .int) (C := R_M) (T := F_M) (N := 27) hF.1.1 hF.1.2.1 hF.1.2.2.2.2.2.2.1 us_M t_M t_M_ok n_M hF.1.2.2.2.2.2.1 hF.1.2.2.2.2.2.2.2 hY.1 hY.2.1 hY.2.2.1 0 rfl rfl 20 (by decide) (hF.1.2.2.2.2.2.2.1 _ wm_57) (fun _ h9 => h9) rfl (by decide +kernel) rfl rfl (Nat.le_of_ble_eq_true rfl) hd (fun H1 locs1 hP1 hD1 hS1 => k p e s m args below meth c A H1 locs1 ls hF ⟨hP1, hD1, hS1, hY.2.2.2⟩)
theorem pf_M_89 {x : Int32} (hx : S1 = fr S 0 6 x) (hd : decode b pc = .ok (.putfield 89, 3)) (hq : pc + 3 = q) (k : Ok (wR g r) D (tyR g) l rm R_M b nL ret S1 q Lc (St) Post) : Ok (wR g r) D (tyR g) l rm R_M b nL ret S pc Lc (.int x :: .ref (r 0) :: St) Post := by
  subst hq; subst hx
  intro p e s m args below meth c A H locs ls hF hY
  exact va_put (D := D) (ci := 2) (v := .int x) (ty := .int) (C := R_M) (T := F_M) (N := 27) hF.1.1 hF.1.2.1 hF.1.2.2.2.2.2.2.1 us_M t_M t_M_ok n_M hF.1.2.2.2.2.2.1 hF.1.2.2.2.2.2.2.2 hY.1 hY.2.1 hY.2.2.1 0 rfl rfl 21 (by decide) (hF.1.2.2.2.2.2.2.1 _ wm_58) (fun _ h9 => h9) rfl (by decide +kernel) rfl rfl (Nat.le_of_ble_eq_true rfl) hd (fun H1 locs1 hP1 hD1 hS1 => k p e s m args below meth c A H1 locs1 ls hF ⟨hP1, hD1, hS1, hY.2.2.2⟩)
theorem pf_M_92 {x : Int32} (hx : S1 = fr S 0 7 x) (hd : decode b pc = .ok (.putfield 92, 3)) (hq : pc + 3 = q) (k : Ok (wR g r) D (tyR g) l rm R_M b nL ret S1 q Lc (St) Post) : Ok (wR g r) D (tyR g) l rm R_M b nL ret S pc Lc (.int x :: .ref (r 0) :: St) Post := by
  subst hq; subst hx
  intro p e s m args below meth c A H locs ls hF hY
  exact va_put (D := D) (ci := 2) (v := .int x) (ty := .int) (C := R_M) (T := F_M) (N := 27) hF.1.1 hF.1.2.1 hF.1.2.2.2.2.2.2.1 us_M t_M t_M_ok n_M hF.1.2.2.2.2.2.1 hF.1.2.2.2.2.2.2.2 hY.1 hY.2.1 hY.2.2.1 0 rfl rfl 22 (by decide) (hF.1.2.2.2.2.2.2.1 _ wm_59) (fun _ h9 => h9) rfl (by decide +kernel) rfl rfl (Nat.le_of_ble_eq_true rfl) hd (fun H1 locs1 hP1 hD1 hS1 => k p e s m args below meth c A H1 locs1 ls hF ⟨hP1, hD1, hS1, hY.2.2.2⟩)
theorem pf_M_95 {x : Int32} (hx : S1 = fr S 0 8 x) (hd : decode b pc = .ok (.putfield 95, 3)) (hq : pc + 3 = q) (k : Ok (wR g r) D (tyR g) l rm R_M b nL ret S1 q Lc (St) Post) : Ok (wR g r) D (tyR g) l rm R_M b nL ret S pc Lc (.int x :: .ref (r 0) :: St) Post := by
  subst hq; subst hx
  intro p e s m args below meth c A H locs ls hF hY
  exact va_put (D := D) (ci := 2) (v := .int x) (ty := .int) (C := R_M) (T := F_M) (N := 27) hF.1.1 hF.1.2.1 hF.1.2.2.2.2.2.2.1 us_M t_M t_M_ok n_M hF.1.2.2.2.2.2.1 hF.1.2.2.2.2.2.2.2 hY.1 hY.2.1 hY.2.2.1 0 rfl rfl 23 (by decide) (hF.1.2.2.2.2.2.2.1 _ wm_60) (fun _ h9 => h9) rfl (by decide +kernel) rfl rfl (Nat.le_of_ble_eq_true rfl) hd (fun H1 locs1 hP1 hD1 hS1 => k p e s m args below meth c A H1 locs1 ls hF ⟨hP1, hD1, hS1, hY.2.2.2⟩)
theorem pf_M_98 {x : Int32} (hx : S1 = fr S 0 9 x) (hb : isB x) (hd : decode b pc = .ok (.putfield 98, 3)) (hq : pc + 3 = q) (k : Ok (wR g r) D (tyR g) l rm R_M b nL ret S1 q Lc (St) Post) : Ok (wR g r) D (tyR g) l rm R_M b nL ret S pc Lc (.int x :: .ref (r 0) :: St) Post := by
  subst hq; subst hx
  intro p e s m args below meth c A H locs ls hF hY
  exact va_put (D := D) (ci := 2) (v := .int x) (ty := .boolean) (C := R_M) (T := F_M) (N := 27) hF.1.1 hF.1.2.1 hF.1.2.2.2.2.2.2.1 us_M t_M t_M_ok n_M hF.1.2.2.2.2.2.1 hF.1.2.2.2.2.2.2.2 hY.1 hY.2.1 hY.2.2.1 0 rfl rfl 24 (by decide) (hF.1.2.2.2.2.2.2.1 _ wm_61) (fun _ h9 => h9) rfl (by decide +kernel) (ib_nar hb) (ib_fit hb) (Nat.le_of_ble_eq_true rfl) hd (fun H1 locs1 hP1 hD1 hS1 => k p e s m args below meth c A H1 locs1 ls hF ⟨hP1, hD1, hS1, hY.2.2.2⟩)
theorem pf_M_101 {x : Int32} (hx : S1 = fr S 0 10 x) (hd : decode b pc = .ok (.putfield 101, 3)) (hq : pc + 3 = q) (k : Ok (wR g r) D (tyR g) l rm R_M b nL ret S1 q Lc (St) Post) : Ok (wR g r) D (tyR g) l rm R_M b nL ret S pc Lc (.int x :: .ref (r 0) :: St) Post := by
  subst hq; subst hx
  intro p e s m args below meth c A H locs ls hF hY
  exact va_put (D := D) (ci := 2) (v := .int x) (ty := .int) (C := R_M) (T := F_M) (N := 27) hF.1.1 hF.1.2.1 hF.1.2.2.2.2.2.2.1 us_M t_M t_M_ok n_M hF.1.2.2.2.2.2.1 hF.1.2.2.2.2.2.2.2 hY.1 hY.2.1 hY.2.2.1 0 rfl rfl 25 (by decide) (hF.1.2.2.2.2.2.2.1 _ wm_62) (fun _ h9 => h9) rfl (by decide +kernel) rfl rfl (Nat.le_of_ble_eq_true rfl) hd (fun H1 locs1 hP1 hD1 hS1 => k p e s m args below meth c A H1 locs1 ls hF ⟨hP1, hD1, hS1, hY.2.2.2⟩)
theorem pf_M_104 {x : Int32} (hx : S1 = fr S 0 11 x) (hd : decode b pc = .ok (.putfield 104, 3)) (hq : pc + 3 = q) (k : Ok (wR g r) D (tyR g) l rm R_M b nL ret S1 q Lc (St) Post) : Ok (wR g r) D (tyR g) l rm R_M b nL ret S pc Lc (.int x :: .ref (r 0) :: St) Post := by
  subst hq; subst hx
  intro p e s m args below meth c A H locs ls hF hY
  exact va_put (D := D) (ci := 2) (v := .int x) (ty := .int) (C := R_M) (T := F_M) (N := 27) hF.1.1 hF.1.2.1 hF.1.2.2.2.2.2.2.1 us_M t_M t_M_ok n_M hF.1.2.2.2.2.2.1 hF.1.2.2.2.2.2.2.2 hY.1 hY.2.1 hY.2.2.1 0 rfl rfl 26 (by decide) (hF.1.2.2.2.2.2.2.1 _ wm_63) (fun _ h9 => h9) rfl (by decide +kernel) rfl rfl (Nat.le_of_ble_eq_true rfl) hd (fun H1 locs1 hP1 hD1 hS1 => k p e s m args below meth c A H1 locs1 ls hF ⟨hP1, hD1, hS1, hY.2.2.2⟩)
theorem pf_M_170 {x : Int32} (hx : S1 = fr S 0 1 x) (hb : isB x) (hd : decode b pc = .ok (.putfield 170, 3)) (hq : pc + 3 = q) (k : Ok (wR g r) D (tyR g) l rm R_M b nL ret S1 q Lc (St) Post) : Ok (wR g r) D (tyR g) l rm R_M b nL ret S pc Lc (.int x :: .ref (r 0) :: St) Post := by
  subst hq; subst hx
  intro p e s m args below meth c A H locs ls hF hY
  exact va_put (D := D) (ci := 2) (v := .int x) (ty := .boolean) (C := R_M) (T := F_M) (N := 27) hF.1.1 hF.1.2.1 hF.1.2.2.2.2.2.2.1 us_M t_M t_M_ok n_M hF.1.2.2.2.2.2.1 hF.1.2.2.2.2.2.2.2 hY.1 hY.2.1 hY.2.2.1 0 rfl rfl 16 (by decide) (hF.1.2.2.2.2.2.2.1 _ wm_64) (fun _ h9 => h9) rfl (by decide +kernel) (ib_nar hb) (ib_fit hb) (Nat.le_of_ble_eq_true rfl) hd (fun H1 locs1 hP1 hD1 hS1 => k p e s m args below meth c A H1 locs1 ls hF ⟨hP1, hD1, hS1, hY.2.2.2⟩)
theorem al_M_1 {own : String} {j : Int32} {x : Int32} (hj : inB j 48) (hx : x = rr S 1 j) (hd : decode b pc = .ok (.iaload, 1)) (hq : pc + 1 = q) (k : Ok (wR g r) D (tyR g) l rm own b nL ret S q Lc (.int x :: St) Post) : Ok (wR g r) D (tyR g) l rm own b nL ret S pc Lc (.int j :: .ref (r 1) :: St) Post := by
  subst hq; subst hx
  intro p e s m args below meth c A H locs ls hF hY
  exact va_iald (D := D) hF.1.1 hF.1.2.1 hF.1.2.2.2.2.2.2.2 hY.1 1 0 rfl rfl (ib_in hj) hd (k p e s m args below meth c A H locs ls hF hY)
theorem as_M_1 {own : String} {j : Int32} {x : Int32} (hj : inB j 48) (hx : S1 = wr S 1 j x) (hd : decode b pc = .ok (.iastore, 1)) (hq : pc + 1 = q) (k : Ok (wR g r) D (tyR g) l rm own b nL ret S1 q Lc (St) Post) : Ok (wR g r) D (tyR g) l rm own b nL ret S pc Lc (.int x :: .int j :: .ref (r 1) :: St) Post := by
  subst hq; subst hx
  intro p e s m args below meth c A H locs ls hF hY
  exact va_iast (D := D) hF.1.1 hF.1.2.1 hF.1.2.2.2.2.2.2.2 hY.1 hY.2.1 hY.2.2.1 1 0 rfl rfl (ib_in hj) hd (fun H1 locs1 hP1 hD1 hS1 => k p e s m args below meth c A H1 locs1 ls hF ⟨hP1, hD1, hS1, hY.2.2.2⟩)
theorem al_M_2 {own : String} {j : Int32} {x : Int32} (hj : inB j 48) (hx : x = rr S 2 j) (hd : decode b pc = .ok (.iaload, 1)) (hq : pc + 1 = q) (k : Ok (wR g r) D (tyR g) l rm own b nL ret S q Lc (.int x :: St) Post) : Ok (wR g r) D (tyR g) l rm own b nL ret S pc Lc (.int j :: .ref (r 2) :: St) Post := by
  subst hq; subst hx
  intro p e s m args below meth c A H locs ls hF hY
  exact va_iald (D := D) hF.1.1 hF.1.2.1 hF.1.2.2.2.2.2.2.2 hY.1 2 1 rfl rfl (ib_in hj) hd (k p e s m args below meth c A H locs ls hF hY)
theorem as_M_2 {own : String} {j : Int32} {x : Int32} (hj : inB j 48) (hx : S1 = wr S 2 j x) (hd : decode b pc = .ok (.iastore, 1)) (hq : pc + 1 = q) (k : Ok (wR g r) D (tyR g) l rm own b nL ret S1 q Lc (St) Post) : Ok (wR g r) D (tyR g) l rm own b nL ret S pc Lc (.int x :: .int j :: .ref (r 2) :: St) Post := by
  subst hq; subst hx
  intro p e s m args below meth c A H locs ls hF hY
  exact va_iast (D := D) hF.1.1 hF.1.2.1 hF.1.2.2.2.2.2.2.2 hY.1 hY.2.1 hY.2.2.1 2 1 rfl rfl (ib_in hj) hd (fun H1 locs1 hP1 hD1 hS1 => k p e s m args below meth c A H1 locs1 ls hF ⟨hP1, hD1, hS1, hY.2.2.2⟩)
theorem al_M_3 {own : String} {j : Int32} {x : Int32} (hj : inB j 48) (hx : x = rr S 3 j) (hd : decode b pc = .ok (.iaload, 1)) (hq : pc + 1 = q) (k : Ok (wR g r) D (tyR g) l rm own b nL ret S q Lc (.int x :: St) Post) : Ok (wR g r) D (tyR g) l rm own b nL ret S pc Lc (.int j :: .ref (r 3) :: St) Post := by
  subst hq; subst hx
  intro p e s m args below meth c A H locs ls hF hY
  exact va_iald (D := D) hF.1.1 hF.1.2.1 hF.1.2.2.2.2.2.2.2 hY.1 3 2 rfl rfl (ib_in hj) hd (k p e s m args below meth c A H locs ls hF hY)
theorem as_M_3 {own : String} {j : Int32} {x : Int32} (hj : inB j 48) (hx : S1 = wr S 3 j x) (hd : decode b pc = .ok (.iastore, 1)) (hq : pc + 1 = q) (k : Ok (wR g r) D (tyR g) l rm own b nL ret S1 q Lc (St) Post) : Ok (wR g r) D (tyR g) l rm own b nL ret S pc Lc (.int x :: .int j :: .ref (r 3) :: St) Post := by
  subst hq; subst hx
  intro p e s m args below meth c A H locs ls hF hY
  exact va_iast (D := D) hF.1.1 hF.1.2.1 hF.1.2.2.2.2.2.2.2 hY.1 hY.2.1 hY.2.2.1 3 2 rfl rfl (ib_in hj) hd (fun H1 locs1 hP1 hD1 hS1 => k p e s m args below meth c A H1 locs1 ls hF ⟨hP1, hD1, hS1, hY.2.2.2⟩)
theorem al_M_4 {own : String} {j : Int32} {x : Int32} (hj : inB j 48) (hx : x = rr S 4 j) (hd : decode b pc = .ok (.iaload, 1)) (hq : pc + 1 = q) (k : Ok (wR g r) D (tyR g) l rm own b nL ret S q Lc (.int x :: St) Post) : Ok (wR g r) D (tyR g) l rm own b nL ret S pc Lc (.int j :: .ref (r 4) :: St) Post := by
  subst hq; subst hx
  intro p e s m args below meth c A H locs ls hF hY
  exact va_iald (D := D) hF.1.1 hF.1.2.1 hF.1.2.2.2.2.2.2.2 hY.1 4 3 rfl rfl (ib_in hj) hd (k p e s m args below meth c A H locs ls hF hY)
theorem as_M_4 {own : String} {j : Int32} {x : Int32} (hj : inB j 48) (hx : S1 = wr S 4 j x) (hd : decode b pc = .ok (.iastore, 1)) (hq : pc + 1 = q) (k : Ok (wR g r) D (tyR g) l rm own b nL ret S1 q Lc (St) Post) : Ok (wR g r) D (tyR g) l rm own b nL ret S pc Lc (.int x :: .int j :: .ref (r 4) :: St) Post := by
  subst hq; subst hx
  intro p e s m args below meth c A H locs ls hF hY
  exact va_iast (D := D) hF.1.1 hF.1.2.1 hF.1.2.2.2.2.2.2.2 hY.1 hY.2.1 hY.2.2.1 4 3 rfl rfl (ib_in hj) hd (fun H1 locs1 hP1 hD1 hS1 => k p e s m args below meth c A H1 locs1 ls hF ⟨hP1, hD1, hS1, hY.2.2.2⟩)
theorem al_M_5 {own : String} {j : Int32} {x : Int32} (hj : inB j 48) (hx : x = rr S 5 j) (hd : decode b pc = .ok (.iaload, 1)) (hq : pc + 1 = q) (k : Ok (wR g r) D (tyR g) l rm own b nL ret S q Lc (.int x :: St) Post) : Ok (wR g r) D (tyR g) l rm own b nL ret S pc Lc (.int j :: .ref (r 5) :: St) Post := by
  subst hq; subst hx
  intro p e s m args below meth c A H locs ls hF hY
  exact va_iald (D := D) hF.1.1 hF.1.2.1 hF.1.2.2.2.2.2.2.2 hY.1 5 4 rfl rfl (ib_in hj) hd (k p e s m args below meth c A H locs ls hF hY)
theorem as_M_5 {own : String} {j : Int32} {x : Int32} (hj : inB j 48) (hx : S1 = wr S 5 j x) (hd : decode b pc = .ok (.iastore, 1)) (hq : pc + 1 = q) (k : Ok (wR g r) D (tyR g) l rm own b nL ret S1 q Lc (St) Post) : Ok (wR g r) D (tyR g) l rm own b nL ret S pc Lc (.int x :: .int j :: .ref (r 5) :: St) Post := by
  subst hq; subst hx
  intro p e s m args below meth c A H locs ls hF hY
  exact va_iast (D := D) hF.1.1 hF.1.2.1 hF.1.2.2.2.2.2.2.2 hY.1 hY.2.1 hY.2.2.1 5 4 rfl rfl (ib_in hj) hd (fun H1 locs1 hP1 hD1 hS1 => k p e s m args below meth c A H1 locs1 ls hF ⟨hP1, hD1, hS1, hY.2.2.2⟩)
theorem al_M_6 {own : String} {j : Int32} {x : Int32} (hj : inB j 48) (hx : x = rr S 6 j) (hd : decode b pc = .ok (.iaload, 1)) (hq : pc + 1 = q) (k : Ok (wR g r) D (tyR g) l rm own b nL ret S q Lc (.int x :: St) Post) : Ok (wR g r) D (tyR g) l rm own b nL ret S pc Lc (.int j :: .ref (r 6) :: St) Post := by
  subst hq; subst hx
  intro p e s m args below meth c A H locs ls hF hY
  exact va_iald (D := D) hF.1.1 hF.1.2.1 hF.1.2.2.2.2.2.2.2 hY.1 6 5 rfl rfl (ib_in hj) hd (k p e s m args below meth c A H locs ls hF hY)
theorem as_M_6 {own : String} {j : Int32} {x : Int32} (hj : inB j 48) (hx : S1 = wr S 6 j x) (hd : decode b pc = .ok (.iastore, 1)) (hq : pc + 1 = q) (k : Ok (wR g r) D (tyR g) l rm own b nL ret S1 q Lc (St) Post) : Ok (wR g r) D (tyR g) l rm own b nL ret S pc Lc (.int x :: .int j :: .ref (r 6) :: St) Post := by
  subst hq; subst hx
  intro p e s m args below meth c A H locs ls hF hY
  exact va_iast (D := D) hF.1.1 hF.1.2.1 hF.1.2.2.2.2.2.2.2 hY.1 hY.2.1 hY.2.2.1 6 5 rfl rfl (ib_in hj) hd (fun H1 locs1 hP1 hD1 hS1 => k p e s m args below meth c A H1 locs1 ls hF ⟨hP1, hD1, hS1, hY.2.2.2⟩)
theorem al_M_7 {own : String} {j : Int32} {x : Int32} (hj : inB j 48) (hx : x = rr S 7 j) (hd : decode b pc = .ok (.iaload, 1)) (hq : pc + 1 = q) (k : Ok (wR g r) D (tyR g) l rm own b nL ret S q Lc (.int x :: St) Post) : Ok (wR g r) D (tyR g) l rm own b nL ret S pc Lc (.int j :: .ref (r 7) :: St) Post := by
  subst hq; subst hx
  intro p e s m args below meth c A H locs ls hF hY
  exact va_iald (D := D) hF.1.1 hF.1.2.1 hF.1.2.2.2.2.2.2.2 hY.1 7 6 rfl rfl (ib_in hj) hd (k p e s m args below meth c A H locs ls hF hY)
theorem as_M_7 {own : String} {j : Int32} {x : Int32} (hj : inB j 48) (hx : S1 = wr S 7 j x) (hd : decode b pc = .ok (.iastore, 1)) (hq : pc + 1 = q) (k : Ok (wR g r) D (tyR g) l rm own b nL ret S1 q Lc (St) Post) : Ok (wR g r) D (tyR g) l rm own b nL ret S pc Lc (.int x :: .int j :: .ref (r 7) :: St) Post := by
  subst hq; subst hx
  intro p e s m args below meth c A H locs ls hF hY
  exact va_iast (D := D) hF.1.1 hF.1.2.1 hF.1.2.2.2.2.2.2.2 hY.1 hY.2.1 hY.2.2.1 7 6 rfl rfl (ib_in hj) hd (fun H1 locs1 hP1 hD1 hS1 => k p e s m args below meth c A H1 locs1 ls hF ⟨hP1, hD1, hS1, hY.2.2.2⟩)
theorem al_M_8 {own : String} {j : Int32} {x : Int32} (hj : inB j 48) (hx : x = rr S 8 j) (hd : decode b pc = .ok (.baload, 1)) (hq : pc + 1 = q) (k : Ok (wR g r) D (tyR g) l rm own b nL ret S q Lc (.int x :: St) Post) : Ok (wR g r) D (tyR g) l rm own b nL ret S pc Lc (.int j :: .ref (r 8) :: St) Post := by
  subst hq; subst hx
  intro p e s m args below meth c A H locs ls hF hY
  exact va_zald (D := D) hF.1.1 hF.1.2.1 hF.1.2.2.2.2.2.2.2 hY.1 8 7 rfl rfl (ib_in hj) hd (k p e s m args below meth c A H locs ls hF hY)
theorem as_M_8 {own : String} {j : Int32} {x : Int32} (hj : inB j 48) (hx : S1 = wr S 8 j x) (hb : isB x) (hd : decode b pc = .ok (.bastore, 1)) (hq : pc + 1 = q) (k : Ok (wR g r) D (tyR g) l rm own b nL ret S1 q Lc (St) Post) : Ok (wR g r) D (tyR g) l rm own b nL ret S pc Lc (.int x :: .int j :: .ref (r 8) :: St) Post := by
  subst hq; subst hx
  intro p e s m args below meth c A H locs ls hF hY
  exact va_zast (D := D) hF.1.1 hF.1.2.1 hF.1.2.2.2.2.2.2.2 hY.1 hY.2.1 hY.2.2.1 8 7 rfl rfl (ib_in hj) hd (fun H1 locs1 hP1 hD1 hS1 => by rw [ib_vp hb] at hP1 hD1; exact k p e s m args below meth c A H1 locs1 ls hF ⟨hP1, hD1, hS1, hY.2.2.2⟩)
theorem al_M_9 {own : String} {j : Int32} {x : Int32} (hj : inB j 48) (hx : x = rr S 9 j) (hd : decode b pc = .ok (.iaload, 1)) (hq : pc + 1 = q) (k : Ok (wR g r) D (tyR g) l rm own b nL ret S q Lc (.int x :: St) Post) : Ok (wR g r) D (tyR g) l rm own b nL ret S pc Lc (.int j :: .ref (r 9) :: St) Post := by
  subst hq; subst hx
  intro p e s m args below meth c A H locs ls hF hY
  exact va_iald (D := D) hF.1.1 hF.1.2.1 hF.1.2.2.2.2.2.2.2 hY.1 9 8 rfl rfl (ib_in hj) hd (k p e s m args below meth c A H locs ls hF hY)
theorem as_M_9 {own : String} {j : Int32} {x : Int32} (hj : inB j 48) (hx : S1 = wr S 9 j x) (hd : decode b pc = .ok (.iastore, 1)) (hq : pc + 1 = q) (k : Ok (wR g r) D (tyR g) l rm own b nL ret S1 q Lc (St) Post) : Ok (wR g r) D (tyR g) l rm own b nL ret S pc Lc (.int x :: .int j :: .ref (r 9) :: St) Post := by
  subst hq; subst hx
  intro p e s m args below meth c A H locs ls hF hY
  exact va_iast (D := D) hF.1.1 hF.1.2.1 hF.1.2.2.2.2.2.2.2 hY.1 hY.2.1 hY.2.2.1 9 8 rfl rfl (ib_in hj) hd (fun H1 locs1 hP1 hD1 hS1 => k p e s m args below meth c A H1 locs1 ls hF ⟨hP1, hD1, hS1, hY.2.2.2⟩)
theorem al_M_10 {own : String} {j : Int32} {x : Int32} (hj : inB j 48) (hx : x = rr S 10 j) (hd : decode b pc = .ok (.iaload, 1)) (hq : pc + 1 = q) (k : Ok (wR g r) D (tyR g) l rm own b nL ret S q Lc (.int x :: St) Post) : Ok (wR g r) D (tyR g) l rm own b nL ret S pc Lc (.int j :: .ref (r 10) :: St) Post := by
  subst hq; subst hx
  intro p e s m args below meth c A H locs ls hF hY
  exact va_iald (D := D) hF.1.1 hF.1.2.1 hF.1.2.2.2.2.2.2.2 hY.1 10 9 rfl rfl (ib_in hj) hd (k p e s m args below meth c A H locs ls hF hY)
theorem as_M_10 {own : String} {j : Int32} {x : Int32} (hj : inB j 48) (hx : S1 = wr S 10 j x) (hd : decode b pc = .ok (.iastore, 1)) (hq : pc + 1 = q) (k : Ok (wR g r) D (tyR g) l rm own b nL ret S1 q Lc (St) Post) : Ok (wR g r) D (tyR g) l rm own b nL ret S pc Lc (.int x :: .int j :: .ref (r 10) :: St) Post := by
  subst hq; subst hx
  intro p e s m args below meth c A H locs ls hF hY
  exact va_iast (D := D) hF.1.1 hF.1.2.1 hF.1.2.2.2.2.2.2.2 hY.1 hY.2.1 hY.2.2.1 10 9 rfl rfl (ib_in hj) hd (fun H1 locs1 hP1 hD1 hS1 => k p e s m args below meth c A H1 locs1 ls hF ⟨hP1, hD1, hS1, hY.2.2.2⟩)
theorem al_M_11 {own : String} {j : Int32} {x : Int32} (hj : inB j 48) (hx : x = rr S 11 j) (hd : decode b pc = .ok (.baload, 1)) (hq : pc + 1 = q) (k : Ok (wR g r) D (tyR g) l rm own b nL ret S q Lc (.int x :: St) Post) : Ok (wR g r) D (tyR g) l rm own b nL ret S pc Lc (.int j :: .ref (r 11) :: St) Post := by
  subst hq; subst hx
  intro p e s m args below meth c A H locs ls hF hY
  exact va_zald (D := D) hF.1.1 hF.1.2.1 hF.1.2.2.2.2.2.2.2 hY.1 11 10 rfl rfl (ib_in hj) hd (k p e s m args below meth c A H locs ls hF hY)
theorem as_M_11 {own : String} {j : Int32} {x : Int32} (hj : inB j 48) (hx : S1 = wr S 11 j x) (hb : isB x) (hd : decode b pc = .ok (.bastore, 1)) (hq : pc + 1 = q) (k : Ok (wR g r) D (tyR g) l rm own b nL ret S1 q Lc (St) Post) : Ok (wR g r) D (tyR g) l rm own b nL ret S pc Lc (.int x :: .int j :: .ref (r 11) :: St) Post := by
  subst hq; subst hx
  intro p e s m args below meth c A H locs ls hF hY
  exact va_zast (D := D) hF.1.1 hF.1.2.1 hF.1.2.2.2.2.2.2.2 hY.1 hY.2.1 hY.2.2.1 11 10 rfl rfl (ib_in hj) hd (fun H1 locs1 hP1 hD1 hS1 => by rw [ib_vp hb] at hP1 hD1; exact k p e s m args below meth c A H1 locs1 ls hF ⟨hP1, hD1, hS1, hY.2.2.2⟩)
theorem al_M_12 {own : String} {j : Int32} {x : Int32} (hj : inB j 6) (hx : x = rr S 12 j) (hd : decode b pc = .ok (.baload, 1)) (hq : pc + 1 = q) (k : Ok (wR g r) D (tyR g) l rm own b nL ret S q Lc (.int x :: St) Post) : Ok (wR g r) D (tyR g) l rm own b nL ret S pc Lc (.int j :: .ref (r 12) :: St) Post := by
  subst hq; subst hx
  intro p e s m args below meth c A H locs ls hF hY
  exact va_zald (D := D) hF.1.1 hF.1.2.1 hF.1.2.2.2.2.2.2.2 hY.1 12 11 rfl rfl (ib_in hj) hd (k p e s m args below meth c A H locs ls hF hY)
theorem as_M_12 {own : String} {j : Int32} {x : Int32} (hj : inB j 6) (hx : S1 = wr S 12 j x) (hb : isB x) (hd : decode b pc = .ok (.bastore, 1)) (hq : pc + 1 = q) (k : Ok (wR g r) D (tyR g) l rm own b nL ret S1 q Lc (St) Post) : Ok (wR g r) D (tyR g) l rm own b nL ret S pc Lc (.int x :: .int j :: .ref (r 12) :: St) Post := by
  subst hq; subst hx
  intro p e s m args below meth c A H locs ls hF hY
  exact va_zast (D := D) hF.1.1 hF.1.2.1 hF.1.2.2.2.2.2.2.2 hY.1 hY.2.1 hY.2.2.1 12 11 rfl rfl (ib_in hj) hd (fun H1 locs1 hP1 hD1 hS1 => by rw [ib_vp hb] at hP1 hD1; exact k p e s m args below meth c A H1 locs1 ls hF ⟨hP1, hD1, hS1, hY.2.2.2⟩)
theorem al_M_13 {own : String} {j : Int32} {x : Int32} (hj : inB j 6) (hx : x = rr S 13 j) (hd : decode b pc = .ok (.baload, 1)) (hq : pc + 1 = q) (k : Ok (wR g r) D (tyR g) l rm own b nL ret S q Lc (.int x :: St) Post) : Ok (wR g r) D (tyR g) l rm own b nL ret S pc Lc (.int j :: .ref (r 13) :: St) Post := by
  subst hq; subst hx
  intro p e s m args below meth c A H locs ls hF hY
  exact va_zald (D := D) hF.1.1 hF.1.2.1 hF.1.2.2.2.2.2.2.2 hY.1 13 12 rfl rfl (ib_in hj) hd (k p e s m args below meth c A H locs ls hF hY)
theorem as_M_13 {own : String} {j : Int32} {x : Int32} (hj : inB j 6) (hx : S1 = wr S 13 j x) (hb : isB x) (hd : decode b pc = .ok (.bastore, 1)) (hq : pc + 1 = q) (k : Ok (wR g r) D (tyR g) l rm own b nL ret S1 q Lc (St) Post) : Ok (wR g r) D (tyR g) l rm own b nL ret S pc Lc (.int x :: .int j :: .ref (r 13) :: St) Post := by
  subst hq; subst hx
  intro p e s m args below meth c A H locs ls hF hY
  exact va_zast (D := D) hF.1.1 hF.1.2.1 hF.1.2.2.2.2.2.2.2 hY.1 hY.2.1 hY.2.2.1 13 12 rfl rfl (ib_in hj) hd (fun H1 locs1 hP1 hD1 hS1 => by rw [ib_vp hb] at hP1 hD1; exact k p e s m args below meth c A H1 locs1 ls hF ⟨hP1, hD1, hS1, hY.2.2.2⟩)
theorem al_M_14 {own : String} {j : Int32} {x : Int32} (hj : inB j 6) (hx : x = rr S 14 j) (hd : decode b pc = .ok (.baload, 1)) (hq : pc + 1 = q) (k : Ok (wR g r) D (tyR g) l rm own b nL ret S q Lc (.int x :: St) Post) : Ok (wR g r) D (tyR g) l rm own b nL ret S pc Lc (.int j :: .ref (r 14) :: St) Post := by
  subst hq; subst hx
  intro p e s m args below meth c A H locs ls hF hY
  exact va_zald (D := D) hF.1.1 hF.1.2.1 hF.1.2.2.2.2.2.2.2 hY.1 14 13 rfl rfl (ib_in hj) hd (k p e s m args below meth c A H locs ls hF hY)
theorem as_M_14 {own : String} {j : Int32} {x : Int32} (hj : inB j 6) (hx : S1 = wr S 14 j x) (hb : isB x) (hd : decode b pc = .ok (.bastore, 1)) (hq : pc + 1 = q) (k : Ok (wR g r) D (tyR g) l rm own b nL ret S1 q Lc (St) Post) : Ok (wR g r) D (tyR g) l rm own b nL ret S pc Lc (.int x :: .int j :: .ref (r 14) :: St) Post := by
  subst hq; subst hx
  intro p e s m args below meth c A H locs ls hF hY
  exact va_zast (D := D) hF.1.1 hF.1.2.1 hF.1.2.2.2.2.2.2.2 hY.1 hY.2.1 hY.2.2.1 14 13 rfl rfl (ib_in hj) hd (fun H1 locs1 hP1 hD1 hS1 => by rw [ib_vp hb] at hP1 hD1; exact k p e s m args below meth c A H1 locs1 ls hF ⟨hP1, hD1, hS1, hY.2.2.2⟩)
theorem al_M_15 {own : String} {j : Int32} {x : Int32} (hj : inB j 6) (hx : x = rr S 15 j) (hd : decode b pc = .ok (.iaload, 1)) (hq : pc + 1 = q) (k : Ok (wR g r) D (tyR g) l rm own b nL ret S q Lc (.int x :: St) Post) : Ok (wR g r) D (tyR g) l rm own b nL ret S pc Lc (.int j :: .ref (r 15) :: St) Post := by
  subst hq; subst hx
  intro p e s m args below meth c A H locs ls hF hY
  exact va_iald (D := D) hF.1.1 hF.1.2.1 hF.1.2.2.2.2.2.2.2 hY.1 15 14 rfl rfl (ib_in hj) hd (k p e s m args below meth c A H locs ls hF hY)
theorem as_M_15 {own : String} {j : Int32} {x : Int32} (hj : inB j 6) (hx : S1 = wr S 15 j x) (hd : decode b pc = .ok (.iastore, 1)) (hq : pc + 1 = q) (k : Ok (wR g r) D (tyR g) l rm own b nL ret S1 q Lc (St) Post) : Ok (wR g r) D (tyR g) l rm own b nL ret S pc Lc (.int x :: .int j :: .ref (r 15) :: St) Post := by
  subst hq; subst hx
  intro p e s m args below meth c A H locs ls hF hY
  exact va_iast (D := D) hF.1.1 hF.1.2.1 hF.1.2.2.2.2.2.2.2 hY.1 hY.2.1 hY.2.2.1 15 14 rfl rfl (ib_in hj) hd (fun H1 locs1 hP1 hD1 hS1 => k p e s m args below meth c A H1 locs1 ls hF ⟨hP1, hD1, hS1, hY.2.2.2⟩)
end ROWSM
end ROWS
