theorem z_weq {g : zGT} {M : zMD} {R : Room} {ce sl pc : Nat} {lv : List (Nat × Value)} {st : List Value} {w w' : zW} {Post : zP} (h : w = w') (k : zTr g M R ce sl pc lv st w' Post) : zTr g M R ce sl pc lv st w Post := by rw [h]; exact k
theorem z_i2c_n {g : zGT} {M : zMD} {R : Room} {ce sl pc : Nat} {lv : List (Nat × Value)} {rest : List Value} {w : zW} {Post : zP} {a : Nat} (d : decode M.2.1 pc = .ok (.i2c, 1)) (h : a < 65536) (k : zTr g M R ce sl (pc + 1) lv (.int (nI a) :: rest) w Post) : zTr g M R ce sl pc lv (.int (nI a) :: rest) w Post :=
  z_i2c d (by rw [pk_char, pk_tn (by omega), Nat.mod_eq_of_lt h]; exact k)
theorem nar_char {a : Nat} (h : a < 65536) : vp_nar .char (nI a) = nI a := by
  have := (pk_charN h).1
  simp only [vp_nar, this]
abbrev zC (g : zGT) (N : Nat) (f : Nat → Int32) : va_E := .inl (zc g 1, (N, .inl f))
section ZC
variable {g : zGT} {M : zMD} {R : Room} {ce sl pc : Nat} {lv : List (Nat × Value)} {rest : List Value} {w : zW} {Post : zP}
theorem z_cald_n {j N a : Nat} {f : Nat → Int32} (d : decode M.2.1 pc = .ok (.caload, 1)) (hj : j < zn g) (hw : w j = zC g N f) (ha : a < N) (hN : N < 2 ^ 31)
    (kk : zTr g M R ce sl (pc + 1) lv (.int (f a) :: rest) w Post) : zTr g M R ce sl pc lv (.int (nI a) :: .ref (za g j) :: rest) w Post :=
  z_cald d hj hw (vp_in_nI ha hN) (by rw [nI_clamp (Nat.lt_trans ha hN)]; exact kk)
theorem z_cast_n {j N a x : Nat} {f : Nat → Int32} (d : decode M.2.1 pc = .ok (.castore, 1)) (hj : j < zn g) (hw : w j = zC g N f) (ha : a < N) (hN : N < 2 ^ 31) (hx : x < 65536)
    (kk : zTr g M R ce sl (pc + 1) lv rest (va_up w j (zC g N (upd f a (nI x)))) Post) : zTr g M R ce sl pc lv (.int (nI x) :: .int (nI a) :: .ref (za g j) :: rest) w Post :=
  z_cast d hj hw (vp_in_nI ha hN) (by rw [nI_clamp (Nat.lt_trans ha hN), nar_char hx]; exact kk)
theorem z_alen_c {j N : Nat} {f : Nat → Int32} (d : decode M.2.1 pc = .ok (.arraylength, 1)) (hj : j < zn g) (hw : w j = zC g N f)
    (kk : zTr g M R ce sl (pc + 1) lv (.int (nI N) :: rest) w Post) : zTr g M R ce sl pc lv (.ref (za g j) :: rest) w Post :=
  z_alen (t0 := 1) d hj rfl hw rfl kk
end ZC
